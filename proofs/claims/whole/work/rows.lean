section
-- ===== PART A: goes FIRST, ahead of the names: the tables' words, and 'selects' of the private methods out of them =====
/-- a private method of a class that the tables say can be made, by its rows of tables_1 -/
def lw_okq (q : MethodName × Nat) : Prop := (q.1.cls ≠ "java/lang/invoke/MethodHandle" ∧ q.1.cls ≠ "java/lang/invoke/VarHandle") ∧ Cond.instantiable q.1.cls q.2 ∈ tables_1 ∧ Cond.privateMethod q.1 ∈ tables_1 ∧ Cond.instanceMethod q.1 ∈ tables_1
theorem lw_p0 : lw_okq (⟨"CommonsTurns", "keptIfDone", "(I)I"⟩, 5) := ⟨⟨by decide +kernel, by decide +kernel⟩, List.mem_of_getElem? (i := 10) (by decide +kernel), List.mem_of_getElem? (i := 190) (by decide +kernel), List.mem_of_getElem? (i := 191) (by decide +kernel)⟩
theorem lw_p1 : lw_okq (⟨"CommonsTurns", "rehearse", "()V"⟩, 5) := ⟨⟨by decide +kernel, by decide +kernel⟩, List.mem_of_getElem? (i := 10) (by decide +kernel), List.mem_of_getElem? (i := 436) (by decide +kernel), List.mem_of_getElem? (i := 437) (by decide +kernel)⟩
theorem lw_p2 : lw_okq (⟨"CommonsTurns", "commandOnTrial", "()I"⟩, 5) := ⟨⟨by decide +kernel, by decide +kernel⟩, List.mem_of_getElem? (i := 10) (by decide +kernel), List.mem_of_getElem? (i := 461) (by decide +kernel), List.mem_of_getElem? (i := 462) (by decide +kernel)⟩
theorem lw_p3 : lw_okq (⟨"CommonsTurnsModel", "changes", "()V"⟩, 13) := ⟨⟨by decide +kernel, by decide +kernel⟩, List.mem_of_getElem? (i := 473) (by decide +kernel), List.mem_of_getElem? (i := 526) (by decide +kernel), List.mem_of_getElem? (i := 527) (by decide +kernel)⟩
theorem lw_p4 : lw_okq (⟨"CommonsTurnsModel", "puts", "(III)V"⟩, 13) := ⟨⟨by decide +kernel, by decide +kernel⟩, List.mem_of_getElem? (i := 473) (by decide +kernel), List.mem_of_getElem? (i := 530) (by decide +kernel), List.mem_of_getElem? (i := 531) (by decide +kernel)⟩
theorem lw_p5 : lw_okq (⟨"CommonsTurnsModel", "isMember", "(I)Z"⟩, 13) := ⟨⟨by decide +kernel, by decide +kernel⟩, List.mem_of_getElem? (i := 473) (by decide +kernel), List.mem_of_getElem? (i := 538) (by decide +kernel), List.mem_of_getElem? (i := 539) (by decide +kernel)⟩
theorem lw_p6 : lw_okq (⟨"CommonsTurnsModel", "of", "(II)I"⟩, 13) := ⟨⟨by decide +kernel, by decide +kernel⟩, List.mem_of_getElem? (i := 473) (by decide +kernel), List.mem_of_getElem? (i := 542) (by decide +kernel), List.mem_of_getElem? (i := 543) (by decide +kernel)⟩
theorem lw_p7 : lw_okq (⟨"CommonsTurnsModel", "chargeFor", "(II)I"⟩, 13) := ⟨⟨by decide +kernel, by decide +kernel⟩, List.mem_of_getElem? (i := 473) (by decide +kernel), List.mem_of_getElem? (i := 546) (by decide +kernel), List.mem_of_getElem? (i := 547) (by decide +kernel)⟩
theorem lw_p8 : lw_okq (⟨"CommonsTurnsModel", "ahead", "(I)I"⟩, 13) := ⟨⟨by decide +kernel, by decide +kernel⟩, List.mem_of_getElem? (i := 473) (by decide +kernel), List.mem_of_getElem? (i := 550) (by decide +kernel), List.mem_of_getElem? (i := 551) (by decide +kernel)⟩
theorem lw_p9 : lw_okq (⟨"CommonsTurnsModel", "placeOf", "(I)I"⟩, 13) := ⟨⟨by decide +kernel, by decide +kernel⟩, List.mem_of_getElem? (i := 473) (by decide +kernel), List.mem_of_getElem? (i := 554) (by decide +kernel), List.mem_of_getElem? (i := 555) (by decide +kernel)⟩
theorem lw_p10 : lw_okq (⟨"CommonsTurnsModel", "damage", "(I)I"⟩, 13) := ⟨⟨by decide +kernel, by decide +kernel⟩, List.mem_of_getElem? (i := 473) (by decide +kernel), List.mem_of_getElem? (i := 558) (by decide +kernel), List.mem_of_getElem? (i := 559) (by decide +kernel)⟩
theorem lw_p11 : lw_okq (⟨"CommonsTurnsModel", "ends", "()I"⟩, 13) := ⟨⟨by decide +kernel, by decide +kernel⟩, List.mem_of_getElem? (i := 473) (by decide +kernel), List.mem_of_getElem? (i := 566) (by decide +kernel), List.mem_of_getElem? (i := 567) (by decide +kernel)⟩
theorem lw_p12 : lw_okq (⟨"CommonsTurnsModel", "sum", "(I)I"⟩, 13) := ⟨⟨by decide +kernel, by decide +kernel⟩, List.mem_of_getElem? (i := 473) (by decide +kernel), List.mem_of_getElem? (i := 570) (by decide +kernel), List.mem_of_getElem? (i := 571) (by decide +kernel)⟩
theorem lw_p13 : lw_okq (⟨"CommonsTurnsModel", "outSet", "()I"⟩, 13) := ⟨⟨by decide +kernel, by decide +kernel⟩, List.mem_of_getElem? (i := 473) (by decide +kernel), List.mem_of_getElem? (i := 574) (by decide +kernel), List.mem_of_getElem? (i := 575) (by decide +kernel)⟩
theorem lw_p14 : lw_okq (⟨"CommonsTurnsModel", "keeps", "(IIII)V"⟩, 13) := ⟨⟨by decide +kernel, by decide +kernel⟩, List.mem_of_getElem? (i := 473) (by decide +kernel), List.mem_of_getElem? (i := 578) (by decide +kernel), List.mem_of_getElem? (i := 579) (by decide +kernel)⟩
theorem lw_p15 : lw_okq (⟨"CommonsTurnsModel", "excludes", "(I)V"⟩, 13) := ⟨⟨by decide +kernel, by decide +kernel⟩, List.mem_of_getElem? (i := 473) (by decide +kernel), List.mem_of_getElem? (i := 582) (by decide +kernel), List.mem_of_getElem? (i := 583) (by decide +kernel)⟩
def lw_privs_1 : List (MethodName × Nat) := [(⟨"CommonsTurns", "keptIfDone", "(I)I"⟩, 5), (⟨"CommonsTurns", "rehearse", "()V"⟩, 5), (⟨"CommonsTurns", "commandOnTrial", "()I"⟩, 5), (⟨"CommonsTurnsModel", "changes", "()V"⟩, 13), (⟨"CommonsTurnsModel", "puts", "(III)V"⟩, 13), (⟨"CommonsTurnsModel", "isMember", "(I)Z"⟩, 13), (⟨"CommonsTurnsModel", "of", "(II)I"⟩, 13), (⟨"CommonsTurnsModel", "chargeFor", "(II)I"⟩, 13), (⟨"CommonsTurnsModel", "ahead", "(I)I"⟩, 13), (⟨"CommonsTurnsModel", "placeOf", "(I)I"⟩, 13), (⟨"CommonsTurnsModel", "damage", "(I)I"⟩, 13), (⟨"CommonsTurnsModel", "ends", "()I"⟩, 13), (⟨"CommonsTurnsModel", "sum", "(I)I"⟩, 13), (⟨"CommonsTurnsModel", "outSet", "()I"⟩, 13), (⟨"CommonsTurnsModel", "keeps", "(IIII)V"⟩, 13), (⟨"CommonsTurnsModel", "excludes", "(I)V"⟩, 13)]
theorem lw_r1 : ∀ q ∈ lw_privs_1, lw_okq q := List.forall_mem_cons.mpr ⟨lw_p0, List.forall_mem_cons.mpr ⟨lw_p1, List.forall_mem_cons.mpr ⟨lw_p2, List.forall_mem_cons.mpr ⟨lw_p3, List.forall_mem_cons.mpr ⟨lw_p4, List.forall_mem_cons.mpr ⟨lw_p5, List.forall_mem_cons.mpr ⟨lw_p6, List.forall_mem_cons.mpr ⟨lw_p7, List.forall_mem_cons.mpr ⟨lw_p8, List.forall_mem_cons.mpr ⟨lw_p9, List.forall_mem_cons.mpr ⟨lw_p10, List.forall_mem_cons.mpr ⟨lw_p11, List.forall_mem_cons.mpr ⟨lw_p12, List.forall_mem_cons.mpr ⟨lw_p13, List.forall_mem_cons.mpr ⟨lw_p14, List.forall_mem_cons.mpr ⟨lw_p15, fun _ h => absurd h List.not_mem_nil⟩⟩⟩⟩⟩⟩⟩⟩⟩⟩⟩⟩⟩⟩⟩⟩
theorem lw_p16 : lw_okq (⟨"CommonsTurnsModel", "gainFor", "(II)I"⟩, 13) := ⟨⟨by decide +kernel, by decide +kernel⟩, List.mem_of_getElem? (i := 473) (by decide +kernel), List.mem_of_getElem? (i := 614) (by decide +kernel), List.mem_of_getElem? (i := 615) (by decide +kernel)⟩
theorem lw_p17 : lw_okq (⟨"CommonsTurnsModel", "best", "(I)I"⟩, 13) := ⟨⟨by decide +kernel, by decide +kernel⟩, List.mem_of_getElem? (i := 473) (by decide +kernel), List.mem_of_getElem? (i := 622) (by decide +kernel), List.mem_of_getElem? (i := 623) (by decide +kernel)⟩
theorem lw_p18 : lw_okq (⟨"CommonsTurnsModel", "turns", "()Z"⟩, 13) := ⟨⟨by decide +kernel, by decide +kernel⟩, List.mem_of_getElem? (i := 473) (by decide +kernel), List.mem_of_getElem? (i := 633) (by decide +kernel), List.mem_of_getElem? (i := 634) (by decide +kernel)⟩
theorem lw_p19 : lw_okq (⟨"CommonsTurnsModel", "plays", "()I"⟩, 13) := ⟨⟨by decide +kernel, by decide +kernel⟩, List.mem_of_getElem? (i := 473) (by decide +kernel), List.mem_of_getElem? (i := 665) (by decide +kernel), List.mem_of_getElem? (i := 666) (by decide +kernel)⟩
theorem lw_p20 : lw_okq (⟨"CommonsTurnsModel", "isForm", "(I)Z"⟩, 13) := ⟨⟨by decide +kernel, by decide +kernel⟩, List.mem_of_getElem? (i := 473) (by decide +kernel), List.mem_of_getElem? (i := 669) (by decide +kernel), List.mem_of_getElem? (i := 670) (by decide +kernel)⟩
theorem lw_p21 : lw_okq (⟨"CommonsTurnsModel", "isAt", "(II)Z"⟩, 13) := ⟨⟨by decide +kernel, by decide +kernel⟩, List.mem_of_getElem? (i := 473) (by decide +kernel), List.mem_of_getElem? (i := 673) (by decide +kernel), List.mem_of_getElem? (i := 674) (by decide +kernel)⟩
theorem lw_p22 : lw_okq (⟨"CommonsTurnsModel", "number", "(II)Z"⟩, 13) := ⟨⟨by decide +kernel, by decide +kernel⟩, List.mem_of_getElem? (i := 473) (by decide +kernel), List.mem_of_getElem? (i := 677) (by decide +kernel), List.mem_of_getElem? (i := 678) (by decide +kernel)⟩
theorem lw_p23 : lw_okq (⟨"CommonsTurnsModel", "calls", "(I)I"⟩, 13) := ⟨⟨by decide +kernel, by decide +kernel⟩, List.mem_of_getElem? (i := 473) (by decide +kernel), List.mem_of_getElem? (i := 681) (by decide +kernel), List.mem_of_getElem? (i := 682) (by decide +kernel)⟩
def lw_privs_2 : List (MethodName × Nat) := [(⟨"CommonsTurnsModel", "gainFor", "(II)I"⟩, 13), (⟨"CommonsTurnsModel", "best", "(I)I"⟩, 13), (⟨"CommonsTurnsModel", "turns", "()Z"⟩, 13), (⟨"CommonsTurnsModel", "plays", "()I"⟩, 13), (⟨"CommonsTurnsModel", "isForm", "(I)Z"⟩, 13), (⟨"CommonsTurnsModel", "isAt", "(II)Z"⟩, 13), (⟨"CommonsTurnsModel", "number", "(II)Z"⟩, 13), (⟨"CommonsTurnsModel", "calls", "(I)I"⟩, 13)]
theorem lw_r2 : ∀ q ∈ lw_privs_2, lw_okq q := List.forall_mem_cons.mpr ⟨lw_p16, List.forall_mem_cons.mpr ⟨lw_p17, List.forall_mem_cons.mpr ⟨lw_p18, List.forall_mem_cons.mpr ⟨lw_p19, List.forall_mem_cons.mpr ⟨lw_p20, List.forall_mem_cons.mpr ⟨lw_p21, List.forall_mem_cons.mpr ⟨lw_p22, List.forall_mem_cons.mpr ⟨lw_p23, fun _ h => absurd h List.not_mem_nil⟩⟩⟩⟩⟩⟩⟩⟩
def lw_privs : List (MethodName × Nat) := lw_privs_1 ++ (lw_privs_2)
def lw_tbl : List Cond := k2_sels lw_privs ++ tables_1
theorem lw_privs_ok : ∀ q ∈ lw_privs, lw_okq q := by
  show ∀ q ∈ lw_privs_1 ++ (lw_privs_2), lw_okq q
  exact List.forall_mem_append.mpr ⟨lw_r1, lw_r2⟩
def RX0 : String := "CommonsTurns$Commons"
def TX0 : u_T := fun k => match k with
  | 0 => ("CommonsTurns$Commons", "settings", "[I", true)
  | 1 => ("CommonsTurns$Commons", "worths", "[I", true)
  | 2 => ("CommonsTurns$Commons", "uses", "[I", true)
  | 3 => ("CommonsTurns$Commons", "owed", "[I", true)
  | 4 => ("CommonsTurns$Commons", "paid", "[I", true)
  | 5 => ("CommonsTurns$Commons", "used", "[I", true)
  | 6 => ("CommonsTurns$Commons", "usedSinceTurn", "[I", true)
  | 7 => ("CommonsTurns$Commons", "seasonsOut", "[I", true)
  | 8 => ("CommonsTurns$Commons", "ended", "[I", true)
  | 9 => ("CommonsTurns$Commons", "members", "I", false)
  | 10 => ("CommonsTurns$Commons", "season", "I", false)
  | 11 => ("CommonsTurns$Commons", "health", "I", false)
  | 12 => ("CommonsTurns$Commons", "fund", "I", false)
  | 13 => ("CommonsTurns$Commons", "out", "I", false)
  | 14 => ("CommonsTurns$Commons", "damageSoFar", "I", false)
  | 15 => ("CommonsTurns$Commons", "damageWithoutHealth", "I", false)
  | _ => ("CommonsTurns$Commons", "pointsRepaired", "I", false)
def tyX0 : Nat → FieldType := fun k => match k with
  | 0 => .array .int
  | 1 => .array .int
  | 2 => .array .int
  | 3 => .array .int
  | 4 => .array .int
  | 5 => .array .int
  | 6 => .array .int
  | 7 => .array .int
  | 8 => .array .int
  | 9 => .int
  | 10 => .int
  | 11 => .int
  | 12 => .int
  | 13 => .int
  | 14 => .int
  | 15 => .int
  | _ => .int
abbrev wsX00 : List Cond := u_ws RX0 TX0 17
theorem nmX0 : ∀ a, a < 17 → ∀ b, b < 17 → a ≠ b → (TX0 a).2.1 ≠ (TX0 b).2.1 := by decide +kernel
theorem tyX0_ok : ∀ k, k < 17 → parseFieldDescriptor (TX0 k).2.2.1 = some (tyX0 k) := by decide +kernel
abbrev cX0_init : ByteArray := prog_2_method_1_code
def yX0_init : MethodName := ⟨RX0, "<init>", "()V"⟩
abbrev cX0_takeOver : ByteArray := prog_2_method_2_code
def yX0_takeOver : MethodName := ⟨RX0, "takeOver", "(LCommonsTurns$Commons;)V"⟩
abbrev cX0_has : ByteArray := prog_2_method_3_code
def yX0_has : MethodName := ⟨RX0, "has", "(I)Z"⟩
abbrev cX0_isOut : ByteArray := prog_2_method_4_code
def yX0_isOut : MethodName := ⟨RX0, "isOut", "(I)Z"⟩
abbrev cX0_allUnits : ByteArray := prog_2_method_5_code
def yX0_allUnits : MethodName := ⟨RX0, "allUnits", "()I"⟩
abbrev cX0_damageOf : ByteArray := prog_2_method_6_code
def yX0_damageOf : MethodName := ⟨RX0, "damageOf", "(I)I"⟩
abbrev cX0_placeOf : ByteArray := prog_2_method_7_code
def yX0_placeOf : MethodName := ⟨RX0, "placeOf", "(I)I"⟩
abbrev cX0_unitsAhead : ByteArray := prog_2_method_8_code
def yX0_unitsAhead : MethodName := ⟨RX0, "unitsAhead", "(I)I"⟩
abbrev cX0_chargeOf : ByteArray := prog_2_method_9_code
def yX0_chargeOf : MethodName := ⟨RX0, "chargeOf", "(I)I"⟩
abbrev cX0_damageAdded : ByteArray := prog_2_method_10_code
def yX0_damageAdded : MethodName := ⟨RX0, "damageAdded", "(II)I"⟩
abbrev cX0_addMember : ByteArray := prog_2_method_11_code
def yX0_addMember : MethodName := ⟨RX0, "addMember", "(I)I"⟩
abbrev cX0_declareUse : ByteArray := prog_2_method_12_code
def yX0_declareUse : MethodName := ⟨RX0, "declareUse", "(II)I"⟩
abbrev cX0_payCoins : ByteArray := prog_2_method_13_code
def yX0_payCoins : MethodName := ⟨RX0, "payCoins", "(II)I"⟩
abbrev cX0_changeSetting : ByteArray := prog_2_method_14_code
def yX0_changeSetting : MethodName := ⟨RX0, "changeSetting", "(II)I"⟩
abbrev cX0_repairPoints : ByteArray := prog_2_method_15_code
def yX0_repairPoints : MethodName := ⟨RX0, "repairPoints", "(I)I"⟩
abbrev cX0_oweByUses : ByteArray := prog_2_method_16_code
def yX0_oweByUses : MethodName := ⟨RX0, "oweByUses", "(I)V"⟩
abbrev cX0_pointsFromFund : ByteArray := prog_2_method_17_code
def yX0_pointsFromFund : MethodName := ⟨RX0, "pointsFromFund", "()I"⟩
abbrev cX0_closeSeason : ByteArray := prog_2_method_18_code
def yX0_closeSeason : MethodName := ⟨RX0, "closeSeason", "()I"⟩
abbrev cX0_endSeason : ByteArray := prog_2_method_19_code
def yX0_endSeason : MethodName := ⟨RX0, "endSeason", "()I"⟩
abbrev cX0_oweCharges : ByteArray := prog_2_method_20_code
def yX0_oweCharges : MethodName := ⟨RX0, "oweCharges", "()V"⟩
abbrev cX0_keepSeason : ByteArray := prog_2_method_21_code
def yX0_keepSeason : MethodName := ⟨RX0, "keepSeason", "(II)V"⟩
abbrev cX0_bookUses : ByteArray := prog_2_method_22_code
def yX0_bookUses : MethodName := ⟨RX0, "bookUses", "()V"⟩
abbrev cX0_noteSeasonsOut : ByteArray := prog_2_method_23_code
def yX0_noteSeasonsOut : MethodName := ⟨RX0, "noteSeasonsOut", "()V"⟩
abbrev cX0_excludeInTurn : ByteArray := prog_2_method_24_code
def yX0_excludeInTurn : MethodName := ⟨RX0, "excludeInTurn", "(I)V"⟩
abbrev cX0_turnsNeeded : ByteArray := prog_2_method_25_code
def yX0_turnsNeeded : MethodName := ⟨RX0, "turnsNeeded", "()I"⟩
abbrev cX0_heaviestNotIn : ByteArray := prog_2_method_26_code
def yX0_heaviestNotIn : MethodName := ⟨RX0, "heaviestNotIn", "(I)I"⟩
abbrev cX0_excludeDebtors : ByteArray := prog_2_method_27_code
def yX0_excludeDebtors : MethodName := ⟨RX0, "excludeDebtors", "()V"⟩
abbrev cX0_liftedGain : ByteArray := prog_2_method_28_code
def yX0_liftedGain : MethodName := ⟨RX0, "liftedGain", "(II)I"⟩
abbrev cX0_gainBehind : ByteArray := prog_2_method_29_code
def yX0_gainBehind : MethodName := ⟨RX0, "gainBehind", "(III)I"⟩
abbrev cX0_bestUnits : ByteArray := prog_2_method_30_code
def yX0_bestUnits : MethodName := ⟨RX0, "bestUnits", "(I)I"⟩
abbrev cX0_calmDown : ByteArray := prog_2_method_31_code
def yX0_calmDown : MethodName := ⟨RX0, "calmDown", "()I"⟩
abbrev cX0_roundChanges : ByteArray := prog_2_method_32_code
def yX0_roundChanges : MethodName := ⟨RX0, "roundChanges", "()Z"⟩
abbrev cX0_useBestForAll : ByteArray := prog_2_method_33_code
def yX0_useBestForAll : MethodName := ⟨RX0, "useBestForAll", "()I"⟩
abbrev cX0_worthiestWithRoom : ByteArray := prog_2_method_34_code
def yX0_worthiestWithRoom : MethodName := ⟨RX0, "worthiestWithRoom", "()I"⟩
abbrev cX0_numberOfMember : ByteArray := prog_2_method_35_code
def yX0_numberOfMember : MethodName := ⟨RX0, "numberOfMember", "(II)I"⟩
abbrev cX0_numberOfAll : ByteArray := prog_2_method_36_code
def yX0_numberOfAll : MethodName := ⟨RX0, "numberOfAll", "(I)I"⟩
abbrev cX0_numberOfSeason : ByteArray := prog_2_method_37_code
def yX0_numberOfSeason : MethodName := ⟨RX0, "numberOfSeason", "(II)I"⟩
def RX1 : String := "CommonsTurns$History"
def TX1 : u_T := fun k => match k with
  | 0 => ("CommonsTurns$History", "states", "[LCommonsTurns$Commons;", true)
  | 1 => ("CommonsTurns$History", "oldest", "I", false)
  | _ => ("CommonsTurns$History", "length", "I", false)
def tyX1 : Nat → FieldType := fun k => match k with
  | 0 => .array (.object "CommonsTurns$Commons")
  | 1 => .int
  | _ => .int
abbrev wsX10 : List Cond := u_ws RX1 TX1 3
theorem nmX1 : ∀ a, a < 3 → ∀ b, b < 3 → a ≠ b → (TX1 a).2.1 ≠ (TX1 b).2.1 := by decide +kernel
theorem tyX1_ok : ∀ k, k < 3 → parseFieldDescriptor (TX1 k).2.2.1 = some (tyX1 k) := by decide +kernel
abbrev cX1_init : ByteArray := prog_3_method_1_code
def yX1_init : MethodName := ⟨RX1, "<init>", "()V"⟩
abbrev cX1_record : ByteArray := prog_3_method_2_code
def yX1_record : MethodName := ⟨RX1, "record", "(LCommonsTurns$Commons;)V"⟩
abbrev cX1_restoreLatest : ByteArray := prog_3_method_3_code
def yX1_restoreLatest : MethodName := ⟨RX1, "restoreLatest", "(LCommonsTurns$Commons;)V"⟩
def RX2 : String := "CommonsTurns$Rehearsal"
def TX2 : u_T := fun k => match k with
  | 0 => ("CommonsTurns$Rehearsal", "start", "I", false)
  | 1 => ("CommonsTurns$Rehearsal", "reason", "I", false)
  | 2 => ("CommonsTurns$Rehearsal", "cause", "I", false)
  | _ => ("CommonsTurns$Rehearsal", "done", "I", false)
def tyX2 : Nat → FieldType := fun k => match k with
  | 0 => .int
  | 1 => .int
  | 2 => .int
  | _ => .int
abbrev wsX20 : List Cond := u_ws RX2 TX2 4
theorem nmX2 : ∀ a, a < 4 → ∀ b, b < 4 → a ≠ b → (TX2 a).2.1 ≠ (TX2 b).2.1 := by decide +kernel
theorem tyX2_ok : ∀ k, k < 4 → parseFieldDescriptor (TX2 k).2.2.1 = some (tyX2 k) := by decide +kernel
abbrev cX2_init : ByteArray := prog_4_method_1_code
def yX2_init : MethodName := ⟨RX2, "<init>", "()V"⟩
abbrev cX2_begin : ByteArray := prog_4_method_2_code
def yX2_begin : MethodName := ⟨RX2, "begin", "()V"⟩
abbrev cX2_isStoppedBy : ByteArray := prog_4_method_3_code
def yX2_isStoppedBy : MethodName := ⟨RX2, "isStoppedBy", "(I)Z"⟩
def RX3 : String := "CommonsTurns$Text"
def TX3 : u_T := fun k => match k with
  | 0 => ("CommonsTurns$Text", "signs", "[C", true)
  | 1 => ("CommonsTurns$Text", "length", "I", false)
  | 2 => ("CommonsTurns$Text", "next", "I", false)
  | 3 => ("CommonsTurns$Text", "kind", "I", false)
  | 4 => ("CommonsTurns$Text", "first", "I", false)
  | _ => ("CommonsTurns$Text", "second", "I", false)
def tyX3 : Nat → FieldType := fun k => match k with
  | 0 => .array .char
  | 1 => .int
  | 2 => .int
  | 3 => .int
  | 4 => .int
  | _ => .int
abbrev wsX30 : List Cond := u_ws RX3 TX3 6
theorem nmX3 : ∀ a, a < 6 → ∀ b, b < 6 → a ≠ b → (TX3 a).2.1 ≠ (TX3 b).2.1 := by decide +kernel
theorem tyX3_ok : ∀ k, k < 6 → parseFieldDescriptor (TX3 k).2.2.1 = some (tyX3 k) := by decide +kernel
abbrev cX3_init : ByteArray := prog_5_method_1_code
def yX3_init : MethodName := ⟨RX3, "<init>", "()V"⟩
abbrev cX3_append : ByteArray := prog_5_method_2_code
def yX3_append : MethodName := ⟨RX3, "append", "(I)I"⟩
abbrev cX3_readCommand : ByteArray := prog_5_method_3_code
def yX3_readCommand : MethodName := ⟨RX3, "readCommand", "()Z"⟩
abbrev cX3_signAhead : ByteArray := prog_5_method_4_code
def yX3_signAhead : MethodName := ⟨RX3, "signAhead", "()I"⟩
abbrev cX3_passes : ByteArray := prog_5_method_5_code
def yX3_passes : MethodName := ⟨RX3, "passes", "(I)Z"⟩
abbrev cX3_readNumber : ByteArray := prog_5_method_6_code
def yX3_readNumber : MethodName := ⟨RX3, "readNumber", "()I"⟩
def RX4 : String := "CommonsTurns"
def TX4 : u_T := fun k => match k with
  | 0 => ("CommonsTurns", "now", "LCommonsTurns$Commons;", true)
  | 1 => ("CommonsTurns", "trial", "LCommonsTurns$Commons;", true)
  | 2 => ("CommonsTurns", "history", "LCommonsTurns$History;", true)
  | 3 => ("CommonsTurns", "text", "LCommonsTurns$Text;", true)
  | _ => ("CommonsTurns", "rehearsal", "LCommonsTurns$Rehearsal;", true)
def tyX4 : Nat → FieldType := fun k => match k with
  | 0 => .object "CommonsTurns$Commons"
  | 1 => .object "CommonsTurns$Commons"
  | 2 => .object "CommonsTurns$History"
  | 3 => .object "CommonsTurns$Text"
  | _ => .object "CommonsTurns$Rehearsal"
abbrev wsX40 : List Cond := u_ws RX4 TX4 5
theorem nmX4 : ∀ a, a < 5 → ∀ b, b < 5 → a ≠ b → (TX4 a).2.1 ≠ (TX4 b).2.1 := by decide +kernel
theorem tyX4_ok : ∀ k, k < 5 → parseFieldDescriptor (TX4 k).2.2.1 = some (tyX4 k) := by decide +kernel
abbrev cX4_init : ByteArray := prog_1_method_1_code
def yX4_init : MethodName := ⟨RX4, "<init>", "()V"⟩
abbrev cX4_member : ByteArray := prog_1_method_2_code
def yX4_member : MethodName := ⟨RX4, "member", "(I)I"⟩
abbrev cX4_use : ByteArray := prog_1_method_3_code
def yX4_use : MethodName := ⟨RX4, "use", "(II)I"⟩
abbrev cX4_close : ByteArray := prog_1_method_4_code
def yX4_close : MethodName := ⟨RX4, "close", "()I"⟩
abbrev cX4_pay : ByteArray := prog_1_method_5_code
def yX4_pay : MethodName := ⟨RX4, "pay", "(II)I"⟩
abbrev cX4_repair : ByteArray := prog_1_method_6_code
def yX4_repair : MethodName := ⟨RX4, "repair", "(I)I"⟩
abbrev cX4_set : ByteArray := prog_1_method_7_code
def yX4_set : MethodName := ⟨RX4, "set", "(II)I"⟩
abbrev cX4_memberOf : ByteArray := prog_1_method_8_code
def yX4_memberOf : MethodName := ⟨RX4, "memberOf", "(II)I"⟩
abbrev cX4_count : ByteArray := prog_1_method_9_code
def yX4_count : MethodName := ⟨RX4, "count", "(I)I"⟩
abbrev cX4_seasonOf : ByteArray := prog_1_method_10_code
def yX4_seasonOf : MethodName := ⟨RX4, "seasonOf", "(II)I"⟩
abbrev cX4_gain : ByteArray := prog_1_method_11_code
def yX4_gain : MethodName := ⟨RX4, "gain", "(II)I"⟩
abbrev cX4_bestUse : ByteArray := prog_1_method_12_code
def yX4_bestUse : MethodName := ⟨RX4, "bestUse", "(I)I"⟩
abbrev cX4_calm : ByteArray := prog_1_method_13_code
def yX4_calm : MethodName := ⟨RX4, "calm", "(I)I"⟩
abbrev cX4_bestForAll : ByteArray := prog_1_method_14_code
def yX4_bestForAll : MethodName := ⟨RX4, "bestForAll", "(I)I"⟩
abbrev cX4_wouldExclude : ByteArray := prog_1_method_15_code
def yX4_wouldExclude : MethodName := ⟨RX4, "wouldExclude", "()I"⟩
abbrev cX4_canRepair : ByteArray := prog_1_method_16_code
def yX4_canRepair : MethodName := ⟨RX4, "canRepair", "()I"⟩
abbrev cX4_undo : ByteArray := prog_1_method_17_code
def yX4_undo : MethodName := ⟨RX4, "undo", "()I"⟩
abbrev cX4_type : ByteArray := prog_1_method_18_code
def yX4_type : MethodName := ⟨RX4, "type", "(I)I"⟩
abbrev cX4_clearText : ByteArray := prog_1_method_19_code
def yX4_clearText : MethodName := ⟨RX4, "clearText", "()I"⟩
abbrev cX4_fault : ByteArray := prog_1_method_20_code
def yX4_fault : MethodName := ⟨RX4, "fault", "(I)I"⟩
abbrev cX4_play : ByteArray := prog_1_method_21_code
def yX4_play : MethodName := ⟨RX4, "play", "()I"⟩
abbrev cX4_keptIfDone : ByteArray := prog_1_method_22_code
def yX4_keptIfDone : MethodName := ⟨RX4, "keptIfDone", "(I)I"⟩
abbrev cX4_rehearse : ByteArray := prog_1_method_23_code
def yX4_rehearse : MethodName := ⟨RX4, "rehearse", "()V"⟩
abbrev cX4_commandOnTrial : ByteArray := prog_1_method_24_code
def yX4_commandOnTrial : MethodName := ⟨RX4, "commandOnTrial", "()I"⟩
abbrev cX4_isUnits : ByteArray := prog_1_method_25_code
def yX4_isUnits : MethodName := ⟨RX4, "isUnits", "(I)Z"⟩
abbrev cX4_quotient : ByteArray := prog_1_method_26_code
def yX4_quotient : MethodName := ⟨RX4, "quotient", "(II)I"⟩
abbrev cX4_copyRow : ByteArray := prog_1_method_27_code
def yX4_copyRow : MethodName := ⟨RX4, "copyRow", "([I[I)V"⟩
abbrev cX4_sumOf : ByteArray := prog_1_method_28_code
def yX4_sumOf : MethodName := ⟨RX4, "sumOf", "([I)I"⟩
def RX5 : String := "CommonsTurnsModel"
def TX5 : u_T := fun k => match k with
  | 0 => ("CommonsTurnsModel", "s", "[I", true)
  | 1 => ("CommonsTurnsModel", "past", "[I", true)
  | 2 => ("CommonsTurnsModel", "held", "[I", true)
  | 3 => ("CommonsTurnsModel", "pasts", "I", false)
  | 4 => ("CommonsTurnsModel", "runs", "Z", false)
  | 5 => ("CommonsTurnsModel", "text", "[I", true)
  | 6 => ("CommonsTurnsModel", "typed", "I", false)
  | 7 => ("CommonsTurnsModel", "charges", "[I", true)
  | 8 => ("CommonsTurnsModel", "spot", "I", false)
  | 9 => ("CommonsTurnsModel", "cause", "I", false)
  | 10 => ("CommonsTurnsModel", "commands", "I", false)
  | 11 => ("CommonsTurnsModel", "told", "[I", true)
  | _ => ("CommonsTurnsModel", "aside", "[I", true)
def tyX5 : Nat → FieldType := fun k => match k with
  | 0 => .array .int
  | 1 => .array .int
  | 2 => .array .int
  | 3 => .int
  | 4 => .boolean
  | 5 => .array .int
  | 6 => .int
  | 7 => .array .int
  | 8 => .int
  | 9 => .int
  | 10 => .int
  | 11 => .array .int
  | _ => .array .int
abbrev wsX50 : List Cond := u_ws RX5 TX5 13
theorem nmX5 : ∀ a, a < 13 → ∀ b, b < 13 → a ≠ b → (TX5 a).2.1 ≠ (TX5 b).2.1 := by decide +kernel
theorem tyX5_ok : ∀ k, k < 13 → parseFieldDescriptor (TX5 k).2.2.1 = some (tyX5 k) := by decide +kernel
abbrev cX5_init : ByteArray := prog_7_method_1_code
def yX5_init : MethodName := ⟨RX5, "<init>", "()V"⟩
abbrev cX5_in : ByteArray := prog_7_method_3_code
def yX5_in : MethodName := ⟨RX5, "in", "(III)Z"⟩
abbrev cX5_copies : ByteArray := prog_7_method_4_code
def yX5_copies : MethodName := ⟨RX5, "copies", "([I[I)V"⟩
abbrev cX5_changes : ByteArray := prog_7_method_5_code
def yX5_changes : MethodName := ⟨RX5, "changes", "()V"⟩
abbrev cX5_isMember : ByteArray := prog_7_method_6_code
def yX5_isMember : MethodName := ⟨RX5, "isMember", "(I)Z"⟩
abbrev cX5_of : ByteArray := prog_7_method_7_code
def yX5_of : MethodName := ⟨RX5, "of", "(II)I"⟩
abbrev cX5_puts : ByteArray := prog_7_method_8_code
def yX5_puts : MethodName := ⟨RX5, "puts", "(III)V"⟩
abbrev cX5_sum : ByteArray := prog_7_method_9_code
def yX5_sum : MethodName := ⟨RX5, "sum", "(I)I"⟩
abbrev cX5_damage : ByteArray := prog_7_method_10_code
def yX5_damage : MethodName := ⟨RX5, "damage", "(I)I"⟩
abbrev cX5_placeOf : ByteArray := prog_7_method_11_code
def yX5_placeOf : MethodName := ⟨RX5, "placeOf", "(I)I"⟩
abbrev cX5_ahead : ByteArray := prog_7_method_12_code
def yX5_ahead : MethodName := ⟨RX5, "ahead", "(I)I"⟩
abbrev cX5_chargeFor : ByteArray := prog_7_method_13_code
def yX5_chargeFor : MethodName := ⟨RX5, "chargeFor", "(II)I"⟩
abbrev cX5_member : ByteArray := prog_7_method_14_code
def yX5_member : MethodName := ⟨RX5, "member", "(I)I"⟩
abbrev cX5_use : ByteArray := prog_7_method_15_code
def yX5_use : MethodName := ⟨RX5, "use", "(II)I"⟩
abbrev cX5_outSet : ByteArray := prog_7_method_16_code
def yX5_outSet : MethodName := ⟨RX5, "outSet", "()I"⟩
abbrev cX5_keeps : ByteArray := prog_7_method_17_code
def yX5_keeps : MethodName := ⟨RX5, "keeps", "(IIII)V"⟩
abbrev cX5_excludes : ByteArray := prog_7_method_18_code
def yX5_excludes : MethodName := ⟨RX5, "excludes", "(I)V"⟩
abbrev cX5_ends : ByteArray := prog_7_method_19_code
def yX5_ends : MethodName := ⟨RX5, "ends", "()I"⟩
abbrev cX5_close : ByteArray := prog_7_method_20_code
def yX5_close : MethodName := ⟨RX5, "close", "()I"⟩
abbrev cX5_pay : ByteArray := prog_7_method_21_code
def yX5_pay : MethodName := ⟨RX5, "pay", "(II)I"⟩
abbrev cX5_repair : ByteArray := prog_7_method_22_code
def yX5_repair : MethodName := ⟨RX5, "repair", "(I)I"⟩
abbrev cX5_set : ByteArray := prog_7_method_23_code
def yX5_set : MethodName := ⟨RX5, "set", "(II)I"⟩
abbrev cX5_memberOf : ByteArray := prog_7_method_24_code
def yX5_memberOf : MethodName := ⟨RX5, "memberOf", "(II)I"⟩
abbrev cX5_count : ByteArray := prog_7_method_25_code
def yX5_count : MethodName := ⟨RX5, "count", "(I)I"⟩
abbrev cX5_seasonOf : ByteArray := prog_7_method_26_code
def yX5_seasonOf : MethodName := ⟨RX5, "seasonOf", "(II)I"⟩
abbrev cX5_gainFor : ByteArray := prog_7_method_27_code
def yX5_gainFor : MethodName := ⟨RX5, "gainFor", "(II)I"⟩
abbrev cX5_gain : ByteArray := prog_7_method_28_code
def yX5_gain : MethodName := ⟨RX5, "gain", "(II)I"⟩
abbrev cX5_best : ByteArray := prog_7_method_29_code
def yX5_best : MethodName := ⟨RX5, "best", "(I)I"⟩
abbrev cX5_bestUse : ByteArray := prog_7_method_30_code
def yX5_bestUse : MethodName := ⟨RX5, "bestUse", "(I)I"⟩
abbrev cX5_turns : ByteArray := prog_7_method_31_code
def yX5_turns : MethodName := ⟨RX5, "turns", "()Z"⟩
abbrev cX5_calm : ByteArray := prog_7_method_32_code
def yX5_calm : MethodName := ⟨RX5, "calm", "(I)I"⟩
abbrev cX5_bestForAll : ByteArray := prog_7_method_33_code
def yX5_bestForAll : MethodName := ⟨RX5, "bestForAll", "(I)I"⟩
abbrev cX5_wouldExclude : ByteArray := prog_7_method_34_code
def yX5_wouldExclude : MethodName := ⟨RX5, "wouldExclude", "()I"⟩
abbrev cX5_canRepair : ByteArray := prog_7_method_35_code
def yX5_canRepair : MethodName := ⟨RX5, "canRepair", "()I"⟩
abbrev cX5_undo : ByteArray := prog_7_method_36_code
def yX5_undo : MethodName := ⟨RX5, "undo", "()I"⟩
abbrev cX5_type : ByteArray := prog_7_method_37_code
def yX5_type : MethodName := ⟨RX5, "type", "(I)I"⟩
abbrev cX5_clearText : ByteArray := prog_7_method_38_code
def yX5_clearText : MethodName := ⟨RX5, "clearText", "()I"⟩
abbrev cX5_isAt : ByteArray := prog_7_method_39_code
def yX5_isAt : MethodName := ⟨RX5, "isAt", "(II)Z"⟩
abbrev cX5_number : ByteArray := prog_7_method_40_code
def yX5_number : MethodName := ⟨RX5, "number", "(II)Z"⟩
abbrev cX5_isForm : ByteArray := prog_7_method_41_code
def yX5_isForm : MethodName := ⟨RX5, "isForm", "(I)Z"⟩
abbrev cX5_calls : ByteArray := prog_7_method_42_code
def yX5_calls : MethodName := ⟨RX5, "calls", "(I)I"⟩
abbrev cX5_plays : ByteArray := prog_7_method_43_code
def yX5_plays : MethodName := ⟨RX5, "plays", "()I"⟩
abbrev cX5_fault : ByteArray := prog_7_method_44_code
def yX5_fault : MethodName := ⟨RX5, "fault", "(I)I"⟩
abbrev cX5_play : ByteArray := prog_7_method_45_code
def yX5_play : MethodName := ⟨RX5, "play", "()I"⟩
def RJ9 : String := "java/lang/Math"
def TJ9 : u_T := fun k => match k with
  | _ => ("", "", "", false)
def tyJ9 : Nat → FieldType := fun k => match k with
  | _ => .int
abbrev wsJ90 : List Cond := u_ws RJ9 TJ9 0
theorem nmJ9 : ∀ a, a < 0 → ∀ b, b < 0 → a ≠ b → (TJ9 a).2.1 ≠ (TJ9 b).2.1 := by decide +kernel
theorem tyJ9_ok : ∀ k, k < 0 → parseFieldDescriptor (TJ9 k).2.2.1 = some (tyJ9 k) := by decide +kernel
abbrev cJ9_max_7cf53 : ByteArray := prog_8_method_65_code
def yJ9_max_7cf53 : MethodName := ⟨RJ9, "max", "(II)I"⟩
abbrev cJ9_min_7cf53 : ByteArray := prog_8_method_69_code
def yJ9_min_7cf53 : MethodName := ⟨RJ9, "min", "(II)I"⟩
def RJ10 : String := "java/lang/System"
def TJ10 : u_T := fun k => match k with
  | _ => ("", "", "", false)
def tyJ10 : Nat → FieldType := fun k => match k with
  | _ => .int
abbrev wsJ100 : List Cond := u_ws RJ10 TJ10 0
theorem nmJ10 : ∀ a, a < 0 → ∀ b, b < 0 → a ≠ b → (TJ10 a).2.1 ≠ (TJ10 b).2.1 := by decide +kernel
theorem tyJ10_ok : ∀ k, k < 0 → parseFieldDescriptor (TJ10 k).2.2.1 = some (tyJ10 k) := by decide +kernel
def RL : String := "CommonsTurnsLaw"
abbrev cL_law : ByteArray := code
def yL_law : MethodName := ⟨RL, "law", "([I)Z"⟩
abbrev vwCl : List vw_C := [(RX0, TX0, 17), (RX1, TX1, 3), (RX2, TX2, 4), (RX3, TX3, 6), (RX4, TX4, 5), (RX5, TX5, 13)]
end
section
/-! the tables' words that stay good in every callee -/
def TT : List Cond := lw_tbl.filter goodWord
theorem tt_mem {i : Nat} {w : Cond} (h : lw_tbl[i]? = some w) (hg : goodWord w = true) : w ∈ TT := List.mem_filter.mpr ⟨List.mem_of_getElem? h, hg⟩
theorem tt_good {w : Cond} (h : w ∈ TT) : (w.onTables && w.keeps) = true ∨ ∃ ty, w = .arrayClass ty := good_of_word (List.mem_filter.mp h).2
theorem tt_law {w : Cond} (h : w ∈ TT) : w ∈ lw_tbl := (List.mem_filter.mp h).1
theorem tt_in {ws : List Cond} (h : ∀ w ∈ ws, w ∈ TT) : GoodIn TT ws := fun w hw => ⟨h w hw, tt_good (h w hw)⟩
theorem tt_code {z : MethodName} {bz : ByteArray} {nz : Nat} {rz : Option FieldType} (h : Cond.code z bz nz rz ∈ TT) : GoodIn TT (Cond.code z bz nz rz :: TT) := tt_in (fun w hw => (List.mem_cons.mp hw).elim (fun e => e ▸ h) id)
theorem goodIn_ap {big a b : List Cond} (ha : GoodIn big a) (hb : GoodIn big b) : GoodIn big (a ++ b) := fun w h => (List.mem_append.mp h).elim (ha w) (hb w)
end
section
theorem dX0_init_0 : decode cX0_init 0 = .ok (.aload_n 0, 1) := by decide +kernel
theorem dX0_init_1 : decode cX0_init 1 = .ok (.invokespecial 3, 3) := by decide +kernel
theorem dX0_init_4 : decode cX0_init 4 = .ok (.aload_n 0, 1) := by decide +kernel
theorem dX0_init_5 : decode cX0_init 5 = .ok (.iconst 5, 1) := by decide +kernel
theorem dX0_init_6 : decode cX0_init 6 = .ok (.newarray .int, 2) := by decide +kernel
theorem dX0_init_8 : decode cX0_init 8 = .ok (.dup, 1) := by decide +kernel
theorem dX0_init_9 : decode cX0_init 9 = .ok (.iconst 0, 1) := by decide +kernel
theorem dX0_init_10 : decode cX0_init 10 = .ok (.bipush 40, 2) := by decide +kernel
theorem dX0_init_12 : decode cX0_init 12 = .ok (.iastore, 1) := by decide +kernel
theorem dX0_init_13 : decode cX0_init 13 = .ok (.dup, 1) := by decide +kernel
theorem dX0_init_14 : decode cX0_init 14 = .ok (.iconst 1, 1) := by decide +kernel
theorem dX0_init_15 : decode cX0_init 15 = .ok (.bipush 40, 2) := by decide +kernel
theorem dX0_init_17 : decode cX0_init 17 = .ok (.iastore, 1) := by decide +kernel
theorem dX0_init_18 : decode cX0_init 18 = .ok (.dup, 1) := by decide +kernel
theorem dX0_init_19 : decode cX0_init 19 = .ok (.iconst 2, 1) := by decide +kernel
theorem dX0_init_20 : decode cX0_init 20 = .ok (.iconst 5, 1) := by decide +kernel
theorem dX0_init_21 : decode cX0_init 21 = .ok (.iastore, 1) := by decide +kernel
theorem dX0_init_22 : decode cX0_init 22 = .ok (.dup, 1) := by decide +kernel
theorem dX0_init_23 : decode cX0_init 23 = .ok (.iconst 3, 1) := by decide +kernel
theorem dX0_init_24 : decode cX0_init 24 = .ok (.bipush 50, 2) := by decide +kernel
theorem dX0_init_26 : decode cX0_init 26 = .ok (.iastore, 1) := by decide +kernel
theorem dX0_init_27 : decode cX0_init 27 = .ok (.dup, 1) := by decide +kernel
theorem dX0_init_28 : decode cX0_init 28 = .ok (.iconst 4, 1) := by decide +kernel
theorem dX0_init_29 : decode cX0_init 29 = .ok (.iconst 3, 1) := by decide +kernel
theorem dX0_init_30 : decode cX0_init 30 = .ok (.iastore, 1) := by decide +kernel
theorem dX0_init_31 : decode cX0_init 31 = .ok (.putfield 9, 3) := by decide +kernel
theorem dX0_init_34 : decode cX0_init 34 = .ok (.aload_n 0, 1) := by decide +kernel
theorem dX0_init_35 : decode cX0_init 35 = .ok (.bipush 8, 2) := by decide +kernel
theorem dX0_init_37 : decode cX0_init 37 = .ok (.newarray .int, 2) := by decide +kernel
theorem dX0_init_39 : decode cX0_init 39 = .ok (.putfield 15, 3) := by decide +kernel
theorem dX0_init_42 : decode cX0_init 42 = .ok (.aload_n 0, 1) := by decide +kernel
theorem dX0_init_43 : decode cX0_init 43 = .ok (.bipush 8, 2) := by decide +kernel
theorem dX0_init_45 : decode cX0_init 45 = .ok (.newarray .int, 2) := by decide +kernel
theorem dX0_init_47 : decode cX0_init 47 = .ok (.putfield 18, 3) := by decide +kernel
theorem dX0_init_50 : decode cX0_init 50 = .ok (.aload_n 0, 1) := by decide +kernel
theorem dX0_init_51 : decode cX0_init 51 = .ok (.bipush 8, 2) := by decide +kernel
theorem dX0_init_53 : decode cX0_init 53 = .ok (.newarray .int, 2) := by decide +kernel
theorem dX0_init_55 : decode cX0_init 55 = .ok (.putfield 21, 3) := by decide +kernel
theorem dX0_init_58 : decode cX0_init 58 = .ok (.aload_n 0, 1) := by decide +kernel
theorem dX0_init_59 : decode cX0_init 59 = .ok (.bipush 8, 2) := by decide +kernel
theorem dX0_init_61 : decode cX0_init 61 = .ok (.newarray .int, 2) := by decide +kernel
theorem dX0_init_63 : decode cX0_init 63 = .ok (.putfield 24, 3) := by decide +kernel
theorem dX0_init_66 : decode cX0_init 66 = .ok (.aload_n 0, 1) := by decide +kernel
theorem dX0_init_67 : decode cX0_init 67 = .ok (.bipush 8, 2) := by decide +kernel
theorem dX0_init_69 : decode cX0_init 69 = .ok (.newarray .int, 2) := by decide +kernel
theorem dX0_init_71 : decode cX0_init 71 = .ok (.putfield 27, 3) := by decide +kernel
theorem dX0_init_74 : decode cX0_init 74 = .ok (.aload_n 0, 1) := by decide +kernel
theorem dX0_init_75 : decode cX0_init 75 = .ok (.bipush 8, 2) := by decide +kernel
theorem dX0_init_77 : decode cX0_init 77 = .ok (.newarray .int, 2) := by decide +kernel
theorem dX0_init_79 : decode cX0_init 79 = .ok (.putfield 30, 3) := by decide +kernel
theorem dX0_init_82 : decode cX0_init 82 = .ok (.aload_n 0, 1) := by decide +kernel
theorem dX0_init_83 : decode cX0_init 83 = .ok (.bipush 8, 2) := by decide +kernel
theorem dX0_init_85 : decode cX0_init 85 = .ok (.newarray .int, 2) := by decide +kernel
theorem dX0_init_87 : decode cX0_init 87 = .ok (.putfield 33, 3) := by decide +kernel
theorem dX0_init_90 : decode cX0_init 90 = .ok (.aload_n 0, 1) := by decide +kernel
theorem dX0_init_91 : decode cX0_init 91 = .ok (.bipush 30, 2) := by decide +kernel
theorem dX0_init_93 : decode cX0_init 93 = .ok (.newarray .int, 2) := by decide +kernel
theorem dX0_init_95 : decode cX0_init 95 = .ok (.putfield 36, 3) := by decide +kernel
theorem dX0_init_98 : decode cX0_init 98 = .ok (.aload_n 0, 1) := by decide +kernel
theorem dX0_init_99 : decode cX0_init 99 = .ok (.bipush 100, 2) := by decide +kernel
theorem dX0_init_101 : decode cX0_init 101 = .ok (.putfield 39, 3) := by decide +kernel
theorem dX0_init_104 : decode cX0_init 104 = .ok (.return_, 1) := by decide +kernel
theorem dX0_takeOver_0 : decode cX0_takeOver 0 = .ok (.aload_n 1, 1) := by decide +kernel
theorem dX0_takeOver_1 : decode cX0_takeOver 1 = .ok (.getfield 9, 3) := by decide +kernel
theorem dX0_takeOver_4 : decode cX0_takeOver 4 = .ok (.aload_n 0, 1) := by decide +kernel
theorem dX0_takeOver_5 : decode cX0_takeOver 5 = .ok (.getfield 9, 3) := by decide +kernel
theorem dX0_takeOver_8 : decode cX0_takeOver 8 = .ok (.invokestatic 43, 3) := by decide +kernel
theorem dX0_takeOver_11 : decode cX0_takeOver 11 = .ok (.aload_n 1, 1) := by decide +kernel
theorem dX0_takeOver_12 : decode cX0_takeOver 12 = .ok (.getfield 15, 3) := by decide +kernel
theorem dX0_takeOver_15 : decode cX0_takeOver 15 = .ok (.aload_n 0, 1) := by decide +kernel
theorem dX0_takeOver_16 : decode cX0_takeOver 16 = .ok (.getfield 15, 3) := by decide +kernel
theorem dX0_takeOver_19 : decode cX0_takeOver 19 = .ok (.invokestatic 43, 3) := by decide +kernel
theorem dX0_takeOver_22 : decode cX0_takeOver 22 = .ok (.aload_n 1, 1) := by decide +kernel
theorem dX0_takeOver_23 : decode cX0_takeOver 23 = .ok (.getfield 18, 3) := by decide +kernel
theorem dX0_takeOver_26 : decode cX0_takeOver 26 = .ok (.aload_n 0, 1) := by decide +kernel
theorem dX0_takeOver_27 : decode cX0_takeOver 27 = .ok (.getfield 18, 3) := by decide +kernel
theorem dX0_takeOver_30 : decode cX0_takeOver 30 = .ok (.invokestatic 43, 3) := by decide +kernel
theorem dX0_takeOver_33 : decode cX0_takeOver 33 = .ok (.aload_n 1, 1) := by decide +kernel
theorem dX0_takeOver_34 : decode cX0_takeOver 34 = .ok (.getfield 21, 3) := by decide +kernel
theorem dX0_takeOver_37 : decode cX0_takeOver 37 = .ok (.aload_n 0, 1) := by decide +kernel
theorem dX0_takeOver_38 : decode cX0_takeOver 38 = .ok (.getfield 21, 3) := by decide +kernel
theorem dX0_takeOver_41 : decode cX0_takeOver 41 = .ok (.invokestatic 43, 3) := by decide +kernel
theorem dX0_takeOver_44 : decode cX0_takeOver 44 = .ok (.aload_n 1, 1) := by decide +kernel
theorem dX0_takeOver_45 : decode cX0_takeOver 45 = .ok (.getfield 24, 3) := by decide +kernel
theorem dX0_takeOver_48 : decode cX0_takeOver 48 = .ok (.aload_n 0, 1) := by decide +kernel
theorem dX0_takeOver_49 : decode cX0_takeOver 49 = .ok (.getfield 24, 3) := by decide +kernel
theorem dX0_takeOver_52 : decode cX0_takeOver 52 = .ok (.invokestatic 43, 3) := by decide +kernel
theorem dX0_takeOver_55 : decode cX0_takeOver 55 = .ok (.aload_n 1, 1) := by decide +kernel
theorem dX0_takeOver_56 : decode cX0_takeOver 56 = .ok (.getfield 27, 3) := by decide +kernel
theorem dX0_takeOver_59 : decode cX0_takeOver 59 = .ok (.aload_n 0, 1) := by decide +kernel
theorem dX0_takeOver_60 : decode cX0_takeOver 60 = .ok (.getfield 27, 3) := by decide +kernel
theorem dX0_takeOver_63 : decode cX0_takeOver 63 = .ok (.invokestatic 43, 3) := by decide +kernel
theorem dX0_takeOver_66 : decode cX0_takeOver 66 = .ok (.aload_n 1, 1) := by decide +kernel
theorem dX0_takeOver_67 : decode cX0_takeOver 67 = .ok (.getfield 30, 3) := by decide +kernel
theorem dX0_takeOver_70 : decode cX0_takeOver 70 = .ok (.aload_n 0, 1) := by decide +kernel
theorem dX0_takeOver_71 : decode cX0_takeOver 71 = .ok (.getfield 30, 3) := by decide +kernel
theorem dX0_takeOver_74 : decode cX0_takeOver 74 = .ok (.invokestatic 43, 3) := by decide +kernel
theorem dX0_takeOver_77 : decode cX0_takeOver 77 = .ok (.aload_n 1, 1) := by decide +kernel
theorem dX0_takeOver_78 : decode cX0_takeOver 78 = .ok (.getfield 33, 3) := by decide +kernel
theorem dX0_takeOver_81 : decode cX0_takeOver 81 = .ok (.aload_n 0, 1) := by decide +kernel
theorem dX0_takeOver_82 : decode cX0_takeOver 82 = .ok (.getfield 33, 3) := by decide +kernel
theorem dX0_takeOver_85 : decode cX0_takeOver 85 = .ok (.invokestatic 43, 3) := by decide +kernel
theorem dX0_takeOver_88 : decode cX0_takeOver 88 = .ok (.aload_n 1, 1) := by decide +kernel
theorem dX0_takeOver_89 : decode cX0_takeOver 89 = .ok (.getfield 36, 3) := by decide +kernel
theorem dX0_takeOver_92 : decode cX0_takeOver 92 = .ok (.aload_n 0, 1) := by decide +kernel
theorem dX0_takeOver_93 : decode cX0_takeOver 93 = .ok (.getfield 36, 3) := by decide +kernel
theorem dX0_takeOver_96 : decode cX0_takeOver 96 = .ok (.invokestatic 43, 3) := by decide +kernel
theorem dX0_takeOver_99 : decode cX0_takeOver 99 = .ok (.aload_n 0, 1) := by decide +kernel
theorem dX0_takeOver_100 : decode cX0_takeOver 100 = .ok (.aload_n 1, 1) := by decide +kernel
theorem dX0_takeOver_101 : decode cX0_takeOver 101 = .ok (.getfield 47, 3) := by decide +kernel
theorem dX0_takeOver_104 : decode cX0_takeOver 104 = .ok (.putfield 47, 3) := by decide +kernel
theorem dX0_takeOver_107 : decode cX0_takeOver 107 = .ok (.aload_n 0, 1) := by decide +kernel
theorem dX0_takeOver_108 : decode cX0_takeOver 108 = .ok (.aload_n 1, 1) := by decide +kernel
theorem dX0_takeOver_109 : decode cX0_takeOver 109 = .ok (.getfield 50, 3) := by decide +kernel
theorem dX0_takeOver_112 : decode cX0_takeOver 112 = .ok (.putfield 50, 3) := by decide +kernel
theorem dX0_takeOver_115 : decode cX0_takeOver 115 = .ok (.aload_n 0, 1) := by decide +kernel
theorem dX0_takeOver_116 : decode cX0_takeOver 116 = .ok (.aload_n 1, 1) := by decide +kernel
theorem dX0_takeOver_117 : decode cX0_takeOver 117 = .ok (.getfield 39, 3) := by decide +kernel
theorem dX0_takeOver_120 : decode cX0_takeOver 120 = .ok (.putfield 39, 3) := by decide +kernel
theorem dX0_takeOver_123 : decode cX0_takeOver 123 = .ok (.aload_n 0, 1) := by decide +kernel
theorem dX0_takeOver_124 : decode cX0_takeOver 124 = .ok (.aload_n 1, 1) := by decide +kernel
theorem dX0_takeOver_125 : decode cX0_takeOver 125 = .ok (.getfield 53, 3) := by decide +kernel
theorem dX0_takeOver_128 : decode cX0_takeOver 128 = .ok (.putfield 53, 3) := by decide +kernel
theorem dX0_takeOver_131 : decode cX0_takeOver 131 = .ok (.aload_n 0, 1) := by decide +kernel
theorem dX0_takeOver_132 : decode cX0_takeOver 132 = .ok (.aload_n 1, 1) := by decide +kernel
theorem dX0_takeOver_133 : decode cX0_takeOver 133 = .ok (.getfield 56, 3) := by decide +kernel
theorem dX0_takeOver_136 : decode cX0_takeOver 136 = .ok (.putfield 56, 3) := by decide +kernel
theorem dX0_takeOver_139 : decode cX0_takeOver 139 = .ok (.aload_n 0, 1) := by decide +kernel
theorem dX0_takeOver_140 : decode cX0_takeOver 140 = .ok (.aload_n 1, 1) := by decide +kernel
theorem dX0_takeOver_141 : decode cX0_takeOver 141 = .ok (.getfield 59, 3) := by decide +kernel
theorem dX0_takeOver_144 : decode cX0_takeOver 144 = .ok (.putfield 59, 3) := by decide +kernel
theorem dX0_takeOver_147 : decode cX0_takeOver 147 = .ok (.aload_n 0, 1) := by decide +kernel
theorem dX0_takeOver_148 : decode cX0_takeOver 148 = .ok (.aload_n 1, 1) := by decide +kernel
theorem dX0_takeOver_149 : decode cX0_takeOver 149 = .ok (.getfield 62, 3) := by decide +kernel
theorem dX0_takeOver_152 : decode cX0_takeOver 152 = .ok (.putfield 62, 3) := by decide +kernel
theorem dX0_takeOver_155 : decode cX0_takeOver 155 = .ok (.aload_n 0, 1) := by decide +kernel
theorem dX0_takeOver_156 : decode cX0_takeOver 156 = .ok (.aload_n 1, 1) := by decide +kernel
theorem dX0_takeOver_157 : decode cX0_takeOver 157 = .ok (.getfield 65, 3) := by decide +kernel
theorem dX0_takeOver_160 : decode cX0_takeOver 160 = .ok (.putfield 65, 3) := by decide +kernel
theorem dX0_takeOver_163 : decode cX0_takeOver 163 = .ok (.return_, 1) := by decide +kernel
theorem dX0_has_0 : decode cX0_has 0 = .ok (.iload_n 1, 1) := by decide +kernel
theorem dX0_has_1 : decode cX0_has 1 = .ok (.ifCond .lt 21, 3) := by decide +kernel
theorem dX0_has_4 : decode cX0_has 4 = .ok (.iload_n 1, 1) := by decide +kernel
theorem dX0_has_5 : decode cX0_has 5 = .ok (.aload_n 0, 1) := by decide +kernel
theorem dX0_has_6 : decode cX0_has 6 = .ok (.getfield 47, 3) := by decide +kernel
theorem dX0_has_9 : decode cX0_has 9 = .ok (.if_icmp .ge 13, 3) := by decide +kernel
theorem dX0_has_12 : decode cX0_has 12 = .ok (.iload_n 1, 1) := by decide +kernel
theorem dX0_has_13 : decode cX0_has 13 = .ok (.bipush 8, 2) := by decide +kernel
theorem dX0_has_15 : decode cX0_has 15 = .ok (.if_icmp .ge 7, 3) := by decide +kernel
theorem dX0_has_18 : decode cX0_has 18 = .ok (.iconst 1, 1) := by decide +kernel
theorem dX0_has_19 : decode cX0_has 19 = .ok (.goto 4, 3) := by decide +kernel
theorem dX0_has_22 : decode cX0_has 22 = .ok (.iconst 0, 1) := by decide +kernel
theorem dX0_has_23 : decode cX0_has 23 = .ok (.ireturn, 1) := by decide +kernel
theorem dX0_isOut_0 : decode cX0_isOut 0 = .ok (.aload_n 0, 1) := by decide +kernel
theorem dX0_isOut_1 : decode cX0_isOut 1 = .ok (.getfield 56, 3) := by decide +kernel
theorem dX0_isOut_4 : decode cX0_isOut 4 = .ok (.iload_n 1, 1) := by decide +kernel
theorem dX0_isOut_5 : decode cX0_isOut 5 = .ok (.ishr, 1) := by decide +kernel
theorem dX0_isOut_6 : decode cX0_isOut 6 = .ok (.iconst 1, 1) := by decide +kernel
theorem dX0_isOut_7 : decode cX0_isOut 7 = .ok (.iand, 1) := by decide +kernel
theorem dX0_isOut_8 : decode cX0_isOut 8 = .ok (.iconst 1, 1) := by decide +kernel
theorem dX0_isOut_9 : decode cX0_isOut 9 = .ok (.if_icmp .ne 7, 3) := by decide +kernel
theorem dX0_isOut_12 : decode cX0_isOut 12 = .ok (.iconst 1, 1) := by decide +kernel
theorem dX0_isOut_13 : decode cX0_isOut 13 = .ok (.goto 4, 3) := by decide +kernel
theorem dX0_isOut_16 : decode cX0_isOut 16 = .ok (.iconst 0, 1) := by decide +kernel
theorem dX0_isOut_17 : decode cX0_isOut 17 = .ok (.ireturn, 1) := by decide +kernel
theorem dX0_allUnits_0 : decode cX0_allUnits 0 = .ok (.aload_n 0, 1) := by decide +kernel
theorem dX0_allUnits_1 : decode cX0_allUnits 1 = .ok (.getfield 18, 3) := by decide +kernel
theorem dX0_allUnits_4 : decode cX0_allUnits 4 = .ok (.invokestatic 68, 3) := by decide +kernel
theorem dX0_allUnits_7 : decode cX0_allUnits 7 = .ok (.ireturn, 1) := by decide +kernel
theorem dX0_damageOf_0 : decode cX0_damageOf 0 = .ok (.aload_n 0, 1) := by decide +kernel
theorem dX0_damageOf_1 : decode cX0_damageOf 1 = .ok (.getfield 9, 3) := by decide +kernel
theorem dX0_damageOf_4 : decode cX0_damageOf 4 = .ok (.iconst 0, 1) := by decide +kernel
theorem dX0_damageOf_5 : decode cX0_damageOf 5 = .ok (.iaload, 1) := by decide +kernel
theorem dX0_damageOf_6 : decode cX0_damageOf 6 = .ok (.istore_n 2, 1) := by decide +kernel
theorem dX0_damageOf_7 : decode cX0_damageOf 7 = .ok (.iload_n 2, 1) := by decide +kernel
theorem dX0_damageOf_8 : decode cX0_damageOf 8 = .ok (.iconst 1, 1) := by decide +kernel
theorem dX0_damageOf_9 : decode cX0_damageOf 9 = .ok (.if_icmp .ge 7, 3) := by decide +kernel
theorem dX0_damageOf_12 : decode cX0_damageOf 12 = .ok (.iconst 0, 1) := by decide +kernel
theorem dX0_damageOf_13 : decode cX0_damageOf 13 = .ok (.goto 8, 3) := by decide +kernel
theorem dX0_damageOf_16 : decode cX0_damageOf 16 = .ok (.iload_n 1, 1) := by decide +kernel
theorem dX0_damageOf_17 : decode cX0_damageOf 17 = .ok (.iload_n 1, 1) := by decide +kernel
theorem dX0_damageOf_18 : decode cX0_damageOf 18 = .ok (.imul, 1) := by decide +kernel
theorem dX0_damageOf_19 : decode cX0_damageOf 19 = .ok (.iload_n 2, 1) := by decide +kernel
theorem dX0_damageOf_20 : decode cX0_damageOf 20 = .ok (.idiv, 1) := by decide +kernel
theorem dX0_damageOf_21 : decode cX0_damageOf 21 = .ok (.ireturn, 1) := by decide +kernel
theorem dX0_placeOf_0 : decode cX0_placeOf 0 = .ok (.aload_n 0, 1) := by decide +kernel
theorem dX0_placeOf_1 : decode cX0_placeOf 1 = .ok (.getfield 47, 3) := by decide +kernel
theorem dX0_placeOf_4 : decode cX0_placeOf 4 = .ok (.iconst 1, 1) := by decide +kernel
theorem dX0_placeOf_5 : decode cX0_placeOf 5 = .ok (.if_icmp .ge 5, 3) := by decide +kernel
theorem dX0_placeOf_8 : decode cX0_placeOf 8 = .ok (.iconst 0, 1) := by decide +kernel
theorem dX0_placeOf_9 : decode cX0_placeOf 9 = .ok (.ireturn, 1) := by decide +kernel
theorem dX0_placeOf_10 : decode cX0_placeOf 10 = .ok (.aload_n 0, 1) := by decide +kernel
theorem dX0_placeOf_11 : decode cX0_placeOf 11 = .ok (.getfield 50, 3) := by decide +kernel
theorem dX0_placeOf_14 : decode cX0_placeOf 14 = .ok (.aload_n 0, 1) := by decide +kernel
theorem dX0_placeOf_15 : decode cX0_placeOf 15 = .ok (.getfield 47, 3) := by decide +kernel
theorem dX0_placeOf_18 : decode cX0_placeOf 18 = .ok (.irem, 1) := by decide +kernel
theorem dX0_placeOf_19 : decode cX0_placeOf 19 = .ok (.istore_n 2, 1) := by decide +kernel
theorem dX0_placeOf_20 : decode cX0_placeOf 20 = .ok (.iload_n 1, 1) := by decide +kernel
theorem dX0_placeOf_21 : decode cX0_placeOf 21 = .ok (.iload_n 2, 1) := by decide +kernel
theorem dX0_placeOf_22 : decode cX0_placeOf 22 = .ok (.if_icmp .lt 9, 3) := by decide +kernel
theorem dX0_placeOf_25 : decode cX0_placeOf 25 = .ok (.iload_n 1, 1) := by decide +kernel
theorem dX0_placeOf_26 : decode cX0_placeOf 26 = .ok (.iload_n 2, 1) := by decide +kernel
theorem dX0_placeOf_27 : decode cX0_placeOf 27 = .ok (.isub, 1) := by decide +kernel
theorem dX0_placeOf_28 : decode cX0_placeOf 28 = .ok (.goto 11, 3) := by decide +kernel
theorem dX0_placeOf_31 : decode cX0_placeOf 31 = .ok (.iload_n 1, 1) := by decide +kernel
theorem dX0_placeOf_32 : decode cX0_placeOf 32 = .ok (.iload_n 2, 1) := by decide +kernel
theorem dX0_placeOf_33 : decode cX0_placeOf 33 = .ok (.isub, 1) := by decide +kernel
theorem dX0_placeOf_34 : decode cX0_placeOf 34 = .ok (.aload_n 0, 1) := by decide +kernel
theorem dX0_placeOf_35 : decode cX0_placeOf 35 = .ok (.getfield 47, 3) := by decide +kernel
theorem dX0_placeOf_38 : decode cX0_placeOf 38 = .ok (.iadd, 1) := by decide +kernel
theorem dX0_placeOf_39 : decode cX0_placeOf 39 = .ok (.ireturn, 1) := by decide +kernel
theorem dX0_unitsAhead_0 : decode cX0_unitsAhead 0 = .ok (.aload_n 0, 1) := by decide +kernel
theorem dX0_unitsAhead_1 : decode cX0_unitsAhead 1 = .ok (.iload_n 1, 1) := by decide +kernel
theorem dX0_unitsAhead_2 : decode cX0_unitsAhead 2 = .ok (.invokevirtual 72, 3) := by decide +kernel
theorem dX0_unitsAhead_5 : decode cX0_unitsAhead 5 = .ok (.istore_n 2, 1) := by decide +kernel
theorem dX0_unitsAhead_6 : decode cX0_unitsAhead 6 = .ok (.iconst 0, 1) := by decide +kernel
theorem dX0_unitsAhead_7 : decode cX0_unitsAhead 7 = .ok (.istore_n 3, 1) := by decide +kernel
theorem dX0_unitsAhead_8 : decode cX0_unitsAhead 8 = .ok (.iconst 0, 1) := by decide +kernel
theorem dX0_unitsAhead_9 : decode cX0_unitsAhead 9 = .ok (.istore 4, 2) := by decide +kernel
theorem dX0_unitsAhead_11 : decode cX0_unitsAhead 11 = .ok (.iload 4, 2) := by decide +kernel
theorem dX0_unitsAhead_13 : decode cX0_unitsAhead 13 = .ok (.bipush 8, 2) := by decide +kernel
theorem dX0_unitsAhead_15 : decode cX0_unitsAhead 15 = .ok (.if_icmp .ge 29, 3) := by decide +kernel
theorem dX0_unitsAhead_18 : decode cX0_unitsAhead 18 = .ok (.aload_n 0, 1) := by decide +kernel
theorem dX0_unitsAhead_19 : decode cX0_unitsAhead 19 = .ok (.iload 4, 2) := by decide +kernel
theorem dX0_unitsAhead_21 : decode cX0_unitsAhead 21 = .ok (.invokevirtual 72, 3) := by decide +kernel
theorem dX0_unitsAhead_24 : decode cX0_unitsAhead 24 = .ok (.iload_n 2, 1) := by decide +kernel
theorem dX0_unitsAhead_25 : decode cX0_unitsAhead 25 = .ok (.if_icmp .ge 13, 3) := by decide +kernel
theorem dX0_unitsAhead_28 : decode cX0_unitsAhead 28 = .ok (.iload_n 3, 1) := by decide +kernel
theorem dX0_unitsAhead_29 : decode cX0_unitsAhead 29 = .ok (.aload_n 0, 1) := by decide +kernel
theorem dX0_unitsAhead_30 : decode cX0_unitsAhead 30 = .ok (.getfield 18, 3) := by decide +kernel
theorem dX0_unitsAhead_33 : decode cX0_unitsAhead 33 = .ok (.iload 4, 2) := by decide +kernel
theorem dX0_unitsAhead_35 : decode cX0_unitsAhead 35 = .ok (.iaload, 1) := by decide +kernel
theorem dX0_unitsAhead_36 : decode cX0_unitsAhead 36 = .ok (.iadd, 1) := by decide +kernel
theorem dX0_unitsAhead_37 : decode cX0_unitsAhead 37 = .ok (.istore_n 3, 1) := by decide +kernel
theorem dX0_unitsAhead_38 : decode cX0_unitsAhead 38 = .ok (.iinc 4 1, 3) := by decide +kernel
theorem dX0_unitsAhead_41 : decode cX0_unitsAhead 41 = .ok (.goto (-30), 3) := by decide +kernel
theorem dX0_unitsAhead_44 : decode cX0_unitsAhead 44 = .ok (.iload_n 3, 1) := by decide +kernel
theorem dX0_unitsAhead_45 : decode cX0_unitsAhead 45 = .ok (.ireturn, 1) := by decide +kernel
theorem dX0_chargeOf_0 : decode cX0_chargeOf 0 = .ok (.aload_n 0, 1) := by decide +kernel
theorem dX0_chargeOf_1 : decode cX0_chargeOf 1 = .ok (.aload_n 0, 1) := by decide +kernel
theorem dX0_chargeOf_2 : decode cX0_chargeOf 2 = .ok (.iload_n 1, 1) := by decide +kernel
theorem dX0_chargeOf_3 : decode cX0_chargeOf 3 = .ok (.invokevirtual 76, 3) := by decide +kernel
theorem dX0_chargeOf_6 : decode cX0_chargeOf 6 = .ok (.aload_n 0, 1) := by decide +kernel
theorem dX0_chargeOf_7 : decode cX0_chargeOf 7 = .ok (.getfield 18, 3) := by decide +kernel
theorem dX0_chargeOf_10 : decode cX0_chargeOf 10 = .ok (.iload_n 1, 1) := by decide +kernel
theorem dX0_chargeOf_11 : decode cX0_chargeOf 11 = .ok (.iaload, 1) := by decide +kernel
theorem dX0_chargeOf_12 : decode cX0_chargeOf 12 = .ok (.invokevirtual 79, 3) := by decide +kernel
theorem dX0_chargeOf_15 : decode cX0_chargeOf 15 = .ok (.ireturn, 1) := by decide +kernel
theorem dX0_damageAdded_0 : decode cX0_damageAdded 0 = .ok (.aload_n 0, 1) := by decide +kernel
theorem dX0_damageAdded_1 : decode cX0_damageAdded 1 = .ok (.iload_n 1, 1) := by decide +kernel
theorem dX0_damageAdded_2 : decode cX0_damageAdded 2 = .ok (.iload_n 2, 1) := by decide +kernel
theorem dX0_damageAdded_3 : decode cX0_damageAdded 3 = .ok (.iadd, 1) := by decide +kernel
theorem dX0_damageAdded_4 : decode cX0_damageAdded 4 = .ok (.invokevirtual 83, 3) := by decide +kernel
theorem dX0_damageAdded_7 : decode cX0_damageAdded 7 = .ok (.aload_n 0, 1) := by decide +kernel
theorem dX0_damageAdded_8 : decode cX0_damageAdded 8 = .ok (.iload_n 1, 1) := by decide +kernel
theorem dX0_damageAdded_9 : decode cX0_damageAdded 9 = .ok (.invokevirtual 83, 3) := by decide +kernel
theorem dX0_damageAdded_12 : decode cX0_damageAdded 12 = .ok (.isub, 1) := by decide +kernel
theorem dX0_damageAdded_13 : decode cX0_damageAdded 13 = .ok (.ireturn, 1) := by decide +kernel
theorem dX0_addMember_0 : decode cX0_addMember 0 = .ok (.iload_n 1, 1) := by decide +kernel
theorem dX0_addMember_1 : decode cX0_addMember 1 = .ok (.ifCond .lt 9, 3) := by decide +kernel
theorem dX0_addMember_4 : decode cX0_addMember 4 = .ok (.iload_n 1, 1) := by decide +kernel
theorem dX0_addMember_5 : decode cX0_addMember 5 = .ok (.bipush 30, 2) := by decide +kernel
theorem dX0_addMember_7 : decode cX0_addMember 7 = .ok (.if_icmp .le 7, 3) := by decide +kernel
theorem dX0_addMember_10 : decode cX0_addMember 10 = .ok (.sipush (-10001), 3) := by decide +kernel
theorem dX0_addMember_13 : decode cX0_addMember 13 = .ok (.ireturn, 1) := by decide +kernel
theorem dX0_addMember_14 : decode cX0_addMember 14 = .ok (.aload_n 0, 1) := by decide +kernel
theorem dX0_addMember_15 : decode cX0_addMember 15 = .ok (.getfield 47, 3) := by decide +kernel
theorem dX0_addMember_18 : decode cX0_addMember 18 = .ok (.bipush 8, 2) := by decide +kernel
theorem dX0_addMember_20 : decode cX0_addMember 20 = .ok (.if_icmp .lt 7, 3) := by decide +kernel
theorem dX0_addMember_23 : decode cX0_addMember 23 = .ok (.sipush (-10003), 3) := by decide +kernel
theorem dX0_addMember_26 : decode cX0_addMember 26 = .ok (.ireturn, 1) := by decide +kernel
theorem dX0_addMember_27 : decode cX0_addMember 27 = .ok (.aload_n 0, 1) := by decide +kernel
theorem dX0_addMember_28 : decode cX0_addMember 28 = .ok (.getfield 15, 3) := by decide +kernel
theorem dX0_addMember_31 : decode cX0_addMember 31 = .ok (.aload_n 0, 1) := by decide +kernel
theorem dX0_addMember_32 : decode cX0_addMember 32 = .ok (.getfield 47, 3) := by decide +kernel
theorem dX0_addMember_35 : decode cX0_addMember 35 = .ok (.iload_n 1, 1) := by decide +kernel
theorem dX0_addMember_36 : decode cX0_addMember 36 = .ok (.iastore, 1) := by decide +kernel
theorem dX0_addMember_37 : decode cX0_addMember 37 = .ok (.aload_n 0, 1) := by decide +kernel
theorem dX0_addMember_38 : decode cX0_addMember 38 = .ok (.dup, 1) := by decide +kernel
theorem dX0_addMember_39 : decode cX0_addMember 39 = .ok (.getfield 47, 3) := by decide +kernel
theorem dX0_addMember_42 : decode cX0_addMember 42 = .ok (.iconst 1, 1) := by decide +kernel
theorem dX0_addMember_43 : decode cX0_addMember 43 = .ok (.iadd, 1) := by decide +kernel
theorem dX0_addMember_44 : decode cX0_addMember 44 = .ok (.putfield 47, 3) := by decide +kernel
theorem dX0_addMember_47 : decode cX0_addMember 47 = .ok (.aload_n 0, 1) := by decide +kernel
theorem dX0_addMember_48 : decode cX0_addMember 48 = .ok (.getfield 47, 3) := by decide +kernel
theorem dX0_addMember_51 : decode cX0_addMember 51 = .ok (.iconst 1, 1) := by decide +kernel
theorem dX0_addMember_52 : decode cX0_addMember 52 = .ok (.isub, 1) := by decide +kernel
theorem dX0_addMember_53 : decode cX0_addMember 53 = .ok (.ireturn, 1) := by decide +kernel
theorem dX0_declareUse_0 : decode cX0_declareUse 0 = .ok (.aload_n 0, 1) := by decide +kernel
theorem dX0_declareUse_1 : decode cX0_declareUse 1 = .ok (.iload_n 1, 1) := by decide +kernel
theorem dX0_declareUse_2 : decode cX0_declareUse 2 = .ok (.invokevirtual 86, 3) := by decide +kernel
theorem dX0_declareUse_5 : decode cX0_declareUse 5 = .ok (.ifCond .eq 10, 3) := by decide +kernel
theorem dX0_declareUse_8 : decode cX0_declareUse 8 = .ok (.iload_n 2, 1) := by decide +kernel
theorem dX0_declareUse_9 : decode cX0_declareUse 9 = .ok (.invokestatic 90, 3) := by decide +kernel
theorem dX0_declareUse_12 : decode cX0_declareUse 12 = .ok (.ifCond .ne 7, 3) := by decide +kernel
theorem dX0_declareUse_15 : decode cX0_declareUse 15 = .ok (.sipush (-10001), 3) := by decide +kernel
theorem dX0_declareUse_18 : decode cX0_declareUse 18 = .ok (.ireturn, 1) := by decide +kernel
theorem dX0_declareUse_19 : decode cX0_declareUse 19 = .ok (.aload_n 0, 1) := by decide +kernel
theorem dX0_declareUse_20 : decode cX0_declareUse 20 = .ok (.iload_n 1, 1) := by decide +kernel
theorem dX0_declareUse_21 : decode cX0_declareUse 21 = .ok (.invokevirtual 93, 3) := by decide +kernel
theorem dX0_declareUse_24 : decode cX0_declareUse 24 = .ok (.ifCond .eq 7, 3) := by decide +kernel
theorem dX0_declareUse_27 : decode cX0_declareUse 27 = .ok (.sipush (-10002), 3) := by decide +kernel
theorem dX0_declareUse_30 : decode cX0_declareUse 30 = .ok (.ireturn, 1) := by decide +kernel
theorem dX0_declareUse_31 : decode cX0_declareUse 31 = .ok (.aload_n 0, 1) := by decide +kernel
theorem dX0_declareUse_32 : decode cX0_declareUse 32 = .ok (.getfield 18, 3) := by decide +kernel
theorem dX0_declareUse_35 : decode cX0_declareUse 35 = .ok (.iload_n 1, 1) := by decide +kernel
theorem dX0_declareUse_36 : decode cX0_declareUse 36 = .ok (.iload_n 2, 1) := by decide +kernel
theorem dX0_declareUse_37 : decode cX0_declareUse 37 = .ok (.iastore, 1) := by decide +kernel
theorem dX0_declareUse_38 : decode cX0_declareUse 38 = .ok (.aload_n 0, 1) := by decide +kernel
theorem dX0_declareUse_39 : decode cX0_declareUse 39 = .ok (.iload_n 1, 1) := by decide +kernel
theorem dX0_declareUse_40 : decode cX0_declareUse 40 = .ok (.invokevirtual 96, 3) := by decide +kernel
theorem dX0_declareUse_43 : decode cX0_declareUse 43 = .ok (.ireturn, 1) := by decide +kernel
theorem dX0_payCoins_0 : decode cX0_payCoins 0 = .ok (.aload_n 0, 1) := by decide +kernel
theorem dX0_payCoins_1 : decode cX0_payCoins 1 = .ok (.iload_n 1, 1) := by decide +kernel
theorem dX0_payCoins_2 : decode cX0_payCoins 2 = .ok (.invokevirtual 86, 3) := by decide +kernel
theorem dX0_payCoins_5 : decode cX0_payCoins 5 = .ok (.ifCond .eq 15, 3) := by decide +kernel
theorem dX0_payCoins_8 : decode cX0_payCoins 8 = .ok (.iload_n 2, 1) := by decide +kernel
theorem dX0_payCoins_9 : decode cX0_payCoins 9 = .ok (.iconst 1, 1) := by decide +kernel
theorem dX0_payCoins_10 : decode cX0_payCoins 10 = .ok (.if_icmp .lt 10, 3) := by decide +kernel
theorem dX0_payCoins_13 : decode cX0_payCoins 13 = .ok (.iload_n 2, 1) := by decide +kernel
theorem dX0_payCoins_14 : decode cX0_payCoins 14 = .ok (.sipush 999, 3) := by decide +kernel
theorem dX0_payCoins_17 : decode cX0_payCoins 17 = .ok (.if_icmp .le 7, 3) := by decide +kernel
theorem dX0_payCoins_20 : decode cX0_payCoins 20 = .ok (.sipush (-10001), 3) := by decide +kernel
theorem dX0_payCoins_23 : decode cX0_payCoins 23 = .ok (.ireturn, 1) := by decide +kernel
theorem dX0_payCoins_24 : decode cX0_payCoins 24 = .ok (.aload_n 0, 1) := by decide +kernel
theorem dX0_payCoins_25 : decode cX0_payCoins 25 = .ok (.getfield 21, 3) := by decide +kernel
theorem dX0_payCoins_28 : decode cX0_payCoins 28 = .ok (.iload_n 1, 1) := by decide +kernel
theorem dX0_payCoins_29 : decode cX0_payCoins 29 = .ok (.iaload, 1) := by decide +kernel
theorem dX0_payCoins_30 : decode cX0_payCoins 30 = .ok (.iload_n 2, 1) := by decide +kernel
theorem dX0_payCoins_31 : decode cX0_payCoins 31 = .ok (.if_icmp .ge 7, 3) := by decide +kernel
theorem dX0_payCoins_34 : decode cX0_payCoins 34 = .ok (.sipush (-10002), 3) := by decide +kernel
theorem dX0_payCoins_37 : decode cX0_payCoins 37 = .ok (.ireturn, 1) := by decide +kernel
theorem dX0_payCoins_38 : decode cX0_payCoins 38 = .ok (.aload_n 0, 1) := by decide +kernel
theorem dX0_payCoins_39 : decode cX0_payCoins 39 = .ok (.getfield 21, 3) := by decide +kernel
theorem dX0_payCoins_42 : decode cX0_payCoins 42 = .ok (.iload_n 1, 1) := by decide +kernel
theorem dX0_payCoins_43 : decode cX0_payCoins 43 = .ok (.dup2, 1) := by decide +kernel
theorem dX0_payCoins_44 : decode cX0_payCoins 44 = .ok (.iaload, 1) := by decide +kernel
theorem dX0_payCoins_45 : decode cX0_payCoins 45 = .ok (.iload_n 2, 1) := by decide +kernel
theorem dX0_payCoins_46 : decode cX0_payCoins 46 = .ok (.isub, 1) := by decide +kernel
theorem dX0_payCoins_47 : decode cX0_payCoins 47 = .ok (.iastore, 1) := by decide +kernel
theorem dX0_payCoins_48 : decode cX0_payCoins 48 = .ok (.aload_n 0, 1) := by decide +kernel
theorem dX0_payCoins_49 : decode cX0_payCoins 49 = .ok (.getfield 24, 3) := by decide +kernel
theorem dX0_payCoins_52 : decode cX0_payCoins 52 = .ok (.iload_n 1, 1) := by decide +kernel
theorem dX0_payCoins_53 : decode cX0_payCoins 53 = .ok (.dup2, 1) := by decide +kernel
theorem dX0_payCoins_54 : decode cX0_payCoins 54 = .ok (.iaload, 1) := by decide +kernel
theorem dX0_payCoins_55 : decode cX0_payCoins 55 = .ok (.iload_n 2, 1) := by decide +kernel
theorem dX0_payCoins_56 : decode cX0_payCoins 56 = .ok (.iadd, 1) := by decide +kernel
theorem dX0_payCoins_57 : decode cX0_payCoins 57 = .ok (.iastore, 1) := by decide +kernel
theorem dX0_payCoins_58 : decode cX0_payCoins 58 = .ok (.aload_n 0, 1) := by decide +kernel
theorem dX0_payCoins_59 : decode cX0_payCoins 59 = .ok (.dup, 1) := by decide +kernel
theorem dX0_payCoins_60 : decode cX0_payCoins 60 = .ok (.getfield 53, 3) := by decide +kernel
theorem dX0_payCoins_63 : decode cX0_payCoins 63 = .ok (.iload_n 2, 1) := by decide +kernel
theorem dX0_payCoins_64 : decode cX0_payCoins 64 = .ok (.iadd, 1) := by decide +kernel
theorem dX0_payCoins_65 : decode cX0_payCoins 65 = .ok (.putfield 53, 3) := by decide +kernel
theorem dX0_payCoins_68 : decode cX0_payCoins 68 = .ok (.aload_n 0, 1) := by decide +kernel
theorem dX0_payCoins_69 : decode cX0_payCoins 69 = .ok (.getfield 21, 3) := by decide +kernel
theorem dX0_payCoins_72 : decode cX0_payCoins 72 = .ok (.iload_n 1, 1) := by decide +kernel
theorem dX0_payCoins_73 : decode cX0_payCoins 73 = .ok (.iaload, 1) := by decide +kernel
theorem dX0_payCoins_74 : decode cX0_payCoins 74 = .ok (.ireturn, 1) := by decide +kernel
theorem dX0_changeSetting_0 : decode cX0_changeSetting 0 = .ok (.iload_n 1, 1) := by decide +kernel
theorem dX0_changeSetting_1 : decode cX0_changeSetting 1 = .ok (.ifCond .lt 8, 3) := by decide +kernel
theorem dX0_changeSetting_4 : decode cX0_changeSetting 4 = .ok (.iload_n 1, 1) := by decide +kernel
theorem dX0_changeSetting_5 : decode cX0_changeSetting 5 = .ok (.iconst 5, 1) := by decide +kernel
theorem dX0_changeSetting_6 : decode cX0_changeSetting 6 = .ok (.if_icmp .lt 7, 3) := by decide +kernel
theorem dX0_changeSetting_9 : decode cX0_changeSetting 9 = .ok (.sipush (-10001), 3) := by decide +kernel
theorem dX0_changeSetting_12 : decode cX0_changeSetting 12 = .ok (.ireturn, 1) := by decide +kernel
theorem dX0_changeSetting_13 : decode cX0_changeSetting 13 = .ok (.iload_n 2, 1) := by decide +kernel
theorem dX0_changeSetting_14 : decode cX0_changeSetting 14 = .ok (.getstatic 99, 3) := by decide +kernel
theorem dX0_changeSetting_17 : decode cX0_changeSetting 17 = .ok (.iload_n 1, 1) := by decide +kernel
theorem dX0_changeSetting_18 : decode cX0_changeSetting 18 = .ok (.iaload, 1) := by decide +kernel
theorem dX0_changeSetting_19 : decode cX0_changeSetting 19 = .ok (.if_icmp .lt 12, 3) := by decide +kernel
theorem dX0_changeSetting_22 : decode cX0_changeSetting 22 = .ok (.iload_n 2, 1) := by decide +kernel
theorem dX0_changeSetting_23 : decode cX0_changeSetting 23 = .ok (.getstatic 102, 3) := by decide +kernel
theorem dX0_changeSetting_26 : decode cX0_changeSetting 26 = .ok (.iload_n 1, 1) := by decide +kernel
theorem dX0_changeSetting_27 : decode cX0_changeSetting 27 = .ok (.iaload, 1) := by decide +kernel
theorem dX0_changeSetting_28 : decode cX0_changeSetting 28 = .ok (.if_icmp .le 7, 3) := by decide +kernel
theorem dX0_changeSetting_31 : decode cX0_changeSetting 31 = .ok (.sipush (-10001), 3) := by decide +kernel
theorem dX0_changeSetting_34 : decode cX0_changeSetting 34 = .ok (.ireturn, 1) := by decide +kernel
theorem dX0_changeSetting_35 : decode cX0_changeSetting 35 = .ok (.aload_n 0, 1) := by decide +kernel
theorem dX0_changeSetting_36 : decode cX0_changeSetting 36 = .ok (.getfield 9, 3) := by decide +kernel
theorem dX0_changeSetting_39 : decode cX0_changeSetting 39 = .ok (.iload_n 1, 1) := by decide +kernel
theorem dX0_changeSetting_40 : decode cX0_changeSetting 40 = .ok (.iaload, 1) := by decide +kernel
theorem dX0_changeSetting_41 : decode cX0_changeSetting 41 = .ok (.istore_n 3, 1) := by decide +kernel
theorem dX0_changeSetting_42 : decode cX0_changeSetting 42 = .ok (.aload_n 0, 1) := by decide +kernel
theorem dX0_changeSetting_43 : decode cX0_changeSetting 43 = .ok (.getfield 9, 3) := by decide +kernel
theorem dX0_changeSetting_46 : decode cX0_changeSetting 46 = .ok (.iload_n 1, 1) := by decide +kernel
theorem dX0_changeSetting_47 : decode cX0_changeSetting 47 = .ok (.iload_n 2, 1) := by decide +kernel
theorem dX0_changeSetting_48 : decode cX0_changeSetting 48 = .ok (.iastore, 1) := by decide +kernel
theorem dX0_changeSetting_49 : decode cX0_changeSetting 49 = .ok (.iload_n 3, 1) := by decide +kernel
theorem dX0_changeSetting_50 : decode cX0_changeSetting 50 = .ok (.ireturn, 1) := by decide +kernel
theorem dX0_repairPoints_0 : decode cX0_repairPoints 0 = .ok (.iload_n 1, 1) := by decide +kernel
theorem dX0_repairPoints_1 : decode cX0_repairPoints 1 = .ok (.iconst 1, 1) := by decide +kernel
theorem dX0_repairPoints_2 : decode cX0_repairPoints 2 = .ok (.if_icmp .lt 9, 3) := by decide +kernel
theorem dX0_repairPoints_5 : decode cX0_repairPoints 5 = .ok (.iload_n 1, 1) := by decide +kernel
theorem dX0_repairPoints_6 : decode cX0_repairPoints 6 = .ok (.bipush 100, 2) := by decide +kernel
theorem dX0_repairPoints_8 : decode cX0_repairPoints 8 = .ok (.if_icmp .le 7, 3) := by decide +kernel
theorem dX0_repairPoints_11 : decode cX0_repairPoints 11 = .ok (.sipush (-10001), 3) := by decide +kernel
theorem dX0_repairPoints_14 : decode cX0_repairPoints 14 = .ok (.ireturn, 1) := by decide +kernel
theorem dX0_repairPoints_15 : decode cX0_repairPoints 15 = .ok (.iload_n 1, 1) := by decide +kernel
theorem dX0_repairPoints_16 : decode cX0_repairPoints 16 = .ok (.aload_n 0, 1) := by decide +kernel
theorem dX0_repairPoints_17 : decode cX0_repairPoints 17 = .ok (.getfield 9, 3) := by decide +kernel
theorem dX0_repairPoints_20 : decode cX0_repairPoints 20 = .ok (.iconst 4, 1) := by decide +kernel
theorem dX0_repairPoints_21 : decode cX0_repairPoints 21 = .ok (.iaload, 1) := by decide +kernel
theorem dX0_repairPoints_22 : decode cX0_repairPoints 22 = .ok (.imul, 1) := by decide +kernel
theorem dX0_repairPoints_23 : decode cX0_repairPoints 23 = .ok (.istore_n 2, 1) := by decide +kernel
theorem dX0_repairPoints_24 : decode cX0_repairPoints 24 = .ok (.iload_n 2, 1) := by decide +kernel
theorem dX0_repairPoints_25 : decode cX0_repairPoints 25 = .ok (.aload_n 0, 1) := by decide +kernel
theorem dX0_repairPoints_26 : decode cX0_repairPoints 26 = .ok (.getfield 53, 3) := by decide +kernel
theorem dX0_repairPoints_29 : decode cX0_repairPoints 29 = .ok (.invokestatic 105, 3) := by decide +kernel
theorem dX0_repairPoints_32 : decode cX0_repairPoints 32 = .ok (.istore_n 3, 1) := by decide +kernel
theorem dX0_repairPoints_33 : decode cX0_repairPoints 33 = .ok (.iload_n 2, 1) := by decide +kernel
theorem dX0_repairPoints_34 : decode cX0_repairPoints 34 = .ok (.iload_n 3, 1) := by decide +kernel
theorem dX0_repairPoints_35 : decode cX0_repairPoints 35 = .ok (.isub, 1) := by decide +kernel
theorem dX0_repairPoints_36 : decode cX0_repairPoints 36 = .ok (.istore 4, 2) := by decide +kernel
theorem dX0_repairPoints_38 : decode cX0_repairPoints 38 = .ok (.aload_n 0, 1) := by decide +kernel
theorem dX0_repairPoints_39 : decode cX0_repairPoints 39 = .ok (.getfield 39, 3) := by decide +kernel
theorem dX0_repairPoints_42 : decode cX0_repairPoints 42 = .ok (.iload_n 1, 1) := by decide +kernel
theorem dX0_repairPoints_43 : decode cX0_repairPoints 43 = .ok (.iadd, 1) := by decide +kernel
theorem dX0_repairPoints_44 : decode cX0_repairPoints 44 = .ok (.bipush 100, 2) := by decide +kernel
theorem dX0_repairPoints_46 : decode cX0_repairPoints 46 = .ok (.if_icmp .gt 18, 3) := by decide +kernel
theorem dX0_repairPoints_49 : decode cX0_repairPoints 49 = .ok (.iload 4, 2) := by decide +kernel
theorem dX0_repairPoints_51 : decode cX0_repairPoints 51 = .ok (.ifCond .le 17, 3) := by decide +kernel
theorem dX0_repairPoints_54 : decode cX0_repairPoints 54 = .ok (.aload_n 0, 1) := by decide +kernel
theorem dX0_repairPoints_55 : decode cX0_repairPoints 55 = .ok (.getfield 27, 3) := by decide +kernel
theorem dX0_repairPoints_58 : decode cX0_repairPoints 58 = .ok (.invokestatic 68, 3) := by decide +kernel
theorem dX0_repairPoints_61 : decode cX0_repairPoints 61 = .ok (.ifCond .ne 7, 3) := by decide +kernel
theorem dX0_repairPoints_64 : decode cX0_repairPoints 64 = .ok (.sipush (-10002), 3) := by decide +kernel
theorem dX0_repairPoints_67 : decode cX0_repairPoints 67 = .ok (.ireturn, 1) := by decide +kernel
theorem dX0_repairPoints_68 : decode cX0_repairPoints 68 = .ok (.aload_n 0, 1) := by decide +kernel
theorem dX0_repairPoints_69 : decode cX0_repairPoints 69 = .ok (.dup, 1) := by decide +kernel
theorem dX0_repairPoints_70 : decode cX0_repairPoints 70 = .ok (.getfield 53, 3) := by decide +kernel
theorem dX0_repairPoints_73 : decode cX0_repairPoints 73 = .ok (.iload_n 3, 1) := by decide +kernel
theorem dX0_repairPoints_74 : decode cX0_repairPoints 74 = .ok (.isub, 1) := by decide +kernel
theorem dX0_repairPoints_75 : decode cX0_repairPoints 75 = .ok (.putfield 53, 3) := by decide +kernel
theorem dX0_repairPoints_78 : decode cX0_repairPoints 78 = .ok (.aload_n 0, 1) := by decide +kernel
theorem dX0_repairPoints_79 : decode cX0_repairPoints 79 = .ok (.dup, 1) := by decide +kernel
theorem dX0_repairPoints_80 : decode cX0_repairPoints 80 = .ok (.getfield 39, 3) := by decide +kernel
theorem dX0_repairPoints_83 : decode cX0_repairPoints 83 = .ok (.iload_n 1, 1) := by decide +kernel
theorem dX0_repairPoints_84 : decode cX0_repairPoints 84 = .ok (.iadd, 1) := by decide +kernel
theorem dX0_repairPoints_85 : decode cX0_repairPoints 85 = .ok (.putfield 39, 3) := by decide +kernel
theorem dX0_repairPoints_88 : decode cX0_repairPoints 88 = .ok (.aload_n 0, 1) := by decide +kernel
theorem dX0_repairPoints_89 : decode cX0_repairPoints 89 = .ok (.dup, 1) := by decide +kernel
theorem dX0_repairPoints_90 : decode cX0_repairPoints 90 = .ok (.getfield 65, 3) := by decide +kernel
theorem dX0_repairPoints_93 : decode cX0_repairPoints 93 = .ok (.iload_n 1, 1) := by decide +kernel
theorem dX0_repairPoints_94 : decode cX0_repairPoints 94 = .ok (.iadd, 1) := by decide +kernel
theorem dX0_repairPoints_95 : decode cX0_repairPoints 95 = .ok (.putfield 65, 3) := by decide +kernel
theorem dX0_repairPoints_98 : decode cX0_repairPoints 98 = .ok (.aload_n 0, 1) := by decide +kernel
theorem dX0_repairPoints_99 : decode cX0_repairPoints 99 = .ok (.iload 4, 2) := by decide +kernel
theorem dX0_repairPoints_101 : decode cX0_repairPoints 101 = .ok (.invokevirtual 110, 3) := by decide +kernel
theorem dX0_repairPoints_104 : decode cX0_repairPoints 104 = .ok (.iload 4, 2) := by decide +kernel
theorem dX0_repairPoints_106 : decode cX0_repairPoints 106 = .ok (.ireturn, 1) := by decide +kernel
theorem dX0_oweByUses_0 : decode cX0_oweByUses 0 = .ok (.aload_n 0, 1) := by decide +kernel
theorem dX0_oweByUses_1 : decode cX0_oweByUses 1 = .ok (.getfield 27, 3) := by decide +kernel
theorem dX0_oweByUses_4 : decode cX0_oweByUses 4 = .ok (.invokestatic 68, 3) := by decide +kernel
theorem dX0_oweByUses_7 : decode cX0_oweByUses 7 = .ok (.istore_n 2, 1) := by decide +kernel
theorem dX0_oweByUses_8 : decode cX0_oweByUses 8 = .ok (.iload_n 1, 1) := by decide +kernel
theorem dX0_oweByUses_9 : decode cX0_oweByUses 9 = .ok (.istore_n 3, 1) := by decide +kernel
theorem dX0_oweByUses_10 : decode cX0_oweByUses 10 = .ok (.iconst 0, 1) := by decide +kernel
theorem dX0_oweByUses_11 : decode cX0_oweByUses 11 = .ok (.istore 4, 2) := by decide +kernel
theorem dX0_oweByUses_13 : decode cX0_oweByUses 13 = .ok (.iload 4, 2) := by decide +kernel
theorem dX0_oweByUses_15 : decode cX0_oweByUses 15 = .ok (.bipush 8, 2) := by decide +kernel
theorem dX0_oweByUses_17 : decode cX0_oweByUses 17 = .ok (.if_icmp .ge 41, 3) := by decide +kernel
theorem dX0_oweByUses_20 : decode cX0_oweByUses 20 = .ok (.iload_n 1, 1) := by decide +kernel
theorem dX0_oweByUses_21 : decode cX0_oweByUses 21 = .ok (.aload_n 0, 1) := by decide +kernel
theorem dX0_oweByUses_22 : decode cX0_oweByUses 22 = .ok (.getfield 27, 3) := by decide +kernel
theorem dX0_oweByUses_25 : decode cX0_oweByUses 25 = .ok (.iload 4, 2) := by decide +kernel
theorem dX0_oweByUses_27 : decode cX0_oweByUses 27 = .ok (.iaload, 1) := by decide +kernel
theorem dX0_oweByUses_28 : decode cX0_oweByUses 28 = .ok (.imul, 1) := by decide +kernel
theorem dX0_oweByUses_29 : decode cX0_oweByUses 29 = .ok (.iload_n 2, 1) := by decide +kernel
theorem dX0_oweByUses_30 : decode cX0_oweByUses 30 = .ok (.invokestatic 114, 3) := by decide +kernel
theorem dX0_oweByUses_33 : decode cX0_oweByUses 33 = .ok (.istore 5, 2) := by decide +kernel
theorem dX0_oweByUses_35 : decode cX0_oweByUses 35 = .ok (.aload_n 0, 1) := by decide +kernel
theorem dX0_oweByUses_36 : decode cX0_oweByUses 36 = .ok (.getfield 21, 3) := by decide +kernel
theorem dX0_oweByUses_39 : decode cX0_oweByUses 39 = .ok (.iload 4, 2) := by decide +kernel
theorem dX0_oweByUses_41 : decode cX0_oweByUses 41 = .ok (.dup2, 1) := by decide +kernel
theorem dX0_oweByUses_42 : decode cX0_oweByUses 42 = .ok (.iaload, 1) := by decide +kernel
theorem dX0_oweByUses_43 : decode cX0_oweByUses 43 = .ok (.iload 5, 2) := by decide +kernel
theorem dX0_oweByUses_45 : decode cX0_oweByUses 45 = .ok (.iadd, 1) := by decide +kernel
theorem dX0_oweByUses_46 : decode cX0_oweByUses 46 = .ok (.iastore, 1) := by decide +kernel
theorem dX0_oweByUses_47 : decode cX0_oweByUses 47 = .ok (.iload_n 3, 1) := by decide +kernel
theorem dX0_oweByUses_48 : decode cX0_oweByUses 48 = .ok (.iload 5, 2) := by decide +kernel
theorem dX0_oweByUses_50 : decode cX0_oweByUses 50 = .ok (.isub, 1) := by decide +kernel
theorem dX0_oweByUses_51 : decode cX0_oweByUses 51 = .ok (.istore_n 3, 1) := by decide +kernel
theorem dX0_oweByUses_52 : decode cX0_oweByUses 52 = .ok (.iinc 4 1, 3) := by decide +kernel
theorem dX0_oweByUses_55 : decode cX0_oweByUses 55 = .ok (.goto (-42), 3) := by decide +kernel
theorem dX0_oweByUses_58 : decode cX0_oweByUses 58 = .ok (.iconst 0, 1) := by decide +kernel
theorem dX0_oweByUses_59 : decode cX0_oweByUses 59 = .ok (.istore 4, 2) := by decide +kernel
theorem dX0_oweByUses_61 : decode cX0_oweByUses 61 = .ok (.iload 4, 2) := by decide +kernel
theorem dX0_oweByUses_63 : decode cX0_oweByUses 63 = .ok (.bipush 8, 2) := by decide +kernel
theorem dX0_oweByUses_65 : decode cX0_oweByUses 65 = .ok (.if_icmp .ge 37, 3) := by decide +kernel
theorem dX0_oweByUses_68 : decode cX0_oweByUses 68 = .ok (.aload_n 0, 1) := by decide +kernel
theorem dX0_oweByUses_69 : decode cX0_oweByUses 69 = .ok (.getfield 27, 3) := by decide +kernel
theorem dX0_oweByUses_72 : decode cX0_oweByUses 72 = .ok (.iload 4, 2) := by decide +kernel
theorem dX0_oweByUses_74 : decode cX0_oweByUses 74 = .ok (.iaload, 1) := by decide +kernel
theorem dX0_oweByUses_75 : decode cX0_oweByUses 75 = .ok (.ifCond .le 21, 3) := by decide +kernel
theorem dX0_oweByUses_78 : decode cX0_oweByUses 78 = .ok (.iload_n 3, 1) := by decide +kernel
theorem dX0_oweByUses_79 : decode cX0_oweByUses 79 = .ok (.ifCond .le 17, 3) := by decide +kernel
theorem dX0_oweByUses_82 : decode cX0_oweByUses 82 = .ok (.aload_n 0, 1) := by decide +kernel
theorem dX0_oweByUses_83 : decode cX0_oweByUses 83 = .ok (.getfield 21, 3) := by decide +kernel
theorem dX0_oweByUses_86 : decode cX0_oweByUses 86 = .ok (.iload 4, 2) := by decide +kernel
theorem dX0_oweByUses_88 : decode cX0_oweByUses 88 = .ok (.dup2, 1) := by decide +kernel
theorem dX0_oweByUses_89 : decode cX0_oweByUses 89 = .ok (.iaload, 1) := by decide +kernel
theorem dX0_oweByUses_90 : decode cX0_oweByUses 90 = .ok (.iconst 1, 1) := by decide +kernel
theorem dX0_oweByUses_91 : decode cX0_oweByUses 91 = .ok (.iadd, 1) := by decide +kernel
theorem dX0_oweByUses_92 : decode cX0_oweByUses 92 = .ok (.iastore, 1) := by decide +kernel
theorem dX0_oweByUses_93 : decode cX0_oweByUses 93 = .ok (.iinc 3 (-1), 3) := by decide +kernel
theorem dX0_oweByUses_96 : decode cX0_oweByUses 96 = .ok (.iinc 4 1, 3) := by decide +kernel
theorem dX0_oweByUses_99 : decode cX0_oweByUses 99 = .ok (.goto (-38), 3) := by decide +kernel
theorem dX0_oweByUses_102 : decode cX0_oweByUses 102 = .ok (.return_, 1) := by decide +kernel
theorem dX0_pointsFromFund_0 : decode cX0_pointsFromFund 0 = .ok (.bipush 100, 2) := by decide +kernel
theorem dX0_pointsFromFund_2 : decode cX0_pointsFromFund 2 = .ok (.aload_n 0, 1) := by decide +kernel
theorem dX0_pointsFromFund_3 : decode cX0_pointsFromFund 3 = .ok (.getfield 39, 3) := by decide +kernel
theorem dX0_pointsFromFund_6 : decode cX0_pointsFromFund 6 = .ok (.isub, 1) := by decide +kernel
theorem dX0_pointsFromFund_7 : decode cX0_pointsFromFund 7 = .ok (.aload_n 0, 1) := by decide +kernel
theorem dX0_pointsFromFund_8 : decode cX0_pointsFromFund 8 = .ok (.getfield 53, 3) := by decide +kernel
theorem dX0_pointsFromFund_11 : decode cX0_pointsFromFund 11 = .ok (.aload_n 0, 1) := by decide +kernel
theorem dX0_pointsFromFund_12 : decode cX0_pointsFromFund 12 = .ok (.getfield 9, 3) := by decide +kernel
theorem dX0_pointsFromFund_15 : decode cX0_pointsFromFund 15 = .ok (.iconst 4, 1) := by decide +kernel
theorem dX0_pointsFromFund_16 : decode cX0_pointsFromFund 16 = .ok (.iaload, 1) := by decide +kernel
theorem dX0_pointsFromFund_17 : decode cX0_pointsFromFund 17 = .ok (.invokestatic 114, 3) := by decide +kernel
theorem dX0_pointsFromFund_20 : decode cX0_pointsFromFund 20 = .ok (.invokestatic 105, 3) := by decide +kernel
theorem dX0_pointsFromFund_23 : decode cX0_pointsFromFund 23 = .ok (.ireturn, 1) := by decide +kernel
theorem dX0_closeSeason_0 : decode cX0_closeSeason 0 = .ok (.aload_n 0, 1) := by decide +kernel
theorem dX0_closeSeason_1 : decode cX0_closeSeason 1 = .ok (.getfield 47, 3) := by decide +kernel
theorem dX0_closeSeason_4 : decode cX0_closeSeason 4 = .ok (.ifCond .ne 7, 3) := by decide +kernel
theorem dX0_closeSeason_7 : decode cX0_closeSeason 7 = .ok (.sipush (-10002), 3) := by decide +kernel
theorem dX0_closeSeason_10 : decode cX0_closeSeason 10 = .ok (.ireturn, 1) := by decide +kernel
theorem dX0_closeSeason_11 : decode cX0_closeSeason 11 = .ok (.aload_n 0, 1) := by decide +kernel
theorem dX0_closeSeason_12 : decode cX0_closeSeason 12 = .ok (.getfield 50, 3) := by decide +kernel
theorem dX0_closeSeason_15 : decode cX0_closeSeason 15 = .ok (.sipush 999, 3) := by decide +kernel
theorem dX0_closeSeason_18 : decode cX0_closeSeason 18 = .ok (.if_icmp .lt 7, 3) := by decide +kernel
theorem dX0_closeSeason_21 : decode cX0_closeSeason 21 = .ok (.sipush (-10003), 3) := by decide +kernel
theorem dX0_closeSeason_24 : decode cX0_closeSeason 24 = .ok (.ireturn, 1) := by decide +kernel
theorem dX0_closeSeason_25 : decode cX0_closeSeason 25 = .ok (.aload_n 0, 1) := by decide +kernel
theorem dX0_closeSeason_26 : decode cX0_closeSeason 26 = .ok (.invokevirtual 117, 3) := by decide +kernel
theorem dX0_closeSeason_29 : decode cX0_closeSeason 29 = .ok (.ireturn, 1) := by decide +kernel
theorem dX0_endSeason_0 : decode cX0_endSeason 0 = .ok (.aload_n 0, 1) := by decide +kernel
theorem dX0_endSeason_1 : decode cX0_endSeason 1 = .ok (.invokevirtual 121, 3) := by decide +kernel
theorem dX0_endSeason_4 : decode cX0_endSeason 4 = .ok (.istore_n 1, 1) := by decide +kernel
theorem dX0_endSeason_5 : decode cX0_endSeason 5 = .ok (.aload_n 0, 1) := by decide +kernel
theorem dX0_endSeason_6 : decode cX0_endSeason 6 = .ok (.iload_n 1, 1) := by decide +kernel
theorem dX0_endSeason_7 : decode cX0_endSeason 7 = .ok (.invokevirtual 83, 3) := by decide +kernel
theorem dX0_endSeason_10 : decode cX0_endSeason 10 = .ok (.istore_n 2, 1) := by decide +kernel
theorem dX0_endSeason_11 : decode cX0_endSeason 11 = .ok (.aload_n 0, 1) := by decide +kernel
theorem dX0_endSeason_12 : decode cX0_endSeason 12 = .ok (.getfield 56, 3) := by decide +kernel
theorem dX0_endSeason_15 : decode cX0_endSeason 15 = .ok (.istore_n 3, 1) := by decide +kernel
theorem dX0_endSeason_16 : decode cX0_endSeason 16 = .ok (.aload_n 0, 1) := by decide +kernel
theorem dX0_endSeason_17 : decode cX0_endSeason 17 = .ok (.invokevirtual 124, 3) := by decide +kernel
theorem dX0_endSeason_20 : decode cX0_endSeason 20 = .ok (.aload_n 0, 1) := by decide +kernel
theorem dX0_endSeason_21 : decode cX0_endSeason 21 = .ok (.dup, 1) := by decide +kernel
theorem dX0_endSeason_22 : decode cX0_endSeason 22 = .ok (.getfield 59, 3) := by decide +kernel
theorem dX0_endSeason_25 : decode cX0_endSeason 25 = .ok (.iload_n 2, 1) := by decide +kernel
theorem dX0_endSeason_26 : decode cX0_endSeason 26 = .ok (.iadd, 1) := by decide +kernel
theorem dX0_endSeason_27 : decode cX0_endSeason 27 = .ok (.putfield 59, 3) := by decide +kernel
theorem dX0_endSeason_30 : decode cX0_endSeason 30 = .ok (.aload_n 0, 1) := by decide +kernel
theorem dX0_endSeason_31 : decode cX0_endSeason 31 = .ok (.dup, 1) := by decide +kernel
theorem dX0_endSeason_32 : decode cX0_endSeason 32 = .ok (.getfield 62, 3) := by decide +kernel
theorem dX0_endSeason_35 : decode cX0_endSeason 35 = .ok (.iconst 0, 1) := by decide +kernel
theorem dX0_endSeason_36 : decode cX0_endSeason 36 = .ok (.iload_n 2, 1) := by decide +kernel
theorem dX0_endSeason_37 : decode cX0_endSeason 37 = .ok (.aload_n 0, 1) := by decide +kernel
theorem dX0_endSeason_38 : decode cX0_endSeason 38 = .ok (.getfield 39, 3) := by decide +kernel
theorem dX0_endSeason_41 : decode cX0_endSeason 41 = .ok (.isub, 1) := by decide +kernel
theorem dX0_endSeason_42 : decode cX0_endSeason 42 = .ok (.invokestatic 127, 3) := by decide +kernel
theorem dX0_endSeason_45 : decode cX0_endSeason 45 = .ok (.iadd, 1) := by decide +kernel
theorem dX0_endSeason_46 : decode cX0_endSeason 46 = .ok (.putfield 62, 3) := by decide +kernel
theorem dX0_endSeason_49 : decode cX0_endSeason 49 = .ok (.aload_n 0, 1) := by decide +kernel
theorem dX0_endSeason_50 : decode cX0_endSeason 50 = .ok (.iconst 0, 1) := by decide +kernel
theorem dX0_endSeason_51 : decode cX0_endSeason 51 = .ok (.aload_n 0, 1) := by decide +kernel
theorem dX0_endSeason_52 : decode cX0_endSeason 52 = .ok (.getfield 39, 3) := by decide +kernel
theorem dX0_endSeason_55 : decode cX0_endSeason 55 = .ok (.iload_n 2, 1) := by decide +kernel
theorem dX0_endSeason_56 : decode cX0_endSeason 56 = .ok (.isub, 1) := by decide +kernel
theorem dX0_endSeason_57 : decode cX0_endSeason 57 = .ok (.invokestatic 127, 3) := by decide +kernel
theorem dX0_endSeason_60 : decode cX0_endSeason 60 = .ok (.putfield 39, 3) := by decide +kernel
theorem dX0_endSeason_63 : decode cX0_endSeason 63 = .ok (.aload_n 0, 1) := by decide +kernel
theorem dX0_endSeason_64 : decode cX0_endSeason 64 = .ok (.bipush 100, 2) := by decide +kernel
theorem dX0_endSeason_66 : decode cX0_endSeason 66 = .ok (.aload_n 0, 1) := by decide +kernel
theorem dX0_endSeason_67 : decode cX0_endSeason 67 = .ok (.getfield 39, 3) := by decide +kernel
theorem dX0_endSeason_70 : decode cX0_endSeason 70 = .ok (.aload_n 0, 1) := by decide +kernel
theorem dX0_endSeason_71 : decode cX0_endSeason 71 = .ok (.getfield 9, 3) := by decide +kernel
theorem dX0_endSeason_74 : decode cX0_endSeason 74 = .ok (.iconst 2, 1) := by decide +kernel
theorem dX0_endSeason_75 : decode cX0_endSeason 75 = .ok (.iaload, 1) := by decide +kernel
theorem dX0_endSeason_76 : decode cX0_endSeason 76 = .ok (.iadd, 1) := by decide +kernel
theorem dX0_endSeason_77 : decode cX0_endSeason 77 = .ok (.invokestatic 105, 3) := by decide +kernel
theorem dX0_endSeason_80 : decode cX0_endSeason 80 = .ok (.putfield 39, 3) := by decide +kernel
theorem dX0_endSeason_83 : decode cX0_endSeason 83 = .ok (.aload_n 0, 1) := by decide +kernel
theorem dX0_endSeason_84 : decode cX0_endSeason 84 = .ok (.iload_n 1, 1) := by decide +kernel
theorem dX0_endSeason_85 : decode cX0_endSeason 85 = .ok (.iload_n 2, 1) := by decide +kernel
theorem dX0_endSeason_86 : decode cX0_endSeason 86 = .ok (.invokevirtual 130, 3) := by decide +kernel
theorem dX0_endSeason_89 : decode cX0_endSeason 89 = .ok (.aload_n 0, 1) := by decide +kernel
theorem dX0_endSeason_90 : decode cX0_endSeason 90 = .ok (.invokevirtual 134, 3) := by decide +kernel
theorem dX0_endSeason_93 : decode cX0_endSeason 93 = .ok (.aload_n 0, 1) := by decide +kernel
theorem dX0_endSeason_94 : decode cX0_endSeason 94 = .ok (.dup, 1) := by decide +kernel
theorem dX0_endSeason_95 : decode cX0_endSeason 95 = .ok (.getfield 50, 3) := by decide +kernel
theorem dX0_endSeason_98 : decode cX0_endSeason 98 = .ok (.iconst 1, 1) := by decide +kernel
theorem dX0_endSeason_99 : decode cX0_endSeason 99 = .ok (.iadd, 1) := by decide +kernel
theorem dX0_endSeason_100 : decode cX0_endSeason 100 = .ok (.putfield 50, 3) := by decide +kernel
theorem dX0_endSeason_103 : decode cX0_endSeason 103 = .ok (.aload_n 0, 1) := by decide +kernel
theorem dX0_endSeason_104 : decode cX0_endSeason 104 = .ok (.iconst 0, 1) := by decide +kernel
theorem dX0_endSeason_105 : decode cX0_endSeason 105 = .ok (.putfield 56, 3) := by decide +kernel
theorem dX0_endSeason_108 : decode cX0_endSeason 108 = .ok (.aload_n 0, 1) := by decide +kernel
theorem dX0_endSeason_109 : decode cX0_endSeason 109 = .ok (.iload_n 3, 1) := by decide +kernel
theorem dX0_endSeason_110 : decode cX0_endSeason 110 = .ok (.invokevirtual 137, 3) := by decide +kernel
theorem dX0_endSeason_113 : decode cX0_endSeason 113 = .ok (.aload_n 0, 1) := by decide +kernel
theorem dX0_endSeason_114 : decode cX0_endSeason 114 = .ok (.invokevirtual 140, 3) := by decide +kernel
theorem dX0_endSeason_117 : decode cX0_endSeason 117 = .ok (.aload_n 0, 1) := by decide +kernel
theorem dX0_endSeason_118 : decode cX0_endSeason 118 = .ok (.invokevirtual 143, 3) := by decide +kernel
theorem dX0_endSeason_121 : decode cX0_endSeason 121 = .ok (.iload_n 2, 1) := by decide +kernel
theorem dX0_endSeason_122 : decode cX0_endSeason 122 = .ok (.ireturn, 1) := by decide +kernel
theorem dX0_oweCharges_0 : decode cX0_oweCharges 0 = .ok (.iconst 0, 1) := by decide +kernel
theorem dX0_oweCharges_1 : decode cX0_oweCharges 1 = .ok (.istore_n 1, 1) := by decide +kernel
theorem dX0_oweCharges_2 : decode cX0_oweCharges 2 = .ok (.iconst 0, 1) := by decide +kernel
theorem dX0_oweCharges_3 : decode cX0_oweCharges 3 = .ok (.istore_n 2, 1) := by decide +kernel
theorem dX0_oweCharges_4 : decode cX0_oweCharges 4 = .ok (.aload_n 0, 1) := by decide +kernel
theorem dX0_oweCharges_5 : decode cX0_oweCharges 5 = .ok (.getfield 47, 3) := by decide +kernel
theorem dX0_oweCharges_8 : decode cX0_oweCharges 8 = .ok (.iconst 1, 1) := by decide +kernel
theorem dX0_oweCharges_9 : decode cX0_oweCharges 9 = .ok (.if_icmp .ge 7, 3) := by decide +kernel
theorem dX0_oweCharges_12 : decode cX0_oweCharges 12 = .ok (.iconst 0, 1) := by decide +kernel
theorem dX0_oweCharges_13 : decode cX0_oweCharges 13 = .ok (.goto 12, 3) := by decide +kernel
theorem dX0_oweCharges_16 : decode cX0_oweCharges 16 = .ok (.aload_n 0, 1) := by decide +kernel
theorem dX0_oweCharges_17 : decode cX0_oweCharges 17 = .ok (.getfield 50, 3) := by decide +kernel
theorem dX0_oweCharges_20 : decode cX0_oweCharges 20 = .ok (.aload_n 0, 1) := by decide +kernel
theorem dX0_oweCharges_21 : decode cX0_oweCharges 21 = .ok (.getfield 47, 3) := by decide +kernel
theorem dX0_oweCharges_24 : decode cX0_oweCharges 24 = .ok (.irem, 1) := by decide +kernel
theorem dX0_oweCharges_25 : decode cX0_oweCharges 25 = .ok (.istore_n 3, 1) := by decide +kernel
theorem dX0_oweCharges_26 : decode cX0_oweCharges 26 = .ok (.iconst 0, 1) := by decide +kernel
theorem dX0_oweCharges_27 : decode cX0_oweCharges 27 = .ok (.istore 4, 2) := by decide +kernel
theorem dX0_oweCharges_29 : decode cX0_oweCharges 29 = .ok (.iload 4, 2) := by decide +kernel
theorem dX0_oweCharges_31 : decode cX0_oweCharges 31 = .ok (.aload_n 0, 1) := by decide +kernel
theorem dX0_oweCharges_32 : decode cX0_oweCharges 32 = .ok (.getfield 47, 3) := by decide +kernel
theorem dX0_oweCharges_35 : decode cX0_oweCharges 35 = .ok (.if_icmp .ge 66, 3) := by decide +kernel
theorem dX0_oweCharges_38 : decode cX0_oweCharges 38 = .ok (.aload_n 0, 1) := by decide +kernel
theorem dX0_oweCharges_39 : decode cX0_oweCharges 39 = .ok (.iload_n 3, 1) := by decide +kernel
theorem dX0_oweCharges_40 : decode cX0_oweCharges 40 = .ok (.invokevirtual 86, 3) := by decide +kernel
theorem dX0_oweCharges_43 : decode cX0_oweCharges 43 = .ok (.ifCond .eq 34, 3) := by decide +kernel
theorem dX0_oweCharges_46 : decode cX0_oweCharges 46 = .ok (.iload_n 1, 1) := by decide +kernel
theorem dX0_oweCharges_47 : decode cX0_oweCharges 47 = .ok (.aload_n 0, 1) := by decide +kernel
theorem dX0_oweCharges_48 : decode cX0_oweCharges 48 = .ok (.getfield 18, 3) := by decide +kernel
theorem dX0_oweCharges_51 : decode cX0_oweCharges 51 = .ok (.iload_n 3, 1) := by decide +kernel
theorem dX0_oweCharges_52 : decode cX0_oweCharges 52 = .ok (.iaload, 1) := by decide +kernel
theorem dX0_oweCharges_53 : decode cX0_oweCharges 53 = .ok (.iadd, 1) := by decide +kernel
theorem dX0_oweCharges_54 : decode cX0_oweCharges 54 = .ok (.istore_n 1, 1) := by decide +kernel
theorem dX0_oweCharges_55 : decode cX0_oweCharges 55 = .ok (.aload_n 0, 1) := by decide +kernel
theorem dX0_oweCharges_56 : decode cX0_oweCharges 56 = .ok (.getfield 21, 3) := by decide +kernel
theorem dX0_oweCharges_59 : decode cX0_oweCharges 59 = .ok (.iload_n 3, 1) := by decide +kernel
theorem dX0_oweCharges_60 : decode cX0_oweCharges 60 = .ok (.dup2, 1) := by decide +kernel
theorem dX0_oweCharges_61 : decode cX0_oweCharges 61 = .ok (.iaload, 1) := by decide +kernel
theorem dX0_oweCharges_62 : decode cX0_oweCharges 62 = .ok (.aload_n 0, 1) := by decide +kernel
theorem dX0_oweCharges_63 : decode cX0_oweCharges 63 = .ok (.iload_n 1, 1) := by decide +kernel
theorem dX0_oweCharges_64 : decode cX0_oweCharges 64 = .ok (.invokevirtual 83, 3) := by decide +kernel
theorem dX0_oweCharges_67 : decode cX0_oweCharges 67 = .ok (.iload_n 2, 1) := by decide +kernel
theorem dX0_oweCharges_68 : decode cX0_oweCharges 68 = .ok (.isub, 1) := by decide +kernel
theorem dX0_oweCharges_69 : decode cX0_oweCharges 69 = .ok (.iadd, 1) := by decide +kernel
theorem dX0_oweCharges_70 : decode cX0_oweCharges 70 = .ok (.iastore, 1) := by decide +kernel
theorem dX0_oweCharges_71 : decode cX0_oweCharges 71 = .ok (.aload_n 0, 1) := by decide +kernel
theorem dX0_oweCharges_72 : decode cX0_oweCharges 72 = .ok (.iload_n 1, 1) := by decide +kernel
theorem dX0_oweCharges_73 : decode cX0_oweCharges 73 = .ok (.invokevirtual 83, 3) := by decide +kernel
theorem dX0_oweCharges_76 : decode cX0_oweCharges 76 = .ok (.istore_n 2, 1) := by decide +kernel
theorem dX0_oweCharges_77 : decode cX0_oweCharges 77 = .ok (.iload_n 3, 1) := by decide +kernel
theorem dX0_oweCharges_78 : decode cX0_oweCharges 78 = .ok (.iconst 1, 1) := by decide +kernel
theorem dX0_oweCharges_79 : decode cX0_oweCharges 79 = .ok (.iadd, 1) := by decide +kernel
theorem dX0_oweCharges_80 : decode cX0_oweCharges 80 = .ok (.aload_n 0, 1) := by decide +kernel
theorem dX0_oweCharges_81 : decode cX0_oweCharges 81 = .ok (.getfield 47, 3) := by decide +kernel
theorem dX0_oweCharges_84 : decode cX0_oweCharges 84 = .ok (.if_icmp .ge 9, 3) := by decide +kernel
theorem dX0_oweCharges_87 : decode cX0_oweCharges 87 = .ok (.iload_n 3, 1) := by decide +kernel
theorem dX0_oweCharges_88 : decode cX0_oweCharges 88 = .ok (.iconst 1, 1) := by decide +kernel
theorem dX0_oweCharges_89 : decode cX0_oweCharges 89 = .ok (.iadd, 1) := by decide +kernel
theorem dX0_oweCharges_90 : decode cX0_oweCharges 90 = .ok (.goto 4, 3) := by decide +kernel
theorem dX0_oweCharges_93 : decode cX0_oweCharges 93 = .ok (.iconst 0, 1) := by decide +kernel
theorem dX0_oweCharges_94 : decode cX0_oweCharges 94 = .ok (.istore_n 3, 1) := by decide +kernel
theorem dX0_oweCharges_95 : decode cX0_oweCharges 95 = .ok (.iinc 4 1, 3) := by decide +kernel
theorem dX0_oweCharges_98 : decode cX0_oweCharges 98 = .ok (.goto (-69), 3) := by decide +kernel
theorem dX0_oweCharges_101 : decode cX0_oweCharges 101 = .ok (.return_, 1) := by decide +kernel
theorem dX0_keepSeason_0 : decode cX0_keepSeason 0 = .ok (.aload_n 0, 1) := by decide +kernel
theorem dX0_keepSeason_1 : decode cX0_keepSeason 1 = .ok (.getfield 50, 3) := by decide +kernel
theorem dX0_keepSeason_4 : decode cX0_keepSeason 4 = .ok (.bipush 6, 2) := by decide +kernel
theorem dX0_keepSeason_6 : decode cX0_keepSeason 6 = .ok (.irem, 1) := by decide +kernel
theorem dX0_keepSeason_7 : decode cX0_keepSeason 7 = .ok (.iconst 5, 1) := by decide +kernel
theorem dX0_keepSeason_8 : decode cX0_keepSeason 8 = .ok (.imul, 1) := by decide +kernel
theorem dX0_keepSeason_9 : decode cX0_keepSeason 9 = .ok (.istore_n 3, 1) := by decide +kernel
theorem dX0_keepSeason_10 : decode cX0_keepSeason 10 = .ok (.aload_n 0, 1) := by decide +kernel
theorem dX0_keepSeason_11 : decode cX0_keepSeason 11 = .ok (.getfield 36, 3) := by decide +kernel
theorem dX0_keepSeason_14 : decode cX0_keepSeason 14 = .ok (.iload_n 3, 1) := by decide +kernel
theorem dX0_keepSeason_15 : decode cX0_keepSeason 15 = .ok (.aload_n 0, 1) := by decide +kernel
theorem dX0_keepSeason_16 : decode cX0_keepSeason 16 = .ok (.getfield 50, 3) := by decide +kernel
theorem dX0_keepSeason_19 : decode cX0_keepSeason 19 = .ok (.iastore, 1) := by decide +kernel
theorem dX0_keepSeason_20 : decode cX0_keepSeason 20 = .ok (.aload_n 0, 1) := by decide +kernel
theorem dX0_keepSeason_21 : decode cX0_keepSeason 21 = .ok (.getfield 36, 3) := by decide +kernel
theorem dX0_keepSeason_24 : decode cX0_keepSeason 24 = .ok (.iload_n 3, 1) := by decide +kernel
theorem dX0_keepSeason_25 : decode cX0_keepSeason 25 = .ok (.iconst 1, 1) := by decide +kernel
theorem dX0_keepSeason_26 : decode cX0_keepSeason 26 = .ok (.iadd, 1) := by decide +kernel
theorem dX0_keepSeason_27 : decode cX0_keepSeason 27 = .ok (.iload_n 1, 1) := by decide +kernel
theorem dX0_keepSeason_28 : decode cX0_keepSeason 28 = .ok (.iastore, 1) := by decide +kernel
theorem dX0_keepSeason_29 : decode cX0_keepSeason 29 = .ok (.aload_n 0, 1) := by decide +kernel
theorem dX0_keepSeason_30 : decode cX0_keepSeason 30 = .ok (.getfield 36, 3) := by decide +kernel
theorem dX0_keepSeason_33 : decode cX0_keepSeason 33 = .ok (.iload_n 3, 1) := by decide +kernel
theorem dX0_keepSeason_34 : decode cX0_keepSeason 34 = .ok (.iconst 2, 1) := by decide +kernel
theorem dX0_keepSeason_35 : decode cX0_keepSeason 35 = .ok (.iadd, 1) := by decide +kernel
theorem dX0_keepSeason_36 : decode cX0_keepSeason 36 = .ok (.iload_n 2, 1) := by decide +kernel
theorem dX0_keepSeason_37 : decode cX0_keepSeason 37 = .ok (.iastore, 1) := by decide +kernel
theorem dX0_keepSeason_38 : decode cX0_keepSeason 38 = .ok (.aload_n 0, 1) := by decide +kernel
theorem dX0_keepSeason_39 : decode cX0_keepSeason 39 = .ok (.getfield 36, 3) := by decide +kernel
theorem dX0_keepSeason_42 : decode cX0_keepSeason 42 = .ok (.iload_n 3, 1) := by decide +kernel
theorem dX0_keepSeason_43 : decode cX0_keepSeason 43 = .ok (.iconst 3, 1) := by decide +kernel
theorem dX0_keepSeason_44 : decode cX0_keepSeason 44 = .ok (.iadd, 1) := by decide +kernel
theorem dX0_keepSeason_45 : decode cX0_keepSeason 45 = .ok (.aload_n 0, 1) := by decide +kernel
theorem dX0_keepSeason_46 : decode cX0_keepSeason 46 = .ok (.getfield 39, 3) := by decide +kernel
theorem dX0_keepSeason_49 : decode cX0_keepSeason 49 = .ok (.iastore, 1) := by decide +kernel
theorem dX0_keepSeason_50 : decode cX0_keepSeason 50 = .ok (.aload_n 0, 1) := by decide +kernel
theorem dX0_keepSeason_51 : decode cX0_keepSeason 51 = .ok (.getfield 36, 3) := by decide +kernel
theorem dX0_keepSeason_54 : decode cX0_keepSeason 54 = .ok (.iload_n 3, 1) := by decide +kernel
theorem dX0_keepSeason_55 : decode cX0_keepSeason 55 = .ok (.iconst 4, 1) := by decide +kernel
theorem dX0_keepSeason_56 : decode cX0_keepSeason 56 = .ok (.iadd, 1) := by decide +kernel
theorem dX0_keepSeason_57 : decode cX0_keepSeason 57 = .ok (.aload_n 0, 1) := by decide +kernel
theorem dX0_keepSeason_58 : decode cX0_keepSeason 58 = .ok (.getfield 56, 3) := by decide +kernel
theorem dX0_keepSeason_61 : decode cX0_keepSeason 61 = .ok (.iastore, 1) := by decide +kernel
theorem dX0_keepSeason_62 : decode cX0_keepSeason 62 = .ok (.return_, 1) := by decide +kernel
theorem dX0_bookUses_0 : decode cX0_bookUses 0 = .ok (.iconst 0, 1) := by decide +kernel
theorem dX0_bookUses_1 : decode cX0_bookUses 1 = .ok (.istore_n 1, 1) := by decide +kernel
theorem dX0_bookUses_2 : decode cX0_bookUses 2 = .ok (.iload_n 1, 1) := by decide +kernel
theorem dX0_bookUses_3 : decode cX0_bookUses 3 = .ok (.bipush 8, 2) := by decide +kernel
theorem dX0_bookUses_5 : decode cX0_bookUses 5 = .ok (.if_icmp .ge 46, 3) := by decide +kernel
theorem dX0_bookUses_8 : decode cX0_bookUses 8 = .ok (.aload_n 0, 1) := by decide +kernel
theorem dX0_bookUses_9 : decode cX0_bookUses 9 = .ok (.getfield 27, 3) := by decide +kernel
theorem dX0_bookUses_12 : decode cX0_bookUses 12 = .ok (.iload_n 1, 1) := by decide +kernel
theorem dX0_bookUses_13 : decode cX0_bookUses 13 = .ok (.dup2, 1) := by decide +kernel
theorem dX0_bookUses_14 : decode cX0_bookUses 14 = .ok (.iaload, 1) := by decide +kernel
theorem dX0_bookUses_15 : decode cX0_bookUses 15 = .ok (.aload_n 0, 1) := by decide +kernel
theorem dX0_bookUses_16 : decode cX0_bookUses 16 = .ok (.getfield 18, 3) := by decide +kernel
theorem dX0_bookUses_19 : decode cX0_bookUses 19 = .ok (.iload_n 1, 1) := by decide +kernel
theorem dX0_bookUses_20 : decode cX0_bookUses 20 = .ok (.iaload, 1) := by decide +kernel
theorem dX0_bookUses_21 : decode cX0_bookUses 21 = .ok (.iadd, 1) := by decide +kernel
theorem dX0_bookUses_22 : decode cX0_bookUses 22 = .ok (.iastore, 1) := by decide +kernel
theorem dX0_bookUses_23 : decode cX0_bookUses 23 = .ok (.aload_n 0, 1) := by decide +kernel
theorem dX0_bookUses_24 : decode cX0_bookUses 24 = .ok (.getfield 30, 3) := by decide +kernel
theorem dX0_bookUses_27 : decode cX0_bookUses 27 = .ok (.iload_n 1, 1) := by decide +kernel
theorem dX0_bookUses_28 : decode cX0_bookUses 28 = .ok (.dup2, 1) := by decide +kernel
theorem dX0_bookUses_29 : decode cX0_bookUses 29 = .ok (.iaload, 1) := by decide +kernel
theorem dX0_bookUses_30 : decode cX0_bookUses 30 = .ok (.aload_n 0, 1) := by decide +kernel
theorem dX0_bookUses_31 : decode cX0_bookUses 31 = .ok (.getfield 18, 3) := by decide +kernel
theorem dX0_bookUses_34 : decode cX0_bookUses 34 = .ok (.iload_n 1, 1) := by decide +kernel
theorem dX0_bookUses_35 : decode cX0_bookUses 35 = .ok (.iaload, 1) := by decide +kernel
theorem dX0_bookUses_36 : decode cX0_bookUses 36 = .ok (.iadd, 1) := by decide +kernel
theorem dX0_bookUses_37 : decode cX0_bookUses 37 = .ok (.iastore, 1) := by decide +kernel
theorem dX0_bookUses_38 : decode cX0_bookUses 38 = .ok (.aload_n 0, 1) := by decide +kernel
theorem dX0_bookUses_39 : decode cX0_bookUses 39 = .ok (.getfield 18, 3) := by decide +kernel
theorem dX0_bookUses_42 : decode cX0_bookUses 42 = .ok (.iload_n 1, 1) := by decide +kernel
theorem dX0_bookUses_43 : decode cX0_bookUses 43 = .ok (.iconst 0, 1) := by decide +kernel
theorem dX0_bookUses_44 : decode cX0_bookUses 44 = .ok (.iastore, 1) := by decide +kernel
theorem dX0_bookUses_45 : decode cX0_bookUses 45 = .ok (.iinc 1 1, 3) := by decide +kernel
theorem dX0_bookUses_48 : decode cX0_bookUses 48 = .ok (.goto (-46), 3) := by decide +kernel
theorem dX0_bookUses_51 : decode cX0_bookUses 51 = .ok (.return_, 1) := by decide +kernel
theorem dX0_noteSeasonsOut_0 : decode cX0_noteSeasonsOut 0 = .ok (.iconst 0, 1) := by decide +kernel
theorem dX0_noteSeasonsOut_1 : decode cX0_noteSeasonsOut 1 = .ok (.istore_n 1, 1) := by decide +kernel
theorem dX0_noteSeasonsOut_2 : decode cX0_noteSeasonsOut 2 = .ok (.iload_n 1, 1) := by decide +kernel
theorem dX0_noteSeasonsOut_3 : decode cX0_noteSeasonsOut 3 = .ok (.bipush 8, 2) := by decide +kernel
theorem dX0_noteSeasonsOut_5 : decode cX0_noteSeasonsOut 5 = .ok (.if_icmp .ge 27, 3) := by decide +kernel
theorem dX0_noteSeasonsOut_8 : decode cX0_noteSeasonsOut 8 = .ok (.aload_n 0, 1) := by decide +kernel
theorem dX0_noteSeasonsOut_9 : decode cX0_noteSeasonsOut 9 = .ok (.iload_n 1, 1) := by decide +kernel
theorem dX0_noteSeasonsOut_10 : decode cX0_noteSeasonsOut 10 = .ok (.invokevirtual 93, 3) := by decide +kernel
theorem dX0_noteSeasonsOut_13 : decode cX0_noteSeasonsOut 13 = .ok (.ifCond .eq 13, 3) := by decide +kernel
theorem dX0_noteSeasonsOut_16 : decode cX0_noteSeasonsOut 16 = .ok (.aload_n 0, 1) := by decide +kernel
theorem dX0_noteSeasonsOut_17 : decode cX0_noteSeasonsOut 17 = .ok (.getfield 33, 3) := by decide +kernel
theorem dX0_noteSeasonsOut_20 : decode cX0_noteSeasonsOut 20 = .ok (.iload_n 1, 1) := by decide +kernel
theorem dX0_noteSeasonsOut_21 : decode cX0_noteSeasonsOut 21 = .ok (.dup2, 1) := by decide +kernel
theorem dX0_noteSeasonsOut_22 : decode cX0_noteSeasonsOut 22 = .ok (.iaload, 1) := by decide +kernel
theorem dX0_noteSeasonsOut_23 : decode cX0_noteSeasonsOut 23 = .ok (.iconst 1, 1) := by decide +kernel
theorem dX0_noteSeasonsOut_24 : decode cX0_noteSeasonsOut 24 = .ok (.iadd, 1) := by decide +kernel
theorem dX0_noteSeasonsOut_25 : decode cX0_noteSeasonsOut 25 = .ok (.iastore, 1) := by decide +kernel
theorem dX0_noteSeasonsOut_26 : decode cX0_noteSeasonsOut 26 = .ok (.iinc 1 1, 3) := by decide +kernel
theorem dX0_noteSeasonsOut_29 : decode cX0_noteSeasonsOut 29 = .ok (.goto (-27), 3) := by decide +kernel
theorem dX0_noteSeasonsOut_32 : decode cX0_noteSeasonsOut 32 = .ok (.return_, 1) := by decide +kernel
theorem dX0_excludeInTurn_0 : decode cX0_excludeInTurn 0 = .ok (.aload_n 0, 1) := by decide +kernel
theorem dX0_excludeInTurn_1 : decode cX0_excludeInTurn 1 = .ok (.invokevirtual 146, 3) := by decide +kernel
theorem dX0_excludeInTurn_4 : decode cX0_excludeInTurn 4 = .ok (.istore_n 2, 1) := by decide +kernel
theorem dX0_excludeInTurn_5 : decode cX0_excludeInTurn 5 = .ok (.iconst 0, 1) := by decide +kernel
theorem dX0_excludeInTurn_6 : decode cX0_excludeInTurn 6 = .ok (.istore_n 3, 1) := by decide +kernel
theorem dX0_excludeInTurn_7 : decode cX0_excludeInTurn 7 = .ok (.iload_n 3, 1) := by decide +kernel
theorem dX0_excludeInTurn_8 : decode cX0_excludeInTurn 8 = .ok (.iload_n 2, 1) := by decide +kernel
theorem dX0_excludeInTurn_9 : decode cX0_excludeInTurn 9 = .ok (.if_icmp .ge 52, 3) := by decide +kernel
theorem dX0_excludeInTurn_12 : decode cX0_excludeInTurn 12 = .ok (.aload_n 0, 1) := by decide +kernel
theorem dX0_excludeInTurn_13 : decode cX0_excludeInTurn 13 = .ok (.iload_n 1, 1) := by decide +kernel
theorem dX0_excludeInTurn_14 : decode cX0_excludeInTurn 14 = .ok (.aload_n 0, 1) := by decide +kernel
theorem dX0_excludeInTurn_15 : decode cX0_excludeInTurn 15 = .ok (.getfield 56, 3) := by decide +kernel
theorem dX0_excludeInTurn_18 : decode cX0_excludeInTurn 18 = .ok (.ior, 1) := by decide +kernel
theorem dX0_excludeInTurn_19 : decode cX0_excludeInTurn 19 = .ok (.invokevirtual 149, 3) := by decide +kernel
theorem dX0_excludeInTurn_22 : decode cX0_excludeInTurn 22 = .ok (.istore 4, 2) := by decide +kernel
theorem dX0_excludeInTurn_24 : decode cX0_excludeInTurn 24 = .ok (.aload_n 0, 1) := by decide +kernel
theorem dX0_excludeInTurn_25 : decode cX0_excludeInTurn 25 = .ok (.iload 4, 2) := by decide +kernel
theorem dX0_excludeInTurn_27 : decode cX0_excludeInTurn 27 = .ok (.invokevirtual 86, 3) := by decide +kernel
theorem dX0_excludeInTurn_30 : decode cX0_excludeInTurn 30 = .ok (.ifCond .ne 4, 3) := by decide +kernel
theorem dX0_excludeInTurn_33 : decode cX0_excludeInTurn 33 = .ok (.return_, 1) := by decide +kernel
theorem dX0_excludeInTurn_34 : decode cX0_excludeInTurn 34 = .ok (.aload_n 0, 1) := by decide +kernel
theorem dX0_excludeInTurn_35 : decode cX0_excludeInTurn 35 = .ok (.dup, 1) := by decide +kernel
theorem dX0_excludeInTurn_36 : decode cX0_excludeInTurn 36 = .ok (.getfield 56, 3) := by decide +kernel
theorem dX0_excludeInTurn_39 : decode cX0_excludeInTurn 39 = .ok (.iconst 1, 1) := by decide +kernel
theorem dX0_excludeInTurn_40 : decode cX0_excludeInTurn 40 = .ok (.iload 4, 2) := by decide +kernel
theorem dX0_excludeInTurn_42 : decode cX0_excludeInTurn 42 = .ok (.ishl, 1) := by decide +kernel
theorem dX0_excludeInTurn_43 : decode cX0_excludeInTurn 43 = .ok (.ior, 1) := by decide +kernel
theorem dX0_excludeInTurn_44 : decode cX0_excludeInTurn 44 = .ok (.putfield 56, 3) := by decide +kernel
theorem dX0_excludeInTurn_47 : decode cX0_excludeInTurn 47 = .ok (.aload_n 0, 1) := by decide +kernel
theorem dX0_excludeInTurn_48 : decode cX0_excludeInTurn 48 = .ok (.getfield 30, 3) := by decide +kernel
theorem dX0_excludeInTurn_51 : decode cX0_excludeInTurn 51 = .ok (.iload 4, 2) := by decide +kernel
theorem dX0_excludeInTurn_53 : decode cX0_excludeInTurn 53 = .ok (.iconst 0, 1) := by decide +kernel
theorem dX0_excludeInTurn_54 : decode cX0_excludeInTurn 54 = .ok (.iastore, 1) := by decide +kernel
theorem dX0_excludeInTurn_55 : decode cX0_excludeInTurn 55 = .ok (.iinc 3 1, 3) := by decide +kernel
theorem dX0_excludeInTurn_58 : decode cX0_excludeInTurn 58 = .ok (.goto (-51), 3) := by decide +kernel
theorem dX0_excludeInTurn_61 : decode cX0_excludeInTurn 61 = .ok (.return_, 1) := by decide +kernel
theorem dX0_turnsNeeded_0 : decode cX0_turnsNeeded 0 = .ok (.aload_n 0, 1) := by decide +kernel
theorem dX0_turnsNeeded_1 : decode cX0_turnsNeeded 1 = .ok (.getfield 9, 3) := by decide +kernel
theorem dX0_turnsNeeded_4 : decode cX0_turnsNeeded 4 = .ok (.iconst 1, 1) := by decide +kernel
theorem dX0_turnsNeeded_5 : decode cX0_turnsNeeded 5 = .ok (.iaload, 1) := by decide +kernel
theorem dX0_turnsNeeded_6 : decode cX0_turnsNeeded 6 = .ok (.aload_n 0, 1) := by decide +kernel
theorem dX0_turnsNeeded_7 : decode cX0_turnsNeeded 7 = .ok (.getfield 39, 3) := by decide +kernel
theorem dX0_turnsNeeded_10 : decode cX0_turnsNeeded 10 = .ok (.isub, 1) := by decide +kernel
theorem dX0_turnsNeeded_11 : decode cX0_turnsNeeded 11 = .ok (.istore_n 1, 1) := by decide +kernel
theorem dX0_turnsNeeded_12 : decode cX0_turnsNeeded 12 = .ok (.iload_n 1, 1) := by decide +kernel
theorem dX0_turnsNeeded_13 : decode cX0_turnsNeeded 13 = .ok (.ifCond .gt 5, 3) := by decide +kernel
theorem dX0_turnsNeeded_16 : decode cX0_turnsNeeded 16 = .ok (.iconst 0, 1) := by decide +kernel
theorem dX0_turnsNeeded_17 : decode cX0_turnsNeeded 17 = .ok (.ireturn, 1) := by decide +kernel
theorem dX0_turnsNeeded_18 : decode cX0_turnsNeeded 18 = .ok (.iload_n 1, 1) := by decide +kernel
theorem dX0_turnsNeeded_19 : decode cX0_turnsNeeded 19 = .ok (.bipush 10, 2) := by decide +kernel
theorem dX0_turnsNeeded_21 : decode cX0_turnsNeeded 21 = .ok (.iadd, 1) := by decide +kernel
theorem dX0_turnsNeeded_22 : decode cX0_turnsNeeded 22 = .ok (.iconst 1, 1) := by decide +kernel
theorem dX0_turnsNeeded_23 : decode cX0_turnsNeeded 23 = .ok (.isub, 1) := by decide +kernel
theorem dX0_turnsNeeded_24 : decode cX0_turnsNeeded 24 = .ok (.bipush 10, 2) := by decide +kernel
theorem dX0_turnsNeeded_26 : decode cX0_turnsNeeded 26 = .ok (.idiv, 1) := by decide +kernel
theorem dX0_turnsNeeded_27 : decode cX0_turnsNeeded 27 = .ok (.istore_n 2, 1) := by decide +kernel
theorem dX0_turnsNeeded_28 : decode cX0_turnsNeeded 28 = .ok (.iload_n 2, 1) := by decide +kernel
theorem dX0_turnsNeeded_29 : decode cX0_turnsNeeded 29 = .ok (.aload_n 0, 1) := by decide +kernel
theorem dX0_turnsNeeded_30 : decode cX0_turnsNeeded 30 = .ok (.getfield 47, 3) := by decide +kernel
theorem dX0_turnsNeeded_33 : decode cX0_turnsNeeded 33 = .ok (.iconst 1, 1) := by decide +kernel
theorem dX0_turnsNeeded_34 : decode cX0_turnsNeeded 34 = .ok (.isub, 1) := by decide +kernel
theorem dX0_turnsNeeded_35 : decode cX0_turnsNeeded 35 = .ok (.invokestatic 105, 3) := by decide +kernel
theorem dX0_turnsNeeded_38 : decode cX0_turnsNeeded 38 = .ok (.ireturn, 1) := by decide +kernel
theorem dX0_heaviestNotIn_0 : decode cX0_heaviestNotIn 0 = .ok (.iconst (-1), 1) := by decide +kernel
theorem dX0_heaviestNotIn_1 : decode cX0_heaviestNotIn 1 = .ok (.istore_n 2, 1) := by decide +kernel
theorem dX0_heaviestNotIn_2 : decode cX0_heaviestNotIn 2 = .ok (.iconst (-1), 1) := by decide +kernel
theorem dX0_heaviestNotIn_3 : decode cX0_heaviestNotIn 3 = .ok (.istore_n 3, 1) := by decide +kernel
theorem dX0_heaviestNotIn_4 : decode cX0_heaviestNotIn 4 = .ok (.iconst 0, 1) := by decide +kernel
theorem dX0_heaviestNotIn_5 : decode cX0_heaviestNotIn 5 = .ok (.istore 4, 2) := by decide +kernel
theorem dX0_heaviestNotIn_7 : decode cX0_heaviestNotIn 7 = .ok (.iload 4, 2) := by decide +kernel
theorem dX0_heaviestNotIn_9 : decode cX0_heaviestNotIn 9 = .ok (.bipush 8, 2) := by decide +kernel
theorem dX0_heaviestNotIn_11 : decode cX0_heaviestNotIn 11 = .ok (.if_icmp .ge 49, 3) := by decide +kernel
theorem dX0_heaviestNotIn_14 : decode cX0_heaviestNotIn 14 = .ok (.iload 4, 2) := by decide +kernel
theorem dX0_heaviestNotIn_16 : decode cX0_heaviestNotIn 16 = .ok (.aload_n 0, 1) := by decide +kernel
theorem dX0_heaviestNotIn_17 : decode cX0_heaviestNotIn 17 = .ok (.getfield 47, 3) := by decide +kernel
theorem dX0_heaviestNotIn_20 : decode cX0_heaviestNotIn 20 = .ok (.if_icmp .ge 40, 3) := by decide +kernel
theorem dX0_heaviestNotIn_23 : decode cX0_heaviestNotIn 23 = .ok (.iload_n 1, 1) := by decide +kernel
theorem dX0_heaviestNotIn_24 : decode cX0_heaviestNotIn 24 = .ok (.iload 4, 2) := by decide +kernel
theorem dX0_heaviestNotIn_26 : decode cX0_heaviestNotIn 26 = .ok (.ishr, 1) := by decide +kernel
theorem dX0_heaviestNotIn_27 : decode cX0_heaviestNotIn 27 = .ok (.iconst 1, 1) := by decide +kernel
theorem dX0_heaviestNotIn_28 : decode cX0_heaviestNotIn 28 = .ok (.iand, 1) := by decide +kernel
theorem dX0_heaviestNotIn_29 : decode cX0_heaviestNotIn 29 = .ok (.ifCond .ne 25, 3) := by decide +kernel
theorem dX0_heaviestNotIn_32 : decode cX0_heaviestNotIn 32 = .ok (.aload_n 0, 1) := by decide +kernel
theorem dX0_heaviestNotIn_33 : decode cX0_heaviestNotIn 33 = .ok (.getfield 30, 3) := by decide +kernel
theorem dX0_heaviestNotIn_36 : decode cX0_heaviestNotIn 36 = .ok (.iload 4, 2) := by decide +kernel
theorem dX0_heaviestNotIn_38 : decode cX0_heaviestNotIn 38 = .ok (.iaload, 1) := by decide +kernel
theorem dX0_heaviestNotIn_39 : decode cX0_heaviestNotIn 39 = .ok (.iload_n 3, 1) := by decide +kernel
theorem dX0_heaviestNotIn_40 : decode cX0_heaviestNotIn 40 = .ok (.if_icmp .le 14, 3) := by decide +kernel
theorem dX0_heaviestNotIn_43 : decode cX0_heaviestNotIn 43 = .ok (.aload_n 0, 1) := by decide +kernel
theorem dX0_heaviestNotIn_44 : decode cX0_heaviestNotIn 44 = .ok (.getfield 30, 3) := by decide +kernel
theorem dX0_heaviestNotIn_47 : decode cX0_heaviestNotIn 47 = .ok (.iload 4, 2) := by decide +kernel
theorem dX0_heaviestNotIn_49 : decode cX0_heaviestNotIn 49 = .ok (.iaload, 1) := by decide +kernel
theorem dX0_heaviestNotIn_50 : decode cX0_heaviestNotIn 50 = .ok (.istore_n 3, 1) := by decide +kernel
theorem dX0_heaviestNotIn_51 : decode cX0_heaviestNotIn 51 = .ok (.iload 4, 2) := by decide +kernel
theorem dX0_heaviestNotIn_53 : decode cX0_heaviestNotIn 53 = .ok (.istore_n 2, 1) := by decide +kernel
theorem dX0_heaviestNotIn_54 : decode cX0_heaviestNotIn 54 = .ok (.iinc 4 1, 3) := by decide +kernel
theorem dX0_heaviestNotIn_57 : decode cX0_heaviestNotIn 57 = .ok (.goto (-50), 3) := by decide +kernel
theorem dX0_heaviestNotIn_60 : decode cX0_heaviestNotIn 60 = .ok (.iload_n 2, 1) := by decide +kernel
theorem dX0_heaviestNotIn_61 : decode cX0_heaviestNotIn 61 = .ok (.ireturn, 1) := by decide +kernel
theorem dX0_excludeDebtors_0 : decode cX0_excludeDebtors 0 = .ok (.iconst 0, 1) := by decide +kernel
theorem dX0_excludeDebtors_1 : decode cX0_excludeDebtors 1 = .ok (.istore_n 1, 1) := by decide +kernel
theorem dX0_excludeDebtors_2 : decode cX0_excludeDebtors 2 = .ok (.iload_n 1, 1) := by decide +kernel
theorem dX0_excludeDebtors_3 : decode cX0_excludeDebtors 3 = .ok (.bipush 8, 2) := by decide +kernel
theorem dX0_excludeDebtors_5 : decode cX0_excludeDebtors 5 = .ok (.if_icmp .ge 36, 3) := by decide +kernel
theorem dX0_excludeDebtors_8 : decode cX0_excludeDebtors 8 = .ok (.aload_n 0, 1) := by decide +kernel
theorem dX0_excludeDebtors_9 : decode cX0_excludeDebtors 9 = .ok (.getfield 21, 3) := by decide +kernel
theorem dX0_excludeDebtors_12 : decode cX0_excludeDebtors 12 = .ok (.iload_n 1, 1) := by decide +kernel
theorem dX0_excludeDebtors_13 : decode cX0_excludeDebtors 13 = .ok (.iaload, 1) := by decide +kernel
theorem dX0_excludeDebtors_14 : decode cX0_excludeDebtors 14 = .ok (.aload_n 0, 1) := by decide +kernel
theorem dX0_excludeDebtors_15 : decode cX0_excludeDebtors 15 = .ok (.getfield 9, 3) := by decide +kernel
theorem dX0_excludeDebtors_18 : decode cX0_excludeDebtors 18 = .ok (.iconst 3, 1) := by decide +kernel
theorem dX0_excludeDebtors_19 : decode cX0_excludeDebtors 19 = .ok (.iaload, 1) := by decide +kernel
theorem dX0_excludeDebtors_20 : decode cX0_excludeDebtors 20 = .ok (.if_icmp .le 15, 3) := by decide +kernel
theorem dX0_excludeDebtors_23 : decode cX0_excludeDebtors 23 = .ok (.aload_n 0, 1) := by decide +kernel
theorem dX0_excludeDebtors_24 : decode cX0_excludeDebtors 24 = .ok (.dup, 1) := by decide +kernel
theorem dX0_excludeDebtors_25 : decode cX0_excludeDebtors 25 = .ok (.getfield 56, 3) := by decide +kernel
theorem dX0_excludeDebtors_28 : decode cX0_excludeDebtors 28 = .ok (.iconst 1, 1) := by decide +kernel
theorem dX0_excludeDebtors_29 : decode cX0_excludeDebtors 29 = .ok (.iload_n 1, 1) := by decide +kernel
theorem dX0_excludeDebtors_30 : decode cX0_excludeDebtors 30 = .ok (.ishl, 1) := by decide +kernel
theorem dX0_excludeDebtors_31 : decode cX0_excludeDebtors 31 = .ok (.ior, 1) := by decide +kernel
theorem dX0_excludeDebtors_32 : decode cX0_excludeDebtors 32 = .ok (.putfield 56, 3) := by decide +kernel
theorem dX0_excludeDebtors_35 : decode cX0_excludeDebtors 35 = .ok (.iinc 1 1, 3) := by decide +kernel
theorem dX0_excludeDebtors_38 : decode cX0_excludeDebtors 38 = .ok (.goto (-36), 3) := by decide +kernel
theorem dX0_excludeDebtors_41 : decode cX0_excludeDebtors 41 = .ok (.return_, 1) := by decide +kernel
theorem dX0_liftedGain_0 : decode cX0_liftedGain 0 = .ok (.aload_n 0, 1) := by decide +kernel
theorem dX0_liftedGain_1 : decode cX0_liftedGain 1 = .ok (.iload_n 1, 1) := by decide +kernel
theorem dX0_liftedGain_2 : decode cX0_liftedGain 2 = .ok (.invokevirtual 86, 3) := by decide +kernel
theorem dX0_liftedGain_5 : decode cX0_liftedGain 5 = .ok (.ifCond .eq 10, 3) := by decide +kernel
theorem dX0_liftedGain_8 : decode cX0_liftedGain 8 = .ok (.iload_n 2, 1) := by decide +kernel
theorem dX0_liftedGain_9 : decode cX0_liftedGain 9 = .ok (.invokestatic 90, 3) := by decide +kernel
theorem dX0_liftedGain_12 : decode cX0_liftedGain 12 = .ok (.ifCond .ne 7, 3) := by decide +kernel
theorem dX0_liftedGain_15 : decode cX0_liftedGain 15 = .ok (.sipush (-10001), 3) := by decide +kernel
theorem dX0_liftedGain_18 : decode cX0_liftedGain 18 = .ok (.ireturn, 1) := by decide +kernel
theorem dX0_liftedGain_19 : decode cX0_liftedGain 19 = .ok (.aload_n 0, 1) := by decide +kernel
theorem dX0_liftedGain_20 : decode cX0_liftedGain 20 = .ok (.iload_n 1, 1) := by decide +kernel
theorem dX0_liftedGain_21 : decode cX0_liftedGain 21 = .ok (.invokevirtual 93, 3) := by decide +kernel
theorem dX0_liftedGain_24 : decode cX0_liftedGain 24 = .ok (.ifCond .eq 11, 3) := by decide +kernel
theorem dX0_liftedGain_27 : decode cX0_liftedGain 27 = .ok (.iload_n 2, 1) := by decide +kernel
theorem dX0_liftedGain_28 : decode cX0_liftedGain 28 = .ok (.ifCond .eq 7, 3) := by decide +kernel
theorem dX0_liftedGain_31 : decode cX0_liftedGain 31 = .ok (.sipush (-10002), 3) := by decide +kernel
theorem dX0_liftedGain_34 : decode cX0_liftedGain 34 = .ok (.ireturn, 1) := by decide +kernel
theorem dX0_liftedGain_35 : decode cX0_liftedGain 35 = .ok (.aload_n 0, 1) := by decide +kernel
theorem dX0_liftedGain_36 : decode cX0_liftedGain 36 = .ok (.aload_n 0, 1) := by decide +kernel
theorem dX0_liftedGain_37 : decode cX0_liftedGain 37 = .ok (.iload_n 1, 1) := by decide +kernel
theorem dX0_liftedGain_38 : decode cX0_liftedGain 38 = .ok (.invokevirtual 76, 3) := by decide +kernel
theorem dX0_liftedGain_41 : decode cX0_liftedGain 41 = .ok (.aload_n 0, 1) := by decide +kernel
theorem dX0_liftedGain_42 : decode cX0_liftedGain 42 = .ok (.getfield 15, 3) := by decide +kernel
theorem dX0_liftedGain_45 : decode cX0_liftedGain 45 = .ok (.iload_n 1, 1) := by decide +kernel
theorem dX0_liftedGain_46 : decode cX0_liftedGain 46 = .ok (.iaload, 1) := by decide +kernel
theorem dX0_liftedGain_47 : decode cX0_liftedGain 47 = .ok (.iload_n 2, 1) := by decide +kernel
theorem dX0_liftedGain_48 : decode cX0_liftedGain 48 = .ok (.invokevirtual 152, 3) := by decide +kernel
theorem dX0_liftedGain_51 : decode cX0_liftedGain 51 = .ok (.sipush 10000, 3) := by decide +kernel
theorem dX0_liftedGain_54 : decode cX0_liftedGain 54 = .ok (.iadd, 1) := by decide +kernel
theorem dX0_liftedGain_55 : decode cX0_liftedGain 55 = .ok (.ireturn, 1) := by decide +kernel
theorem dX0_gainBehind_0 : decode cX0_gainBehind 0 = .ok (.iload_n 2, 1) := by decide +kernel
theorem dX0_gainBehind_1 : decode cX0_gainBehind 1 = .ok (.iload_n 3, 1) := by decide +kernel
theorem dX0_gainBehind_2 : decode cX0_gainBehind 2 = .ok (.imul, 1) := by decide +kernel
theorem dX0_gainBehind_3 : decode cX0_gainBehind 3 = .ok (.aload_n 0, 1) := by decide +kernel
theorem dX0_gainBehind_4 : decode cX0_gainBehind 4 = .ok (.iload_n 1, 1) := by decide +kernel
theorem dX0_gainBehind_5 : decode cX0_gainBehind 5 = .ok (.iload_n 3, 1) := by decide +kernel
theorem dX0_gainBehind_6 : decode cX0_gainBehind 6 = .ok (.invokevirtual 79, 3) := by decide +kernel
theorem dX0_gainBehind_9 : decode cX0_gainBehind 9 = .ok (.isub, 1) := by decide +kernel
theorem dX0_gainBehind_10 : decode cX0_gainBehind 10 = .ok (.ireturn, 1) := by decide +kernel
theorem dX0_bestUnits_0 : decode cX0_bestUnits 0 = .ok (.aload_n 0, 1) := by decide +kernel
theorem dX0_bestUnits_1 : decode cX0_bestUnits 1 = .ok (.iload_n 1, 1) := by decide +kernel
theorem dX0_bestUnits_2 : decode cX0_bestUnits 2 = .ok (.invokevirtual 86, 3) := by decide +kernel
theorem dX0_bestUnits_5 : decode cX0_bestUnits 5 = .ok (.ifCond .eq 11, 3) := by decide +kernel
theorem dX0_bestUnits_8 : decode cX0_bestUnits 8 = .ok (.aload_n 0, 1) := by decide +kernel
theorem dX0_bestUnits_9 : decode cX0_bestUnits 9 = .ok (.iload_n 1, 1) := by decide +kernel
theorem dX0_bestUnits_10 : decode cX0_bestUnits 10 = .ok (.invokevirtual 93, 3) := by decide +kernel
theorem dX0_bestUnits_13 : decode cX0_bestUnits 13 = .ok (.ifCond .eq 5, 3) := by decide +kernel
theorem dX0_bestUnits_16 : decode cX0_bestUnits 16 = .ok (.iconst 0, 1) := by decide +kernel
theorem dX0_bestUnits_17 : decode cX0_bestUnits 17 = .ok (.ireturn, 1) := by decide +kernel
theorem dX0_bestUnits_18 : decode cX0_bestUnits 18 = .ok (.aload_n 0, 1) := by decide +kernel
theorem dX0_bestUnits_19 : decode cX0_bestUnits 19 = .ok (.iload_n 1, 1) := by decide +kernel
theorem dX0_bestUnits_20 : decode cX0_bestUnits 20 = .ok (.invokevirtual 76, 3) := by decide +kernel
theorem dX0_bestUnits_23 : decode cX0_bestUnits 23 = .ok (.istore_n 2, 1) := by decide +kernel
theorem dX0_bestUnits_24 : decode cX0_bestUnits 24 = .ok (.iconst 0, 1) := by decide +kernel
theorem dX0_bestUnits_25 : decode cX0_bestUnits 25 = .ok (.istore_n 3, 1) := by decide +kernel
theorem dX0_bestUnits_26 : decode cX0_bestUnits 26 = .ok (.iconst 0, 1) := by decide +kernel
theorem dX0_bestUnits_27 : decode cX0_bestUnits 27 = .ok (.istore 4, 2) := by decide +kernel
theorem dX0_bestUnits_29 : decode cX0_bestUnits 29 = .ok (.iconst 1, 1) := by decide +kernel
theorem dX0_bestUnits_30 : decode cX0_bestUnits 30 = .ok (.istore 5, 2) := by decide +kernel
theorem dX0_bestUnits_32 : decode cX0_bestUnits 32 = .ok (.iload 5, 2) := by decide +kernel
theorem dX0_bestUnits_34 : decode cX0_bestUnits 34 = .ok (.bipush 20, 2) := by decide +kernel
theorem dX0_bestUnits_36 : decode cX0_bestUnits 36 = .ok (.if_icmp .gt 38, 3) := by decide +kernel
theorem dX0_bestUnits_39 : decode cX0_bestUnits 39 = .ok (.aload_n 0, 1) := by decide +kernel
theorem dX0_bestUnits_40 : decode cX0_bestUnits 40 = .ok (.iload_n 2, 1) := by decide +kernel
theorem dX0_bestUnits_41 : decode cX0_bestUnits 41 = .ok (.aload_n 0, 1) := by decide +kernel
theorem dX0_bestUnits_42 : decode cX0_bestUnits 42 = .ok (.getfield 15, 3) := by decide +kernel
theorem dX0_bestUnits_45 : decode cX0_bestUnits 45 = .ok (.iload_n 1, 1) := by decide +kernel
theorem dX0_bestUnits_46 : decode cX0_bestUnits 46 = .ok (.iaload, 1) := by decide +kernel
theorem dX0_bestUnits_47 : decode cX0_bestUnits 47 = .ok (.iload 5, 2) := by decide +kernel
theorem dX0_bestUnits_49 : decode cX0_bestUnits 49 = .ok (.invokevirtual 152, 3) := by decide +kernel
theorem dX0_bestUnits_52 : decode cX0_bestUnits 52 = .ok (.istore 6, 2) := by decide +kernel
theorem dX0_bestUnits_54 : decode cX0_bestUnits 54 = .ok (.iload 6, 2) := by decide +kernel
theorem dX0_bestUnits_56 : decode cX0_bestUnits 56 = .ok (.iload 4, 2) := by decide +kernel
theorem dX0_bestUnits_58 : decode cX0_bestUnits 58 = .ok (.if_icmp .le 10, 3) := by decide +kernel
theorem dX0_bestUnits_61 : decode cX0_bestUnits 61 = .ok (.iload 6, 2) := by decide +kernel
theorem dX0_bestUnits_63 : decode cX0_bestUnits 63 = .ok (.istore 4, 2) := by decide +kernel
theorem dX0_bestUnits_65 : decode cX0_bestUnits 65 = .ok (.iload 5, 2) := by decide +kernel
theorem dX0_bestUnits_67 : decode cX0_bestUnits 67 = .ok (.istore_n 3, 1) := by decide +kernel
theorem dX0_bestUnits_68 : decode cX0_bestUnits 68 = .ok (.iinc 5 1, 3) := by decide +kernel
theorem dX0_bestUnits_71 : decode cX0_bestUnits 71 = .ok (.goto (-39), 3) := by decide +kernel
theorem dX0_bestUnits_74 : decode cX0_bestUnits 74 = .ok (.iload_n 3, 1) := by decide +kernel
theorem dX0_bestUnits_75 : decode cX0_bestUnits 75 = .ok (.ireturn, 1) := by decide +kernel
theorem dX0_calmDown_0 : decode cX0_calmDown 0 = .ok (.iconst 1, 1) := by decide +kernel
theorem dX0_calmDown_1 : decode cX0_calmDown 1 = .ok (.istore_n 1, 1) := by decide +kernel
theorem dX0_calmDown_2 : decode cX0_calmDown 2 = .ok (.iload_n 1, 1) := by decide +kernel
theorem dX0_calmDown_3 : decode cX0_calmDown 3 = .ok (.bipush 40, 2) := by decide +kernel
theorem dX0_calmDown_5 : decode cX0_calmDown 5 = .ok (.if_icmp .gt 18, 3) := by decide +kernel
theorem dX0_calmDown_8 : decode cX0_calmDown 8 = .ok (.aload_n 0, 1) := by decide +kernel
theorem dX0_calmDown_9 : decode cX0_calmDown 9 = .ok (.invokevirtual 156, 3) := by decide +kernel
theorem dX0_calmDown_12 : decode cX0_calmDown 12 = .ok (.ifCond .ne 5, 3) := by decide +kernel
theorem dX0_calmDown_15 : decode cX0_calmDown 15 = .ok (.iload_n 1, 1) := by decide +kernel
theorem dX0_calmDown_16 : decode cX0_calmDown 16 = .ok (.ireturn, 1) := by decide +kernel
theorem dX0_calmDown_17 : decode cX0_calmDown 17 = .ok (.iinc 1 1, 3) := by decide +kernel
theorem dX0_calmDown_20 : decode cX0_calmDown 20 = .ok (.goto (-18), 3) := by decide +kernel
theorem dX0_calmDown_23 : decode cX0_calmDown 23 = .ok (.sipush (-10004), 3) := by decide +kernel
theorem dX0_calmDown_26 : decode cX0_calmDown 26 = .ok (.ireturn, 1) := by decide +kernel
theorem dX0_roundChanges_0 : decode cX0_roundChanges 0 = .ok (.iconst 0, 1) := by decide +kernel
theorem dX0_roundChanges_1 : decode cX0_roundChanges 1 = .ok (.istore_n 1, 1) := by decide +kernel
theorem dX0_roundChanges_2 : decode cX0_roundChanges 2 = .ok (.iconst 0, 1) := by decide +kernel
theorem dX0_roundChanges_3 : decode cX0_roundChanges 3 = .ok (.istore_n 2, 1) := by decide +kernel
theorem dX0_roundChanges_4 : decode cX0_roundChanges 4 = .ok (.iload_n 2, 1) := by decide +kernel
theorem dX0_roundChanges_5 : decode cX0_roundChanges 5 = .ok (.bipush 8, 2) := by decide +kernel
theorem dX0_roundChanges_7 : decode cX0_roundChanges 7 = .ok (.if_icmp .ge 42, 3) := by decide +kernel
theorem dX0_roundChanges_10 : decode cX0_roundChanges 10 = .ok (.aload_n 0, 1) := by decide +kernel
theorem dX0_roundChanges_11 : decode cX0_roundChanges 11 = .ok (.iload_n 2, 1) := by decide +kernel
theorem dX0_roundChanges_12 : decode cX0_roundChanges 12 = .ok (.invokevirtual 160, 3) := by decide +kernel
theorem dX0_roundChanges_15 : decode cX0_roundChanges 15 = .ok (.istore_n 3, 1) := by decide +kernel
theorem dX0_roundChanges_16 : decode cX0_roundChanges 16 = .ok (.iload_n 1, 1) := by decide +kernel
theorem dX0_roundChanges_17 : decode cX0_roundChanges 17 = .ok (.ifCond .ne 13, 3) := by decide +kernel
theorem dX0_roundChanges_20 : decode cX0_roundChanges 20 = .ok (.iload_n 3, 1) := by decide +kernel
theorem dX0_roundChanges_21 : decode cX0_roundChanges 21 = .ok (.aload_n 0, 1) := by decide +kernel
theorem dX0_roundChanges_22 : decode cX0_roundChanges 22 = .ok (.getfield 18, 3) := by decide +kernel
theorem dX0_roundChanges_25 : decode cX0_roundChanges 25 = .ok (.iload_n 2, 1) := by decide +kernel
theorem dX0_roundChanges_26 : decode cX0_roundChanges 26 = .ok (.iaload, 1) := by decide +kernel
theorem dX0_roundChanges_27 : decode cX0_roundChanges 27 = .ok (.if_icmp .eq 7, 3) := by decide +kernel
theorem dX0_roundChanges_30 : decode cX0_roundChanges 30 = .ok (.iconst 1, 1) := by decide +kernel
theorem dX0_roundChanges_31 : decode cX0_roundChanges 31 = .ok (.goto 4, 3) := by decide +kernel
theorem dX0_roundChanges_34 : decode cX0_roundChanges 34 = .ok (.iconst 0, 1) := by decide +kernel
theorem dX0_roundChanges_35 : decode cX0_roundChanges 35 = .ok (.istore_n 1, 1) := by decide +kernel
theorem dX0_roundChanges_36 : decode cX0_roundChanges 36 = .ok (.aload_n 0, 1) := by decide +kernel
theorem dX0_roundChanges_37 : decode cX0_roundChanges 37 = .ok (.getfield 18, 3) := by decide +kernel
theorem dX0_roundChanges_40 : decode cX0_roundChanges 40 = .ok (.iload_n 2, 1) := by decide +kernel
theorem dX0_roundChanges_41 : decode cX0_roundChanges 41 = .ok (.iload_n 3, 1) := by decide +kernel
theorem dX0_roundChanges_42 : decode cX0_roundChanges 42 = .ok (.iastore, 1) := by decide +kernel
theorem dX0_roundChanges_43 : decode cX0_roundChanges 43 = .ok (.iinc 2 1, 3) := by decide +kernel
theorem dX0_roundChanges_46 : decode cX0_roundChanges 46 = .ok (.goto (-42), 3) := by decide +kernel
theorem dX0_roundChanges_49 : decode cX0_roundChanges 49 = .ok (.iload_n 1, 1) := by decide +kernel
theorem dX0_roundChanges_50 : decode cX0_roundChanges 50 = .ok (.ireturn, 1) := by decide +kernel
theorem dX0_useBestForAll_0 : decode cX0_useBestForAll 0 = .ok (.iconst 0, 1) := by decide +kernel
theorem dX0_useBestForAll_1 : decode cX0_useBestForAll 1 = .ok (.istore_n 1, 1) := by decide +kernel
theorem dX0_useBestForAll_2 : decode cX0_useBestForAll 2 = .ok (.iload_n 1, 1) := by decide +kernel
theorem dX0_useBestForAll_3 : decode cX0_useBestForAll 3 = .ok (.bipush 8, 2) := by decide +kernel
theorem dX0_useBestForAll_5 : decode cX0_useBestForAll 5 = .ok (.if_icmp .ge 16, 3) := by decide +kernel
theorem dX0_useBestForAll_8 : decode cX0_useBestForAll 8 = .ok (.aload_n 0, 1) := by decide +kernel
theorem dX0_useBestForAll_9 : decode cX0_useBestForAll 9 = .ok (.getfield 18, 3) := by decide +kernel
theorem dX0_useBestForAll_12 : decode cX0_useBestForAll 12 = .ok (.iload_n 1, 1) := by decide +kernel
theorem dX0_useBestForAll_13 : decode cX0_useBestForAll 13 = .ok (.iconst 0, 1) := by decide +kernel
theorem dX0_useBestForAll_14 : decode cX0_useBestForAll 14 = .ok (.iastore, 1) := by decide +kernel
theorem dX0_useBestForAll_15 : decode cX0_useBestForAll 15 = .ok (.iinc 1 1, 3) := by decide +kernel
theorem dX0_useBestForAll_18 : decode cX0_useBestForAll 18 = .ok (.goto (-16), 3) := by decide +kernel
theorem dX0_useBestForAll_21 : decode cX0_useBestForAll 21 = .ok (.iconst 0, 1) := by decide +kernel
theorem dX0_useBestForAll_22 : decode cX0_useBestForAll 22 = .ok (.istore_n 1, 1) := by decide +kernel
theorem dX0_useBestForAll_23 : decode cX0_useBestForAll 23 = .ok (.iconst 0, 1) := by decide +kernel
theorem dX0_useBestForAll_24 : decode cX0_useBestForAll 24 = .ok (.istore_n 2, 1) := by decide +kernel
theorem dX0_useBestForAll_25 : decode cX0_useBestForAll 25 = .ok (.iload_n 2, 1) := by decide +kernel
theorem dX0_useBestForAll_26 : decode cX0_useBestForAll 26 = .ok (.sipush 160, 3) := by decide +kernel
theorem dX0_useBestForAll_29 : decode cX0_useBestForAll 29 = .ok (.if_icmp .ge 64, 3) := by decide +kernel
theorem dX0_useBestForAll_32 : decode cX0_useBestForAll 32 = .ok (.aload_n 0, 1) := by decide +kernel
theorem dX0_useBestForAll_33 : decode cX0_useBestForAll 33 = .ok (.invokevirtual 163, 3) := by decide +kernel
theorem dX0_useBestForAll_36 : decode cX0_useBestForAll 36 = .ok (.istore_n 3, 1) := by decide +kernel
theorem dX0_useBestForAll_37 : decode cX0_useBestForAll 37 = .ok (.aload_n 0, 1) := by decide +kernel
theorem dX0_useBestForAll_38 : decode cX0_useBestForAll 38 = .ok (.iload_n 3, 1) := by decide +kernel
theorem dX0_useBestForAll_39 : decode cX0_useBestForAll 39 = .ok (.invokevirtual 86, 3) := by decide +kernel
theorem dX0_useBestForAll_42 : decode cX0_useBestForAll 42 = .ok (.ifCond .eq 18, 3) := by decide +kernel
theorem dX0_useBestForAll_45 : decode cX0_useBestForAll 45 = .ok (.aload_n 0, 1) := by decide +kernel
theorem dX0_useBestForAll_46 : decode cX0_useBestForAll 46 = .ok (.getfield 15, 3) := by decide +kernel
theorem dX0_useBestForAll_49 : decode cX0_useBestForAll 49 = .ok (.iload_n 3, 1) := by decide +kernel
theorem dX0_useBestForAll_50 : decode cX0_useBestForAll 50 = .ok (.iaload, 1) := by decide +kernel
theorem dX0_useBestForAll_51 : decode cX0_useBestForAll 51 = .ok (.aload_n 0, 1) := by decide +kernel
theorem dX0_useBestForAll_52 : decode cX0_useBestForAll 52 = .ok (.iload_n 2, 1) := by decide +kernel
theorem dX0_useBestForAll_53 : decode cX0_useBestForAll 53 = .ok (.iconst 1, 1) := by decide +kernel
theorem dX0_useBestForAll_54 : decode cX0_useBestForAll 54 = .ok (.invokevirtual 79, 3) := by decide +kernel
theorem dX0_useBestForAll_57 : decode cX0_useBestForAll 57 = .ok (.if_icmp .gt 11, 3) := by decide +kernel
theorem dX0_useBestForAll_60 : decode cX0_useBestForAll 60 = .ok (.iload_n 1, 1) := by decide +kernel
theorem dX0_useBestForAll_61 : decode cX0_useBestForAll 61 = .ok (.aload_n 0, 1) := by decide +kernel
theorem dX0_useBestForAll_62 : decode cX0_useBestForAll 62 = .ok (.iload_n 2, 1) := by decide +kernel
theorem dX0_useBestForAll_63 : decode cX0_useBestForAll 63 = .ok (.invokevirtual 83, 3) := by decide +kernel
theorem dX0_useBestForAll_66 : decode cX0_useBestForAll 66 = .ok (.isub, 1) := by decide +kernel
theorem dX0_useBestForAll_67 : decode cX0_useBestForAll 67 = .ok (.ireturn, 1) := by decide +kernel
theorem dX0_useBestForAll_68 : decode cX0_useBestForAll 68 = .ok (.aload_n 0, 1) := by decide +kernel
theorem dX0_useBestForAll_69 : decode cX0_useBestForAll 69 = .ok (.getfield 18, 3) := by decide +kernel
theorem dX0_useBestForAll_72 : decode cX0_useBestForAll 72 = .ok (.iload_n 3, 1) := by decide +kernel
theorem dX0_useBestForAll_73 : decode cX0_useBestForAll 73 = .ok (.dup2, 1) := by decide +kernel
theorem dX0_useBestForAll_74 : decode cX0_useBestForAll 74 = .ok (.iaload, 1) := by decide +kernel
theorem dX0_useBestForAll_75 : decode cX0_useBestForAll 75 = .ok (.iconst 1, 1) := by decide +kernel
theorem dX0_useBestForAll_76 : decode cX0_useBestForAll 76 = .ok (.iadd, 1) := by decide +kernel
theorem dX0_useBestForAll_77 : decode cX0_useBestForAll 77 = .ok (.iastore, 1) := by decide +kernel
theorem dX0_useBestForAll_78 : decode cX0_useBestForAll 78 = .ok (.iload_n 1, 1) := by decide +kernel
theorem dX0_useBestForAll_79 : decode cX0_useBestForAll 79 = .ok (.aload_n 0, 1) := by decide +kernel
theorem dX0_useBestForAll_80 : decode cX0_useBestForAll 80 = .ok (.getfield 15, 3) := by decide +kernel
theorem dX0_useBestForAll_83 : decode cX0_useBestForAll 83 = .ok (.iload_n 3, 1) := by decide +kernel
theorem dX0_useBestForAll_84 : decode cX0_useBestForAll 84 = .ok (.iaload, 1) := by decide +kernel
theorem dX0_useBestForAll_85 : decode cX0_useBestForAll 85 = .ok (.iadd, 1) := by decide +kernel
theorem dX0_useBestForAll_86 : decode cX0_useBestForAll 86 = .ok (.istore_n 1, 1) := by decide +kernel
theorem dX0_useBestForAll_87 : decode cX0_useBestForAll 87 = .ok (.iinc 2 1, 3) := by decide +kernel
theorem dX0_useBestForAll_90 : decode cX0_useBestForAll 90 = .ok (.goto (-65), 3) := by decide +kernel
theorem dX0_useBestForAll_93 : decode cX0_useBestForAll 93 = .ok (.iload_n 1, 1) := by decide +kernel
theorem dX0_useBestForAll_94 : decode cX0_useBestForAll 94 = .ok (.aload_n 0, 1) := by decide +kernel
theorem dX0_useBestForAll_95 : decode cX0_useBestForAll 95 = .ok (.sipush 160, 3) := by decide +kernel
theorem dX0_useBestForAll_98 : decode cX0_useBestForAll 98 = .ok (.invokevirtual 83, 3) := by decide +kernel
theorem dX0_useBestForAll_101 : decode cX0_useBestForAll 101 = .ok (.isub, 1) := by decide +kernel
theorem dX0_useBestForAll_102 : decode cX0_useBestForAll 102 = .ok (.ireturn, 1) := by decide +kernel
theorem dX0_worthiestWithRoom_0 : decode cX0_worthiestWithRoom 0 = .ok (.iconst (-1), 1) := by decide +kernel
theorem dX0_worthiestWithRoom_1 : decode cX0_worthiestWithRoom 1 = .ok (.istore_n 1, 1) := by decide +kernel
theorem dX0_worthiestWithRoom_2 : decode cX0_worthiestWithRoom 2 = .ok (.iconst (-1), 1) := by decide +kernel
theorem dX0_worthiestWithRoom_3 : decode cX0_worthiestWithRoom 3 = .ok (.istore_n 2, 1) := by decide +kernel
theorem dX0_worthiestWithRoom_4 : decode cX0_worthiestWithRoom 4 = .ok (.iconst 0, 1) := by decide +kernel
theorem dX0_worthiestWithRoom_5 : decode cX0_worthiestWithRoom 5 = .ok (.istore_n 3, 1) := by decide +kernel
theorem dX0_worthiestWithRoom_6 : decode cX0_worthiestWithRoom 6 = .ok (.iload_n 3, 1) := by decide +kernel
theorem dX0_worthiestWithRoom_7 : decode cX0_worthiestWithRoom 7 = .ok (.bipush 8, 2) := by decide +kernel
theorem dX0_worthiestWithRoom_9 : decode cX0_worthiestWithRoom 9 = .ok (.if_icmp .ge 55, 3) := by decide +kernel
theorem dX0_worthiestWithRoom_12 : decode cX0_worthiestWithRoom 12 = .ok (.iload_n 3, 1) := by decide +kernel
theorem dX0_worthiestWithRoom_13 : decode cX0_worthiestWithRoom 13 = .ok (.aload_n 0, 1) := by decide +kernel
theorem dX0_worthiestWithRoom_14 : decode cX0_worthiestWithRoom 14 = .ok (.getfield 47, 3) := by decide +kernel
theorem dX0_worthiestWithRoom_17 : decode cX0_worthiestWithRoom 17 = .ok (.if_icmp .ge 47, 3) := by decide +kernel
theorem dX0_worthiestWithRoom_20 : decode cX0_worthiestWithRoom 20 = .ok (.aload_n 0, 1) := by decide +kernel
theorem dX0_worthiestWithRoom_21 : decode cX0_worthiestWithRoom 21 = .ok (.getfield 18, 3) := by decide +kernel
theorem dX0_worthiestWithRoom_24 : decode cX0_worthiestWithRoom 24 = .ok (.iload_n 3, 1) := by decide +kernel
theorem dX0_worthiestWithRoom_25 : decode cX0_worthiestWithRoom 25 = .ok (.iaload, 1) := by decide +kernel
theorem dX0_worthiestWithRoom_26 : decode cX0_worthiestWithRoom 26 = .ok (.bipush 20, 2) := by decide +kernel
theorem dX0_worthiestWithRoom_28 : decode cX0_worthiestWithRoom 28 = .ok (.if_icmp .ge 30, 3) := by decide +kernel
theorem dX0_worthiestWithRoom_31 : decode cX0_worthiestWithRoom 31 = .ok (.aload_n 0, 1) := by decide +kernel
theorem dX0_worthiestWithRoom_32 : decode cX0_worthiestWithRoom 32 = .ok (.iload_n 3, 1) := by decide +kernel
theorem dX0_worthiestWithRoom_33 : decode cX0_worthiestWithRoom 33 = .ok (.invokevirtual 93, 3) := by decide +kernel
theorem dX0_worthiestWithRoom_36 : decode cX0_worthiestWithRoom 36 = .ok (.ifCond .ne 22, 3) := by decide +kernel
theorem dX0_worthiestWithRoom_39 : decode cX0_worthiestWithRoom 39 = .ok (.aload_n 0, 1) := by decide +kernel
theorem dX0_worthiestWithRoom_40 : decode cX0_worthiestWithRoom 40 = .ok (.getfield 15, 3) := by decide +kernel
theorem dX0_worthiestWithRoom_43 : decode cX0_worthiestWithRoom 43 = .ok (.iload_n 3, 1) := by decide +kernel
theorem dX0_worthiestWithRoom_44 : decode cX0_worthiestWithRoom 44 = .ok (.iaload, 1) := by decide +kernel
theorem dX0_worthiestWithRoom_45 : decode cX0_worthiestWithRoom 45 = .ok (.iload_n 2, 1) := by decide +kernel
theorem dX0_worthiestWithRoom_46 : decode cX0_worthiestWithRoom 46 = .ok (.if_icmp .le 12, 3) := by decide +kernel
theorem dX0_worthiestWithRoom_49 : decode cX0_worthiestWithRoom 49 = .ok (.aload_n 0, 1) := by decide +kernel
theorem dX0_worthiestWithRoom_50 : decode cX0_worthiestWithRoom 50 = .ok (.getfield 15, 3) := by decide +kernel
theorem dX0_worthiestWithRoom_53 : decode cX0_worthiestWithRoom 53 = .ok (.iload_n 3, 1) := by decide +kernel
theorem dX0_worthiestWithRoom_54 : decode cX0_worthiestWithRoom 54 = .ok (.iaload, 1) := by decide +kernel
theorem dX0_worthiestWithRoom_55 : decode cX0_worthiestWithRoom 55 = .ok (.istore_n 2, 1) := by decide +kernel
theorem dX0_worthiestWithRoom_56 : decode cX0_worthiestWithRoom 56 = .ok (.iload_n 3, 1) := by decide +kernel
theorem dX0_worthiestWithRoom_57 : decode cX0_worthiestWithRoom 57 = .ok (.istore_n 1, 1) := by decide +kernel
theorem dX0_worthiestWithRoom_58 : decode cX0_worthiestWithRoom 58 = .ok (.iinc 3 1, 3) := by decide +kernel
theorem dX0_worthiestWithRoom_61 : decode cX0_worthiestWithRoom 61 = .ok (.goto (-55), 3) := by decide +kernel
theorem dX0_worthiestWithRoom_64 : decode cX0_worthiestWithRoom 64 = .ok (.iload_n 1, 1) := by decide +kernel
theorem dX0_worthiestWithRoom_65 : decode cX0_worthiestWithRoom 65 = .ok (.ireturn, 1) := by decide +kernel
theorem dX0_numberOfMember_0 : decode cX0_numberOfMember 0 = .ok (.aload_n 0, 1) := by decide +kernel
theorem dX0_numberOfMember_1 : decode cX0_numberOfMember 1 = .ok (.iload_n 1, 1) := by decide +kernel
theorem dX0_numberOfMember_2 : decode cX0_numberOfMember 2 = .ok (.invokevirtual 86, 3) := by decide +kernel
theorem dX0_numberOfMember_5 : decode cX0_numberOfMember 5 = .ok (.ifCond .ne 7, 3) := by decide +kernel
theorem dX0_numberOfMember_8 : decode cX0_numberOfMember 8 = .ok (.sipush (-10001), 3) := by decide +kernel
theorem dX0_numberOfMember_11 : decode cX0_numberOfMember 11 = .ok (.ireturn, 1) := by decide +kernel
theorem dX0_numberOfMember_12 : decode cX0_numberOfMember 12 = .ok (.iload_n 2, 1) := by decide +kernel
theorem dX0_numberOfMember_13 : decode cX0_numberOfMember 13 = .ok (.tableswitch 130 0 9 #[55, 62, 69, 75, 82, 89, 96, 103, 117, 124], 55) := by decide +kernel
theorem dX0_numberOfMember_68 : decode cX0_numberOfMember 68 = .ok (.aload_n 0, 1) := by decide +kernel
theorem dX0_numberOfMember_69 : decode cX0_numberOfMember 69 = .ok (.getfield 15, 3) := by decide +kernel
theorem dX0_numberOfMember_72 : decode cX0_numberOfMember 72 = .ok (.iload_n 1, 1) := by decide +kernel
theorem dX0_numberOfMember_73 : decode cX0_numberOfMember 73 = .ok (.iaload, 1) := by decide +kernel
theorem dX0_numberOfMember_74 : decode cX0_numberOfMember 74 = .ok (.ireturn, 1) := by decide +kernel
theorem dX0_numberOfMember_75 : decode cX0_numberOfMember 75 = .ok (.aload_n 0, 1) := by decide +kernel
theorem dX0_numberOfMember_76 : decode cX0_numberOfMember 76 = .ok (.getfield 18, 3) := by decide +kernel
theorem dX0_numberOfMember_79 : decode cX0_numberOfMember 79 = .ok (.iload_n 1, 1) := by decide +kernel
theorem dX0_numberOfMember_80 : decode cX0_numberOfMember 80 = .ok (.iaload, 1) := by decide +kernel
theorem dX0_numberOfMember_81 : decode cX0_numberOfMember 81 = .ok (.ireturn, 1) := by decide +kernel
theorem dX0_numberOfMember_82 : decode cX0_numberOfMember 82 = .ok (.aload_n 0, 1) := by decide +kernel
theorem dX0_numberOfMember_83 : decode cX0_numberOfMember 83 = .ok (.iload_n 1, 1) := by decide +kernel
theorem dX0_numberOfMember_84 : decode cX0_numberOfMember 84 = .ok (.invokevirtual 96, 3) := by decide +kernel
theorem dX0_numberOfMember_87 : decode cX0_numberOfMember 87 = .ok (.ireturn, 1) := by decide +kernel
theorem dX0_numberOfMember_88 : decode cX0_numberOfMember 88 = .ok (.aload_n 0, 1) := by decide +kernel
theorem dX0_numberOfMember_89 : decode cX0_numberOfMember 89 = .ok (.getfield 21, 3) := by decide +kernel
theorem dX0_numberOfMember_92 : decode cX0_numberOfMember 92 = .ok (.iload_n 1, 1) := by decide +kernel
theorem dX0_numberOfMember_93 : decode cX0_numberOfMember 93 = .ok (.iaload, 1) := by decide +kernel
theorem dX0_numberOfMember_94 : decode cX0_numberOfMember 94 = .ok (.ireturn, 1) := by decide +kernel
theorem dX0_numberOfMember_95 : decode cX0_numberOfMember 95 = .ok (.aload_n 0, 1) := by decide +kernel
theorem dX0_numberOfMember_96 : decode cX0_numberOfMember 96 = .ok (.getfield 24, 3) := by decide +kernel
theorem dX0_numberOfMember_99 : decode cX0_numberOfMember 99 = .ok (.iload_n 1, 1) := by decide +kernel
theorem dX0_numberOfMember_100 : decode cX0_numberOfMember 100 = .ok (.iaload, 1) := by decide +kernel
theorem dX0_numberOfMember_101 : decode cX0_numberOfMember 101 = .ok (.ireturn, 1) := by decide +kernel
theorem dX0_numberOfMember_102 : decode cX0_numberOfMember 102 = .ok (.aload_n 0, 1) := by decide +kernel
theorem dX0_numberOfMember_103 : decode cX0_numberOfMember 103 = .ok (.getfield 27, 3) := by decide +kernel
theorem dX0_numberOfMember_106 : decode cX0_numberOfMember 106 = .ok (.iload_n 1, 1) := by decide +kernel
theorem dX0_numberOfMember_107 : decode cX0_numberOfMember 107 = .ok (.iaload, 1) := by decide +kernel
theorem dX0_numberOfMember_108 : decode cX0_numberOfMember 108 = .ok (.ireturn, 1) := by decide +kernel
theorem dX0_numberOfMember_109 : decode cX0_numberOfMember 109 = .ok (.aload_n 0, 1) := by decide +kernel
theorem dX0_numberOfMember_110 : decode cX0_numberOfMember 110 = .ok (.getfield 30, 3) := by decide +kernel
theorem dX0_numberOfMember_113 : decode cX0_numberOfMember 113 = .ok (.iload_n 1, 1) := by decide +kernel
theorem dX0_numberOfMember_114 : decode cX0_numberOfMember 114 = .ok (.iaload, 1) := by decide +kernel
theorem dX0_numberOfMember_115 : decode cX0_numberOfMember 115 = .ok (.ireturn, 1) := by decide +kernel
theorem dX0_numberOfMember_116 : decode cX0_numberOfMember 116 = .ok (.aload_n 0, 1) := by decide +kernel
theorem dX0_numberOfMember_117 : decode cX0_numberOfMember 117 = .ok (.iload_n 1, 1) := by decide +kernel
theorem dX0_numberOfMember_118 : decode cX0_numberOfMember 118 = .ok (.invokevirtual 93, 3) := by decide +kernel
theorem dX0_numberOfMember_121 : decode cX0_numberOfMember 121 = .ok (.ifCond .eq 7, 3) := by decide +kernel
theorem dX0_numberOfMember_124 : decode cX0_numberOfMember 124 = .ok (.iconst 1, 1) := by decide +kernel
theorem dX0_numberOfMember_125 : decode cX0_numberOfMember 125 = .ok (.goto 4, 3) := by decide +kernel
theorem dX0_numberOfMember_128 : decode cX0_numberOfMember 128 = .ok (.iconst 0, 1) := by decide +kernel
theorem dX0_numberOfMember_129 : decode cX0_numberOfMember 129 = .ok (.ireturn, 1) := by decide +kernel
theorem dX0_numberOfMember_130 : decode cX0_numberOfMember 130 = .ok (.aload_n 0, 1) := by decide +kernel
theorem dX0_numberOfMember_131 : decode cX0_numberOfMember 131 = .ok (.getfield 33, 3) := by decide +kernel
theorem dX0_numberOfMember_134 : decode cX0_numberOfMember 134 = .ok (.iload_n 1, 1) := by decide +kernel
theorem dX0_numberOfMember_135 : decode cX0_numberOfMember 135 = .ok (.iaload, 1) := by decide +kernel
theorem dX0_numberOfMember_136 : decode cX0_numberOfMember 136 = .ok (.ireturn, 1) := by decide +kernel
theorem dX0_numberOfMember_137 : decode cX0_numberOfMember 137 = .ok (.aload_n 0, 1) := by decide +kernel
theorem dX0_numberOfMember_138 : decode cX0_numberOfMember 138 = .ok (.iload_n 1, 1) := by decide +kernel
theorem dX0_numberOfMember_139 : decode cX0_numberOfMember 139 = .ok (.invokevirtual 72, 3) := by decide +kernel
theorem dX0_numberOfMember_142 : decode cX0_numberOfMember 142 = .ok (.ireturn, 1) := by decide +kernel
theorem dX0_numberOfMember_143 : decode cX0_numberOfMember 143 = .ok (.sipush (-10001), 3) := by decide +kernel
theorem dX0_numberOfMember_146 : decode cX0_numberOfMember 146 = .ok (.ireturn, 1) := by decide +kernel
theorem dX0_numberOfAll_0 : decode cX0_numberOfAll 0 = .ok (.iload_n 1, 1) := by decide +kernel
theorem dX0_numberOfAll_1 : decode cX0_numberOfAll 1 = .ok (.tableswitch 121 0 10 #[59, 64, 69, 74, 79, 88, 93, 101, 106, 111, 116], 59) := by decide +kernel
theorem dX0_numberOfAll_60 : decode cX0_numberOfAll 60 = .ok (.aload_n 0, 1) := by decide +kernel
theorem dX0_numberOfAll_61 : decode cX0_numberOfAll 61 = .ok (.getfield 47, 3) := by decide +kernel
theorem dX0_numberOfAll_64 : decode cX0_numberOfAll 64 = .ok (.ireturn, 1) := by decide +kernel
theorem dX0_numberOfAll_65 : decode cX0_numberOfAll 65 = .ok (.aload_n 0, 1) := by decide +kernel
theorem dX0_numberOfAll_66 : decode cX0_numberOfAll 66 = .ok (.getfield 50, 3) := by decide +kernel
theorem dX0_numberOfAll_69 : decode cX0_numberOfAll 69 = .ok (.ireturn, 1) := by decide +kernel
theorem dX0_numberOfAll_70 : decode cX0_numberOfAll 70 = .ok (.aload_n 0, 1) := by decide +kernel
theorem dX0_numberOfAll_71 : decode cX0_numberOfAll 71 = .ok (.getfield 39, 3) := by decide +kernel
theorem dX0_numberOfAll_74 : decode cX0_numberOfAll 74 = .ok (.ireturn, 1) := by decide +kernel
theorem dX0_numberOfAll_75 : decode cX0_numberOfAll 75 = .ok (.aload_n 0, 1) := by decide +kernel
theorem dX0_numberOfAll_76 : decode cX0_numberOfAll 76 = .ok (.invokevirtual 121, 3) := by decide +kernel
theorem dX0_numberOfAll_79 : decode cX0_numberOfAll 79 = .ok (.ireturn, 1) := by decide +kernel
theorem dX0_numberOfAll_80 : decode cX0_numberOfAll 80 = .ok (.aload_n 0, 1) := by decide +kernel
theorem dX0_numberOfAll_81 : decode cX0_numberOfAll 81 = .ok (.aload_n 0, 1) := by decide +kernel
theorem dX0_numberOfAll_82 : decode cX0_numberOfAll 82 = .ok (.invokevirtual 121, 3) := by decide +kernel
theorem dX0_numberOfAll_85 : decode cX0_numberOfAll 85 = .ok (.invokevirtual 83, 3) := by decide +kernel
theorem dX0_numberOfAll_88 : decode cX0_numberOfAll 88 = .ok (.ireturn, 1) := by decide +kernel
theorem dX0_numberOfAll_89 : decode cX0_numberOfAll 89 = .ok (.aload_n 0, 1) := by decide +kernel
theorem dX0_numberOfAll_90 : decode cX0_numberOfAll 90 = .ok (.getfield 53, 3) := by decide +kernel
theorem dX0_numberOfAll_93 : decode cX0_numberOfAll 93 = .ok (.ireturn, 1) := by decide +kernel
theorem dX0_numberOfAll_94 : decode cX0_numberOfAll 94 = .ok (.aload_n 0, 1) := by decide +kernel
theorem dX0_numberOfAll_95 : decode cX0_numberOfAll 95 = .ok (.getfield 21, 3) := by decide +kernel
theorem dX0_numberOfAll_98 : decode cX0_numberOfAll 98 = .ok (.invokestatic 68, 3) := by decide +kernel
theorem dX0_numberOfAll_101 : decode cX0_numberOfAll 101 = .ok (.ireturn, 1) := by decide +kernel
theorem dX0_numberOfAll_102 : decode cX0_numberOfAll 102 = .ok (.aload_n 0, 1) := by decide +kernel
theorem dX0_numberOfAll_103 : decode cX0_numberOfAll 103 = .ok (.getfield 56, 3) := by decide +kernel
theorem dX0_numberOfAll_106 : decode cX0_numberOfAll 106 = .ok (.ireturn, 1) := by decide +kernel
theorem dX0_numberOfAll_107 : decode cX0_numberOfAll 107 = .ok (.aload_n 0, 1) := by decide +kernel
theorem dX0_numberOfAll_108 : decode cX0_numberOfAll 108 = .ok (.getfield 59, 3) := by decide +kernel
theorem dX0_numberOfAll_111 : decode cX0_numberOfAll 111 = .ok (.ireturn, 1) := by decide +kernel
theorem dX0_numberOfAll_112 : decode cX0_numberOfAll 112 = .ok (.aload_n 0, 1) := by decide +kernel
theorem dX0_numberOfAll_113 : decode cX0_numberOfAll 113 = .ok (.getfield 62, 3) := by decide +kernel
theorem dX0_numberOfAll_116 : decode cX0_numberOfAll 116 = .ok (.ireturn, 1) := by decide +kernel
theorem dX0_numberOfAll_117 : decode cX0_numberOfAll 117 = .ok (.aload_n 0, 1) := by decide +kernel
theorem dX0_numberOfAll_118 : decode cX0_numberOfAll 118 = .ok (.getfield 65, 3) := by decide +kernel
theorem dX0_numberOfAll_121 : decode cX0_numberOfAll 121 = .ok (.ireturn, 1) := by decide +kernel
theorem dX0_numberOfAll_122 : decode cX0_numberOfAll 122 = .ok (.iload_n 1, 1) := by decide +kernel
theorem dX0_numberOfAll_123 : decode cX0_numberOfAll 123 = .ok (.bipush 20, 2) := by decide +kernel
theorem dX0_numberOfAll_125 : decode cX0_numberOfAll 125 = .ok (.if_icmp .lt 21, 3) := by decide +kernel
theorem dX0_numberOfAll_128 : decode cX0_numberOfAll 128 = .ok (.iload_n 1, 1) := by decide +kernel
theorem dX0_numberOfAll_129 : decode cX0_numberOfAll 129 = .ok (.bipush 25, 2) := by decide +kernel
theorem dX0_numberOfAll_131 : decode cX0_numberOfAll 131 = .ok (.if_icmp .ge 15, 3) := by decide +kernel
theorem dX0_numberOfAll_134 : decode cX0_numberOfAll 134 = .ok (.aload_n 0, 1) := by decide +kernel
theorem dX0_numberOfAll_135 : decode cX0_numberOfAll 135 = .ok (.getfield 9, 3) := by decide +kernel
theorem dX0_numberOfAll_138 : decode cX0_numberOfAll 138 = .ok (.iload_n 1, 1) := by decide +kernel
theorem dX0_numberOfAll_139 : decode cX0_numberOfAll 139 = .ok (.bipush 20, 2) := by decide +kernel
theorem dX0_numberOfAll_141 : decode cX0_numberOfAll 141 = .ok (.isub, 1) := by decide +kernel
theorem dX0_numberOfAll_142 : decode cX0_numberOfAll 142 = .ok (.iaload, 1) := by decide +kernel
theorem dX0_numberOfAll_143 : decode cX0_numberOfAll 143 = .ok (.goto 6, 3) := by decide +kernel
theorem dX0_numberOfAll_146 : decode cX0_numberOfAll 146 = .ok (.sipush (-10001), 3) := by decide +kernel
theorem dX0_numberOfAll_149 : decode cX0_numberOfAll 149 = .ok (.ireturn, 1) := by decide +kernel
theorem dX0_numberOfSeason_0 : decode cX0_numberOfSeason 0 = .ok (.iload_n 1, 1) := by decide +kernel
theorem dX0_numberOfSeason_1 : decode cX0_numberOfSeason 1 = .ok (.ifCond .lt 12, 3) := by decide +kernel
theorem dX0_numberOfSeason_4 : decode cX0_numberOfSeason 4 = .ok (.iload_n 2, 1) := by decide +kernel
theorem dX0_numberOfSeason_5 : decode cX0_numberOfSeason 5 = .ok (.ifCond .lt 8, 3) := by decide +kernel
theorem dX0_numberOfSeason_8 : decode cX0_numberOfSeason 8 = .ok (.iload_n 2, 1) := by decide +kernel
theorem dX0_numberOfSeason_9 : decode cX0_numberOfSeason 9 = .ok (.iconst 5, 1) := by decide +kernel
theorem dX0_numberOfSeason_10 : decode cX0_numberOfSeason 10 = .ok (.if_icmp .lt 7, 3) := by decide +kernel
theorem dX0_numberOfSeason_13 : decode cX0_numberOfSeason 13 = .ok (.sipush (-10001), 3) := by decide +kernel
theorem dX0_numberOfSeason_16 : decode cX0_numberOfSeason 16 = .ok (.ireturn, 1) := by decide +kernel
theorem dX0_numberOfSeason_17 : decode cX0_numberOfSeason 17 = .ok (.iload_n 1, 1) := by decide +kernel
theorem dX0_numberOfSeason_18 : decode cX0_numberOfSeason 18 = .ok (.aload_n 0, 1) := by decide +kernel
theorem dX0_numberOfSeason_19 : decode cX0_numberOfSeason 19 = .ok (.getfield 50, 3) := by decide +kernel
theorem dX0_numberOfSeason_22 : decode cX0_numberOfSeason 22 = .ok (.if_icmp .ge 9, 3) := by decide +kernel
theorem dX0_numberOfSeason_25 : decode cX0_numberOfSeason 25 = .ok (.iload_n 1, 1) := by decide +kernel
theorem dX0_numberOfSeason_26 : decode cX0_numberOfSeason 26 = .ok (.bipush 6, 2) := by decide +kernel
theorem dX0_numberOfSeason_28 : decode cX0_numberOfSeason 28 = .ok (.if_icmp .lt 7, 3) := by decide +kernel
theorem dX0_numberOfSeason_31 : decode cX0_numberOfSeason 31 = .ok (.sipush (-10004), 3) := by decide +kernel
theorem dX0_numberOfSeason_34 : decode cX0_numberOfSeason 34 = .ok (.ireturn, 1) := by decide +kernel
theorem dX0_numberOfSeason_35 : decode cX0_numberOfSeason 35 = .ok (.aload_n 0, 1) := by decide +kernel
theorem dX0_numberOfSeason_36 : decode cX0_numberOfSeason 36 = .ok (.getfield 36, 3) := by decide +kernel
theorem dX0_numberOfSeason_39 : decode cX0_numberOfSeason 39 = .ok (.aload_n 0, 1) := by decide +kernel
theorem dX0_numberOfSeason_40 : decode cX0_numberOfSeason 40 = .ok (.getfield 50, 3) := by decide +kernel
theorem dX0_numberOfSeason_43 : decode cX0_numberOfSeason 43 = .ok (.iconst 1, 1) := by decide +kernel
theorem dX0_numberOfSeason_44 : decode cX0_numberOfSeason 44 = .ok (.isub, 1) := by decide +kernel
theorem dX0_numberOfSeason_45 : decode cX0_numberOfSeason 45 = .ok (.iload_n 1, 1) := by decide +kernel
theorem dX0_numberOfSeason_46 : decode cX0_numberOfSeason 46 = .ok (.isub, 1) := by decide +kernel
theorem dX0_numberOfSeason_47 : decode cX0_numberOfSeason 47 = .ok (.bipush 6, 2) := by decide +kernel
theorem dX0_numberOfSeason_49 : decode cX0_numberOfSeason 49 = .ok (.irem, 1) := by decide +kernel
theorem dX0_numberOfSeason_50 : decode cX0_numberOfSeason 50 = .ok (.iconst 5, 1) := by decide +kernel
theorem dX0_numberOfSeason_51 : decode cX0_numberOfSeason 51 = .ok (.imul, 1) := by decide +kernel
theorem dX0_numberOfSeason_52 : decode cX0_numberOfSeason 52 = .ok (.iload_n 2, 1) := by decide +kernel
theorem dX0_numberOfSeason_53 : decode cX0_numberOfSeason 53 = .ok (.iadd, 1) := by decide +kernel
theorem dX0_numberOfSeason_54 : decode cX0_numberOfSeason 54 = .ok (.iaload, 1) := by decide +kernel
theorem dX0_numberOfSeason_55 : decode cX0_numberOfSeason 55 = .ok (.ireturn, 1) := by decide +kernel
theorem dX1_init_0 : decode cX1_init 0 = .ok (.aload_n 0, 1) := by decide +kernel
theorem dX1_init_1 : decode cX1_init 1 = .ok (.invokespecial 3, 3) := by decide +kernel
theorem dX1_init_4 : decode cX1_init 4 = .ok (.aload_n 0, 1) := by decide +kernel
theorem dX1_init_5 : decode cX1_init 5 = .ok (.iconst 4, 1) := by decide +kernel
theorem dX1_init_6 : decode cX1_init 6 = .ok (.anewarray 9, 3) := by decide +kernel
theorem dX1_init_9 : decode cX1_init 9 = .ok (.putfield 11, 3) := by decide +kernel
theorem dX1_init_12 : decode cX1_init 12 = .ok (.iconst 0, 1) := by decide +kernel
theorem dX1_init_13 : decode cX1_init 13 = .ok (.istore_n 1, 1) := by decide +kernel
theorem dX1_init_14 : decode cX1_init 14 = .ok (.iload_n 1, 1) := by decide +kernel
theorem dX1_init_15 : decode cX1_init 15 = .ok (.aload_n 0, 1) := by decide +kernel
theorem dX1_init_16 : decode cX1_init 16 = .ok (.getfield 11, 3) := by decide +kernel
theorem dX1_init_19 : decode cX1_init 19 = .ok (.arraylength, 1) := by decide +kernel
theorem dX1_init_20 : decode cX1_init 20 = .ok (.if_icmp .ge 22, 3) := by decide +kernel
theorem dX1_init_23 : decode cX1_init 23 = .ok (.aload_n 0, 1) := by decide +kernel
theorem dX1_init_24 : decode cX1_init 24 = .ok (.getfield 11, 3) := by decide +kernel
theorem dX1_init_27 : decode cX1_init 27 = .ok (.iload_n 1, 1) := by decide +kernel
theorem dX1_init_28 : decode cX1_init 28 = .ok (.new 9, 3) := by decide +kernel
theorem dX1_init_31 : decode cX1_init 31 = .ok (.dup, 1) := by decide +kernel
theorem dX1_init_32 : decode cX1_init 32 = .ok (.invokespecial 17, 3) := by decide +kernel
theorem dX1_init_35 : decode cX1_init 35 = .ok (.aastore, 1) := by decide +kernel
theorem dX1_init_36 : decode cX1_init 36 = .ok (.iinc 1 1, 3) := by decide +kernel
theorem dX1_init_39 : decode cX1_init 39 = .ok (.goto (-25), 3) := by decide +kernel
theorem dX1_init_42 : decode cX1_init 42 = .ok (.return_, 1) := by decide +kernel
theorem dX1_record_0 : decode cX1_record 0 = .ok (.aload_n 0, 1) := by decide +kernel
theorem dX1_record_1 : decode cX1_record 1 = .ok (.getfield 18, 3) := by decide +kernel
theorem dX1_record_4 : decode cX1_record 4 = .ok (.iconst 4, 1) := by decide +kernel
theorem dX1_record_5 : decode cX1_record 5 = .ok (.if_icmp .ne 25, 3) := by decide +kernel
theorem dX1_record_8 : decode cX1_record 8 = .ok (.aload_n 0, 1) := by decide +kernel
theorem dX1_record_9 : decode cX1_record 9 = .ok (.aload_n 0, 1) := by decide +kernel
theorem dX1_record_10 : decode cX1_record 10 = .ok (.getfield 22, 3) := by decide +kernel
theorem dX1_record_13 : decode cX1_record 13 = .ok (.iconst 1, 1) := by decide +kernel
theorem dX1_record_14 : decode cX1_record 14 = .ok (.iadd, 1) := by decide +kernel
theorem dX1_record_15 : decode cX1_record 15 = .ok (.iconst 4, 1) := by decide +kernel
theorem dX1_record_16 : decode cX1_record 16 = .ok (.irem, 1) := by decide +kernel
theorem dX1_record_17 : decode cX1_record 17 = .ok (.putfield 22, 3) := by decide +kernel
theorem dX1_record_20 : decode cX1_record 20 = .ok (.aload_n 0, 1) := by decide +kernel
theorem dX1_record_21 : decode cX1_record 21 = .ok (.dup, 1) := by decide +kernel
theorem dX1_record_22 : decode cX1_record 22 = .ok (.getfield 18, 3) := by decide +kernel
theorem dX1_record_25 : decode cX1_record 25 = .ok (.iconst 1, 1) := by decide +kernel
theorem dX1_record_26 : decode cX1_record 26 = .ok (.isub, 1) := by decide +kernel
theorem dX1_record_27 : decode cX1_record 27 = .ok (.putfield 18, 3) := by decide +kernel
theorem dX1_record_30 : decode cX1_record 30 = .ok (.aload_n 0, 1) := by decide +kernel
theorem dX1_record_31 : decode cX1_record 31 = .ok (.getfield 11, 3) := by decide +kernel
theorem dX1_record_34 : decode cX1_record 34 = .ok (.aload_n 0, 1) := by decide +kernel
theorem dX1_record_35 : decode cX1_record 35 = .ok (.getfield 22, 3) := by decide +kernel
theorem dX1_record_38 : decode cX1_record 38 = .ok (.aload_n 0, 1) := by decide +kernel
theorem dX1_record_39 : decode cX1_record 39 = .ok (.getfield 18, 3) := by decide +kernel
theorem dX1_record_42 : decode cX1_record 42 = .ok (.iadd, 1) := by decide +kernel
theorem dX1_record_43 : decode cX1_record 43 = .ok (.iconst 4, 1) := by decide +kernel
theorem dX1_record_44 : decode cX1_record 44 = .ok (.irem, 1) := by decide +kernel
theorem dX1_record_45 : decode cX1_record 45 = .ok (.aaload, 1) := by decide +kernel
theorem dX1_record_46 : decode cX1_record 46 = .ok (.astore_n 2, 1) := by decide +kernel
theorem dX1_record_47 : decode cX1_record 47 = .ok (.aload_n 2, 1) := by decide +kernel
theorem dX1_record_48 : decode cX1_record 48 = .ok (.ifnull 8, 3) := by decide +kernel
theorem dX1_record_51 : decode cX1_record 51 = .ok (.aload_n 2, 1) := by decide +kernel
theorem dX1_record_52 : decode cX1_record 52 = .ok (.aload_n 1, 1) := by decide +kernel
theorem dX1_record_53 : decode cX1_record 53 = .ok (.invokevirtual 25, 3) := by decide +kernel
theorem dX1_record_56 : decode cX1_record 56 = .ok (.aload_n 0, 1) := by decide +kernel
theorem dX1_record_57 : decode cX1_record 57 = .ok (.dup, 1) := by decide +kernel
theorem dX1_record_58 : decode cX1_record 58 = .ok (.getfield 18, 3) := by decide +kernel
theorem dX1_record_61 : decode cX1_record 61 = .ok (.iconst 1, 1) := by decide +kernel
theorem dX1_record_62 : decode cX1_record 62 = .ok (.iadd, 1) := by decide +kernel
theorem dX1_record_63 : decode cX1_record 63 = .ok (.putfield 18, 3) := by decide +kernel
theorem dX1_record_66 : decode cX1_record 66 = .ok (.return_, 1) := by decide +kernel
theorem dX1_restoreLatest_0 : decode cX1_restoreLatest 0 = .ok (.aload_n 0, 1) := by decide +kernel
theorem dX1_restoreLatest_1 : decode cX1_restoreLatest 1 = .ok (.getfield 18, 3) := by decide +kernel
theorem dX1_restoreLatest_4 : decode cX1_restoreLatest 4 = .ok (.iconst 1, 1) := by decide +kernel
theorem dX1_restoreLatest_5 : decode cX1_restoreLatest 5 = .ok (.if_icmp .ge 4, 3) := by decide +kernel
theorem dX1_restoreLatest_8 : decode cX1_restoreLatest 8 = .ok (.return_, 1) := by decide +kernel
theorem dX1_restoreLatest_9 : decode cX1_restoreLatest 9 = .ok (.aload_n 0, 1) := by decide +kernel
theorem dX1_restoreLatest_10 : decode cX1_restoreLatest 10 = .ok (.dup, 1) := by decide +kernel
theorem dX1_restoreLatest_11 : decode cX1_restoreLatest 11 = .ok (.getfield 18, 3) := by decide +kernel
theorem dX1_restoreLatest_14 : decode cX1_restoreLatest 14 = .ok (.iconst 1, 1) := by decide +kernel
theorem dX1_restoreLatest_15 : decode cX1_restoreLatest 15 = .ok (.isub, 1) := by decide +kernel
theorem dX1_restoreLatest_16 : decode cX1_restoreLatest 16 = .ok (.putfield 18, 3) := by decide +kernel
theorem dX1_restoreLatest_19 : decode cX1_restoreLatest 19 = .ok (.aload_n 0, 1) := by decide +kernel
theorem dX1_restoreLatest_20 : decode cX1_restoreLatest 20 = .ok (.getfield 11, 3) := by decide +kernel
theorem dX1_restoreLatest_23 : decode cX1_restoreLatest 23 = .ok (.aload_n 0, 1) := by decide +kernel
theorem dX1_restoreLatest_24 : decode cX1_restoreLatest 24 = .ok (.getfield 22, 3) := by decide +kernel
theorem dX1_restoreLatest_27 : decode cX1_restoreLatest 27 = .ok (.aload_n 0, 1) := by decide +kernel
theorem dX1_restoreLatest_28 : decode cX1_restoreLatest 28 = .ok (.getfield 18, 3) := by decide +kernel
theorem dX1_restoreLatest_31 : decode cX1_restoreLatest 31 = .ok (.iadd, 1) := by decide +kernel
theorem dX1_restoreLatest_32 : decode cX1_restoreLatest 32 = .ok (.iconst 4, 1) := by decide +kernel
theorem dX1_restoreLatest_33 : decode cX1_restoreLatest 33 = .ok (.irem, 1) := by decide +kernel
theorem dX1_restoreLatest_34 : decode cX1_restoreLatest 34 = .ok (.aaload, 1) := by decide +kernel
theorem dX1_restoreLatest_35 : decode cX1_restoreLatest 35 = .ok (.astore_n 2, 1) := by decide +kernel
theorem dX1_restoreLatest_36 : decode cX1_restoreLatest 36 = .ok (.aload_n 2, 1) := by decide +kernel
theorem dX1_restoreLatest_37 : decode cX1_restoreLatest 37 = .ok (.ifnull 8, 3) := by decide +kernel
theorem dX1_restoreLatest_40 : decode cX1_restoreLatest 40 = .ok (.aload_n 1, 1) := by decide +kernel
theorem dX1_restoreLatest_41 : decode cX1_restoreLatest 41 = .ok (.aload_n 2, 1) := by decide +kernel
theorem dX1_restoreLatest_42 : decode cX1_restoreLatest 42 = .ok (.invokevirtual 25, 3) := by decide +kernel
theorem dX1_restoreLatest_45 : decode cX1_restoreLatest 45 = .ok (.return_, 1) := by decide +kernel
theorem dX2_init_0 : decode cX2_init 0 = .ok (.aload_n 0, 1) := by decide +kernel
theorem dX2_init_1 : decode cX2_init 1 = .ok (.invokespecial 3, 3) := by decide +kernel
theorem dX2_init_4 : decode cX2_init 4 = .ok (.return_, 1) := by decide +kernel
theorem dX2_begin_0 : decode cX2_begin 0 = .ok (.aload_n 0, 1) := by decide +kernel
theorem dX2_begin_1 : decode cX2_begin 1 = .ok (.iconst 0, 1) := by decide +kernel
theorem dX2_begin_2 : decode cX2_begin 2 = .ok (.putfield 9, 3) := by decide +kernel
theorem dX2_begin_5 : decode cX2_begin 5 = .ok (.aload_n 0, 1) := by decide +kernel
theorem dX2_begin_6 : decode cX2_begin 6 = .ok (.iconst 0, 1) := by decide +kernel
theorem dX2_begin_7 : decode cX2_begin 7 = .ok (.putfield 15, 3) := by decide +kernel
theorem dX2_begin_10 : decode cX2_begin 10 = .ok (.aload_n 0, 1) := by decide +kernel
theorem dX2_begin_11 : decode cX2_begin 11 = .ok (.iconst 0, 1) := by decide +kernel
theorem dX2_begin_12 : decode cX2_begin 12 = .ok (.putfield 18, 3) := by decide +kernel
theorem dX2_begin_15 : decode cX2_begin 15 = .ok (.aload_n 0, 1) := by decide +kernel
theorem dX2_begin_16 : decode cX2_begin 16 = .ok (.iconst 0, 1) := by decide +kernel
theorem dX2_begin_17 : decode cX2_begin 17 = .ok (.putfield 21, 3) := by decide +kernel
theorem dX2_begin_20 : decode cX2_begin 20 = .ok (.return_, 1) := by decide +kernel
theorem dX2_isStoppedBy_0 : decode cX2_isStoppedBy 0 = .ok (.iload_n 1, 1) := by decide +kernel
theorem dX2_isStoppedBy_1 : decode cX2_isStoppedBy 1 = .ok (.ifCond .lt 15, 3) := by decide +kernel
theorem dX2_isStoppedBy_4 : decode cX2_isStoppedBy 4 = .ok (.aload_n 0, 1) := by decide +kernel
theorem dX2_isStoppedBy_5 : decode cX2_isStoppedBy 5 = .ok (.dup, 1) := by decide +kernel
theorem dX2_isStoppedBy_6 : decode cX2_isStoppedBy 6 = .ok (.getfield 21, 3) := by decide +kernel
theorem dX2_isStoppedBy_9 : decode cX2_isStoppedBy 9 = .ok (.iconst 1, 1) := by decide +kernel
theorem dX2_isStoppedBy_10 : decode cX2_isStoppedBy 10 = .ok (.iadd, 1) := by decide +kernel
theorem dX2_isStoppedBy_11 : decode cX2_isStoppedBy 11 = .ok (.putfield 21, 3) := by decide +kernel
theorem dX2_isStoppedBy_14 : decode cX2_isStoppedBy 14 = .ok (.iconst 0, 1) := by decide +kernel
theorem dX2_isStoppedBy_15 : decode cX2_isStoppedBy 15 = .ok (.ireturn, 1) := by decide +kernel
theorem dX2_isStoppedBy_16 : decode cX2_isStoppedBy 16 = .ok (.aload_n 0, 1) := by decide +kernel
theorem dX2_isStoppedBy_17 : decode cX2_isStoppedBy 17 = .ok (.iconst 2, 1) := by decide +kernel
theorem dX2_isStoppedBy_18 : decode cX2_isStoppedBy 18 = .ok (.putfield 15, 3) := by decide +kernel
theorem dX2_isStoppedBy_21 : decode cX2_isStoppedBy 21 = .ok (.aload_n 0, 1) := by decide +kernel
theorem dX2_isStoppedBy_22 : decode cX2_isStoppedBy 22 = .ok (.iload_n 1, 1) := by decide +kernel
theorem dX2_isStoppedBy_23 : decode cX2_isStoppedBy 23 = .ok (.putfield 18, 3) := by decide +kernel
theorem dX2_isStoppedBy_26 : decode cX2_isStoppedBy 26 = .ok (.iconst 1, 1) := by decide +kernel
theorem dX2_isStoppedBy_27 : decode cX2_isStoppedBy 27 = .ok (.ireturn, 1) := by decide +kernel
theorem dX3_init_0 : decode cX3_init 0 = .ok (.aload_n 0, 1) := by decide +kernel
theorem dX3_init_1 : decode cX3_init 1 = .ok (.invokespecial 3, 3) := by decide +kernel
theorem dX3_init_4 : decode cX3_init 4 = .ok (.aload_n 0, 1) := by decide +kernel
theorem dX3_init_5 : decode cX3_init 5 = .ok (.bipush 60, 2) := by decide +kernel
theorem dX3_init_7 : decode cX3_init 7 = .ok (.newarray .char, 2) := by decide +kernel
theorem dX3_init_9 : decode cX3_init 9 = .ok (.putfield 9, 3) := by decide +kernel
theorem dX3_init_12 : decode cX3_init 12 = .ok (.return_, 1) := by decide +kernel
theorem dX3_append_0 : decode cX3_append 0 = .ok (.iload_n 1, 1) := by decide +kernel
theorem dX3_append_1 : decode cX3_append 1 = .ok (.bipush 32, 2) := by decide +kernel
theorem dX3_append_3 : decode cX3_append 3 = .ok (.if_icmp .lt 9, 3) := by decide +kernel
theorem dX3_append_6 : decode cX3_append 6 = .ok (.iload_n 1, 1) := by decide +kernel
theorem dX3_append_7 : decode cX3_append 7 = .ok (.bipush 126, 2) := by decide +kernel
theorem dX3_append_9 : decode cX3_append 9 = .ok (.if_icmp .le 7, 3) := by decide +kernel
theorem dX3_append_12 : decode cX3_append 12 = .ok (.sipush (-10001), 3) := by decide +kernel
theorem dX3_append_15 : decode cX3_append 15 = .ok (.ireturn, 1) := by decide +kernel
theorem dX3_append_16 : decode cX3_append 16 = .ok (.aload_n 0, 1) := by decide +kernel
theorem dX3_append_17 : decode cX3_append 17 = .ok (.getfield 15, 3) := by decide +kernel
theorem dX3_append_20 : decode cX3_append 20 = .ok (.bipush 60, 2) := by decide +kernel
theorem dX3_append_22 : decode cX3_append 22 = .ok (.if_icmp .lt 7, 3) := by decide +kernel
theorem dX3_append_25 : decode cX3_append 25 = .ok (.sipush (-10003), 3) := by decide +kernel
theorem dX3_append_28 : decode cX3_append 28 = .ok (.ireturn, 1) := by decide +kernel
theorem dX3_append_29 : decode cX3_append 29 = .ok (.aload_n 0, 1) := by decide +kernel
theorem dX3_append_30 : decode cX3_append 30 = .ok (.getfield 9, 3) := by decide +kernel
theorem dX3_append_33 : decode cX3_append 33 = .ok (.aload_n 0, 1) := by decide +kernel
theorem dX3_append_34 : decode cX3_append 34 = .ok (.getfield 15, 3) := by decide +kernel
theorem dX3_append_37 : decode cX3_append 37 = .ok (.iload_n 1, 1) := by decide +kernel
theorem dX3_append_38 : decode cX3_append 38 = .ok (.i2c, 1) := by decide +kernel
theorem dX3_append_39 : decode cX3_append 39 = .ok (.castore, 1) := by decide +kernel
theorem dX3_append_40 : decode cX3_append 40 = .ok (.aload_n 0, 1) := by decide +kernel
theorem dX3_append_41 : decode cX3_append 41 = .ok (.dup, 1) := by decide +kernel
theorem dX3_append_42 : decode cX3_append 42 = .ok (.getfield 15, 3) := by decide +kernel
theorem dX3_append_45 : decode cX3_append 45 = .ok (.iconst 1, 1) := by decide +kernel
theorem dX3_append_46 : decode cX3_append 46 = .ok (.iadd, 1) := by decide +kernel
theorem dX3_append_47 : decode cX3_append 47 = .ok (.putfield 15, 3) := by decide +kernel
theorem dX3_append_50 : decode cX3_append 50 = .ok (.aload_n 0, 1) := by decide +kernel
theorem dX3_append_51 : decode cX3_append 51 = .ok (.getfield 15, 3) := by decide +kernel
theorem dX3_append_54 : decode cX3_append 54 = .ok (.ireturn, 1) := by decide +kernel
theorem dX3_readCommand_0 : decode cX3_readCommand 0 = .ok (.aload_n 0, 1) := by decide +kernel
theorem dX3_readCommand_1 : decode cX3_readCommand 1 = .ok (.aload_n 0, 1) := by decide +kernel
theorem dX3_readCommand_2 : decode cX3_readCommand 2 = .ok (.invokevirtual 19, 3) := by decide +kernel
theorem dX3_readCommand_5 : decode cX3_readCommand 5 = .ok (.putfield 23, 3) := by decide +kernel
theorem dX3_readCommand_8 : decode cX3_readCommand 8 = .ok (.aload_n 0, 1) := by decide +kernel
theorem dX3_readCommand_9 : decode cX3_readCommand 9 = .ok (.dup, 1) := by decide +kernel
theorem dX3_readCommand_10 : decode cX3_readCommand 10 = .ok (.getfield 26, 3) := by decide +kernel
theorem dX3_readCommand_13 : decode cX3_readCommand 13 = .ok (.iconst 1, 1) := by decide +kernel
theorem dX3_readCommand_14 : decode cX3_readCommand 14 = .ok (.iadd, 1) := by decide +kernel
theorem dX3_readCommand_15 : decode cX3_readCommand 15 = .ok (.putfield 26, 3) := by decide +kernel
theorem dX3_readCommand_18 : decode cX3_readCommand 18 = .ok (.aload_n 0, 1) := by decide +kernel
theorem dX3_readCommand_19 : decode cX3_readCommand 19 = .ok (.iconst 0, 1) := by decide +kernel
theorem dX3_readCommand_20 : decode cX3_readCommand 20 = .ok (.putfield 29, 3) := by decide +kernel
theorem dX3_readCommand_23 : decode cX3_readCommand 23 = .ok (.aload_n 0, 1) := by decide +kernel
theorem dX3_readCommand_24 : decode cX3_readCommand 24 = .ok (.iconst 0, 1) := by decide +kernel
theorem dX3_readCommand_25 : decode cX3_readCommand 25 = .ok (.putfield 32, 3) := by decide +kernel
theorem dX3_readCommand_28 : decode cX3_readCommand 28 = .ok (.aload_n 0, 1) := by decide +kernel
theorem dX3_readCommand_29 : decode cX3_readCommand 29 = .ok (.getfield 23, 3) := by decide +kernel
theorem dX3_readCommand_32 : decode cX3_readCommand 32 = .ok (.lookupswitch 96 #[(99, 52), (109, 55), (112, 66), (114, 55), (117, 66)], 52) := by decide +kernel
theorem dX3_readCommand_84 : decode cX3_readCommand 84 = .ok (.goto 46, 3) := by decide +kernel
theorem dX3_readCommand_87 : decode cX3_readCommand 87 = .ok (.aload_n 0, 1) := by decide +kernel
theorem dX3_readCommand_88 : decode cX3_readCommand 88 = .ok (.aload_n 0, 1) := by decide +kernel
theorem dX3_readCommand_89 : decode cX3_readCommand 89 = .ok (.invokevirtual 35, 3) := by decide +kernel
theorem dX3_readCommand_92 : decode cX3_readCommand 92 = .ok (.putfield 29, 3) := by decide +kernel
theorem dX3_readCommand_95 : decode cX3_readCommand 95 = .ok (.goto 35, 3) := by decide +kernel
theorem dX3_readCommand_98 : decode cX3_readCommand 98 = .ok (.aload_n 0, 1) := by decide +kernel
theorem dX3_readCommand_99 : decode cX3_readCommand 99 = .ok (.aload_n 0, 1) := by decide +kernel
theorem dX3_readCommand_100 : decode cX3_readCommand 100 = .ok (.invokevirtual 35, 3) := by decide +kernel
theorem dX3_readCommand_103 : decode cX3_readCommand 103 = .ok (.putfield 29, 3) := by decide +kernel
theorem dX3_readCommand_106 : decode cX3_readCommand 106 = .ok (.aload_n 0, 1) := by decide +kernel
theorem dX3_readCommand_107 : decode cX3_readCommand 107 = .ok (.bipush 44, 2) := by decide +kernel
theorem dX3_readCommand_109 : decode cX3_readCommand 109 = .ok (.invokevirtual 38, 3) := by decide +kernel
theorem dX3_readCommand_112 : decode cX3_readCommand 112 = .ok (.ifCond .ne 5, 3) := by decide +kernel
theorem dX3_readCommand_115 : decode cX3_readCommand 115 = .ok (.iconst 0, 1) := by decide +kernel
theorem dX3_readCommand_116 : decode cX3_readCommand 116 = .ok (.ireturn, 1) := by decide +kernel
theorem dX3_readCommand_117 : decode cX3_readCommand 117 = .ok (.aload_n 0, 1) := by decide +kernel
theorem dX3_readCommand_118 : decode cX3_readCommand 118 = .ok (.aload_n 0, 1) := by decide +kernel
theorem dX3_readCommand_119 : decode cX3_readCommand 119 = .ok (.invokevirtual 35, 3) := by decide +kernel
theorem dX3_readCommand_122 : decode cX3_readCommand 122 = .ok (.putfield 32, 3) := by decide +kernel
theorem dX3_readCommand_125 : decode cX3_readCommand 125 = .ok (.goto 5, 3) := by decide +kernel
theorem dX3_readCommand_128 : decode cX3_readCommand 128 = .ok (.iconst 0, 1) := by decide +kernel
theorem dX3_readCommand_129 : decode cX3_readCommand 129 = .ok (.ireturn, 1) := by decide +kernel
theorem dX3_readCommand_130 : decode cX3_readCommand 130 = .ok (.aload_n 0, 1) := by decide +kernel
theorem dX3_readCommand_131 : decode cX3_readCommand 131 = .ok (.getfield 29, 3) := by decide +kernel
theorem dX3_readCommand_134 : decode cX3_readCommand 134 = .ok (.ifCond .lt 23, 3) := by decide +kernel
theorem dX3_readCommand_137 : decode cX3_readCommand 137 = .ok (.aload_n 0, 1) := by decide +kernel
theorem dX3_readCommand_138 : decode cX3_readCommand 138 = .ok (.getfield 32, 3) := by decide +kernel
theorem dX3_readCommand_141 : decode cX3_readCommand 141 = .ok (.ifCond .lt 16, 3) := by decide +kernel
theorem dX3_readCommand_144 : decode cX3_readCommand 144 = .ok (.aload_n 0, 1) := by decide +kernel
theorem dX3_readCommand_145 : decode cX3_readCommand 145 = .ok (.bipush 59, 2) := by decide +kernel
theorem dX3_readCommand_147 : decode cX3_readCommand 147 = .ok (.invokevirtual 38, 3) := by decide +kernel
theorem dX3_readCommand_150 : decode cX3_readCommand 150 = .ok (.ifCond .eq 7, 3) := by decide +kernel
theorem dX3_readCommand_153 : decode cX3_readCommand 153 = .ok (.iconst 1, 1) := by decide +kernel
theorem dX3_readCommand_154 : decode cX3_readCommand 154 = .ok (.goto 4, 3) := by decide +kernel
theorem dX3_readCommand_157 : decode cX3_readCommand 157 = .ok (.iconst 0, 1) := by decide +kernel
theorem dX3_readCommand_158 : decode cX3_readCommand 158 = .ok (.ireturn, 1) := by decide +kernel
theorem dX3_signAhead_0 : decode cX3_signAhead 0 = .ok (.aload_n 0, 1) := by decide +kernel
theorem dX3_signAhead_1 : decode cX3_signAhead 1 = .ok (.getfield 26, 3) := by decide +kernel
theorem dX3_signAhead_4 : decode cX3_signAhead 4 = .ok (.ifCond .lt 35, 3) := by decide +kernel
theorem dX3_signAhead_7 : decode cX3_signAhead 7 = .ok (.aload_n 0, 1) := by decide +kernel
theorem dX3_signAhead_8 : decode cX3_signAhead 8 = .ok (.getfield 26, 3) := by decide +kernel
theorem dX3_signAhead_11 : decode cX3_signAhead 11 = .ok (.aload_n 0, 1) := by decide +kernel
theorem dX3_signAhead_12 : decode cX3_signAhead 12 = .ok (.getfield 15, 3) := by decide +kernel
theorem dX3_signAhead_15 : decode cX3_signAhead 15 = .ok (.if_icmp .ge 24, 3) := by decide +kernel
theorem dX3_signAhead_18 : decode cX3_signAhead 18 = .ok (.aload_n 0, 1) := by decide +kernel
theorem dX3_signAhead_19 : decode cX3_signAhead 19 = .ok (.getfield 26, 3) := by decide +kernel
theorem dX3_signAhead_22 : decode cX3_signAhead 22 = .ok (.bipush 60, 2) := by decide +kernel
theorem dX3_signAhead_24 : decode cX3_signAhead 24 = .ok (.if_icmp .ge 15, 3) := by decide +kernel
theorem dX3_signAhead_27 : decode cX3_signAhead 27 = .ok (.aload_n 0, 1) := by decide +kernel
theorem dX3_signAhead_28 : decode cX3_signAhead 28 = .ok (.getfield 9, 3) := by decide +kernel
theorem dX3_signAhead_31 : decode cX3_signAhead 31 = .ok (.aload_n 0, 1) := by decide +kernel
theorem dX3_signAhead_32 : decode cX3_signAhead 32 = .ok (.getfield 26, 3) := by decide +kernel
theorem dX3_signAhead_35 : decode cX3_signAhead 35 = .ok (.caload, 1) := by decide +kernel
theorem dX3_signAhead_36 : decode cX3_signAhead 36 = .ok (.goto 4, 3) := by decide +kernel
theorem dX3_signAhead_39 : decode cX3_signAhead 39 = .ok (.iconst (-1), 1) := by decide +kernel
theorem dX3_signAhead_40 : decode cX3_signAhead 40 = .ok (.ireturn, 1) := by decide +kernel
theorem dX3_passes_0 : decode cX3_passes 0 = .ok (.aload_n 0, 1) := by decide +kernel
theorem dX3_passes_1 : decode cX3_passes 1 = .ok (.invokevirtual 19, 3) := by decide +kernel
theorem dX3_passes_4 : decode cX3_passes 4 = .ok (.iload_n 1, 1) := by decide +kernel
theorem dX3_passes_5 : decode cX3_passes 5 = .ok (.if_icmp .eq 5, 3) := by decide +kernel
theorem dX3_passes_8 : decode cX3_passes 8 = .ok (.iconst 0, 1) := by decide +kernel
theorem dX3_passes_9 : decode cX3_passes 9 = .ok (.ireturn, 1) := by decide +kernel
theorem dX3_passes_10 : decode cX3_passes 10 = .ok (.aload_n 0, 1) := by decide +kernel
theorem dX3_passes_11 : decode cX3_passes 11 = .ok (.dup, 1) := by decide +kernel
theorem dX3_passes_12 : decode cX3_passes 12 = .ok (.getfield 26, 3) := by decide +kernel
theorem dX3_passes_15 : decode cX3_passes 15 = .ok (.iconst 1, 1) := by decide +kernel
theorem dX3_passes_16 : decode cX3_passes 16 = .ok (.iadd, 1) := by decide +kernel
theorem dX3_passes_17 : decode cX3_passes 17 = .ok (.putfield 26, 3) := by decide +kernel
theorem dX3_passes_20 : decode cX3_passes 20 = .ok (.iconst 1, 1) := by decide +kernel
theorem dX3_passes_21 : decode cX3_passes 21 = .ok (.ireturn, 1) := by decide +kernel
theorem dX3_readNumber_0 : decode cX3_readNumber 0 = .ok (.iconst (-1), 1) := by decide +kernel
theorem dX3_readNumber_1 : decode cX3_readNumber 1 = .ok (.istore_n 1, 1) := by decide +kernel
theorem dX3_readNumber_2 : decode cX3_readNumber 2 = .ok (.iconst 0, 1) := by decide +kernel
theorem dX3_readNumber_3 : decode cX3_readNumber 3 = .ok (.istore_n 2, 1) := by decide +kernel
theorem dX3_readNumber_4 : decode cX3_readNumber 4 = .ok (.iload_n 2, 1) := by decide +kernel
theorem dX3_readNumber_5 : decode cX3_readNumber 5 = .ok (.iconst 3, 1) := by decide +kernel
theorem dX3_readNumber_6 : decode cX3_readNumber 6 = .ok (.if_icmp .ge 52, 3) := by decide +kernel
theorem dX3_readNumber_9 : decode cX3_readNumber 9 = .ok (.aload_n 0, 1) := by decide +kernel
theorem dX3_readNumber_10 : decode cX3_readNumber 10 = .ok (.invokevirtual 19, 3) := by decide +kernel
theorem dX3_readNumber_13 : decode cX3_readNumber 13 = .ok (.istore_n 3, 1) := by decide +kernel
theorem dX3_readNumber_14 : decode cX3_readNumber 14 = .ok (.iload_n 3, 1) := by decide +kernel
theorem dX3_readNumber_15 : decode cX3_readNumber 15 = .ok (.bipush 48, 2) := by decide +kernel
theorem dX3_readNumber_17 : decode cX3_readNumber 17 = .ok (.if_icmp .lt 9, 3) := by decide +kernel
theorem dX3_readNumber_20 : decode cX3_readNumber 20 = .ok (.iload_n 3, 1) := by decide +kernel
theorem dX3_readNumber_21 : decode cX3_readNumber 21 = .ok (.bipush 57, 2) := by decide +kernel
theorem dX3_readNumber_23 : decode cX3_readNumber 23 = .ok (.if_icmp .le 5, 3) := by decide +kernel
theorem dX3_readNumber_26 : decode cX3_readNumber 26 = .ok (.iload_n 1, 1) := by decide +kernel
theorem dX3_readNumber_27 : decode cX3_readNumber 27 = .ok (.ireturn, 1) := by decide +kernel
theorem dX3_readNumber_28 : decode cX3_readNumber 28 = .ok (.iload_n 1, 1) := by decide +kernel
theorem dX3_readNumber_29 : decode cX3_readNumber 29 = .ok (.iconst 0, 1) := by decide +kernel
theorem dX3_readNumber_30 : decode cX3_readNumber 30 = .ok (.invokestatic 42, 3) := by decide +kernel
theorem dX3_readNumber_33 : decode cX3_readNumber 33 = .ok (.bipush 10, 2) := by decide +kernel
theorem dX3_readNumber_35 : decode cX3_readNumber 35 = .ok (.imul, 1) := by decide +kernel
theorem dX3_readNumber_36 : decode cX3_readNumber 36 = .ok (.iload_n 3, 1) := by decide +kernel
theorem dX3_readNumber_37 : decode cX3_readNumber 37 = .ok (.bipush 48, 2) := by decide +kernel
theorem dX3_readNumber_39 : decode cX3_readNumber 39 = .ok (.isub, 1) := by decide +kernel
theorem dX3_readNumber_40 : decode cX3_readNumber 40 = .ok (.iadd, 1) := by decide +kernel
theorem dX3_readNumber_41 : decode cX3_readNumber 41 = .ok (.istore_n 1, 1) := by decide +kernel
theorem dX3_readNumber_42 : decode cX3_readNumber 42 = .ok (.aload_n 0, 1) := by decide +kernel
theorem dX3_readNumber_43 : decode cX3_readNumber 43 = .ok (.dup, 1) := by decide +kernel
theorem dX3_readNumber_44 : decode cX3_readNumber 44 = .ok (.getfield 26, 3) := by decide +kernel
theorem dX3_readNumber_47 : decode cX3_readNumber 47 = .ok (.iconst 1, 1) := by decide +kernel
theorem dX3_readNumber_48 : decode cX3_readNumber 48 = .ok (.iadd, 1) := by decide +kernel
theorem dX3_readNumber_49 : decode cX3_readNumber 49 = .ok (.putfield 26, 3) := by decide +kernel
theorem dX3_readNumber_52 : decode cX3_readNumber 52 = .ok (.iinc 2 1, 3) := by decide +kernel
theorem dX3_readNumber_55 : decode cX3_readNumber 55 = .ok (.goto (-51), 3) := by decide +kernel
theorem dX3_readNumber_58 : decode cX3_readNumber 58 = .ok (.iload_n 1, 1) := by decide +kernel
theorem dX3_readNumber_59 : decode cX3_readNumber 59 = .ok (.ireturn, 1) := by decide +kernel
theorem dX4_init_0 : decode cX4_init 0 = .ok (.aload_n 0, 1) := by decide +kernel
theorem dX4_init_1 : decode cX4_init 1 = .ok (.invokespecial 1, 3) := by decide +kernel
theorem dX4_init_4 : decode cX4_init 4 = .ok (.aload_n 0, 1) := by decide +kernel
theorem dX4_init_5 : decode cX4_init 5 = .ok (.new 7, 3) := by decide +kernel
theorem dX4_init_8 : decode cX4_init 8 = .ok (.dup, 1) := by decide +kernel
theorem dX4_init_9 : decode cX4_init 9 = .ok (.invokespecial 9, 3) := by decide +kernel
theorem dX4_init_12 : decode cX4_init 12 = .ok (.putfield 10, 3) := by decide +kernel
theorem dX4_init_15 : decode cX4_init 15 = .ok (.aload_n 0, 1) := by decide +kernel
theorem dX4_init_16 : decode cX4_init 16 = .ok (.new 7, 3) := by decide +kernel
theorem dX4_init_19 : decode cX4_init 19 = .ok (.dup, 1) := by decide +kernel
theorem dX4_init_20 : decode cX4_init 20 = .ok (.invokespecial 9, 3) := by decide +kernel
theorem dX4_init_23 : decode cX4_init 23 = .ok (.putfield 16, 3) := by decide +kernel
theorem dX4_init_26 : decode cX4_init 26 = .ok (.aload_n 0, 1) := by decide +kernel
theorem dX4_init_27 : decode cX4_init 27 = .ok (.new 19, 3) := by decide +kernel
theorem dX4_init_30 : decode cX4_init 30 = .ok (.dup, 1) := by decide +kernel
theorem dX4_init_31 : decode cX4_init 31 = .ok (.invokespecial 21, 3) := by decide +kernel
theorem dX4_init_34 : decode cX4_init 34 = .ok (.putfield 22, 3) := by decide +kernel
theorem dX4_init_37 : decode cX4_init 37 = .ok (.aload_n 0, 1) := by decide +kernel
theorem dX4_init_38 : decode cX4_init 38 = .ok (.new 26, 3) := by decide +kernel
theorem dX4_init_41 : decode cX4_init 41 = .ok (.dup, 1) := by decide +kernel
theorem dX4_init_42 : decode cX4_init 42 = .ok (.invokespecial 28, 3) := by decide +kernel
theorem dX4_init_45 : decode cX4_init 45 = .ok (.putfield 29, 3) := by decide +kernel
theorem dX4_init_48 : decode cX4_init 48 = .ok (.aload_n 0, 1) := by decide +kernel
theorem dX4_init_49 : decode cX4_init 49 = .ok (.new 33, 3) := by decide +kernel
theorem dX4_init_52 : decode cX4_init 52 = .ok (.dup, 1) := by decide +kernel
theorem dX4_init_53 : decode cX4_init 53 = .ok (.invokespecial 35, 3) := by decide +kernel
theorem dX4_init_56 : decode cX4_init 56 = .ok (.putfield 36, 3) := by decide +kernel
theorem dX4_init_59 : decode cX4_init 59 = .ok (.return_, 1) := by decide +kernel
theorem dX4_member_0 : decode cX4_member 0 = .ok (.aload_n 0, 1) := by decide +kernel
theorem dX4_member_1 : decode cX4_member 1 = .ok (.getfield 16, 3) := by decide +kernel
theorem dX4_member_4 : decode cX4_member 4 = .ok (.aload_n 0, 1) := by decide +kernel
theorem dX4_member_5 : decode cX4_member 5 = .ok (.getfield 10, 3) := by decide +kernel
theorem dX4_member_8 : decode cX4_member 8 = .ok (.invokevirtual 40, 3) := by decide +kernel
theorem dX4_member_11 : decode cX4_member 11 = .ok (.aload_n 0, 1) := by decide +kernel
theorem dX4_member_12 : decode cX4_member 12 = .ok (.aload_n 0, 1) := by decide +kernel
theorem dX4_member_13 : decode cX4_member 13 = .ok (.getfield 16, 3) := by decide +kernel
theorem dX4_member_16 : decode cX4_member 16 = .ok (.iload_n 1, 1) := by decide +kernel
theorem dX4_member_17 : decode cX4_member 17 = .ok (.invokevirtual 44, 3) := by decide +kernel
theorem dX4_member_20 : decode cX4_member 20 = .ok (.invokevirtual 48, 3) := by decide +kernel
theorem dX4_member_23 : decode cX4_member 23 = .ok (.ireturn, 1) := by decide +kernel
theorem dX4_use_0 : decode cX4_use 0 = .ok (.aload_n 0, 1) := by decide +kernel
theorem dX4_use_1 : decode cX4_use 1 = .ok (.getfield 16, 3) := by decide +kernel
theorem dX4_use_4 : decode cX4_use 4 = .ok (.aload_n 0, 1) := by decide +kernel
theorem dX4_use_5 : decode cX4_use 5 = .ok (.getfield 10, 3) := by decide +kernel
theorem dX4_use_8 : decode cX4_use 8 = .ok (.invokevirtual 40, 3) := by decide +kernel
theorem dX4_use_11 : decode cX4_use 11 = .ok (.aload_n 0, 1) := by decide +kernel
theorem dX4_use_12 : decode cX4_use 12 = .ok (.aload_n 0, 1) := by decide +kernel
theorem dX4_use_13 : decode cX4_use 13 = .ok (.getfield 16, 3) := by decide +kernel
theorem dX4_use_16 : decode cX4_use 16 = .ok (.iload_n 1, 1) := by decide +kernel
theorem dX4_use_17 : decode cX4_use 17 = .ok (.iload_n 2, 1) := by decide +kernel
theorem dX4_use_18 : decode cX4_use 18 = .ok (.invokevirtual 51, 3) := by decide +kernel
theorem dX4_use_21 : decode cX4_use 21 = .ok (.invokevirtual 48, 3) := by decide +kernel
theorem dX4_use_24 : decode cX4_use 24 = .ok (.ireturn, 1) := by decide +kernel
theorem dX4_close_0 : decode cX4_close 0 = .ok (.aload_n 0, 1) := by decide +kernel
theorem dX4_close_1 : decode cX4_close 1 = .ok (.getfield 16, 3) := by decide +kernel
theorem dX4_close_4 : decode cX4_close 4 = .ok (.aload_n 0, 1) := by decide +kernel
theorem dX4_close_5 : decode cX4_close 5 = .ok (.getfield 10, 3) := by decide +kernel
theorem dX4_close_8 : decode cX4_close 8 = .ok (.invokevirtual 40, 3) := by decide +kernel
theorem dX4_close_11 : decode cX4_close 11 = .ok (.aload_n 0, 1) := by decide +kernel
theorem dX4_close_12 : decode cX4_close 12 = .ok (.aload_n 0, 1) := by decide +kernel
theorem dX4_close_13 : decode cX4_close 13 = .ok (.getfield 16, 3) := by decide +kernel
theorem dX4_close_16 : decode cX4_close 16 = .ok (.invokevirtual 55, 3) := by decide +kernel
theorem dX4_close_19 : decode cX4_close 19 = .ok (.invokevirtual 48, 3) := by decide +kernel
theorem dX4_close_22 : decode cX4_close 22 = .ok (.ireturn, 1) := by decide +kernel
theorem dX4_pay_0 : decode cX4_pay 0 = .ok (.aload_n 0, 1) := by decide +kernel
theorem dX4_pay_1 : decode cX4_pay 1 = .ok (.getfield 16, 3) := by decide +kernel
theorem dX4_pay_4 : decode cX4_pay 4 = .ok (.aload_n 0, 1) := by decide +kernel
theorem dX4_pay_5 : decode cX4_pay 5 = .ok (.getfield 10, 3) := by decide +kernel
theorem dX4_pay_8 : decode cX4_pay 8 = .ok (.invokevirtual 40, 3) := by decide +kernel
theorem dX4_pay_11 : decode cX4_pay 11 = .ok (.aload_n 0, 1) := by decide +kernel
theorem dX4_pay_12 : decode cX4_pay 12 = .ok (.aload_n 0, 1) := by decide +kernel
theorem dX4_pay_13 : decode cX4_pay 13 = .ok (.getfield 16, 3) := by decide +kernel
theorem dX4_pay_16 : decode cX4_pay 16 = .ok (.iload_n 1, 1) := by decide +kernel
theorem dX4_pay_17 : decode cX4_pay 17 = .ok (.iload_n 2, 1) := by decide +kernel
theorem dX4_pay_18 : decode cX4_pay 18 = .ok (.invokevirtual 59, 3) := by decide +kernel
theorem dX4_pay_21 : decode cX4_pay 21 = .ok (.invokevirtual 48, 3) := by decide +kernel
theorem dX4_pay_24 : decode cX4_pay 24 = .ok (.ireturn, 1) := by decide +kernel
theorem dX4_repair_0 : decode cX4_repair 0 = .ok (.aload_n 0, 1) := by decide +kernel
theorem dX4_repair_1 : decode cX4_repair 1 = .ok (.getfield 16, 3) := by decide +kernel
theorem dX4_repair_4 : decode cX4_repair 4 = .ok (.aload_n 0, 1) := by decide +kernel
theorem dX4_repair_5 : decode cX4_repair 5 = .ok (.getfield 10, 3) := by decide +kernel
theorem dX4_repair_8 : decode cX4_repair 8 = .ok (.invokevirtual 40, 3) := by decide +kernel
theorem dX4_repair_11 : decode cX4_repair 11 = .ok (.aload_n 0, 1) := by decide +kernel
theorem dX4_repair_12 : decode cX4_repair 12 = .ok (.aload_n 0, 1) := by decide +kernel
theorem dX4_repair_13 : decode cX4_repair 13 = .ok (.getfield 16, 3) := by decide +kernel
theorem dX4_repair_16 : decode cX4_repair 16 = .ok (.iload_n 1, 1) := by decide +kernel
theorem dX4_repair_17 : decode cX4_repair 17 = .ok (.invokevirtual 62, 3) := by decide +kernel
theorem dX4_repair_20 : decode cX4_repair 20 = .ok (.invokevirtual 48, 3) := by decide +kernel
theorem dX4_repair_23 : decode cX4_repair 23 = .ok (.ireturn, 1) := by decide +kernel
theorem dX4_set_0 : decode cX4_set 0 = .ok (.aload_n 0, 1) := by decide +kernel
theorem dX4_set_1 : decode cX4_set 1 = .ok (.getfield 16, 3) := by decide +kernel
theorem dX4_set_4 : decode cX4_set 4 = .ok (.aload_n 0, 1) := by decide +kernel
theorem dX4_set_5 : decode cX4_set 5 = .ok (.getfield 10, 3) := by decide +kernel
theorem dX4_set_8 : decode cX4_set 8 = .ok (.invokevirtual 40, 3) := by decide +kernel
theorem dX4_set_11 : decode cX4_set 11 = .ok (.aload_n 0, 1) := by decide +kernel
theorem dX4_set_12 : decode cX4_set 12 = .ok (.aload_n 0, 1) := by decide +kernel
theorem dX4_set_13 : decode cX4_set 13 = .ok (.getfield 16, 3) := by decide +kernel
theorem dX4_set_16 : decode cX4_set 16 = .ok (.iload_n 1, 1) := by decide +kernel
theorem dX4_set_17 : decode cX4_set 17 = .ok (.iload_n 2, 1) := by decide +kernel
theorem dX4_set_18 : decode cX4_set 18 = .ok (.invokevirtual 65, 3) := by decide +kernel
theorem dX4_set_21 : decode cX4_set 21 = .ok (.invokevirtual 48, 3) := by decide +kernel
theorem dX4_set_24 : decode cX4_set 24 = .ok (.ireturn, 1) := by decide +kernel
theorem dX4_memberOf_0 : decode cX4_memberOf 0 = .ok (.aload_n 0, 1) := by decide +kernel
theorem dX4_memberOf_1 : decode cX4_memberOf 1 = .ok (.getfield 10, 3) := by decide +kernel
theorem dX4_memberOf_4 : decode cX4_memberOf 4 = .ok (.iload_n 1, 1) := by decide +kernel
theorem dX4_memberOf_5 : decode cX4_memberOf 5 = .ok (.iload_n 2, 1) := by decide +kernel
theorem dX4_memberOf_6 : decode cX4_memberOf 6 = .ok (.invokevirtual 68, 3) := by decide +kernel
theorem dX4_memberOf_9 : decode cX4_memberOf 9 = .ok (.ireturn, 1) := by decide +kernel
theorem dX4_count_0 : decode cX4_count 0 = .ok (.iload_n 1, 1) := by decide +kernel
theorem dX4_count_1 : decode cX4_count 1 = .ok (.bipush 11, 2) := by decide +kernel
theorem dX4_count_3 : decode cX4_count 3 = .ok (.if_icmp .ne 11, 3) := by decide +kernel
theorem dX4_count_6 : decode cX4_count 6 = .ok (.aload_n 0, 1) := by decide +kernel
theorem dX4_count_7 : decode cX4_count 7 = .ok (.getfield 22, 3) := by decide +kernel
theorem dX4_count_10 : decode cX4_count 10 = .ok (.getfield 71, 3) := by decide +kernel
theorem dX4_count_13 : decode cX4_count 13 = .ok (.ireturn, 1) := by decide +kernel
theorem dX4_count_14 : decode cX4_count 14 = .ok (.iload_n 1, 1) := by decide +kernel
theorem dX4_count_15 : decode cX4_count 15 = .ok (.bipush 12, 2) := by decide +kernel
theorem dX4_count_17 : decode cX4_count 17 = .ok (.if_icmp .ne 11, 3) := by decide +kernel
theorem dX4_count_20 : decode cX4_count 20 = .ok (.aload_n 0, 1) := by decide +kernel
theorem dX4_count_21 : decode cX4_count 21 = .ok (.getfield 29, 3) := by decide +kernel
theorem dX4_count_24 : decode cX4_count 24 = .ok (.getfield 75, 3) := by decide +kernel
theorem dX4_count_27 : decode cX4_count 27 = .ok (.ireturn, 1) := by decide +kernel
theorem dX4_count_28 : decode cX4_count 28 = .ok (.aload_n 0, 1) := by decide +kernel
theorem dX4_count_29 : decode cX4_count 29 = .ok (.getfield 10, 3) := by decide +kernel
theorem dX4_count_32 : decode cX4_count 32 = .ok (.iload_n 1, 1) := by decide +kernel
theorem dX4_count_33 : decode cX4_count 33 = .ok (.invokevirtual 76, 3) := by decide +kernel
theorem dX4_count_36 : decode cX4_count 36 = .ok (.ireturn, 1) := by decide +kernel
theorem dX4_seasonOf_0 : decode cX4_seasonOf 0 = .ok (.aload_n 0, 1) := by decide +kernel
theorem dX4_seasonOf_1 : decode cX4_seasonOf 1 = .ok (.getfield 10, 3) := by decide +kernel
theorem dX4_seasonOf_4 : decode cX4_seasonOf 4 = .ok (.iload_n 1, 1) := by decide +kernel
theorem dX4_seasonOf_5 : decode cX4_seasonOf 5 = .ok (.iload_n 2, 1) := by decide +kernel
theorem dX4_seasonOf_6 : decode cX4_seasonOf 6 = .ok (.invokevirtual 79, 3) := by decide +kernel
theorem dX4_seasonOf_9 : decode cX4_seasonOf 9 = .ok (.ireturn, 1) := by decide +kernel
theorem dX4_gain_0 : decode cX4_gain 0 = .ok (.aload_n 0, 1) := by decide +kernel
theorem dX4_gain_1 : decode cX4_gain 1 = .ok (.getfield 10, 3) := by decide +kernel
theorem dX4_gain_4 : decode cX4_gain 4 = .ok (.iload_n 1, 1) := by decide +kernel
theorem dX4_gain_5 : decode cX4_gain 5 = .ok (.iload_n 2, 1) := by decide +kernel
theorem dX4_gain_6 : decode cX4_gain 6 = .ok (.invokevirtual 82, 3) := by decide +kernel
theorem dX4_gain_9 : decode cX4_gain 9 = .ok (.ireturn, 1) := by decide +kernel
theorem dX4_bestUse_0 : decode cX4_bestUse 0 = .ok (.aload_n 0, 1) := by decide +kernel
theorem dX4_bestUse_1 : decode cX4_bestUse 1 = .ok (.getfield 10, 3) := by decide +kernel
theorem dX4_bestUse_4 : decode cX4_bestUse 4 = .ok (.iload_n 1, 1) := by decide +kernel
theorem dX4_bestUse_5 : decode cX4_bestUse 5 = .ok (.invokevirtual 85, 3) := by decide +kernel
theorem dX4_bestUse_8 : decode cX4_bestUse 8 = .ok (.ifCond .eq 14, 3) := by decide +kernel
theorem dX4_bestUse_11 : decode cX4_bestUse 11 = .ok (.aload_n 0, 1) := by decide +kernel
theorem dX4_bestUse_12 : decode cX4_bestUse 12 = .ok (.getfield 10, 3) := by decide +kernel
theorem dX4_bestUse_15 : decode cX4_bestUse 15 = .ok (.iload_n 1, 1) := by decide +kernel
theorem dX4_bestUse_16 : decode cX4_bestUse 16 = .ok (.invokevirtual 89, 3) := by decide +kernel
theorem dX4_bestUse_19 : decode cX4_bestUse 19 = .ok (.goto 6, 3) := by decide +kernel
theorem dX4_bestUse_22 : decode cX4_bestUse 22 = .ok (.sipush (-10001), 3) := by decide +kernel
theorem dX4_bestUse_25 : decode cX4_bestUse 25 = .ok (.ireturn, 1) := by decide +kernel
theorem dX4_calm_0 : decode cX4_calm 0 = .ok (.aload_n 0, 1) := by decide +kernel
theorem dX4_calm_1 : decode cX4_calm 1 = .ok (.getfield 10, 3) := by decide +kernel
theorem dX4_calm_4 : decode cX4_calm 4 = .ok (.iload_n 1, 1) := by decide +kernel
theorem dX4_calm_5 : decode cX4_calm 5 = .ok (.invokevirtual 85, 3) := by decide +kernel
theorem dX4_calm_8 : decode cX4_calm 8 = .ok (.ifCond .ne 18, 3) := by decide +kernel
theorem dX4_calm_11 : decode cX4_calm 11 = .ok (.iload_n 1, 1) := by decide +kernel
theorem dX4_calm_12 : decode cX4_calm 12 = .ok (.iconst (-1), 1) := by decide +kernel
theorem dX4_calm_13 : decode cX4_calm 13 = .ok (.if_icmp .eq 13, 3) := by decide +kernel
theorem dX4_calm_16 : decode cX4_calm 16 = .ok (.iload_n 1, 1) := by decide +kernel
theorem dX4_calm_17 : decode cX4_calm 17 = .ok (.bipush (-2), 2) := by decide +kernel
theorem dX4_calm_19 : decode cX4_calm 19 = .ok (.if_icmp .eq 7, 3) := by decide +kernel
theorem dX4_calm_22 : decode cX4_calm 22 = .ok (.sipush (-10001), 3) := by decide +kernel
theorem dX4_calm_25 : decode cX4_calm 25 = .ok (.ireturn, 1) := by decide +kernel
theorem dX4_calm_26 : decode cX4_calm 26 = .ok (.aload_n 0, 1) := by decide +kernel
theorem dX4_calm_27 : decode cX4_calm 27 = .ok (.getfield 16, 3) := by decide +kernel
theorem dX4_calm_30 : decode cX4_calm 30 = .ok (.aload_n 0, 1) := by decide +kernel
theorem dX4_calm_31 : decode cX4_calm 31 = .ok (.getfield 10, 3) := by decide +kernel
theorem dX4_calm_34 : decode cX4_calm 34 = .ok (.invokevirtual 40, 3) := by decide +kernel
theorem dX4_calm_37 : decode cX4_calm 37 = .ok (.aload_n 0, 1) := by decide +kernel
theorem dX4_calm_38 : decode cX4_calm 38 = .ok (.getfield 16, 3) := by decide +kernel
theorem dX4_calm_41 : decode cX4_calm 41 = .ok (.invokevirtual 92, 3) := by decide +kernel
theorem dX4_calm_44 : decode cX4_calm 44 = .ok (.istore_n 2, 1) := by decide +kernel
theorem dX4_calm_45 : decode cX4_calm 45 = .ok (.iload_n 2, 1) := by decide +kernel
theorem dX4_calm_46 : decode cX4_calm 46 = .ok (.sipush (-10004), 3) := by decide +kernel
theorem dX4_calm_49 : decode cX4_calm 49 = .ok (.if_icmp .eq 9, 3) := by decide +kernel
theorem dX4_calm_52 : decode cX4_calm 52 = .ok (.iload_n 1, 1) := by decide +kernel
theorem dX4_calm_53 : decode cX4_calm 53 = .ok (.bipush (-2), 2) := by decide +kernel
theorem dX4_calm_55 : decode cX4_calm 55 = .ok (.if_icmp .ne 5, 3) := by decide +kernel
theorem dX4_calm_58 : decode cX4_calm 58 = .ok (.iload_n 2, 1) := by decide +kernel
theorem dX4_calm_59 : decode cX4_calm 59 = .ok (.ireturn, 1) := by decide +kernel
theorem dX4_calm_60 : decode cX4_calm 60 = .ok (.aload_n 0, 1) := by decide +kernel
theorem dX4_calm_61 : decode cX4_calm 61 = .ok (.getfield 16, 3) := by decide +kernel
theorem dX4_calm_64 : decode cX4_calm 64 = .ok (.iload_n 1, 1) := by decide +kernel
theorem dX4_calm_65 : decode cX4_calm 65 = .ok (.invokevirtual 85, 3) := by decide +kernel
theorem dX4_calm_68 : decode cX4_calm 68 = .ok (.ifCond .eq 15, 3) := by decide +kernel
theorem dX4_calm_71 : decode cX4_calm 71 = .ok (.aload_n 0, 1) := by decide +kernel
theorem dX4_calm_72 : decode cX4_calm 72 = .ok (.getfield 16, 3) := by decide +kernel
theorem dX4_calm_75 : decode cX4_calm 75 = .ok (.getfield 95, 3) := by decide +kernel
theorem dX4_calm_78 : decode cX4_calm 78 = .ok (.iload_n 1, 1) := by decide +kernel
theorem dX4_calm_79 : decode cX4_calm 79 = .ok (.iaload, 1) := by decide +kernel
theorem dX4_calm_80 : decode cX4_calm 80 = .ok (.goto 10, 3) := by decide +kernel
theorem dX4_calm_83 : decode cX4_calm 83 = .ok (.aload_n 0, 1) := by decide +kernel
theorem dX4_calm_84 : decode cX4_calm 84 = .ok (.getfield 16, 3) := by decide +kernel
theorem dX4_calm_87 : decode cX4_calm 87 = .ok (.invokevirtual 99, 3) := by decide +kernel
theorem dX4_calm_90 : decode cX4_calm 90 = .ok (.ireturn, 1) := by decide +kernel
theorem dX4_bestForAll_0 : decode cX4_bestForAll 0 = .ok (.iload_n 1, 1) := by decide +kernel
theorem dX4_bestForAll_1 : decode cX4_bestForAll 1 = .ok (.ifCond .eq 12, 3) := by decide +kernel
theorem dX4_bestForAll_4 : decode cX4_bestForAll 4 = .ok (.iload_n 1, 1) := by decide +kernel
theorem dX4_bestForAll_5 : decode cX4_bestForAll 5 = .ok (.iconst 1, 1) := by decide +kernel
theorem dX4_bestForAll_6 : decode cX4_bestForAll 6 = .ok (.if_icmp .eq 7, 3) := by decide +kernel
theorem dX4_bestForAll_9 : decode cX4_bestForAll 9 = .ok (.sipush (-10001), 3) := by decide +kernel
theorem dX4_bestForAll_12 : decode cX4_bestForAll 12 = .ok (.ireturn, 1) := by decide +kernel
theorem dX4_bestForAll_13 : decode cX4_bestForAll 13 = .ok (.aload_n 0, 1) := by decide +kernel
theorem dX4_bestForAll_14 : decode cX4_bestForAll 14 = .ok (.getfield 16, 3) := by decide +kernel
theorem dX4_bestForAll_17 : decode cX4_bestForAll 17 = .ok (.aload_n 0, 1) := by decide +kernel
theorem dX4_bestForAll_18 : decode cX4_bestForAll 18 = .ok (.getfield 10, 3) := by decide +kernel
theorem dX4_bestForAll_21 : decode cX4_bestForAll 21 = .ok (.invokevirtual 40, 3) := by decide +kernel
theorem dX4_bestForAll_24 : decode cX4_bestForAll 24 = .ok (.aload_n 0, 1) := by decide +kernel
theorem dX4_bestForAll_25 : decode cX4_bestForAll 25 = .ok (.getfield 16, 3) := by decide +kernel
theorem dX4_bestForAll_28 : decode cX4_bestForAll 28 = .ok (.invokevirtual 102, 3) := by decide +kernel
theorem dX4_bestForAll_31 : decode cX4_bestForAll 31 = .ok (.istore_n 2, 1) := by decide +kernel
theorem dX4_bestForAll_32 : decode cX4_bestForAll 32 = .ok (.iload_n 1, 1) := by decide +kernel
theorem dX4_bestForAll_33 : decode cX4_bestForAll 33 = .ok (.ifCond .ne 13, 3) := by decide +kernel
theorem dX4_bestForAll_36 : decode cX4_bestForAll 36 = .ok (.aload_n 0, 1) := by decide +kernel
theorem dX4_bestForAll_37 : decode cX4_bestForAll 37 = .ok (.getfield 16, 3) := by decide +kernel
theorem dX4_bestForAll_40 : decode cX4_bestForAll 40 = .ok (.invokevirtual 99, 3) := by decide +kernel
theorem dX4_bestForAll_43 : decode cX4_bestForAll 43 = .ok (.goto 4, 3) := by decide +kernel
theorem dX4_bestForAll_46 : decode cX4_bestForAll 46 = .ok (.iload_n 2, 1) := by decide +kernel
theorem dX4_bestForAll_47 : decode cX4_bestForAll 47 = .ok (.ireturn, 1) := by decide +kernel
theorem dX4_wouldExclude_0 : decode cX4_wouldExclude 0 = .ok (.aload_n 0, 1) := by decide +kernel
theorem dX4_wouldExclude_1 : decode cX4_wouldExclude 1 = .ok (.getfield 16, 3) := by decide +kernel
theorem dX4_wouldExclude_4 : decode cX4_wouldExclude 4 = .ok (.aload_n 0, 1) := by decide +kernel
theorem dX4_wouldExclude_5 : decode cX4_wouldExclude 5 = .ok (.getfield 10, 3) := by decide +kernel
theorem dX4_wouldExclude_8 : decode cX4_wouldExclude 8 = .ok (.invokevirtual 40, 3) := by decide +kernel
theorem dX4_wouldExclude_11 : decode cX4_wouldExclude 11 = .ok (.aload_n 0, 1) := by decide +kernel
theorem dX4_wouldExclude_12 : decode cX4_wouldExclude 12 = .ok (.getfield 16, 3) := by decide +kernel
theorem dX4_wouldExclude_15 : decode cX4_wouldExclude 15 = .ok (.invokevirtual 105, 3) := by decide +kernel
theorem dX4_wouldExclude_18 : decode cX4_wouldExclude 18 = .ok (.pop, 1) := by decide +kernel
theorem dX4_wouldExclude_19 : decode cX4_wouldExclude 19 = .ok (.aload_n 0, 1) := by decide +kernel
theorem dX4_wouldExclude_20 : decode cX4_wouldExclude 20 = .ok (.getfield 16, 3) := by decide +kernel
theorem dX4_wouldExclude_23 : decode cX4_wouldExclude 23 = .ok (.getfield 108, 3) := by decide +kernel
theorem dX4_wouldExclude_26 : decode cX4_wouldExclude 26 = .ok (.ireturn, 1) := by decide +kernel
theorem dX4_canRepair_0 : decode cX4_canRepair 0 = .ok (.aload_n 0, 1) := by decide +kernel
theorem dX4_canRepair_1 : decode cX4_canRepair 1 = .ok (.getfield 10, 3) := by decide +kernel
theorem dX4_canRepair_4 : decode cX4_canRepair 4 = .ok (.invokevirtual 111, 3) := by decide +kernel
theorem dX4_canRepair_7 : decode cX4_canRepair 7 = .ok (.ireturn, 1) := by decide +kernel
theorem dX4_undo_0 : decode cX4_undo 0 = .ok (.aload_n 0, 1) := by decide +kernel
theorem dX4_undo_1 : decode cX4_undo 1 = .ok (.getfield 22, 3) := by decide +kernel
theorem dX4_undo_4 : decode cX4_undo 4 = .ok (.getfield 71, 3) := by decide +kernel
theorem dX4_undo_7 : decode cX4_undo 7 = .ok (.ifCond .ne 7, 3) := by decide +kernel
theorem dX4_undo_10 : decode cX4_undo 10 = .ok (.sipush (-10002), 3) := by decide +kernel
theorem dX4_undo_13 : decode cX4_undo 13 = .ok (.ireturn, 1) := by decide +kernel
theorem dX4_undo_14 : decode cX4_undo 14 = .ok (.aload_n 0, 1) := by decide +kernel
theorem dX4_undo_15 : decode cX4_undo 15 = .ok (.getfield 22, 3) := by decide +kernel
theorem dX4_undo_18 : decode cX4_undo 18 = .ok (.aload_n 0, 1) := by decide +kernel
theorem dX4_undo_19 : decode cX4_undo 19 = .ok (.getfield 10, 3) := by decide +kernel
theorem dX4_undo_22 : decode cX4_undo 22 = .ok (.invokevirtual 114, 3) := by decide +kernel
theorem dX4_undo_25 : decode cX4_undo 25 = .ok (.aload_n 0, 1) := by decide +kernel
theorem dX4_undo_26 : decode cX4_undo 26 = .ok (.getfield 22, 3) := by decide +kernel
theorem dX4_undo_29 : decode cX4_undo 29 = .ok (.getfield 71, 3) := by decide +kernel
theorem dX4_undo_32 : decode cX4_undo 32 = .ok (.ireturn, 1) := by decide +kernel
theorem dX4_type_0 : decode cX4_type 0 = .ok (.aload_n 0, 1) := by decide +kernel
theorem dX4_type_1 : decode cX4_type 1 = .ok (.getfield 29, 3) := by decide +kernel
theorem dX4_type_4 : decode cX4_type 4 = .ok (.iload_n 1, 1) := by decide +kernel
theorem dX4_type_5 : decode cX4_type 5 = .ok (.invokevirtual 117, 3) := by decide +kernel
theorem dX4_type_8 : decode cX4_type 8 = .ok (.ireturn, 1) := by decide +kernel
theorem dX4_clearText_0 : decode cX4_clearText 0 = .ok (.aload_n 0, 1) := by decide +kernel
theorem dX4_clearText_1 : decode cX4_clearText 1 = .ok (.getfield 29, 3) := by decide +kernel
theorem dX4_clearText_4 : decode cX4_clearText 4 = .ok (.getfield 75, 3) := by decide +kernel
theorem dX4_clearText_7 : decode cX4_clearText 7 = .ok (.istore_n 1, 1) := by decide +kernel
theorem dX4_clearText_8 : decode cX4_clearText 8 = .ok (.aload_n 0, 1) := by decide +kernel
theorem dX4_clearText_9 : decode cX4_clearText 9 = .ok (.getfield 29, 3) := by decide +kernel
theorem dX4_clearText_12 : decode cX4_clearText 12 = .ok (.iconst 0, 1) := by decide +kernel
theorem dX4_clearText_13 : decode cX4_clearText 13 = .ok (.putfield 75, 3) := by decide +kernel
theorem dX4_clearText_16 : decode cX4_clearText 16 = .ok (.iload_n 1, 1) := by decide +kernel
theorem dX4_clearText_17 : decode cX4_clearText 17 = .ok (.ireturn, 1) := by decide +kernel
theorem dX4_fault_0 : decode cX4_fault 0 = .ok (.iload_n 1, 1) := by decide +kernel
theorem dX4_fault_1 : decode cX4_fault 1 = .ok (.ifCond .lt 8, 3) := by decide +kernel
theorem dX4_fault_4 : decode cX4_fault 4 = .ok (.iload_n 1, 1) := by decide +kernel
theorem dX4_fault_5 : decode cX4_fault 5 = .ok (.iconst 2, 1) := by decide +kernel
theorem dX4_fault_6 : decode cX4_fault 6 = .ok (.if_icmp .le 7, 3) := by decide +kernel
theorem dX4_fault_9 : decode cX4_fault 9 = .ok (.sipush (-10001), 3) := by decide +kernel
theorem dX4_fault_12 : decode cX4_fault 12 = .ok (.ireturn, 1) := by decide +kernel
theorem dX4_fault_13 : decode cX4_fault 13 = .ok (.aload_n 0, 1) := by decide +kernel
theorem dX4_fault_14 : decode cX4_fault 14 = .ok (.invokevirtual 120, 3) := by decide +kernel
theorem dX4_fault_17 : decode cX4_fault 17 = .ok (.aload_n 0, 1) := by decide +kernel
theorem dX4_fault_18 : decode cX4_fault 18 = .ok (.getfield 36, 3) := by decide +kernel
theorem dX4_fault_21 : decode cX4_fault 21 = .ok (.getfield 123, 3) := by decide +kernel
theorem dX4_fault_24 : decode cX4_fault 24 = .ok (.ifCond .ne 7, 3) := by decide +kernel
theorem dX4_fault_27 : decode cX4_fault 27 = .ok (.sipush (-10004), 3) := by decide +kernel
theorem dX4_fault_30 : decode cX4_fault 30 = .ok (.ireturn, 1) := by decide +kernel
theorem dX4_fault_31 : decode cX4_fault 31 = .ok (.iload_n 1, 1) := by decide +kernel
theorem dX4_fault_32 : decode cX4_fault 32 = .ok (.ifCond .ne 11, 3) := by decide +kernel
theorem dX4_fault_35 : decode cX4_fault 35 = .ok (.aload_n 0, 1) := by decide +kernel
theorem dX4_fault_36 : decode cX4_fault 36 = .ok (.getfield 36, 3) := by decide +kernel
theorem dX4_fault_39 : decode cX4_fault 39 = .ok (.getfield 126, 3) := by decide +kernel
theorem dX4_fault_42 : decode cX4_fault 42 = .ok (.ireturn, 1) := by decide +kernel
theorem dX4_fault_43 : decode cX4_fault 43 = .ok (.iload_n 1, 1) := by decide +kernel
theorem dX4_fault_44 : decode cX4_fault 44 = .ok (.iconst 1, 1) := by decide +kernel
theorem dX4_fault_45 : decode cX4_fault 45 = .ok (.if_icmp .ne 11, 3) := by decide +kernel
theorem dX4_fault_48 : decode cX4_fault 48 = .ok (.aload_n 0, 1) := by decide +kernel
theorem dX4_fault_49 : decode cX4_fault 49 = .ok (.getfield 36, 3) := by decide +kernel
theorem dX4_fault_52 : decode cX4_fault 52 = .ok (.getfield 123, 3) := by decide +kernel
theorem dX4_fault_55 : decode cX4_fault 55 = .ok (.ireturn, 1) := by decide +kernel
theorem dX4_fault_56 : decode cX4_fault 56 = .ok (.aload_n 0, 1) := by decide +kernel
theorem dX4_fault_57 : decode cX4_fault 57 = .ok (.getfield 36, 3) := by decide +kernel
theorem dX4_fault_60 : decode cX4_fault 60 = .ok (.getfield 123, 3) := by decide +kernel
theorem dX4_fault_63 : decode cX4_fault 63 = .ok (.iconst 1, 1) := by decide +kernel
theorem dX4_fault_64 : decode cX4_fault 64 = .ok (.if_icmp .ne 9, 3) := by decide +kernel
theorem dX4_fault_67 : decode cX4_fault 67 = .ok (.sipush (-10004), 3) := by decide +kernel
theorem dX4_fault_70 : decode cX4_fault 70 = .ok (.goto 10, 3) := by decide +kernel
theorem dX4_fault_73 : decode cX4_fault 73 = .ok (.aload_n 0, 1) := by decide +kernel
theorem dX4_fault_74 : decode cX4_fault 74 = .ok (.getfield 36, 3) := by decide +kernel
theorem dX4_fault_77 : decode cX4_fault 77 = .ok (.getfield 129, 3) := by decide +kernel
theorem dX4_fault_80 : decode cX4_fault 80 = .ok (.ireturn, 1) := by decide +kernel
theorem dX4_play_0 : decode cX4_play 0 = .ok (.aload_n 0, 1) := by decide +kernel
theorem dX4_play_1 : decode cX4_play 1 = .ok (.invokevirtual 120, 3) := by decide +kernel
theorem dX4_play_4 : decode cX4_play 4 = .ok (.aload_n 0, 1) := by decide +kernel
theorem dX4_play_5 : decode cX4_play 5 = .ok (.aload_n 0, 1) := by decide +kernel
theorem dX4_play_6 : decode cX4_play 6 = .ok (.getfield 36, 3) := by decide +kernel
theorem dX4_play_9 : decode cX4_play 9 = .ok (.getfield 123, 3) := by decide +kernel
theorem dX4_play_12 : decode cX4_play 12 = .ok (.ifCond .ne 13, 3) := by decide +kernel
theorem dX4_play_15 : decode cX4_play 15 = .ok (.aload_n 0, 1) := by decide +kernel
theorem dX4_play_16 : decode cX4_play 16 = .ok (.getfield 36, 3) := by decide +kernel
theorem dX4_play_19 : decode cX4_play 19 = .ok (.getfield 132, 3) := by decide +kernel
theorem dX4_play_22 : decode cX4_play 22 = .ok (.goto 6, 3) := by decide +kernel
theorem dX4_play_25 : decode cX4_play 25 = .ok (.sipush (-10002), 3) := by decide +kernel
theorem dX4_play_28 : decode cX4_play 28 = .ok (.invokevirtual 48, 3) := by decide +kernel
theorem dX4_play_31 : decode cX4_play 31 = .ok (.ireturn, 1) := by decide +kernel
theorem dX4_keptIfDone_0 : decode cX4_keptIfDone 0 = .ok (.iload_n 1, 1) := by decide +kernel
theorem dX4_keptIfDone_1 : decode cX4_keptIfDone 1 = .ok (.ifCond .lt 25, 3) := by decide +kernel
theorem dX4_keptIfDone_4 : decode cX4_keptIfDone 4 = .ok (.aload_n 0, 1) := by decide +kernel
theorem dX4_keptIfDone_5 : decode cX4_keptIfDone 5 = .ok (.getfield 22, 3) := by decide +kernel
theorem dX4_keptIfDone_8 : decode cX4_keptIfDone 8 = .ok (.aload_n 0, 1) := by decide +kernel
theorem dX4_keptIfDone_9 : decode cX4_keptIfDone 9 = .ok (.getfield 10, 3) := by decide +kernel
theorem dX4_keptIfDone_12 : decode cX4_keptIfDone 12 = .ok (.invokevirtual 135, 3) := by decide +kernel
theorem dX4_keptIfDone_15 : decode cX4_keptIfDone 15 = .ok (.aload_n 0, 1) := by decide +kernel
theorem dX4_keptIfDone_16 : decode cX4_keptIfDone 16 = .ok (.getfield 10, 3) := by decide +kernel
theorem dX4_keptIfDone_19 : decode cX4_keptIfDone 19 = .ok (.aload_n 0, 1) := by decide +kernel
theorem dX4_keptIfDone_20 : decode cX4_keptIfDone 20 = .ok (.getfield 16, 3) := by decide +kernel
theorem dX4_keptIfDone_23 : decode cX4_keptIfDone 23 = .ok (.invokevirtual 40, 3) := by decide +kernel
theorem dX4_keptIfDone_26 : decode cX4_keptIfDone 26 = .ok (.iload_n 1, 1) := by decide +kernel
theorem dX4_keptIfDone_27 : decode cX4_keptIfDone 27 = .ok (.ireturn, 1) := by decide +kernel
theorem dX4_rehearse_0 : decode cX4_rehearse 0 = .ok (.aload_n 0, 1) := by decide +kernel
theorem dX4_rehearse_1 : decode cX4_rehearse 1 = .ok (.getfield 16, 3) := by decide +kernel
theorem dX4_rehearse_4 : decode cX4_rehearse 4 = .ok (.aload_n 0, 1) := by decide +kernel
theorem dX4_rehearse_5 : decode cX4_rehearse 5 = .ok (.getfield 10, 3) := by decide +kernel
theorem dX4_rehearse_8 : decode cX4_rehearse 8 = .ok (.invokevirtual 40, 3) := by decide +kernel
theorem dX4_rehearse_11 : decode cX4_rehearse 11 = .ok (.aload_n 0, 1) := by decide +kernel
theorem dX4_rehearse_12 : decode cX4_rehearse 12 = .ok (.getfield 36, 3) := by decide +kernel
theorem dX4_rehearse_15 : decode cX4_rehearse 15 = .ok (.invokevirtual 138, 3) := by decide +kernel
theorem dX4_rehearse_18 : decode cX4_rehearse 18 = .ok (.aload_n 0, 1) := by decide +kernel
theorem dX4_rehearse_19 : decode cX4_rehearse 19 = .ok (.getfield 29, 3) := by decide +kernel
theorem dX4_rehearse_22 : decode cX4_rehearse 22 = .ok (.iconst 0, 1) := by decide +kernel
theorem dX4_rehearse_23 : decode cX4_rehearse 23 = .ok (.putfield 141, 3) := by decide +kernel
theorem dX4_rehearse_26 : decode cX4_rehearse 26 = .ok (.iconst 0, 1) := by decide +kernel
theorem dX4_rehearse_27 : decode cX4_rehearse 27 = .ok (.istore_n 1, 1) := by decide +kernel
theorem dX4_rehearse_28 : decode cX4_rehearse 28 = .ok (.iload_n 1, 1) := by decide +kernel
theorem dX4_rehearse_29 : decode cX4_rehearse 29 = .ok (.bipush 60, 2) := by decide +kernel
theorem dX4_rehearse_31 : decode cX4_rehearse 31 = .ok (.if_icmp .ge 74, 3) := by decide +kernel
theorem dX4_rehearse_34 : decode cX4_rehearse 34 = .ok (.aload_n 0, 1) := by decide +kernel
theorem dX4_rehearse_35 : decode cX4_rehearse 35 = .ok (.getfield 29, 3) := by decide +kernel
theorem dX4_rehearse_38 : decode cX4_rehearse 38 = .ok (.getfield 141, 3) := by decide +kernel
theorem dX4_rehearse_41 : decode cX4_rehearse 41 = .ok (.aload_n 0, 1) := by decide +kernel
theorem dX4_rehearse_42 : decode cX4_rehearse 42 = .ok (.getfield 29, 3) := by decide +kernel
theorem dX4_rehearse_45 : decode cX4_rehearse 45 = .ok (.getfield 75, 3) := by decide +kernel
theorem dX4_rehearse_48 : decode cX4_rehearse 48 = .ok (.if_icmp .ge 57, 3) := by decide +kernel
theorem dX4_rehearse_51 : decode cX4_rehearse 51 = .ok (.aload_n 0, 1) := by decide +kernel
theorem dX4_rehearse_52 : decode cX4_rehearse 52 = .ok (.getfield 36, 3) := by decide +kernel
theorem dX4_rehearse_55 : decode cX4_rehearse 55 = .ok (.aload_n 0, 1) := by decide +kernel
theorem dX4_rehearse_56 : decode cX4_rehearse 56 = .ok (.getfield 29, 3) := by decide +kernel
theorem dX4_rehearse_59 : decode cX4_rehearse 59 = .ok (.getfield 141, 3) := by decide +kernel
theorem dX4_rehearse_62 : decode cX4_rehearse 62 = .ok (.putfield 126, 3) := by decide +kernel
theorem dX4_rehearse_65 : decode cX4_rehearse 65 = .ok (.aload_n 0, 1) := by decide +kernel
theorem dX4_rehearse_66 : decode cX4_rehearse 66 = .ok (.getfield 29, 3) := by decide +kernel
theorem dX4_rehearse_69 : decode cX4_rehearse 69 = .ok (.invokevirtual 144, 3) := by decide +kernel
theorem dX4_rehearse_72 : decode cX4_rehearse 72 = .ok (.ifCond .ne 12, 3) := by decide +kernel
theorem dX4_rehearse_75 : decode cX4_rehearse 75 = .ok (.aload_n 0, 1) := by decide +kernel
theorem dX4_rehearse_76 : decode cX4_rehearse 76 = .ok (.getfield 36, 3) := by decide +kernel
theorem dX4_rehearse_79 : decode cX4_rehearse 79 = .ok (.iconst 1, 1) := by decide +kernel
theorem dX4_rehearse_80 : decode cX4_rehearse 80 = .ok (.putfield 123, 3) := by decide +kernel
theorem dX4_rehearse_83 : decode cX4_rehearse 83 = .ok (.return_, 1) := by decide +kernel
theorem dX4_rehearse_84 : decode cX4_rehearse 84 = .ok (.aload_n 0, 1) := by decide +kernel
theorem dX4_rehearse_85 : decode cX4_rehearse 85 = .ok (.getfield 36, 3) := by decide +kernel
theorem dX4_rehearse_88 : decode cX4_rehearse 88 = .ok (.aload_n 0, 1) := by decide +kernel
theorem dX4_rehearse_89 : decode cX4_rehearse 89 = .ok (.invokevirtual 148, 3) := by decide +kernel
theorem dX4_rehearse_92 : decode cX4_rehearse 92 = .ok (.invokevirtual 151, 3) := by decide +kernel
theorem dX4_rehearse_95 : decode cX4_rehearse 95 = .ok (.ifCond .eq 4, 3) := by decide +kernel
theorem dX4_rehearse_98 : decode cX4_rehearse 98 = .ok (.return_, 1) := by decide +kernel
theorem dX4_rehearse_99 : decode cX4_rehearse 99 = .ok (.iinc 1 1, 3) := by decide +kernel
theorem dX4_rehearse_102 : decode cX4_rehearse 102 = .ok (.goto (-74), 3) := by decide +kernel
theorem dX4_rehearse_105 : decode cX4_rehearse 105 = .ok (.return_, 1) := by decide +kernel
theorem dX4_commandOnTrial_0 : decode cX4_commandOnTrial 0 = .ok (.aload_n 0, 1) := by decide +kernel
theorem dX4_commandOnTrial_1 : decode cX4_commandOnTrial 1 = .ok (.getfield 29, 3) := by decide +kernel
theorem dX4_commandOnTrial_4 : decode cX4_commandOnTrial 4 = .ok (.getfield 154, 3) := by decide +kernel
theorem dX4_commandOnTrial_7 : decode cX4_commandOnTrial 7 = .ok (.lookupswitch 131 #[(99, 86), (109, 49), (112, 94), (114, 116), (117, 64)], 49) := by decide +kernel
theorem dX4_commandOnTrial_56 : decode cX4_commandOnTrial 56 = .ok (.aload_n 0, 1) := by decide +kernel
theorem dX4_commandOnTrial_57 : decode cX4_commandOnTrial 57 = .ok (.getfield 16, 3) := by decide +kernel
theorem dX4_commandOnTrial_60 : decode cX4_commandOnTrial 60 = .ok (.aload_n 0, 1) := by decide +kernel
theorem dX4_commandOnTrial_61 : decode cX4_commandOnTrial 61 = .ok (.getfield 29, 3) := by decide +kernel
theorem dX4_commandOnTrial_64 : decode cX4_commandOnTrial 64 = .ok (.getfield 157, 3) := by decide +kernel
theorem dX4_commandOnTrial_67 : decode cX4_commandOnTrial 67 = .ok (.invokevirtual 44, 3) := by decide +kernel
theorem dX4_commandOnTrial_70 : decode cX4_commandOnTrial 70 = .ok (.ireturn, 1) := by decide +kernel
theorem dX4_commandOnTrial_71 : decode cX4_commandOnTrial 71 = .ok (.aload_n 0, 1) := by decide +kernel
theorem dX4_commandOnTrial_72 : decode cX4_commandOnTrial 72 = .ok (.getfield 16, 3) := by decide +kernel
theorem dX4_commandOnTrial_75 : decode cX4_commandOnTrial 75 = .ok (.aload_n 0, 1) := by decide +kernel
theorem dX4_commandOnTrial_76 : decode cX4_commandOnTrial 76 = .ok (.getfield 29, 3) := by decide +kernel
theorem dX4_commandOnTrial_79 : decode cX4_commandOnTrial 79 = .ok (.getfield 157, 3) := by decide +kernel
theorem dX4_commandOnTrial_82 : decode cX4_commandOnTrial 82 = .ok (.aload_n 0, 1) := by decide +kernel
theorem dX4_commandOnTrial_83 : decode cX4_commandOnTrial 83 = .ok (.getfield 29, 3) := by decide +kernel
theorem dX4_commandOnTrial_86 : decode cX4_commandOnTrial 86 = .ok (.getfield 160, 3) := by decide +kernel
theorem dX4_commandOnTrial_89 : decode cX4_commandOnTrial 89 = .ok (.invokevirtual 51, 3) := by decide +kernel
theorem dX4_commandOnTrial_92 : decode cX4_commandOnTrial 92 = .ok (.ireturn, 1) := by decide +kernel
theorem dX4_commandOnTrial_93 : decode cX4_commandOnTrial 93 = .ok (.aload_n 0, 1) := by decide +kernel
theorem dX4_commandOnTrial_94 : decode cX4_commandOnTrial 94 = .ok (.getfield 16, 3) := by decide +kernel
theorem dX4_commandOnTrial_97 : decode cX4_commandOnTrial 97 = .ok (.invokevirtual 55, 3) := by decide +kernel
theorem dX4_commandOnTrial_100 : decode cX4_commandOnTrial 100 = .ok (.ireturn, 1) := by decide +kernel
theorem dX4_commandOnTrial_101 : decode cX4_commandOnTrial 101 = .ok (.aload_n 0, 1) := by decide +kernel
theorem dX4_commandOnTrial_102 : decode cX4_commandOnTrial 102 = .ok (.getfield 16, 3) := by decide +kernel
theorem dX4_commandOnTrial_105 : decode cX4_commandOnTrial 105 = .ok (.aload_n 0, 1) := by decide +kernel
theorem dX4_commandOnTrial_106 : decode cX4_commandOnTrial 106 = .ok (.getfield 29, 3) := by decide +kernel
theorem dX4_commandOnTrial_109 : decode cX4_commandOnTrial 109 = .ok (.getfield 157, 3) := by decide +kernel
theorem dX4_commandOnTrial_112 : decode cX4_commandOnTrial 112 = .ok (.aload_n 0, 1) := by decide +kernel
theorem dX4_commandOnTrial_113 : decode cX4_commandOnTrial 113 = .ok (.getfield 29, 3) := by decide +kernel
theorem dX4_commandOnTrial_116 : decode cX4_commandOnTrial 116 = .ok (.getfield 160, 3) := by decide +kernel
theorem dX4_commandOnTrial_119 : decode cX4_commandOnTrial 119 = .ok (.invokevirtual 59, 3) := by decide +kernel
theorem dX4_commandOnTrial_122 : decode cX4_commandOnTrial 122 = .ok (.ireturn, 1) := by decide +kernel
theorem dX4_commandOnTrial_123 : decode cX4_commandOnTrial 123 = .ok (.aload_n 0, 1) := by decide +kernel
theorem dX4_commandOnTrial_124 : decode cX4_commandOnTrial 124 = .ok (.getfield 16, 3) := by decide +kernel
theorem dX4_commandOnTrial_127 : decode cX4_commandOnTrial 127 = .ok (.aload_n 0, 1) := by decide +kernel
theorem dX4_commandOnTrial_128 : decode cX4_commandOnTrial 128 = .ok (.getfield 29, 3) := by decide +kernel
theorem dX4_commandOnTrial_131 : decode cX4_commandOnTrial 131 = .ok (.getfield 157, 3) := by decide +kernel
theorem dX4_commandOnTrial_134 : decode cX4_commandOnTrial 134 = .ok (.invokevirtual 62, 3) := by decide +kernel
theorem dX4_commandOnTrial_137 : decode cX4_commandOnTrial 137 = .ok (.ireturn, 1) := by decide +kernel
theorem dX4_commandOnTrial_138 : decode cX4_commandOnTrial 138 = .ok (.sipush (-10002), 3) := by decide +kernel
theorem dX4_commandOnTrial_141 : decode cX4_commandOnTrial 141 = .ok (.ireturn, 1) := by decide +kernel
theorem dX4_isUnits_0 : decode cX4_isUnits 0 = .ok (.iload_n 0, 1) := by decide +kernel
theorem dX4_isUnits_1 : decode cX4_isUnits 1 = .ok (.ifCond .lt 13, 3) := by decide +kernel
theorem dX4_isUnits_4 : decode cX4_isUnits 4 = .ok (.iload_n 0, 1) := by decide +kernel
theorem dX4_isUnits_5 : decode cX4_isUnits 5 = .ok (.bipush 20, 2) := by decide +kernel
theorem dX4_isUnits_7 : decode cX4_isUnits 7 = .ok (.if_icmp .gt 7, 3) := by decide +kernel
theorem dX4_isUnits_10 : decode cX4_isUnits 10 = .ok (.iconst 1, 1) := by decide +kernel
theorem dX4_isUnits_11 : decode cX4_isUnits 11 = .ok (.goto 4, 3) := by decide +kernel
theorem dX4_isUnits_14 : decode cX4_isUnits 14 = .ok (.iconst 0, 1) := by decide +kernel
theorem dX4_isUnits_15 : decode cX4_isUnits 15 = .ok (.ireturn, 1) := by decide +kernel
theorem dX4_quotient_0 : decode cX4_quotient 0 = .ok (.iload_n 1, 1) := by decide +kernel
theorem dX4_quotient_1 : decode cX4_quotient 1 = .ok (.iconst 1, 1) := by decide +kernel
theorem dX4_quotient_2 : decode cX4_quotient 2 = .ok (.if_icmp .ge 7, 3) := by decide +kernel
theorem dX4_quotient_5 : decode cX4_quotient 5 = .ok (.iconst 0, 1) := by decide +kernel
theorem dX4_quotient_6 : decode cX4_quotient 6 = .ok (.goto 6, 3) := by decide +kernel
theorem dX4_quotient_9 : decode cX4_quotient 9 = .ok (.iload_n 0, 1) := by decide +kernel
theorem dX4_quotient_10 : decode cX4_quotient 10 = .ok (.iload_n 1, 1) := by decide +kernel
theorem dX4_quotient_11 : decode cX4_quotient 11 = .ok (.idiv, 1) := by decide +kernel
theorem dX4_quotient_12 : decode cX4_quotient 12 = .ok (.ireturn, 1) := by decide +kernel
theorem dX4_copyRow_0 : decode cX4_copyRow 0 = .ok (.aload_n 0, 1) := by decide +kernel
theorem dX4_copyRow_1 : decode cX4_copyRow 1 = .ok (.iconst 0, 1) := by decide +kernel
theorem dX4_copyRow_2 : decode cX4_copyRow 2 = .ok (.aload_n 1, 1) := by decide +kernel
theorem dX4_copyRow_3 : decode cX4_copyRow 3 = .ok (.iconst 0, 1) := by decide +kernel
theorem dX4_copyRow_4 : decode cX4_copyRow 4 = .ok (.aload_n 0, 1) := by decide +kernel
theorem dX4_copyRow_5 : decode cX4_copyRow 5 = .ok (.arraylength, 1) := by decide +kernel
theorem dX4_copyRow_6 : decode cX4_copyRow 6 = .ok (.aload_n 1, 1) := by decide +kernel
theorem dX4_copyRow_7 : decode cX4_copyRow 7 = .ok (.arraylength, 1) := by decide +kernel
theorem dX4_copyRow_8 : decode cX4_copyRow 8 = .ok (.invokestatic 163, 3) := by decide +kernel
theorem dX4_copyRow_11 : decode cX4_copyRow 11 = .ok (.invokestatic 168, 3) := by decide +kernel
theorem dX4_copyRow_14 : decode cX4_copyRow 14 = .ok (.return_, 1) := by decide +kernel
theorem dX4_sumOf_0 : decode cX4_sumOf 0 = .ok (.iconst 0, 1) := by decide +kernel
theorem dX4_sumOf_1 : decode cX4_sumOf 1 = .ok (.istore_n 1, 1) := by decide +kernel
theorem dX4_sumOf_2 : decode cX4_sumOf 2 = .ok (.iconst 0, 1) := by decide +kernel
theorem dX4_sumOf_3 : decode cX4_sumOf 3 = .ok (.istore_n 2, 1) := by decide +kernel
theorem dX4_sumOf_4 : decode cX4_sumOf 4 = .ok (.iload_n 2, 1) := by decide +kernel
theorem dX4_sumOf_5 : decode cX4_sumOf 5 = .ok (.aload_n 0, 1) := by decide +kernel
theorem dX4_sumOf_6 : decode cX4_sumOf 6 = .ok (.arraylength, 1) := by decide +kernel
theorem dX4_sumOf_7 : decode cX4_sumOf 7 = .ok (.if_icmp .ge 15, 3) := by decide +kernel
theorem dX4_sumOf_10 : decode cX4_sumOf 10 = .ok (.iload_n 1, 1) := by decide +kernel
theorem dX4_sumOf_11 : decode cX4_sumOf 11 = .ok (.aload_n 0, 1) := by decide +kernel
theorem dX4_sumOf_12 : decode cX4_sumOf 12 = .ok (.iload_n 2, 1) := by decide +kernel
theorem dX4_sumOf_13 : decode cX4_sumOf 13 = .ok (.iaload, 1) := by decide +kernel
theorem dX4_sumOf_14 : decode cX4_sumOf 14 = .ok (.iadd, 1) := by decide +kernel
theorem dX4_sumOf_15 : decode cX4_sumOf 15 = .ok (.istore_n 1, 1) := by decide +kernel
theorem dX4_sumOf_16 : decode cX4_sumOf 16 = .ok (.iinc 2 1, 3) := by decide +kernel
theorem dX4_sumOf_19 : decode cX4_sumOf 19 = .ok (.goto (-15), 3) := by decide +kernel
theorem dX4_sumOf_22 : decode cX4_sumOf 22 = .ok (.iload_n 1, 1) := by decide +kernel
theorem dX4_sumOf_23 : decode cX4_sumOf 23 = .ok (.ireturn, 1) := by decide +kernel
theorem dX5_init_0 : decode cX5_init 0 = .ok (.aload_n 0, 1) := by decide +kernel
theorem dX5_init_1 : decode cX5_init 1 = .ok (.invokespecial 1, 3) := by decide +kernel
theorem dX5_init_4 : decode cX5_init 4 = .ok (.aload_n 0, 1) := by decide +kernel
theorem dX5_init_5 : decode cX5_init 5 = .ok (.bipush 107, 2) := by decide +kernel
theorem dX5_init_7 : decode cX5_init 7 = .ok (.newarray .int, 2) := by decide +kernel
theorem dX5_init_9 : decode cX5_init 9 = .ok (.putfield 7, 3) := by decide +kernel
theorem dX5_init_12 : decode cX5_init 12 = .ok (.aload_n 0, 1) := by decide +kernel
theorem dX5_init_13 : decode cX5_init 13 = .ok (.sipush 428, 3) := by decide +kernel
theorem dX5_init_16 : decode cX5_init 16 = .ok (.newarray .int, 2) := by decide +kernel
theorem dX5_init_18 : decode cX5_init 18 = .ok (.putfield 13, 3) := by decide +kernel
theorem dX5_init_21 : decode cX5_init 21 = .ok (.aload_n 0, 1) := by decide +kernel
theorem dX5_init_22 : decode cX5_init 22 = .ok (.bipush 107, 2) := by decide +kernel
theorem dX5_init_24 : decode cX5_init 24 = .ok (.newarray .int, 2) := by decide +kernel
theorem dX5_init_26 : decode cX5_init 26 = .ok (.putfield 16, 3) := by decide +kernel
theorem dX5_init_29 : decode cX5_init 29 = .ok (.aload_n 0, 1) := by decide +kernel
theorem dX5_init_30 : decode cX5_init 30 = .ok (.bipush 60, 2) := by decide +kernel
theorem dX5_init_32 : decode cX5_init 32 = .ok (.newarray .int, 2) := by decide +kernel
theorem dX5_init_34 : decode cX5_init 34 = .ok (.putfield 19, 3) := by decide +kernel
theorem dX5_init_37 : decode cX5_init 37 = .ok (.aload_n 0, 1) := by decide +kernel
theorem dX5_init_38 : decode cX5_init 38 = .ok (.bipush 8, 2) := by decide +kernel
theorem dX5_init_40 : decode cX5_init 40 = .ok (.newarray .int, 2) := by decide +kernel
theorem dX5_init_42 : decode cX5_init 42 = .ok (.putfield 22, 3) := by decide +kernel
theorem dX5_init_45 : decode cX5_init 45 = .ok (.aload_n 0, 1) := by decide +kernel
theorem dX5_init_46 : decode cX5_init 46 = .ok (.iconst 2, 1) := by decide +kernel
theorem dX5_init_47 : decode cX5_init 47 = .ok (.newarray .int, 2) := by decide +kernel
theorem dX5_init_49 : decode cX5_init 49 = .ok (.putfield 25, 3) := by decide +kernel
theorem dX5_init_52 : decode cX5_init 52 = .ok (.aload_n 0, 1) := by decide +kernel
theorem dX5_init_53 : decode cX5_init 53 = .ok (.bipush 107, 2) := by decide +kernel
theorem dX5_init_55 : decode cX5_init 55 = .ok (.newarray .int, 2) := by decide +kernel
theorem dX5_init_57 : decode cX5_init 57 = .ok (.putfield 28, 3) := by decide +kernel
theorem dX5_init_60 : decode cX5_init 60 = .ok (.aload_n 0, 1) := by decide +kernel
theorem dX5_init_61 : decode cX5_init 61 = .ok (.getfield 7, 3) := by decide +kernel
theorem dX5_init_64 : decode cX5_init 64 = .ok (.iconst 0, 1) := by decide +kernel
theorem dX5_init_65 : decode cX5_init 65 = .ok (.bipush 40, 2) := by decide +kernel
theorem dX5_init_67 : decode cX5_init 67 = .ok (.iastore, 1) := by decide +kernel
theorem dX5_init_68 : decode cX5_init 68 = .ok (.aload_n 0, 1) := by decide +kernel
theorem dX5_init_69 : decode cX5_init 69 = .ok (.getfield 7, 3) := by decide +kernel
theorem dX5_init_72 : decode cX5_init 72 = .ok (.iconst 1, 1) := by decide +kernel
theorem dX5_init_73 : decode cX5_init 73 = .ok (.bipush 40, 2) := by decide +kernel
theorem dX5_init_75 : decode cX5_init 75 = .ok (.iastore, 1) := by decide +kernel
theorem dX5_init_76 : decode cX5_init 76 = .ok (.aload_n 0, 1) := by decide +kernel
theorem dX5_init_77 : decode cX5_init 77 = .ok (.getfield 7, 3) := by decide +kernel
theorem dX5_init_80 : decode cX5_init 80 = .ok (.iconst 2, 1) := by decide +kernel
theorem dX5_init_81 : decode cX5_init 81 = .ok (.iconst 5, 1) := by decide +kernel
theorem dX5_init_82 : decode cX5_init 82 = .ok (.iastore, 1) := by decide +kernel
theorem dX5_init_83 : decode cX5_init 83 = .ok (.aload_n 0, 1) := by decide +kernel
theorem dX5_init_84 : decode cX5_init 84 = .ok (.getfield 7, 3) := by decide +kernel
theorem dX5_init_87 : decode cX5_init 87 = .ok (.iconst 3, 1) := by decide +kernel
theorem dX5_init_88 : decode cX5_init 88 = .ok (.bipush 50, 2) := by decide +kernel
theorem dX5_init_90 : decode cX5_init 90 = .ok (.iastore, 1) := by decide +kernel
theorem dX5_init_91 : decode cX5_init 91 = .ok (.aload_n 0, 1) := by decide +kernel
theorem dX5_init_92 : decode cX5_init 92 = .ok (.getfield 7, 3) := by decide +kernel
theorem dX5_init_95 : decode cX5_init 95 = .ok (.iconst 4, 1) := by decide +kernel
theorem dX5_init_96 : decode cX5_init 96 = .ok (.iconst 3, 1) := by decide +kernel
theorem dX5_init_97 : decode cX5_init 97 = .ok (.iastore, 1) := by decide +kernel
theorem dX5_init_98 : decode cX5_init 98 = .ok (.aload_n 0, 1) := by decide +kernel
theorem dX5_init_99 : decode cX5_init 99 = .ok (.getfield 7, 3) := by decide +kernel
theorem dX5_init_102 : decode cX5_init 102 = .ok (.bipush 7, 2) := by decide +kernel
theorem dX5_init_104 : decode cX5_init 104 = .ok (.bipush 100, 2) := by decide +kernel
theorem dX5_init_106 : decode cX5_init 106 = .ok (.iastore, 1) := by decide +kernel
theorem dX5_init_107 : decode cX5_init 107 = .ok (.return_, 1) := by decide +kernel
theorem dX5_in_0 : decode cX5_in 0 = .ok (.iload_n 0, 1) := by decide +kernel
theorem dX5_in_1 : decode cX5_in 1 = .ok (.iload_n 1, 1) := by decide +kernel
theorem dX5_in_2 : decode cX5_in 2 = .ok (.if_icmp .lt 12, 3) := by decide +kernel
theorem dX5_in_5 : decode cX5_in 5 = .ok (.iload_n 0, 1) := by decide +kernel
theorem dX5_in_6 : decode cX5_in 6 = .ok (.iload_n 2, 1) := by decide +kernel
theorem dX5_in_7 : decode cX5_in 7 = .ok (.if_icmp .gt 7, 3) := by decide +kernel
theorem dX5_in_10 : decode cX5_in 10 = .ok (.iconst 1, 1) := by decide +kernel
theorem dX5_in_11 : decode cX5_in 11 = .ok (.goto 4, 3) := by decide +kernel
theorem dX5_in_14 : decode cX5_in 14 = .ok (.iconst 0, 1) := by decide +kernel
theorem dX5_in_15 : decode cX5_in 15 = .ok (.ireturn, 1) := by decide +kernel
theorem dX5_copies_0 : decode cX5_copies 0 = .ok (.iconst 0, 1) := by decide +kernel
theorem dX5_copies_1 : decode cX5_copies 1 = .ok (.istore_n 2, 1) := by decide +kernel
theorem dX5_copies_2 : decode cX5_copies 2 = .ok (.iload_n 2, 1) := by decide +kernel
theorem dX5_copies_3 : decode cX5_copies 3 = .ok (.bipush 107, 2) := by decide +kernel
theorem dX5_copies_5 : decode cX5_copies 5 = .ok (.if_icmp .ge 15, 3) := by decide +kernel
theorem dX5_copies_8 : decode cX5_copies 8 = .ok (.aload_n 1, 1) := by decide +kernel
theorem dX5_copies_9 : decode cX5_copies 9 = .ok (.iload_n 2, 1) := by decide +kernel
theorem dX5_copies_10 : decode cX5_copies 10 = .ok (.aload_n 0, 1) := by decide +kernel
theorem dX5_copies_11 : decode cX5_copies 11 = .ok (.iload_n 2, 1) := by decide +kernel
theorem dX5_copies_12 : decode cX5_copies 12 = .ok (.iaload, 1) := by decide +kernel
theorem dX5_copies_13 : decode cX5_copies 13 = .ok (.iastore, 1) := by decide +kernel
theorem dX5_copies_14 : decode cX5_copies 14 = .ok (.iinc 2 1, 3) := by decide +kernel
theorem dX5_copies_17 : decode cX5_copies 17 = .ok (.goto (-15), 3) := by decide +kernel
theorem dX5_copies_20 : decode cX5_copies 20 = .ok (.return_, 1) := by decide +kernel
theorem dX5_changes_0 : decode cX5_changes 0 = .ok (.aload_n 0, 1) := by decide +kernel
theorem dX5_changes_1 : decode cX5_changes 1 = .ok (.getfield 31, 3) := by decide +kernel
theorem dX5_changes_4 : decode cX5_changes 4 = .ok (.ifCond .eq 4, 3) := by decide +kernel
theorem dX5_changes_7 : decode cX5_changes 7 = .ok (.return_, 1) := by decide +kernel
theorem dX5_changes_8 : decode cX5_changes 8 = .ok (.aload_n 0, 1) := by decide +kernel
theorem dX5_changes_9 : decode cX5_changes 9 = .ok (.getfield 35, 3) := by decide +kernel
theorem dX5_changes_12 : decode cX5_changes 12 = .ok (.iconst 4, 1) := by decide +kernel
theorem dX5_changes_13 : decode cX5_changes 13 = .ok (.if_icmp .ne 43, 3) := by decide +kernel
theorem dX5_changes_16 : decode cX5_changes 16 = .ok (.iconst 0, 1) := by decide +kernel
theorem dX5_changes_17 : decode cX5_changes 17 = .ok (.istore_n 1, 1) := by decide +kernel
theorem dX5_changes_18 : decode cX5_changes 18 = .ok (.iload_n 1, 1) := by decide +kernel
theorem dX5_changes_19 : decode cX5_changes 19 = .ok (.sipush 321, 3) := by decide +kernel
theorem dX5_changes_22 : decode cX5_changes 22 = .ok (.if_icmp .ge 24, 3) := by decide +kernel
theorem dX5_changes_25 : decode cX5_changes 25 = .ok (.aload_n 0, 1) := by decide +kernel
theorem dX5_changes_26 : decode cX5_changes 26 = .ok (.getfield 13, 3) := by decide +kernel
theorem dX5_changes_29 : decode cX5_changes 29 = .ok (.iload_n 1, 1) := by decide +kernel
theorem dX5_changes_30 : decode cX5_changes 30 = .ok (.aload_n 0, 1) := by decide +kernel
theorem dX5_changes_31 : decode cX5_changes 31 = .ok (.getfield 13, 3) := by decide +kernel
theorem dX5_changes_34 : decode cX5_changes 34 = .ok (.iload_n 1, 1) := by decide +kernel
theorem dX5_changes_35 : decode cX5_changes 35 = .ok (.bipush 107, 2) := by decide +kernel
theorem dX5_changes_37 : decode cX5_changes 37 = .ok (.iadd, 1) := by decide +kernel
theorem dX5_changes_38 : decode cX5_changes 38 = .ok (.iaload, 1) := by decide +kernel
theorem dX5_changes_39 : decode cX5_changes 39 = .ok (.iastore, 1) := by decide +kernel
theorem dX5_changes_40 : decode cX5_changes 40 = .ok (.iinc 1 1, 3) := by decide +kernel
theorem dX5_changes_43 : decode cX5_changes 43 = .ok (.goto (-25), 3) := by decide +kernel
theorem dX5_changes_46 : decode cX5_changes 46 = .ok (.aload_n 0, 1) := by decide +kernel
theorem dX5_changes_47 : decode cX5_changes 47 = .ok (.dup, 1) := by decide +kernel
theorem dX5_changes_48 : decode cX5_changes 48 = .ok (.getfield 35, 3) := by decide +kernel
theorem dX5_changes_51 : decode cX5_changes 51 = .ok (.iconst 1, 1) := by decide +kernel
theorem dX5_changes_52 : decode cX5_changes 52 = .ok (.isub, 1) := by decide +kernel
theorem dX5_changes_53 : decode cX5_changes 53 = .ok (.putfield 35, 3) := by decide +kernel
theorem dX5_changes_56 : decode cX5_changes 56 = .ok (.iconst 0, 1) := by decide +kernel
theorem dX5_changes_57 : decode cX5_changes 57 = .ok (.istore_n 1, 1) := by decide +kernel
theorem dX5_changes_58 : decode cX5_changes 58 = .ok (.iload_n 1, 1) := by decide +kernel
theorem dX5_changes_59 : decode cX5_changes 59 = .ok (.bipush 107, 2) := by decide +kernel
theorem dX5_changes_61 : decode cX5_changes 61 = .ok (.if_icmp .ge 29, 3) := by decide +kernel
theorem dX5_changes_64 : decode cX5_changes 64 = .ok (.aload_n 0, 1) := by decide +kernel
theorem dX5_changes_65 : decode cX5_changes 65 = .ok (.getfield 13, 3) := by decide +kernel
theorem dX5_changes_68 : decode cX5_changes 68 = .ok (.bipush 107, 2) := by decide +kernel
theorem dX5_changes_70 : decode cX5_changes 70 = .ok (.aload_n 0, 1) := by decide +kernel
theorem dX5_changes_71 : decode cX5_changes 71 = .ok (.getfield 35, 3) := by decide +kernel
theorem dX5_changes_74 : decode cX5_changes 74 = .ok (.imul, 1) := by decide +kernel
theorem dX5_changes_75 : decode cX5_changes 75 = .ok (.iload_n 1, 1) := by decide +kernel
theorem dX5_changes_76 : decode cX5_changes 76 = .ok (.iadd, 1) := by decide +kernel
theorem dX5_changes_77 : decode cX5_changes 77 = .ok (.aload_n 0, 1) := by decide +kernel
theorem dX5_changes_78 : decode cX5_changes 78 = .ok (.getfield 7, 3) := by decide +kernel
theorem dX5_changes_81 : decode cX5_changes 81 = .ok (.iload_n 1, 1) := by decide +kernel
theorem dX5_changes_82 : decode cX5_changes 82 = .ok (.iaload, 1) := by decide +kernel
theorem dX5_changes_83 : decode cX5_changes 83 = .ok (.iastore, 1) := by decide +kernel
theorem dX5_changes_84 : decode cX5_changes 84 = .ok (.iinc 1 1, 3) := by decide +kernel
theorem dX5_changes_87 : decode cX5_changes 87 = .ok (.goto (-29), 3) := by decide +kernel
theorem dX5_changes_90 : decode cX5_changes 90 = .ok (.aload_n 0, 1) := by decide +kernel
theorem dX5_changes_91 : decode cX5_changes 91 = .ok (.dup, 1) := by decide +kernel
theorem dX5_changes_92 : decode cX5_changes 92 = .ok (.getfield 35, 3) := by decide +kernel
theorem dX5_changes_95 : decode cX5_changes 95 = .ok (.iconst 1, 1) := by decide +kernel
theorem dX5_changes_96 : decode cX5_changes 96 = .ok (.iadd, 1) := by decide +kernel
theorem dX5_changes_97 : decode cX5_changes 97 = .ok (.putfield 35, 3) := by decide +kernel
theorem dX5_changes_100 : decode cX5_changes 100 = .ok (.return_, 1) := by decide +kernel
theorem dX5_isMember_0 : decode cX5_isMember 0 = .ok (.iload_n 1, 1) := by decide +kernel
theorem dX5_isMember_1 : decode cX5_isMember 1 = .ok (.ifCond .lt 17, 3) := by decide +kernel
theorem dX5_isMember_4 : decode cX5_isMember 4 = .ok (.iload_n 1, 1) := by decide +kernel
theorem dX5_isMember_5 : decode cX5_isMember 5 = .ok (.aload_n 0, 1) := by decide +kernel
theorem dX5_isMember_6 : decode cX5_isMember 6 = .ok (.getfield 7, 3) := by decide +kernel
theorem dX5_isMember_9 : decode cX5_isMember 9 = .ok (.iconst 5, 1) := by decide +kernel
theorem dX5_isMember_10 : decode cX5_isMember 10 = .ok (.iaload, 1) := by decide +kernel
theorem dX5_isMember_11 : decode cX5_isMember 11 = .ok (.if_icmp .ge 7, 3) := by decide +kernel
theorem dX5_isMember_14 : decode cX5_isMember 14 = .ok (.iconst 1, 1) := by decide +kernel
theorem dX5_isMember_15 : decode cX5_isMember 15 = .ok (.goto 4, 3) := by decide +kernel
theorem dX5_isMember_18 : decode cX5_isMember 18 = .ok (.iconst 0, 1) := by decide +kernel
theorem dX5_isMember_19 : decode cX5_isMember 19 = .ok (.ireturn, 1) := by decide +kernel
theorem dX5_of_0 : decode cX5_of 0 = .ok (.aload_n 0, 1) := by decide +kernel
theorem dX5_of_1 : decode cX5_of 1 = .ok (.getfield 7, 3) := by decide +kernel
theorem dX5_of_4 : decode cX5_of 4 = .ok (.bipush 13, 2) := by decide +kernel
theorem dX5_of_6 : decode cX5_of 6 = .ok (.bipush 8, 2) := by decide +kernel
theorem dX5_of_8 : decode cX5_of 8 = .ok (.iload_n 1, 1) := by decide +kernel
theorem dX5_of_9 : decode cX5_of 9 = .ok (.imul, 1) := by decide +kernel
theorem dX5_of_10 : decode cX5_of 10 = .ok (.iadd, 1) := by decide +kernel
theorem dX5_of_11 : decode cX5_of 11 = .ok (.iload_n 2, 1) := by decide +kernel
theorem dX5_of_12 : decode cX5_of 12 = .ok (.iadd, 1) := by decide +kernel
theorem dX5_of_13 : decode cX5_of 13 = .ok (.iaload, 1) := by decide +kernel
theorem dX5_of_14 : decode cX5_of 14 = .ok (.ireturn, 1) := by decide +kernel
theorem dX5_puts_0 : decode cX5_puts 0 = .ok (.aload_n 0, 1) := by decide +kernel
theorem dX5_puts_1 : decode cX5_puts 1 = .ok (.getfield 7, 3) := by decide +kernel
theorem dX5_puts_4 : decode cX5_puts 4 = .ok (.bipush 13, 2) := by decide +kernel
theorem dX5_puts_6 : decode cX5_puts 6 = .ok (.bipush 8, 2) := by decide +kernel
theorem dX5_puts_8 : decode cX5_puts 8 = .ok (.iload_n 1, 1) := by decide +kernel
theorem dX5_puts_9 : decode cX5_puts 9 = .ok (.imul, 1) := by decide +kernel
theorem dX5_puts_10 : decode cX5_puts 10 = .ok (.iadd, 1) := by decide +kernel
theorem dX5_puts_11 : decode cX5_puts 11 = .ok (.iload_n 2, 1) := by decide +kernel
theorem dX5_puts_12 : decode cX5_puts 12 = .ok (.iadd, 1) := by decide +kernel
theorem dX5_puts_13 : decode cX5_puts 13 = .ok (.iload_n 3, 1) := by decide +kernel
theorem dX5_puts_14 : decode cX5_puts 14 = .ok (.iastore, 1) := by decide +kernel
theorem dX5_puts_15 : decode cX5_puts 15 = .ok (.return_, 1) := by decide +kernel
theorem dX5_sum_0 : decode cX5_sum 0 = .ok (.iconst 0, 1) := by decide +kernel
theorem dX5_sum_1 : decode cX5_sum 1 = .ok (.istore_n 2, 1) := by decide +kernel
theorem dX5_sum_2 : decode cX5_sum 2 = .ok (.iconst 0, 1) := by decide +kernel
theorem dX5_sum_3 : decode cX5_sum 3 = .ok (.istore_n 3, 1) := by decide +kernel
theorem dX5_sum_4 : decode cX5_sum 4 = .ok (.iload_n 3, 1) := by decide +kernel
theorem dX5_sum_5 : decode cX5_sum 5 = .ok (.aload_n 0, 1) := by decide +kernel
theorem dX5_sum_6 : decode cX5_sum 6 = .ok (.getfield 7, 3) := by decide +kernel
theorem dX5_sum_9 : decode cX5_sum 9 = .ok (.iconst 5, 1) := by decide +kernel
theorem dX5_sum_10 : decode cX5_sum 10 = .ok (.iaload, 1) := by decide +kernel
theorem dX5_sum_11 : decode cX5_sum 11 = .ok (.if_icmp .ge 18, 3) := by decide +kernel
theorem dX5_sum_14 : decode cX5_sum 14 = .ok (.iload_n 2, 1) := by decide +kernel
theorem dX5_sum_15 : decode cX5_sum 15 = .ok (.aload_n 0, 1) := by decide +kernel
theorem dX5_sum_16 : decode cX5_sum 16 = .ok (.iload_n 3, 1) := by decide +kernel
theorem dX5_sum_17 : decode cX5_sum 17 = .ok (.iload_n 1, 1) := by decide +kernel
theorem dX5_sum_18 : decode cX5_sum 18 = .ok (.invokevirtual 39, 3) := by decide +kernel
theorem dX5_sum_21 : decode cX5_sum 21 = .ok (.iadd, 1) := by decide +kernel
theorem dX5_sum_22 : decode cX5_sum 22 = .ok (.istore_n 2, 1) := by decide +kernel
theorem dX5_sum_23 : decode cX5_sum 23 = .ok (.iinc 3 1, 3) := by decide +kernel
theorem dX5_sum_26 : decode cX5_sum 26 = .ok (.goto (-22), 3) := by decide +kernel
theorem dX5_sum_29 : decode cX5_sum 29 = .ok (.iload_n 2, 1) := by decide +kernel
theorem dX5_sum_30 : decode cX5_sum 30 = .ok (.ireturn, 1) := by decide +kernel
theorem dX5_damage_0 : decode cX5_damage 0 = .ok (.iload_n 1, 1) := by decide +kernel
theorem dX5_damage_1 : decode cX5_damage 1 = .ok (.iload_n 1, 1) := by decide +kernel
theorem dX5_damage_2 : decode cX5_damage 2 = .ok (.imul, 1) := by decide +kernel
theorem dX5_damage_3 : decode cX5_damage 3 = .ok (.aload_n 0, 1) := by decide +kernel
theorem dX5_damage_4 : decode cX5_damage 4 = .ok (.getfield 7, 3) := by decide +kernel
theorem dX5_damage_7 : decode cX5_damage 7 = .ok (.iconst 0, 1) := by decide +kernel
theorem dX5_damage_8 : decode cX5_damage 8 = .ok (.iaload, 1) := by decide +kernel
theorem dX5_damage_9 : decode cX5_damage 9 = .ok (.idiv, 1) := by decide +kernel
theorem dX5_damage_10 : decode cX5_damage 10 = .ok (.ireturn, 1) := by decide +kernel
theorem dX5_placeOf_0 : decode cX5_placeOf 0 = .ok (.iload_n 1, 1) := by decide +kernel
theorem dX5_placeOf_1 : decode cX5_placeOf 1 = .ok (.aload_n 0, 1) := by decide +kernel
theorem dX5_placeOf_2 : decode cX5_placeOf 2 = .ok (.getfield 7, 3) := by decide +kernel
theorem dX5_placeOf_5 : decode cX5_placeOf 5 = .ok (.bipush 6, 2) := by decide +kernel
theorem dX5_placeOf_7 : decode cX5_placeOf 7 = .ok (.iaload, 1) := by decide +kernel
theorem dX5_placeOf_8 : decode cX5_placeOf 8 = .ok (.aload_n 0, 1) := by decide +kernel
theorem dX5_placeOf_9 : decode cX5_placeOf 9 = .ok (.getfield 7, 3) := by decide +kernel
theorem dX5_placeOf_12 : decode cX5_placeOf 12 = .ok (.iconst 5, 1) := by decide +kernel
theorem dX5_placeOf_13 : decode cX5_placeOf 13 = .ok (.iaload, 1) := by decide +kernel
theorem dX5_placeOf_14 : decode cX5_placeOf 14 = .ok (.irem, 1) := by decide +kernel
theorem dX5_placeOf_15 : decode cX5_placeOf 15 = .ok (.isub, 1) := by decide +kernel
theorem dX5_placeOf_16 : decode cX5_placeOf 16 = .ok (.aload_n 0, 1) := by decide +kernel
theorem dX5_placeOf_17 : decode cX5_placeOf 17 = .ok (.getfield 7, 3) := by decide +kernel
theorem dX5_placeOf_20 : decode cX5_placeOf 20 = .ok (.iconst 5, 1) := by decide +kernel
theorem dX5_placeOf_21 : decode cX5_placeOf 21 = .ok (.iaload, 1) := by decide +kernel
theorem dX5_placeOf_22 : decode cX5_placeOf 22 = .ok (.iadd, 1) := by decide +kernel
theorem dX5_placeOf_23 : decode cX5_placeOf 23 = .ok (.aload_n 0, 1) := by decide +kernel
theorem dX5_placeOf_24 : decode cX5_placeOf 24 = .ok (.getfield 7, 3) := by decide +kernel
theorem dX5_placeOf_27 : decode cX5_placeOf 27 = .ok (.iconst 5, 1) := by decide +kernel
theorem dX5_placeOf_28 : decode cX5_placeOf 28 = .ok (.iaload, 1) := by decide +kernel
theorem dX5_placeOf_29 : decode cX5_placeOf 29 = .ok (.irem, 1) := by decide +kernel
theorem dX5_placeOf_30 : decode cX5_placeOf 30 = .ok (.ireturn, 1) := by decide +kernel
theorem dX5_ahead_0 : decode cX5_ahead 0 = .ok (.iconst 0, 1) := by decide +kernel
theorem dX5_ahead_1 : decode cX5_ahead 1 = .ok (.istore_n 2, 1) := by decide +kernel
theorem dX5_ahead_2 : decode cX5_ahead 2 = .ok (.iconst 0, 1) := by decide +kernel
theorem dX5_ahead_3 : decode cX5_ahead 3 = .ok (.istore_n 3, 1) := by decide +kernel
theorem dX5_ahead_4 : decode cX5_ahead 4 = .ok (.iload_n 3, 1) := by decide +kernel
theorem dX5_ahead_5 : decode cX5_ahead 5 = .ok (.aload_n 0, 1) := by decide +kernel
theorem dX5_ahead_6 : decode cX5_ahead 6 = .ok (.getfield 7, 3) := by decide +kernel
theorem dX5_ahead_9 : decode cX5_ahead 9 = .ok (.iconst 5, 1) := by decide +kernel
theorem dX5_ahead_10 : decode cX5_ahead 10 = .ok (.iaload, 1) := by decide +kernel
theorem dX5_ahead_11 : decode cX5_ahead 11 = .ok (.if_icmp .ge 35, 3) := by decide +kernel
theorem dX5_ahead_14 : decode cX5_ahead 14 = .ok (.iload_n 2, 1) := by decide +kernel
theorem dX5_ahead_15 : decode cX5_ahead 15 = .ok (.aload_n 0, 1) := by decide +kernel
theorem dX5_ahead_16 : decode cX5_ahead 16 = .ok (.iload_n 3, 1) := by decide +kernel
theorem dX5_ahead_17 : decode cX5_ahead 17 = .ok (.invokevirtual 43, 3) := by decide +kernel
theorem dX5_ahead_20 : decode cX5_ahead 20 = .ok (.aload_n 0, 1) := by decide +kernel
theorem dX5_ahead_21 : decode cX5_ahead 21 = .ok (.iload_n 1, 1) := by decide +kernel
theorem dX5_ahead_22 : decode cX5_ahead 22 = .ok (.invokevirtual 43, 3) := by decide +kernel
theorem dX5_ahead_25 : decode cX5_ahead 25 = .ok (.if_icmp .ge 12, 3) := by decide +kernel
theorem dX5_ahead_28 : decode cX5_ahead 28 = .ok (.aload_n 0, 1) := by decide +kernel
theorem dX5_ahead_29 : decode cX5_ahead 29 = .ok (.iload_n 3, 1) := by decide +kernel
theorem dX5_ahead_30 : decode cX5_ahead 30 = .ok (.iconst 1, 1) := by decide +kernel
theorem dX5_ahead_31 : decode cX5_ahead 31 = .ok (.invokevirtual 39, 3) := by decide +kernel
theorem dX5_ahead_34 : decode cX5_ahead 34 = .ok (.goto 4, 3) := by decide +kernel
theorem dX5_ahead_37 : decode cX5_ahead 37 = .ok (.iconst 0, 1) := by decide +kernel
theorem dX5_ahead_38 : decode cX5_ahead 38 = .ok (.iadd, 1) := by decide +kernel
theorem dX5_ahead_39 : decode cX5_ahead 39 = .ok (.istore_n 2, 1) := by decide +kernel
theorem dX5_ahead_40 : decode cX5_ahead 40 = .ok (.iinc 3 1, 3) := by decide +kernel
theorem dX5_ahead_43 : decode cX5_ahead 43 = .ok (.goto (-39), 3) := by decide +kernel
theorem dX5_ahead_46 : decode cX5_ahead 46 = .ok (.iload_n 2, 1) := by decide +kernel
theorem dX5_ahead_47 : decode cX5_ahead 47 = .ok (.ireturn, 1) := by decide +kernel
theorem dX5_chargeFor_0 : decode cX5_chargeFor 0 = .ok (.aload_n 0, 1) := by decide +kernel
theorem dX5_chargeFor_1 : decode cX5_chargeFor 1 = .ok (.iload_n 1, 1) := by decide +kernel
theorem dX5_chargeFor_2 : decode cX5_chargeFor 2 = .ok (.invokevirtual 47, 3) := by decide +kernel
theorem dX5_chargeFor_5 : decode cX5_chargeFor 5 = .ok (.istore_n 3, 1) := by decide +kernel
theorem dX5_chargeFor_6 : decode cX5_chargeFor 6 = .ok (.aload_n 0, 1) := by decide +kernel
theorem dX5_chargeFor_7 : decode cX5_chargeFor 7 = .ok (.iload_n 3, 1) := by decide +kernel
theorem dX5_chargeFor_8 : decode cX5_chargeFor 8 = .ok (.iload_n 2, 1) := by decide +kernel
theorem dX5_chargeFor_9 : decode cX5_chargeFor 9 = .ok (.iadd, 1) := by decide +kernel
theorem dX5_chargeFor_10 : decode cX5_chargeFor 10 = .ok (.invokevirtual 50, 3) := by decide +kernel
theorem dX5_chargeFor_13 : decode cX5_chargeFor 13 = .ok (.aload_n 0, 1) := by decide +kernel
theorem dX5_chargeFor_14 : decode cX5_chargeFor 14 = .ok (.iload_n 3, 1) := by decide +kernel
theorem dX5_chargeFor_15 : decode cX5_chargeFor 15 = .ok (.invokevirtual 50, 3) := by decide +kernel
theorem dX5_chargeFor_18 : decode cX5_chargeFor 18 = .ok (.isub, 1) := by decide +kernel
theorem dX5_chargeFor_19 : decode cX5_chargeFor 19 = .ok (.ireturn, 1) := by decide +kernel
theorem dX5_member_0 : decode cX5_member 0 = .ok (.iload_n 1, 1) := by decide +kernel
theorem dX5_member_1 : decode cX5_member 1 = .ok (.iconst 0, 1) := by decide +kernel
theorem dX5_member_2 : decode cX5_member 2 = .ok (.bipush 30, 2) := by decide +kernel
theorem dX5_member_4 : decode cX5_member 4 = .ok (.invokestatic 53, 3) := by decide +kernel
theorem dX5_member_7 : decode cX5_member 7 = .ok (.ifCond .ne 7, 3) := by decide +kernel
theorem dX5_member_10 : decode cX5_member 10 = .ok (.sipush (-10001), 3) := by decide +kernel
theorem dX5_member_13 : decode cX5_member 13 = .ok (.ireturn, 1) := by decide +kernel
theorem dX5_member_14 : decode cX5_member 14 = .ok (.aload_n 0, 1) := by decide +kernel
theorem dX5_member_15 : decode cX5_member 15 = .ok (.getfield 7, 3) := by decide +kernel
theorem dX5_member_18 : decode cX5_member 18 = .ok (.iconst 5, 1) := by decide +kernel
theorem dX5_member_19 : decode cX5_member 19 = .ok (.iaload, 1) := by decide +kernel
theorem dX5_member_20 : decode cX5_member 20 = .ok (.istore_n 2, 1) := by decide +kernel
theorem dX5_member_21 : decode cX5_member 21 = .ok (.iload_n 2, 1) := by decide +kernel
theorem dX5_member_22 : decode cX5_member 22 = .ok (.bipush 8, 2) := by decide +kernel
theorem dX5_member_24 : decode cX5_member 24 = .ok (.if_icmp .ne 7, 3) := by decide +kernel
theorem dX5_member_27 : decode cX5_member 27 = .ok (.sipush (-10003), 3) := by decide +kernel
theorem dX5_member_30 : decode cX5_member 30 = .ok (.ireturn, 1) := by decide +kernel
theorem dX5_member_31 : decode cX5_member 31 = .ok (.aload_n 0, 1) := by decide +kernel
theorem dX5_member_32 : decode cX5_member 32 = .ok (.invokevirtual 57, 3) := by decide +kernel
theorem dX5_member_35 : decode cX5_member 35 = .ok (.iconst 0, 1) := by decide +kernel
theorem dX5_member_36 : decode cX5_member 36 = .ok (.istore_n 3, 1) := by decide +kernel
theorem dX5_member_37 : decode cX5_member 37 = .ok (.iload_n 3, 1) := by decide +kernel
theorem dX5_member_38 : decode cX5_member 38 = .ok (.bipush 8, 2) := by decide +kernel
theorem dX5_member_40 : decode cX5_member 40 = .ok (.if_icmp .ge 16, 3) := by decide +kernel
theorem dX5_member_43 : decode cX5_member 43 = .ok (.aload_n 0, 1) := by decide +kernel
theorem dX5_member_44 : decode cX5_member 44 = .ok (.iload_n 2, 1) := by decide +kernel
theorem dX5_member_45 : decode cX5_member 45 = .ok (.iload_n 3, 1) := by decide +kernel
theorem dX5_member_46 : decode cX5_member 46 = .ok (.iconst 0, 1) := by decide +kernel
theorem dX5_member_47 : decode cX5_member 47 = .ok (.invokevirtual 60, 3) := by decide +kernel
theorem dX5_member_50 : decode cX5_member 50 = .ok (.iinc 3 1, 3) := by decide +kernel
theorem dX5_member_53 : decode cX5_member 53 = .ok (.goto (-16), 3) := by decide +kernel
theorem dX5_member_56 : decode cX5_member 56 = .ok (.aload_n 0, 1) := by decide +kernel
theorem dX5_member_57 : decode cX5_member 57 = .ok (.iload_n 2, 1) := by decide +kernel
theorem dX5_member_58 : decode cX5_member 58 = .ok (.iconst 0, 1) := by decide +kernel
theorem dX5_member_59 : decode cX5_member 59 = .ok (.iload_n 1, 1) := by decide +kernel
theorem dX5_member_60 : decode cX5_member 60 = .ok (.invokevirtual 60, 3) := by decide +kernel
theorem dX5_member_63 : decode cX5_member 63 = .ok (.aload_n 0, 1) := by decide +kernel
theorem dX5_member_64 : decode cX5_member 64 = .ok (.getfield 7, 3) := by decide +kernel
theorem dX5_member_67 : decode cX5_member 67 = .ok (.iconst 5, 1) := by decide +kernel
theorem dX5_member_68 : decode cX5_member 68 = .ok (.dup2, 1) := by decide +kernel
theorem dX5_member_69 : decode cX5_member 69 = .ok (.iaload, 1) := by decide +kernel
theorem dX5_member_70 : decode cX5_member 70 = .ok (.iconst 1, 1) := by decide +kernel
theorem dX5_member_71 : decode cX5_member 71 = .ok (.iadd, 1) := by decide +kernel
theorem dX5_member_72 : decode cX5_member 72 = .ok (.iastore, 1) := by decide +kernel
theorem dX5_member_73 : decode cX5_member 73 = .ok (.iload_n 2, 1) := by decide +kernel
theorem dX5_member_74 : decode cX5_member 74 = .ok (.ireturn, 1) := by decide +kernel
theorem dX5_use_0 : decode cX5_use 0 = .ok (.aload_n 0, 1) := by decide +kernel
theorem dX5_use_1 : decode cX5_use 1 = .ok (.iload_n 1, 1) := by decide +kernel
theorem dX5_use_2 : decode cX5_use 2 = .ok (.invokevirtual 64, 3) := by decide +kernel
theorem dX5_use_5 : decode cX5_use 5 = .ok (.ifCond .eq 13, 3) := by decide +kernel
theorem dX5_use_8 : decode cX5_use 8 = .ok (.iload_n 2, 1) := by decide +kernel
theorem dX5_use_9 : decode cX5_use 9 = .ok (.iconst 0, 1) := by decide +kernel
theorem dX5_use_10 : decode cX5_use 10 = .ok (.bipush 20, 2) := by decide +kernel
theorem dX5_use_12 : decode cX5_use 12 = .ok (.invokestatic 53, 3) := by decide +kernel
theorem dX5_use_15 : decode cX5_use 15 = .ok (.ifCond .ne 7, 3) := by decide +kernel
theorem dX5_use_18 : decode cX5_use 18 = .ok (.sipush (-10001), 3) := by decide +kernel
theorem dX5_use_21 : decode cX5_use 21 = .ok (.ireturn, 1) := by decide +kernel
theorem dX5_use_22 : decode cX5_use 22 = .ok (.aload_n 0, 1) := by decide +kernel
theorem dX5_use_23 : decode cX5_use 23 = .ok (.iload_n 1, 1) := by decide +kernel
theorem dX5_use_24 : decode cX5_use 24 = .ok (.bipush 6, 2) := by decide +kernel
theorem dX5_use_26 : decode cX5_use 26 = .ok (.invokevirtual 39, 3) := by decide +kernel
theorem dX5_use_29 : decode cX5_use 29 = .ok (.iconst 1, 1) := by decide +kernel
theorem dX5_use_30 : decode cX5_use 30 = .ok (.if_icmp .ne 7, 3) := by decide +kernel
theorem dX5_use_33 : decode cX5_use 33 = .ok (.sipush (-10002), 3) := by decide +kernel
theorem dX5_use_36 : decode cX5_use 36 = .ok (.ireturn, 1) := by decide +kernel
theorem dX5_use_37 : decode cX5_use 37 = .ok (.aload_n 0, 1) := by decide +kernel
theorem dX5_use_38 : decode cX5_use 38 = .ok (.invokevirtual 57, 3) := by decide +kernel
theorem dX5_use_41 : decode cX5_use 41 = .ok (.aload_n 0, 1) := by decide +kernel
theorem dX5_use_42 : decode cX5_use 42 = .ok (.iload_n 1, 1) := by decide +kernel
theorem dX5_use_43 : decode cX5_use 43 = .ok (.iconst 1, 1) := by decide +kernel
theorem dX5_use_44 : decode cX5_use 44 = .ok (.iload_n 2, 1) := by decide +kernel
theorem dX5_use_45 : decode cX5_use 45 = .ok (.invokevirtual 60, 3) := by decide +kernel
theorem dX5_use_48 : decode cX5_use 48 = .ok (.aload_n 0, 1) := by decide +kernel
theorem dX5_use_49 : decode cX5_use 49 = .ok (.iload_n 1, 1) := by decide +kernel
theorem dX5_use_50 : decode cX5_use 50 = .ok (.iload_n 2, 1) := by decide +kernel
theorem dX5_use_51 : decode cX5_use 51 = .ok (.invokevirtual 68, 3) := by decide +kernel
theorem dX5_use_54 : decode cX5_use 54 = .ok (.ireturn, 1) := by decide +kernel
theorem dX5_outSet_0 : decode cX5_outSet 0 = .ok (.iconst 0, 1) := by decide +kernel
theorem dX5_outSet_1 : decode cX5_outSet 1 = .ok (.istore_n 1, 1) := by decide +kernel
theorem dX5_outSet_2 : decode cX5_outSet 2 = .ok (.iconst 0, 1) := by decide +kernel
theorem dX5_outSet_3 : decode cX5_outSet 3 = .ok (.istore_n 2, 1) := by decide +kernel
theorem dX5_outSet_4 : decode cX5_outSet 4 = .ok (.iload_n 2, 1) := by decide +kernel
theorem dX5_outSet_5 : decode cX5_outSet 5 = .ok (.aload_n 0, 1) := by decide +kernel
theorem dX5_outSet_6 : decode cX5_outSet 6 = .ok (.getfield 7, 3) := by decide +kernel
theorem dX5_outSet_9 : decode cX5_outSet 9 = .ok (.iconst 5, 1) := by decide +kernel
theorem dX5_outSet_10 : decode cX5_outSet 10 = .ok (.iaload, 1) := by decide +kernel
theorem dX5_outSet_11 : decode cX5_outSet 11 = .ok (.if_icmp .ge 21, 3) := by decide +kernel
theorem dX5_outSet_14 : decode cX5_outSet 14 = .ok (.iload_n 1, 1) := by decide +kernel
theorem dX5_outSet_15 : decode cX5_outSet 15 = .ok (.aload_n 0, 1) := by decide +kernel
theorem dX5_outSet_16 : decode cX5_outSet 16 = .ok (.iload_n 2, 1) := by decide +kernel
theorem dX5_outSet_17 : decode cX5_outSet 17 = .ok (.bipush 6, 2) := by decide +kernel
theorem dX5_outSet_19 : decode cX5_outSet 19 = .ok (.invokevirtual 39, 3) := by decide +kernel
theorem dX5_outSet_22 : decode cX5_outSet 22 = .ok (.iload_n 2, 1) := by decide +kernel
theorem dX5_outSet_23 : decode cX5_outSet 23 = .ok (.ishl, 1) := by decide +kernel
theorem dX5_outSet_24 : decode cX5_outSet 24 = .ok (.ior, 1) := by decide +kernel
theorem dX5_outSet_25 : decode cX5_outSet 25 = .ok (.istore_n 1, 1) := by decide +kernel
theorem dX5_outSet_26 : decode cX5_outSet 26 = .ok (.iinc 2 1, 3) := by decide +kernel
theorem dX5_outSet_29 : decode cX5_outSet 29 = .ok (.goto (-25), 3) := by decide +kernel
theorem dX5_outSet_32 : decode cX5_outSet 32 = .ok (.iload_n 1, 1) := by decide +kernel
theorem dX5_outSet_33 : decode cX5_outSet 33 = .ok (.ireturn, 1) := by decide +kernel
theorem dX5_keeps_0 : decode cX5_keeps 0 = .ok (.bipush 29, 2) := by decide +kernel
theorem dX5_keeps_2 : decode cX5_keeps 2 = .ok (.istore 5, 2) := by decide +kernel
theorem dX5_keeps_4 : decode cX5_keeps 4 = .ok (.iload 5, 2) := by decide +kernel
theorem dX5_keeps_6 : decode cX5_keeps 6 = .ok (.iconst 4, 1) := by decide +kernel
theorem dX5_keeps_7 : decode cX5_keeps 7 = .ok (.if_icmp .le 31, 3) := by decide +kernel
theorem dX5_keeps_10 : decode cX5_keeps 10 = .ok (.aload_n 0, 1) := by decide +kernel
theorem dX5_keeps_11 : decode cX5_keeps 11 = .ok (.getfield 7, 3) := by decide +kernel
theorem dX5_keeps_14 : decode cX5_keeps 14 = .ok (.bipush 77, 2) := by decide +kernel
theorem dX5_keeps_16 : decode cX5_keeps 16 = .ok (.iload 5, 2) := by decide +kernel
theorem dX5_keeps_18 : decode cX5_keeps 18 = .ok (.iadd, 1) := by decide +kernel
theorem dX5_keeps_19 : decode cX5_keeps 19 = .ok (.aload_n 0, 1) := by decide +kernel
theorem dX5_keeps_20 : decode cX5_keeps 20 = .ok (.getfield 7, 3) := by decide +kernel
theorem dX5_keeps_23 : decode cX5_keeps 23 = .ok (.bipush 77, 2) := by decide +kernel
theorem dX5_keeps_25 : decode cX5_keeps 25 = .ok (.iload 5, 2) := by decide +kernel
theorem dX5_keeps_27 : decode cX5_keeps 27 = .ok (.iadd, 1) := by decide +kernel
theorem dX5_keeps_28 : decode cX5_keeps 28 = .ok (.iconst 5, 1) := by decide +kernel
theorem dX5_keeps_29 : decode cX5_keeps 29 = .ok (.isub, 1) := by decide +kernel
theorem dX5_keeps_30 : decode cX5_keeps 30 = .ok (.iaload, 1) := by decide +kernel
theorem dX5_keeps_31 : decode cX5_keeps 31 = .ok (.iastore, 1) := by decide +kernel
theorem dX5_keeps_32 : decode cX5_keeps 32 = .ok (.iinc 5 (-1), 3) := by decide +kernel
theorem dX5_keeps_35 : decode cX5_keeps 35 = .ok (.goto (-31), 3) := by decide +kernel
theorem dX5_keeps_38 : decode cX5_keeps 38 = .ok (.aload_n 0, 1) := by decide +kernel
theorem dX5_keeps_39 : decode cX5_keeps 39 = .ok (.getfield 7, 3) := by decide +kernel
theorem dX5_keeps_42 : decode cX5_keeps 42 = .ok (.bipush 77, 2) := by decide +kernel
theorem dX5_keeps_44 : decode cX5_keeps 44 = .ok (.iload_n 1, 1) := by decide +kernel
theorem dX5_keeps_45 : decode cX5_keeps 45 = .ok (.iastore, 1) := by decide +kernel
theorem dX5_keeps_46 : decode cX5_keeps 46 = .ok (.aload_n 0, 1) := by decide +kernel
theorem dX5_keeps_47 : decode cX5_keeps 47 = .ok (.getfield 7, 3) := by decide +kernel
theorem dX5_keeps_50 : decode cX5_keeps 50 = .ok (.bipush 78, 2) := by decide +kernel
theorem dX5_keeps_52 : decode cX5_keeps 52 = .ok (.iload_n 2, 1) := by decide +kernel
theorem dX5_keeps_53 : decode cX5_keeps 53 = .ok (.iastore, 1) := by decide +kernel
theorem dX5_keeps_54 : decode cX5_keeps 54 = .ok (.aload_n 0, 1) := by decide +kernel
theorem dX5_keeps_55 : decode cX5_keeps 55 = .ok (.getfield 7, 3) := by decide +kernel
theorem dX5_keeps_58 : decode cX5_keeps 58 = .ok (.bipush 79, 2) := by decide +kernel
theorem dX5_keeps_60 : decode cX5_keeps 60 = .ok (.iload_n 3, 1) := by decide +kernel
theorem dX5_keeps_61 : decode cX5_keeps 61 = .ok (.iastore, 1) := by decide +kernel
theorem dX5_keeps_62 : decode cX5_keeps 62 = .ok (.aload_n 0, 1) := by decide +kernel
theorem dX5_keeps_63 : decode cX5_keeps 63 = .ok (.getfield 7, 3) := by decide +kernel
theorem dX5_keeps_66 : decode cX5_keeps 66 = .ok (.bipush 80, 2) := by decide +kernel
theorem dX5_keeps_68 : decode cX5_keeps 68 = .ok (.aload_n 0, 1) := by decide +kernel
theorem dX5_keeps_69 : decode cX5_keeps 69 = .ok (.getfield 7, 3) := by decide +kernel
theorem dX5_keeps_72 : decode cX5_keeps 72 = .ok (.bipush 7, 2) := by decide +kernel
theorem dX5_keeps_74 : decode cX5_keeps 74 = .ok (.iaload, 1) := by decide +kernel
theorem dX5_keeps_75 : decode cX5_keeps 75 = .ok (.iastore, 1) := by decide +kernel
theorem dX5_keeps_76 : decode cX5_keeps 76 = .ok (.aload_n 0, 1) := by decide +kernel
theorem dX5_keeps_77 : decode cX5_keeps 77 = .ok (.getfield 7, 3) := by decide +kernel
theorem dX5_keeps_80 : decode cX5_keeps 80 = .ok (.bipush 81, 2) := by decide +kernel
theorem dX5_keeps_82 : decode cX5_keeps 82 = .ok (.iload 4, 2) := by decide +kernel
theorem dX5_keeps_84 : decode cX5_keeps 84 = .ok (.iastore, 1) := by decide +kernel
theorem dX5_keeps_85 : decode cX5_keeps 85 = .ok (.aload_n 0, 1) := by decide +kernel
theorem dX5_keeps_86 : decode cX5_keeps 86 = .ok (.getfield 7, 3) := by decide +kernel
theorem dX5_keeps_89 : decode cX5_keeps 89 = .ok (.bipush 12, 2) := by decide +kernel
theorem dX5_keeps_91 : decode cX5_keeps 91 = .ok (.aload_n 0, 1) := by decide +kernel
theorem dX5_keeps_92 : decode cX5_keeps 92 = .ok (.getfield 7, 3) := by decide +kernel
theorem dX5_keeps_95 : decode cX5_keeps 95 = .ok (.bipush 12, 2) := by decide +kernel
theorem dX5_keeps_97 : decode cX5_keeps 97 = .ok (.iaload, 1) := by decide +kernel
theorem dX5_keeps_98 : decode cX5_keeps 98 = .ok (.bipush 6, 2) := by decide +kernel
theorem dX5_keeps_100 : decode cX5_keeps 100 = .ok (.if_icmp .ne 8, 3) := by decide +kernel
theorem dX5_keeps_103 : decode cX5_keeps 103 = .ok (.bipush 6, 2) := by decide +kernel
theorem dX5_keeps_105 : decode cX5_keeps 105 = .ok (.goto 12, 3) := by decide +kernel
theorem dX5_keeps_108 : decode cX5_keeps 108 = .ok (.aload_n 0, 1) := by decide +kernel
theorem dX5_keeps_109 : decode cX5_keeps 109 = .ok (.getfield 7, 3) := by decide +kernel
theorem dX5_keeps_112 : decode cX5_keeps 112 = .ok (.bipush 12, 2) := by decide +kernel
theorem dX5_keeps_114 : decode cX5_keeps 114 = .ok (.iaload, 1) := by decide +kernel
theorem dX5_keeps_115 : decode cX5_keeps 115 = .ok (.iconst 1, 1) := by decide +kernel
theorem dX5_keeps_116 : decode cX5_keeps 116 = .ok (.iadd, 1) := by decide +kernel
theorem dX5_keeps_117 : decode cX5_keeps 117 = .ok (.iastore, 1) := by decide +kernel
theorem dX5_keeps_118 : decode cX5_keeps 118 = .ok (.return_, 1) := by decide +kernel
theorem dX5_excludes_0 : decode cX5_excludes 0 = .ok (.aload_n 0, 1) := by decide +kernel
theorem dX5_excludes_1 : decode cX5_excludes 1 = .ok (.getfield 7, 3) := by decide +kernel
theorem dX5_excludes_4 : decode cX5_excludes 4 = .ok (.bipush 7, 2) := by decide +kernel
theorem dX5_excludes_6 : decode cX5_excludes 6 = .ok (.iaload, 1) := by decide +kernel
theorem dX5_excludes_7 : decode cX5_excludes 7 = .ok (.aload_n 0, 1) := by decide +kernel
theorem dX5_excludes_8 : decode cX5_excludes 8 = .ok (.getfield 7, 3) := by decide +kernel
theorem dX5_excludes_11 : decode cX5_excludes 11 = .ok (.iconst 1, 1) := by decide +kernel
theorem dX5_excludes_12 : decode cX5_excludes 12 = .ok (.iaload, 1) := by decide +kernel
theorem dX5_excludes_13 : decode cX5_excludes 13 = .ok (.if_icmp .ge 26, 3) := by decide +kernel
theorem dX5_excludes_16 : decode cX5_excludes 16 = .ok (.aload_n 0, 1) := by decide +kernel
theorem dX5_excludes_17 : decode cX5_excludes 17 = .ok (.getfield 7, 3) := by decide +kernel
theorem dX5_excludes_20 : decode cX5_excludes 20 = .ok (.iconst 1, 1) := by decide +kernel
theorem dX5_excludes_21 : decode cX5_excludes 21 = .ok (.iaload, 1) := by decide +kernel
theorem dX5_excludes_22 : decode cX5_excludes 22 = .ok (.aload_n 0, 1) := by decide +kernel
theorem dX5_excludes_23 : decode cX5_excludes 23 = .ok (.getfield 7, 3) := by decide +kernel
theorem dX5_excludes_26 : decode cX5_excludes 26 = .ok (.bipush 7, 2) := by decide +kernel
theorem dX5_excludes_28 : decode cX5_excludes 28 = .ok (.iaload, 1) := by decide +kernel
theorem dX5_excludes_29 : decode cX5_excludes 29 = .ok (.isub, 1) := by decide +kernel
theorem dX5_excludes_30 : decode cX5_excludes 30 = .ok (.bipush 9, 2) := by decide +kernel
theorem dX5_excludes_32 : decode cX5_excludes 32 = .ok (.iadd, 1) := by decide +kernel
theorem dX5_excludes_33 : decode cX5_excludes 33 = .ok (.bipush 10, 2) := by decide +kernel
theorem dX5_excludes_35 : decode cX5_excludes 35 = .ok (.idiv, 1) := by decide +kernel
theorem dX5_excludes_36 : decode cX5_excludes 36 = .ok (.goto 4, 3) := by decide +kernel
theorem dX5_excludes_39 : decode cX5_excludes 39 = .ok (.iconst 0, 1) := by decide +kernel
theorem dX5_excludes_40 : decode cX5_excludes 40 = .ok (.istore_n 2, 1) := by decide +kernel
theorem dX5_excludes_41 : decode cX5_excludes 41 = .ok (.iload_n 2, 1) := by decide +kernel
theorem dX5_excludes_42 : decode cX5_excludes 42 = .ok (.aload_n 0, 1) := by decide +kernel
theorem dX5_excludes_43 : decode cX5_excludes 43 = .ok (.getfield 7, 3) := by decide +kernel
theorem dX5_excludes_46 : decode cX5_excludes 46 = .ok (.iconst 5, 1) := by decide +kernel
theorem dX5_excludes_47 : decode cX5_excludes 47 = .ok (.iaload, 1) := by decide +kernel
theorem dX5_excludes_48 : decode cX5_excludes 48 = .ok (.iconst 1, 1) := by decide +kernel
theorem dX5_excludes_49 : decode cX5_excludes 49 = .ok (.isub, 1) := by decide +kernel
theorem dX5_excludes_50 : decode cX5_excludes 50 = .ok (.if_icmp .le 14, 3) := by decide +kernel
theorem dX5_excludes_53 : decode cX5_excludes 53 = .ok (.aload_n 0, 1) := by decide +kernel
theorem dX5_excludes_54 : decode cX5_excludes 54 = .ok (.getfield 7, 3) := by decide +kernel
theorem dX5_excludes_57 : decode cX5_excludes 57 = .ok (.iconst 5, 1) := by decide +kernel
theorem dX5_excludes_58 : decode cX5_excludes 58 = .ok (.iaload, 1) := by decide +kernel
theorem dX5_excludes_59 : decode cX5_excludes 59 = .ok (.iconst 1, 1) := by decide +kernel
theorem dX5_excludes_60 : decode cX5_excludes 60 = .ok (.isub, 1) := by decide +kernel
theorem dX5_excludes_61 : decode cX5_excludes 61 = .ok (.goto 4, 3) := by decide +kernel
theorem dX5_excludes_64 : decode cX5_excludes 64 = .ok (.iload_n 2, 1) := by decide +kernel
theorem dX5_excludes_65 : decode cX5_excludes 65 = .ok (.istore_n 2, 1) := by decide +kernel
theorem dX5_excludes_66 : decode cX5_excludes 66 = .ok (.iconst 0, 1) := by decide +kernel
theorem dX5_excludes_67 : decode cX5_excludes 67 = .ok (.istore_n 3, 1) := by decide +kernel
theorem dX5_excludes_68 : decode cX5_excludes 68 = .ok (.iconst 0, 1) := by decide +kernel
theorem dX5_excludes_69 : decode cX5_excludes 69 = .ok (.istore 4, 2) := by decide +kernel
theorem dX5_excludes_71 : decode cX5_excludes 71 = .ok (.iload 4, 2) := by decide +kernel
theorem dX5_excludes_73 : decode cX5_excludes 73 = .ok (.iload_n 2, 1) := by decide +kernel
theorem dX5_excludes_74 : decode cX5_excludes 74 = .ok (.if_icmp .ge 100, 3) := by decide +kernel
theorem dX5_excludes_77 : decode cX5_excludes 77 = .ok (.sipush (-10004), 3) := by decide +kernel
theorem dX5_excludes_80 : decode cX5_excludes 80 = .ok (.istore 5, 2) := by decide +kernel
theorem dX5_excludes_82 : decode cX5_excludes 82 = .ok (.iconst 0, 1) := by decide +kernel
theorem dX5_excludes_83 : decode cX5_excludes 83 = .ok (.istore 6, 2) := by decide +kernel
theorem dX5_excludes_85 : decode cX5_excludes 85 = .ok (.iload 6, 2) := by decide +kernel
theorem dX5_excludes_87 : decode cX5_excludes 87 = .ok (.aload_n 0, 1) := by decide +kernel
theorem dX5_excludes_88 : decode cX5_excludes 88 = .ok (.getfield 7, 3) := by decide +kernel
theorem dX5_excludes_91 : decode cX5_excludes 91 = .ok (.iconst 5, 1) := by decide +kernel
theorem dX5_excludes_92 : decode cX5_excludes 92 = .ok (.iaload, 1) := by decide +kernel
theorem dX5_excludes_93 : decode cX5_excludes 93 = .ok (.if_icmp .ge 63, 3) := by decide +kernel
theorem dX5_excludes_96 : decode cX5_excludes 96 = .ok (.iload_n 1, 1) := by decide +kernel
theorem dX5_excludes_97 : decode cX5_excludes 97 = .ok (.iload_n 3, 1) := by decide +kernel
theorem dX5_excludes_98 : decode cX5_excludes 98 = .ok (.ior, 1) := by decide +kernel
theorem dX5_excludes_99 : decode cX5_excludes 99 = .ok (.iload 6, 2) := by decide +kernel
theorem dX5_excludes_101 : decode cX5_excludes 101 = .ok (.ishr, 1) := by decide +kernel
theorem dX5_excludes_102 : decode cX5_excludes 102 = .ok (.iconst 1, 1) := by decide +kernel
theorem dX5_excludes_103 : decode cX5_excludes 103 = .ok (.iand, 1) := by decide +kernel
theorem dX5_excludes_104 : decode cX5_excludes 104 = .ok (.ifCond .ne 7, 3) := by decide +kernel
theorem dX5_excludes_107 : decode cX5_excludes 107 = .ok (.iconst 1, 1) := by decide +kernel
theorem dX5_excludes_108 : decode cX5_excludes 108 = .ok (.goto 4, 3) := by decide +kernel
theorem dX5_excludes_111 : decode cX5_excludes 111 = .ok (.iconst 0, 1) := by decide +kernel
theorem dX5_excludes_112 : decode cX5_excludes 112 = .ok (.istore 7, 2) := by decide +kernel
theorem dX5_excludes_114 : decode cX5_excludes 114 = .ok (.iload 7, 2) := by decide +kernel
theorem dX5_excludes_116 : decode cX5_excludes 116 = .ok (.ifCond .eq 30, 3) := by decide +kernel
theorem dX5_excludes_119 : decode cX5_excludes 119 = .ok (.iload 5, 2) := by decide +kernel
theorem dX5_excludes_121 : decode cX5_excludes 121 = .ok (.ifCond .lt 20, 3) := by decide +kernel
theorem dX5_excludes_124 : decode cX5_excludes 124 = .ok (.aload_n 0, 1) := by decide +kernel
theorem dX5_excludes_125 : decode cX5_excludes 125 = .ok (.iload 6, 2) := by decide +kernel
theorem dX5_excludes_127 : decode cX5_excludes 127 = .ok (.iconst 5, 1) := by decide +kernel
theorem dX5_excludes_128 : decode cX5_excludes 128 = .ok (.invokevirtual 39, 3) := by decide +kernel
theorem dX5_excludes_131 : decode cX5_excludes 131 = .ok (.aload_n 0, 1) := by decide +kernel
theorem dX5_excludes_132 : decode cX5_excludes 132 = .ok (.iload 5, 2) := by decide +kernel
theorem dX5_excludes_134 : decode cX5_excludes 134 = .ok (.iconst 5, 1) := by decide +kernel
theorem dX5_excludes_135 : decode cX5_excludes 135 = .ok (.invokevirtual 39, 3) := by decide +kernel
theorem dX5_excludes_138 : decode cX5_excludes 138 = .ok (.if_icmp .le 8, 3) := by decide +kernel
theorem dX5_excludes_141 : decode cX5_excludes 141 = .ok (.iload 6, 2) := by decide +kernel
theorem dX5_excludes_143 : decode cX5_excludes 143 = .ok (.goto 5, 3) := by decide +kernel
theorem dX5_excludes_146 : decode cX5_excludes 146 = .ok (.iload 5, 2) := by decide +kernel
theorem dX5_excludes_148 : decode cX5_excludes 148 = .ok (.istore 5, 2) := by decide +kernel
theorem dX5_excludes_150 : decode cX5_excludes 150 = .ok (.iinc 6 1, 3) := by decide +kernel
theorem dX5_excludes_153 : decode cX5_excludes 153 = .ok (.goto (-68), 3) := by decide +kernel
theorem dX5_excludes_156 : decode cX5_excludes 156 = .ok (.iload 5, 2) := by decide +kernel
theorem dX5_excludes_158 : decode cX5_excludes 158 = .ok (.ifCond .lt 10, 3) := by decide +kernel
theorem dX5_excludes_161 : decode cX5_excludes 161 = .ok (.iload_n 3, 1) := by decide +kernel
theorem dX5_excludes_162 : decode cX5_excludes 162 = .ok (.iconst 1, 1) := by decide +kernel
theorem dX5_excludes_163 : decode cX5_excludes 163 = .ok (.iload 5, 2) := by decide +kernel
theorem dX5_excludes_165 : decode cX5_excludes 165 = .ok (.ishl, 1) := by decide +kernel
theorem dX5_excludes_166 : decode cX5_excludes 166 = .ok (.ior, 1) := by decide +kernel
theorem dX5_excludes_167 : decode cX5_excludes 167 = .ok (.istore_n 3, 1) := by decide +kernel
theorem dX5_excludes_168 : decode cX5_excludes 168 = .ok (.iinc 4 1, 3) := by decide +kernel
theorem dX5_excludes_171 : decode cX5_excludes 171 = .ok (.goto (-100), 3) := by decide +kernel
theorem dX5_excludes_174 : decode cX5_excludes 174 = .ok (.iconst 0, 1) := by decide +kernel
theorem dX5_excludes_175 : decode cX5_excludes 175 = .ok (.istore 4, 2) := by decide +kernel
theorem dX5_excludes_177 : decode cX5_excludes 177 = .ok (.iload 4, 2) := by decide +kernel
theorem dX5_excludes_179 : decode cX5_excludes 179 = .ok (.aload_n 0, 1) := by decide +kernel
theorem dX5_excludes_180 : decode cX5_excludes 180 = .ok (.getfield 7, 3) := by decide +kernel
theorem dX5_excludes_183 : decode cX5_excludes 183 = .ok (.iconst 5, 1) := by decide +kernel
theorem dX5_excludes_184 : decode cX5_excludes 184 = .ok (.iaload, 1) := by decide +kernel
theorem dX5_excludes_185 : decode cX5_excludes 185 = .ok (.if_icmp .ge 108, 3) := by decide +kernel
theorem dX5_excludes_188 : decode cX5_excludes 188 = .ok (.iload_n 3, 1) := by decide +kernel
theorem dX5_excludes_189 : decode cX5_excludes 189 = .ok (.iload 4, 2) := by decide +kernel
theorem dX5_excludes_191 : decode cX5_excludes 191 = .ok (.ishr, 1) := by decide +kernel
theorem dX5_excludes_192 : decode cX5_excludes 192 = .ok (.iconst 1, 1) := by decide +kernel
theorem dX5_excludes_193 : decode cX5_excludes 193 = .ok (.iand, 1) := by decide +kernel
theorem dX5_excludes_194 : decode cX5_excludes 194 = .ok (.iconst 1, 1) := by decide +kernel
theorem dX5_excludes_195 : decode cX5_excludes 195 = .ok (.if_icmp .ne 7, 3) := by decide +kernel
theorem dX5_excludes_198 : decode cX5_excludes 198 = .ok (.iconst 1, 1) := by decide +kernel
theorem dX5_excludes_199 : decode cX5_excludes 199 = .ok (.goto 4, 3) := by decide +kernel
theorem dX5_excludes_202 : decode cX5_excludes 202 = .ok (.iconst 0, 1) := by decide +kernel
theorem dX5_excludes_203 : decode cX5_excludes 203 = .ok (.istore 5, 2) := by decide +kernel
theorem dX5_excludes_205 : decode cX5_excludes 205 = .ok (.aload_n 0, 1) := by decide +kernel
theorem dX5_excludes_206 : decode cX5_excludes 206 = .ok (.iload 4, 2) := by decide +kernel
theorem dX5_excludes_208 : decode cX5_excludes 208 = .ok (.iconst 5, 1) := by decide +kernel
theorem dX5_excludes_209 : decode cX5_excludes 209 = .ok (.iload 5, 2) := by decide +kernel
theorem dX5_excludes_211 : decode cX5_excludes 211 = .ok (.ifCond .eq 7, 3) := by decide +kernel
theorem dX5_excludes_214 : decode cX5_excludes 214 = .ok (.iconst 0, 1) := by decide +kernel
theorem dX5_excludes_215 : decode cX5_excludes 215 = .ok (.goto 10, 3) := by decide +kernel
theorem dX5_excludes_218 : decode cX5_excludes 218 = .ok (.aload_n 0, 1) := by decide +kernel
theorem dX5_excludes_219 : decode cX5_excludes 219 = .ok (.iload 4, 2) := by decide +kernel
theorem dX5_excludes_221 : decode cX5_excludes 221 = .ok (.iconst 5, 1) := by decide +kernel
theorem dX5_excludes_222 : decode cX5_excludes 222 = .ok (.invokevirtual 39, 3) := by decide +kernel
theorem dX5_excludes_225 : decode cX5_excludes 225 = .ok (.invokevirtual 60, 3) := by decide +kernel
theorem dX5_excludes_228 : decode cX5_excludes 228 = .ok (.aload_n 0, 1) := by decide +kernel
theorem dX5_excludes_229 : decode cX5_excludes 229 = .ok (.iload 4, 2) := by decide +kernel
theorem dX5_excludes_231 : decode cX5_excludes 231 = .ok (.bipush 6, 2) := by decide +kernel
theorem dX5_excludes_233 : decode cX5_excludes 233 = .ok (.iload 5, 2) := by decide +kernel
theorem dX5_excludes_235 : decode cX5_excludes 235 = .ok (.ifCond .ne 19, 3) := by decide +kernel
theorem dX5_excludes_238 : decode cX5_excludes 238 = .ok (.aload_n 0, 1) := by decide +kernel
theorem dX5_excludes_239 : decode cX5_excludes 239 = .ok (.iload 4, 2) := by decide +kernel
theorem dX5_excludes_241 : decode cX5_excludes 241 = .ok (.iconst 2, 1) := by decide +kernel
theorem dX5_excludes_242 : decode cX5_excludes 242 = .ok (.invokevirtual 39, 3) := by decide +kernel
theorem dX5_excludes_245 : decode cX5_excludes 245 = .ok (.aload_n 0, 1) := by decide +kernel
theorem dX5_excludes_246 : decode cX5_excludes 246 = .ok (.getfield 7, 3) := by decide +kernel
theorem dX5_excludes_249 : decode cX5_excludes 249 = .ok (.iconst 3, 1) := by decide +kernel
theorem dX5_excludes_250 : decode cX5_excludes 250 = .ok (.iaload, 1) := by decide +kernel
theorem dX5_excludes_251 : decode cX5_excludes 251 = .ok (.if_icmp .le 7, 3) := by decide +kernel
theorem dX5_excludes_254 : decode cX5_excludes 254 = .ok (.iconst 1, 1) := by decide +kernel
theorem dX5_excludes_255 : decode cX5_excludes 255 = .ok (.goto 4, 3) := by decide +kernel
theorem dX5_excludes_258 : decode cX5_excludes 258 = .ok (.iconst 0, 1) := by decide +kernel
theorem dX5_excludes_259 : decode cX5_excludes 259 = .ok (.invokevirtual 60, 3) := by decide +kernel
theorem dX5_excludes_262 : decode cX5_excludes 262 = .ok (.aload_n 0, 1) := by decide +kernel
theorem dX5_excludes_263 : decode cX5_excludes 263 = .ok (.iload 4, 2) := by decide +kernel
theorem dX5_excludes_265 : decode cX5_excludes 265 = .ok (.bipush 7, 2) := by decide +kernel
theorem dX5_excludes_267 : decode cX5_excludes 267 = .ok (.aload_n 0, 1) := by decide +kernel
theorem dX5_excludes_268 : decode cX5_excludes 268 = .ok (.iload 4, 2) := by decide +kernel
theorem dX5_excludes_270 : decode cX5_excludes 270 = .ok (.bipush 7, 2) := by decide +kernel
theorem dX5_excludes_272 : decode cX5_excludes 272 = .ok (.invokevirtual 39, 3) := by decide +kernel
theorem dX5_excludes_275 : decode cX5_excludes 275 = .ok (.aload_n 0, 1) := by decide +kernel
theorem dX5_excludes_276 : decode cX5_excludes 276 = .ok (.iload 4, 2) := by decide +kernel
theorem dX5_excludes_278 : decode cX5_excludes 278 = .ok (.bipush 6, 2) := by decide +kernel
theorem dX5_excludes_280 : decode cX5_excludes 280 = .ok (.invokevirtual 39, 3) := by decide +kernel
theorem dX5_excludes_283 : decode cX5_excludes 283 = .ok (.iadd, 1) := by decide +kernel
theorem dX5_excludes_284 : decode cX5_excludes 284 = .ok (.invokevirtual 60, 3) := by decide +kernel
theorem dX5_excludes_287 : decode cX5_excludes 287 = .ok (.iinc 4 1, 3) := by decide +kernel
theorem dX5_excludes_290 : decode cX5_excludes 290 = .ok (.goto (-113), 3) := by decide +kernel
theorem dX5_excludes_293 : decode cX5_excludes 293 = .ok (.return_, 1) := by decide +kernel
theorem dX5_ends_0 : decode cX5_ends 0 = .ok (.aload_n 0, 1) := by decide +kernel
theorem dX5_ends_1 : decode cX5_ends 1 = .ok (.iconst 1, 1) := by decide +kernel
theorem dX5_ends_2 : decode cX5_ends 2 = .ok (.invokevirtual 71, 3) := by decide +kernel
theorem dX5_ends_5 : decode cX5_ends 5 = .ok (.istore_n 1, 1) := by decide +kernel
theorem dX5_ends_6 : decode cX5_ends 6 = .ok (.aload_n 0, 1) := by decide +kernel
theorem dX5_ends_7 : decode cX5_ends 7 = .ok (.iload_n 1, 1) := by decide +kernel
theorem dX5_ends_8 : decode cX5_ends 8 = .ok (.invokevirtual 50, 3) := by decide +kernel
theorem dX5_ends_11 : decode cX5_ends 11 = .ok (.istore_n 2, 1) := by decide +kernel
theorem dX5_ends_12 : decode cX5_ends 12 = .ok (.aload_n 0, 1) := by decide +kernel
theorem dX5_ends_13 : decode cX5_ends 13 = .ok (.invokevirtual 74, 3) := by decide +kernel
theorem dX5_ends_16 : decode cX5_ends 16 = .ok (.istore_n 3, 1) := by decide +kernel
theorem dX5_ends_17 : decode cX5_ends 17 = .ok (.iconst 0, 1) := by decide +kernel
theorem dX5_ends_18 : decode cX5_ends 18 = .ok (.istore 4, 2) := by decide +kernel
theorem dX5_ends_20 : decode cX5_ends 20 = .ok (.iload 4, 2) := by decide +kernel
theorem dX5_ends_22 : decode cX5_ends 22 = .ok (.aload_n 0, 1) := by decide +kernel
theorem dX5_ends_23 : decode cX5_ends 23 = .ok (.getfield 7, 3) := by decide +kernel
theorem dX5_ends_26 : decode cX5_ends 26 = .ok (.iconst 5, 1) := by decide +kernel
theorem dX5_ends_27 : decode cX5_ends 27 = .ok (.iaload, 1) := by decide +kernel
theorem dX5_ends_28 : decode cX5_ends 28 = .ok (.if_icmp .ge 29, 3) := by decide +kernel
theorem dX5_ends_31 : decode cX5_ends 31 = .ok (.aload_n 0, 1) := by decide +kernel
theorem dX5_ends_32 : decode cX5_ends 32 = .ok (.getfield 22, 3) := by decide +kernel
theorem dX5_ends_35 : decode cX5_ends 35 = .ok (.iload 4, 2) := by decide +kernel
theorem dX5_ends_37 : decode cX5_ends 37 = .ok (.aload_n 0, 1) := by decide +kernel
theorem dX5_ends_38 : decode cX5_ends 38 = .ok (.iload 4, 2) := by decide +kernel
theorem dX5_ends_40 : decode cX5_ends 40 = .ok (.aload_n 0, 1) := by decide +kernel
theorem dX5_ends_41 : decode cX5_ends 41 = .ok (.iload 4, 2) := by decide +kernel
theorem dX5_ends_43 : decode cX5_ends 43 = .ok (.iconst 1, 1) := by decide +kernel
theorem dX5_ends_44 : decode cX5_ends 44 = .ok (.invokevirtual 39, 3) := by decide +kernel
theorem dX5_ends_47 : decode cX5_ends 47 = .ok (.invokevirtual 68, 3) := by decide +kernel
theorem dX5_ends_50 : decode cX5_ends 50 = .ok (.iastore, 1) := by decide +kernel
theorem dX5_ends_51 : decode cX5_ends 51 = .ok (.iinc 4 1, 3) := by decide +kernel
theorem dX5_ends_54 : decode cX5_ends 54 = .ok (.goto (-34), 3) := by decide +kernel
theorem dX5_ends_57 : decode cX5_ends 57 = .ok (.iconst 0, 1) := by decide +kernel
theorem dX5_ends_58 : decode cX5_ends 58 = .ok (.istore 4, 2) := by decide +kernel
theorem dX5_ends_60 : decode cX5_ends 60 = .ok (.iload 4, 2) := by decide +kernel
theorem dX5_ends_62 : decode cX5_ends 62 = .ok (.aload_n 0, 1) := by decide +kernel
theorem dX5_ends_63 : decode cX5_ends 63 = .ok (.getfield 7, 3) := by decide +kernel
theorem dX5_ends_66 : decode cX5_ends 66 = .ok (.iconst 5, 1) := by decide +kernel
theorem dX5_ends_67 : decode cX5_ends 67 = .ok (.iaload, 1) := by decide +kernel
theorem dX5_ends_68 : decode cX5_ends 68 = .ok (.if_icmp .ge 83, 3) := by decide +kernel
theorem dX5_ends_71 : decode cX5_ends 71 = .ok (.aload_n 0, 1) := by decide +kernel
theorem dX5_ends_72 : decode cX5_ends 72 = .ok (.iload 4, 2) := by decide +kernel
theorem dX5_ends_74 : decode cX5_ends 74 = .ok (.iconst 2, 1) := by decide +kernel
theorem dX5_ends_75 : decode cX5_ends 75 = .ok (.aload_n 0, 1) := by decide +kernel
theorem dX5_ends_76 : decode cX5_ends 76 = .ok (.iload 4, 2) := by decide +kernel
theorem dX5_ends_78 : decode cX5_ends 78 = .ok (.iconst 2, 1) := by decide +kernel
theorem dX5_ends_79 : decode cX5_ends 79 = .ok (.invokevirtual 39, 3) := by decide +kernel
theorem dX5_ends_82 : decode cX5_ends 82 = .ok (.aload_n 0, 1) := by decide +kernel
theorem dX5_ends_83 : decode cX5_ends 83 = .ok (.getfield 22, 3) := by decide +kernel
theorem dX5_ends_86 : decode cX5_ends 86 = .ok (.iload 4, 2) := by decide +kernel
theorem dX5_ends_88 : decode cX5_ends 88 = .ok (.iaload, 1) := by decide +kernel
theorem dX5_ends_89 : decode cX5_ends 89 = .ok (.iadd, 1) := by decide +kernel
theorem dX5_ends_90 : decode cX5_ends 90 = .ok (.invokevirtual 60, 3) := by decide +kernel
theorem dX5_ends_93 : decode cX5_ends 93 = .ok (.aload_n 0, 1) := by decide +kernel
theorem dX5_ends_94 : decode cX5_ends 94 = .ok (.iload 4, 2) := by decide +kernel
theorem dX5_ends_96 : decode cX5_ends 96 = .ok (.iconst 4, 1) := by decide +kernel
theorem dX5_ends_97 : decode cX5_ends 97 = .ok (.aload_n 0, 1) := by decide +kernel
theorem dX5_ends_98 : decode cX5_ends 98 = .ok (.iload 4, 2) := by decide +kernel
theorem dX5_ends_100 : decode cX5_ends 100 = .ok (.iconst 4, 1) := by decide +kernel
theorem dX5_ends_101 : decode cX5_ends 101 = .ok (.invokevirtual 39, 3) := by decide +kernel
theorem dX5_ends_104 : decode cX5_ends 104 = .ok (.aload_n 0, 1) := by decide +kernel
theorem dX5_ends_105 : decode cX5_ends 105 = .ok (.iload 4, 2) := by decide +kernel
theorem dX5_ends_107 : decode cX5_ends 107 = .ok (.iconst 1, 1) := by decide +kernel
theorem dX5_ends_108 : decode cX5_ends 108 = .ok (.invokevirtual 39, 3) := by decide +kernel
theorem dX5_ends_111 : decode cX5_ends 111 = .ok (.iadd, 1) := by decide +kernel
theorem dX5_ends_112 : decode cX5_ends 112 = .ok (.invokevirtual 60, 3) := by decide +kernel
theorem dX5_ends_115 : decode cX5_ends 115 = .ok (.aload_n 0, 1) := by decide +kernel
theorem dX5_ends_116 : decode cX5_ends 116 = .ok (.iload 4, 2) := by decide +kernel
theorem dX5_ends_118 : decode cX5_ends 118 = .ok (.iconst 5, 1) := by decide +kernel
theorem dX5_ends_119 : decode cX5_ends 119 = .ok (.aload_n 0, 1) := by decide +kernel
theorem dX5_ends_120 : decode cX5_ends 120 = .ok (.iload 4, 2) := by decide +kernel
theorem dX5_ends_122 : decode cX5_ends 122 = .ok (.iconst 5, 1) := by decide +kernel
theorem dX5_ends_123 : decode cX5_ends 123 = .ok (.invokevirtual 39, 3) := by decide +kernel
theorem dX5_ends_126 : decode cX5_ends 126 = .ok (.aload_n 0, 1) := by decide +kernel
theorem dX5_ends_127 : decode cX5_ends 127 = .ok (.iload 4, 2) := by decide +kernel
theorem dX5_ends_129 : decode cX5_ends 129 = .ok (.iconst 1, 1) := by decide +kernel
theorem dX5_ends_130 : decode cX5_ends 130 = .ok (.invokevirtual 39, 3) := by decide +kernel
theorem dX5_ends_133 : decode cX5_ends 133 = .ok (.iadd, 1) := by decide +kernel
theorem dX5_ends_134 : decode cX5_ends 134 = .ok (.invokevirtual 60, 3) := by decide +kernel
theorem dX5_ends_137 : decode cX5_ends 137 = .ok (.aload_n 0, 1) := by decide +kernel
theorem dX5_ends_138 : decode cX5_ends 138 = .ok (.iload 4, 2) := by decide +kernel
theorem dX5_ends_140 : decode cX5_ends 140 = .ok (.iconst 1, 1) := by decide +kernel
theorem dX5_ends_141 : decode cX5_ends 141 = .ok (.iconst 0, 1) := by decide +kernel
theorem dX5_ends_142 : decode cX5_ends 142 = .ok (.invokevirtual 60, 3) := by decide +kernel
theorem dX5_ends_145 : decode cX5_ends 145 = .ok (.iinc 4 1, 3) := by decide +kernel
theorem dX5_ends_148 : decode cX5_ends 148 = .ok (.goto (-88), 3) := by decide +kernel
theorem dX5_ends_151 : decode cX5_ends 151 = .ok (.aload_n 0, 1) := by decide +kernel
theorem dX5_ends_152 : decode cX5_ends 152 = .ok (.getfield 7, 3) := by decide +kernel
theorem dX5_ends_155 : decode cX5_ends 155 = .ok (.bipush 9, 2) := by decide +kernel
theorem dX5_ends_157 : decode cX5_ends 157 = .ok (.dup2, 1) := by decide +kernel
theorem dX5_ends_158 : decode cX5_ends 158 = .ok (.iaload, 1) := by decide +kernel
theorem dX5_ends_159 : decode cX5_ends 159 = .ok (.iload_n 2, 1) := by decide +kernel
theorem dX5_ends_160 : decode cX5_ends 160 = .ok (.iadd, 1) := by decide +kernel
theorem dX5_ends_161 : decode cX5_ends 161 = .ok (.iastore, 1) := by decide +kernel
theorem dX5_ends_162 : decode cX5_ends 162 = .ok (.aload_n 0, 1) := by decide +kernel
theorem dX5_ends_163 : decode cX5_ends 163 = .ok (.getfield 7, 3) := by decide +kernel
theorem dX5_ends_166 : decode cX5_ends 166 = .ok (.bipush 10, 2) := by decide +kernel
theorem dX5_ends_168 : decode cX5_ends 168 = .ok (.dup2, 1) := by decide +kernel
theorem dX5_ends_169 : decode cX5_ends 169 = .ok (.iaload, 1) := by decide +kernel
theorem dX5_ends_170 : decode cX5_ends 170 = .ok (.iload_n 2, 1) := by decide +kernel
theorem dX5_ends_171 : decode cX5_ends 171 = .ok (.aload_n 0, 1) := by decide +kernel
theorem dX5_ends_172 : decode cX5_ends 172 = .ok (.getfield 7, 3) := by decide +kernel
theorem dX5_ends_175 : decode cX5_ends 175 = .ok (.bipush 7, 2) := by decide +kernel
theorem dX5_ends_177 : decode cX5_ends 177 = .ok (.iaload, 1) := by decide +kernel
theorem dX5_ends_178 : decode cX5_ends 178 = .ok (.if_icmp .le 15, 3) := by decide +kernel
theorem dX5_ends_181 : decode cX5_ends 181 = .ok (.iload_n 2, 1) := by decide +kernel
theorem dX5_ends_182 : decode cX5_ends 182 = .ok (.aload_n 0, 1) := by decide +kernel
theorem dX5_ends_183 : decode cX5_ends 183 = .ok (.getfield 7, 3) := by decide +kernel
theorem dX5_ends_186 : decode cX5_ends 186 = .ok (.bipush 7, 2) := by decide +kernel
theorem dX5_ends_188 : decode cX5_ends 188 = .ok (.iaload, 1) := by decide +kernel
theorem dX5_ends_189 : decode cX5_ends 189 = .ok (.isub, 1) := by decide +kernel
theorem dX5_ends_190 : decode cX5_ends 190 = .ok (.goto 4, 3) := by decide +kernel
theorem dX5_ends_193 : decode cX5_ends 193 = .ok (.iconst 0, 1) := by decide +kernel
theorem dX5_ends_194 : decode cX5_ends 194 = .ok (.iadd, 1) := by decide +kernel
theorem dX5_ends_195 : decode cX5_ends 195 = .ok (.iastore, 1) := by decide +kernel
theorem dX5_ends_196 : decode cX5_ends 196 = .ok (.aload_n 0, 1) := by decide +kernel
theorem dX5_ends_197 : decode cX5_ends 197 = .ok (.getfield 7, 3) := by decide +kernel
theorem dX5_ends_200 : decode cX5_ends 200 = .ok (.bipush 7, 2) := by decide +kernel
theorem dX5_ends_202 : decode cX5_ends 202 = .ok (.iload_n 2, 1) := by decide +kernel
theorem dX5_ends_203 : decode cX5_ends 203 = .ok (.aload_n 0, 1) := by decide +kernel
theorem dX5_ends_204 : decode cX5_ends 204 = .ok (.getfield 7, 3) := by decide +kernel
theorem dX5_ends_207 : decode cX5_ends 207 = .ok (.bipush 7, 2) := by decide +kernel
theorem dX5_ends_209 : decode cX5_ends 209 = .ok (.iaload, 1) := by decide +kernel
theorem dX5_ends_210 : decode cX5_ends 210 = .ok (.if_icmp .le 7, 3) := by decide +kernel
theorem dX5_ends_213 : decode cX5_ends 213 = .ok (.iconst 0, 1) := by decide +kernel
theorem dX5_ends_214 : decode cX5_ends 214 = .ok (.goto 12, 3) := by decide +kernel
theorem dX5_ends_217 : decode cX5_ends 217 = .ok (.aload_n 0, 1) := by decide +kernel
theorem dX5_ends_218 : decode cX5_ends 218 = .ok (.getfield 7, 3) := by decide +kernel
theorem dX5_ends_221 : decode cX5_ends 221 = .ok (.bipush 7, 2) := by decide +kernel
theorem dX5_ends_223 : decode cX5_ends 223 = .ok (.iaload, 1) := by decide +kernel
theorem dX5_ends_224 : decode cX5_ends 224 = .ok (.iload_n 2, 1) := by decide +kernel
theorem dX5_ends_225 : decode cX5_ends 225 = .ok (.isub, 1) := by decide +kernel
theorem dX5_ends_226 : decode cX5_ends 226 = .ok (.iastore, 1) := by decide +kernel
theorem dX5_ends_227 : decode cX5_ends 227 = .ok (.aload_n 0, 1) := by decide +kernel
theorem dX5_ends_228 : decode cX5_ends 228 = .ok (.getfield 7, 3) := by decide +kernel
theorem dX5_ends_231 : decode cX5_ends 231 = .ok (.bipush 7, 2) := by decide +kernel
theorem dX5_ends_233 : decode cX5_ends 233 = .ok (.aload_n 0, 1) := by decide +kernel
theorem dX5_ends_234 : decode cX5_ends 234 = .ok (.getfield 7, 3) := by decide +kernel
theorem dX5_ends_237 : decode cX5_ends 237 = .ok (.bipush 7, 2) := by decide +kernel
theorem dX5_ends_239 : decode cX5_ends 239 = .ok (.iaload, 1) := by decide +kernel
theorem dX5_ends_240 : decode cX5_ends 240 = .ok (.aload_n 0, 1) := by decide +kernel
theorem dX5_ends_241 : decode cX5_ends 241 = .ok (.getfield 7, 3) := by decide +kernel
theorem dX5_ends_244 : decode cX5_ends 244 = .ok (.iconst 2, 1) := by decide +kernel
theorem dX5_ends_245 : decode cX5_ends 245 = .ok (.iaload, 1) := by decide +kernel
theorem dX5_ends_246 : decode cX5_ends 246 = .ok (.iadd, 1) := by decide +kernel
theorem dX5_ends_247 : decode cX5_ends 247 = .ok (.bipush 100, 2) := by decide +kernel
theorem dX5_ends_249 : decode cX5_ends 249 = .ok (.if_icmp .le 8, 3) := by decide +kernel
theorem dX5_ends_252 : decode cX5_ends 252 = .ok (.bipush 100, 2) := by decide +kernel
theorem dX5_ends_254 : decode cX5_ends 254 = .ok (.goto 17, 3) := by decide +kernel
theorem dX5_ends_257 : decode cX5_ends 257 = .ok (.aload_n 0, 1) := by decide +kernel
theorem dX5_ends_258 : decode cX5_ends 258 = .ok (.getfield 7, 3) := by decide +kernel
theorem dX5_ends_261 : decode cX5_ends 261 = .ok (.bipush 7, 2) := by decide +kernel
theorem dX5_ends_263 : decode cX5_ends 263 = .ok (.iaload, 1) := by decide +kernel
theorem dX5_ends_264 : decode cX5_ends 264 = .ok (.aload_n 0, 1) := by decide +kernel
theorem dX5_ends_265 : decode cX5_ends 265 = .ok (.getfield 7, 3) := by decide +kernel
theorem dX5_ends_268 : decode cX5_ends 268 = .ok (.iconst 2, 1) := by decide +kernel
theorem dX5_ends_269 : decode cX5_ends 269 = .ok (.iaload, 1) := by decide +kernel
theorem dX5_ends_270 : decode cX5_ends 270 = .ok (.iadd, 1) := by decide +kernel
theorem dX5_ends_271 : decode cX5_ends 271 = .ok (.iastore, 1) := by decide +kernel
theorem dX5_ends_272 : decode cX5_ends 272 = .ok (.aload_n 0, 1) := by decide +kernel
theorem dX5_ends_273 : decode cX5_ends 273 = .ok (.aload_n 0, 1) := by decide +kernel
theorem dX5_ends_274 : decode cX5_ends 274 = .ok (.getfield 7, 3) := by decide +kernel
theorem dX5_ends_277 : decode cX5_ends 277 = .ok (.bipush 6, 2) := by decide +kernel
theorem dX5_ends_279 : decode cX5_ends 279 = .ok (.iaload, 1) := by decide +kernel
theorem dX5_ends_280 : decode cX5_ends 280 = .ok (.iload_n 1, 1) := by decide +kernel
theorem dX5_ends_281 : decode cX5_ends 281 = .ok (.iload_n 2, 1) := by decide +kernel
theorem dX5_ends_282 : decode cX5_ends 282 = .ok (.iload_n 3, 1) := by decide +kernel
theorem dX5_ends_283 : decode cX5_ends 283 = .ok (.invokevirtual 78, 3) := by decide +kernel
theorem dX5_ends_286 : decode cX5_ends 286 = .ok (.aload_n 0, 1) := by decide +kernel
theorem dX5_ends_287 : decode cX5_ends 287 = .ok (.getfield 7, 3) := by decide +kernel
theorem dX5_ends_290 : decode cX5_ends 290 = .ok (.bipush 6, 2) := by decide +kernel
theorem dX5_ends_292 : decode cX5_ends 292 = .ok (.dup2, 1) := by decide +kernel
theorem dX5_ends_293 : decode cX5_ends 293 = .ok (.iaload, 1) := by decide +kernel
theorem dX5_ends_294 : decode cX5_ends 294 = .ok (.iconst 1, 1) := by decide +kernel
theorem dX5_ends_295 : decode cX5_ends 295 = .ok (.iadd, 1) := by decide +kernel
theorem dX5_ends_296 : decode cX5_ends 296 = .ok (.iastore, 1) := by decide +kernel
theorem dX5_ends_297 : decode cX5_ends 297 = .ok (.aload_n 0, 1) := by decide +kernel
theorem dX5_ends_298 : decode cX5_ends 298 = .ok (.iload_n 3, 1) := by decide +kernel
theorem dX5_ends_299 : decode cX5_ends 299 = .ok (.invokevirtual 82, 3) := by decide +kernel
theorem dX5_ends_302 : decode cX5_ends 302 = .ok (.iload_n 2, 1) := by decide +kernel
theorem dX5_ends_303 : decode cX5_ends 303 = .ok (.ireturn, 1) := by decide +kernel
theorem dX5_close_0 : decode cX5_close 0 = .ok (.aload_n 0, 1) := by decide +kernel
theorem dX5_close_1 : decode cX5_close 1 = .ok (.getfield 7, 3) := by decide +kernel
theorem dX5_close_4 : decode cX5_close 4 = .ok (.iconst 5, 1) := by decide +kernel
theorem dX5_close_5 : decode cX5_close 5 = .ok (.iaload, 1) := by decide +kernel
theorem dX5_close_6 : decode cX5_close 6 = .ok (.ifCond .ne 7, 3) := by decide +kernel
theorem dX5_close_9 : decode cX5_close 9 = .ok (.sipush (-10002), 3) := by decide +kernel
theorem dX5_close_12 : decode cX5_close 12 = .ok (.ireturn, 1) := by decide +kernel
theorem dX5_close_13 : decode cX5_close 13 = .ok (.aload_n 0, 1) := by decide +kernel
theorem dX5_close_14 : decode cX5_close 14 = .ok (.getfield 7, 3) := by decide +kernel
theorem dX5_close_17 : decode cX5_close 17 = .ok (.bipush 6, 2) := by decide +kernel
theorem dX5_close_19 : decode cX5_close 19 = .ok (.iaload, 1) := by decide +kernel
theorem dX5_close_20 : decode cX5_close 20 = .ok (.sipush 999, 3) := by decide +kernel
theorem dX5_close_23 : decode cX5_close 23 = .ok (.if_icmp .ne 7, 3) := by decide +kernel
theorem dX5_close_26 : decode cX5_close 26 = .ok (.sipush (-10003), 3) := by decide +kernel
theorem dX5_close_29 : decode cX5_close 29 = .ok (.ireturn, 1) := by decide +kernel
theorem dX5_close_30 : decode cX5_close 30 = .ok (.aload_n 0, 1) := by decide +kernel
theorem dX5_close_31 : decode cX5_close 31 = .ok (.invokevirtual 57, 3) := by decide +kernel
theorem dX5_close_34 : decode cX5_close 34 = .ok (.aload_n 0, 1) := by decide +kernel
theorem dX5_close_35 : decode cX5_close 35 = .ok (.invokevirtual 86, 3) := by decide +kernel
theorem dX5_close_38 : decode cX5_close 38 = .ok (.ireturn, 1) := by decide +kernel
theorem dX5_pay_0 : decode cX5_pay 0 = .ok (.aload_n 0, 1) := by decide +kernel
theorem dX5_pay_1 : decode cX5_pay 1 = .ok (.iload_n 1, 1) := by decide +kernel
theorem dX5_pay_2 : decode cX5_pay 2 = .ok (.invokevirtual 64, 3) := by decide +kernel
theorem dX5_pay_5 : decode cX5_pay 5 = .ok (.ifCond .eq 14, 3) := by decide +kernel
theorem dX5_pay_8 : decode cX5_pay 8 = .ok (.iload_n 2, 1) := by decide +kernel
theorem dX5_pay_9 : decode cX5_pay 9 = .ok (.iconst 1, 1) := by decide +kernel
theorem dX5_pay_10 : decode cX5_pay 10 = .ok (.sipush 999, 3) := by decide +kernel
theorem dX5_pay_13 : decode cX5_pay 13 = .ok (.invokestatic 53, 3) := by decide +kernel
theorem dX5_pay_16 : decode cX5_pay 16 = .ok (.ifCond .ne 7, 3) := by decide +kernel
theorem dX5_pay_19 : decode cX5_pay 19 = .ok (.sipush (-10001), 3) := by decide +kernel
theorem dX5_pay_22 : decode cX5_pay 22 = .ok (.ireturn, 1) := by decide +kernel
theorem dX5_pay_23 : decode cX5_pay 23 = .ok (.aload_n 0, 1) := by decide +kernel
theorem dX5_pay_24 : decode cX5_pay 24 = .ok (.iload_n 1, 1) := by decide +kernel
theorem dX5_pay_25 : decode cX5_pay 25 = .ok (.iconst 2, 1) := by decide +kernel
theorem dX5_pay_26 : decode cX5_pay 26 = .ok (.invokevirtual 39, 3) := by decide +kernel
theorem dX5_pay_29 : decode cX5_pay 29 = .ok (.iload_n 2, 1) := by decide +kernel
theorem dX5_pay_30 : decode cX5_pay 30 = .ok (.if_icmp .ge 7, 3) := by decide +kernel
theorem dX5_pay_33 : decode cX5_pay 33 = .ok (.sipush (-10002), 3) := by decide +kernel
theorem dX5_pay_36 : decode cX5_pay 36 = .ok (.ireturn, 1) := by decide +kernel
theorem dX5_pay_37 : decode cX5_pay 37 = .ok (.aload_n 0, 1) := by decide +kernel
theorem dX5_pay_38 : decode cX5_pay 38 = .ok (.invokevirtual 57, 3) := by decide +kernel
theorem dX5_pay_41 : decode cX5_pay 41 = .ok (.aload_n 0, 1) := by decide +kernel
theorem dX5_pay_42 : decode cX5_pay 42 = .ok (.iload_n 1, 1) := by decide +kernel
theorem dX5_pay_43 : decode cX5_pay 43 = .ok (.iconst 2, 1) := by decide +kernel
theorem dX5_pay_44 : decode cX5_pay 44 = .ok (.aload_n 0, 1) := by decide +kernel
theorem dX5_pay_45 : decode cX5_pay 45 = .ok (.iload_n 1, 1) := by decide +kernel
theorem dX5_pay_46 : decode cX5_pay 46 = .ok (.iconst 2, 1) := by decide +kernel
theorem dX5_pay_47 : decode cX5_pay 47 = .ok (.invokevirtual 39, 3) := by decide +kernel
theorem dX5_pay_50 : decode cX5_pay 50 = .ok (.iload_n 2, 1) := by decide +kernel
theorem dX5_pay_51 : decode cX5_pay 51 = .ok (.isub, 1) := by decide +kernel
theorem dX5_pay_52 : decode cX5_pay 52 = .ok (.invokevirtual 60, 3) := by decide +kernel
theorem dX5_pay_55 : decode cX5_pay 55 = .ok (.aload_n 0, 1) := by decide +kernel
theorem dX5_pay_56 : decode cX5_pay 56 = .ok (.iload_n 1, 1) := by decide +kernel
theorem dX5_pay_57 : decode cX5_pay 57 = .ok (.iconst 3, 1) := by decide +kernel
theorem dX5_pay_58 : decode cX5_pay 58 = .ok (.aload_n 0, 1) := by decide +kernel
theorem dX5_pay_59 : decode cX5_pay 59 = .ok (.iload_n 1, 1) := by decide +kernel
theorem dX5_pay_60 : decode cX5_pay 60 = .ok (.iconst 3, 1) := by decide +kernel
theorem dX5_pay_61 : decode cX5_pay 61 = .ok (.invokevirtual 39, 3) := by decide +kernel
theorem dX5_pay_64 : decode cX5_pay 64 = .ok (.iload_n 2, 1) := by decide +kernel
theorem dX5_pay_65 : decode cX5_pay 65 = .ok (.iadd, 1) := by decide +kernel
theorem dX5_pay_66 : decode cX5_pay 66 = .ok (.invokevirtual 60, 3) := by decide +kernel
theorem dX5_pay_69 : decode cX5_pay 69 = .ok (.aload_n 0, 1) := by decide +kernel
theorem dX5_pay_70 : decode cX5_pay 70 = .ok (.getfield 7, 3) := by decide +kernel
theorem dX5_pay_73 : decode cX5_pay 73 = .ok (.bipush 8, 2) := by decide +kernel
theorem dX5_pay_75 : decode cX5_pay 75 = .ok (.dup2, 1) := by decide +kernel
theorem dX5_pay_76 : decode cX5_pay 76 = .ok (.iaload, 1) := by decide +kernel
theorem dX5_pay_77 : decode cX5_pay 77 = .ok (.iload_n 2, 1) := by decide +kernel
theorem dX5_pay_78 : decode cX5_pay 78 = .ok (.iadd, 1) := by decide +kernel
theorem dX5_pay_79 : decode cX5_pay 79 = .ok (.iastore, 1) := by decide +kernel
theorem dX5_pay_80 : decode cX5_pay 80 = .ok (.aload_n 0, 1) := by decide +kernel
theorem dX5_pay_81 : decode cX5_pay 81 = .ok (.iload_n 1, 1) := by decide +kernel
theorem dX5_pay_82 : decode cX5_pay 82 = .ok (.iconst 2, 1) := by decide +kernel
theorem dX5_pay_83 : decode cX5_pay 83 = .ok (.invokevirtual 39, 3) := by decide +kernel
theorem dX5_pay_86 : decode cX5_pay 86 = .ok (.ireturn, 1) := by decide +kernel
theorem dX5_repair_0 : decode cX5_repair 0 = .ok (.iload_n 1, 1) := by decide +kernel
theorem dX5_repair_1 : decode cX5_repair 1 = .ok (.iconst 1, 1) := by decide +kernel
theorem dX5_repair_2 : decode cX5_repair 2 = .ok (.bipush 100, 2) := by decide +kernel
theorem dX5_repair_4 : decode cX5_repair 4 = .ok (.invokestatic 53, 3) := by decide +kernel
theorem dX5_repair_7 : decode cX5_repair 7 = .ok (.ifCond .ne 7, 3) := by decide +kernel
theorem dX5_repair_10 : decode cX5_repair 10 = .ok (.sipush (-10001), 3) := by decide +kernel
theorem dX5_repair_13 : decode cX5_repair 13 = .ok (.ireturn, 1) := by decide +kernel
theorem dX5_repair_14 : decode cX5_repair 14 = .ok (.iload_n 1, 1) := by decide +kernel
theorem dX5_repair_15 : decode cX5_repair 15 = .ok (.aload_n 0, 1) := by decide +kernel
theorem dX5_repair_16 : decode cX5_repair 16 = .ok (.getfield 7, 3) := by decide +kernel
theorem dX5_repair_19 : decode cX5_repair 19 = .ok (.iconst 4, 1) := by decide +kernel
theorem dX5_repair_20 : decode cX5_repair 20 = .ok (.iaload, 1) := by decide +kernel
theorem dX5_repair_21 : decode cX5_repair 21 = .ok (.imul, 1) := by decide +kernel
theorem dX5_repair_22 : decode cX5_repair 22 = .ok (.istore_n 2, 1) := by decide +kernel
theorem dX5_repair_23 : decode cX5_repair 23 = .ok (.iload_n 2, 1) := by decide +kernel
theorem dX5_repair_24 : decode cX5_repair 24 = .ok (.aload_n 0, 1) := by decide +kernel
theorem dX5_repair_25 : decode cX5_repair 25 = .ok (.getfield 7, 3) := by decide +kernel
theorem dX5_repair_28 : decode cX5_repair 28 = .ok (.bipush 8, 2) := by decide +kernel
theorem dX5_repair_30 : decode cX5_repair 30 = .ok (.iaload, 1) := by decide +kernel
theorem dX5_repair_31 : decode cX5_repair 31 = .ok (.if_icmp .le 15, 3) := by decide +kernel
theorem dX5_repair_34 : decode cX5_repair 34 = .ok (.iload_n 2, 1) := by decide +kernel
theorem dX5_repair_35 : decode cX5_repair 35 = .ok (.aload_n 0, 1) := by decide +kernel
theorem dX5_repair_36 : decode cX5_repair 36 = .ok (.getfield 7, 3) := by decide +kernel
theorem dX5_repair_39 : decode cX5_repair 39 = .ok (.bipush 8, 2) := by decide +kernel
theorem dX5_repair_41 : decode cX5_repair 41 = .ok (.iaload, 1) := by decide +kernel
theorem dX5_repair_42 : decode cX5_repair 42 = .ok (.isub, 1) := by decide +kernel
theorem dX5_repair_43 : decode cX5_repair 43 = .ok (.goto 4, 3) := by decide +kernel
theorem dX5_repair_46 : decode cX5_repair 46 = .ok (.iconst 0, 1) := by decide +kernel
theorem dX5_repair_47 : decode cX5_repair 47 = .ok (.istore_n 3, 1) := by decide +kernel
theorem dX5_repair_48 : decode cX5_repair 48 = .ok (.aload_n 0, 1) := by decide +kernel
theorem dX5_repair_49 : decode cX5_repair 49 = .ok (.iconst 4, 1) := by decide +kernel
theorem dX5_repair_50 : decode cX5_repair 50 = .ok (.invokevirtual 71, 3) := by decide +kernel
theorem dX5_repair_53 : decode cX5_repair 53 = .ok (.istore 4, 2) := by decide +kernel
theorem dX5_repair_55 : decode cX5_repair 55 = .ok (.aload_n 0, 1) := by decide +kernel
theorem dX5_repair_56 : decode cX5_repair 56 = .ok (.getfield 7, 3) := by decide +kernel
theorem dX5_repair_59 : decode cX5_repair 59 = .ok (.bipush 7, 2) := by decide +kernel
theorem dX5_repair_61 : decode cX5_repair 61 = .ok (.iaload, 1) := by decide +kernel
theorem dX5_repair_62 : decode cX5_repair 62 = .ok (.iload_n 1, 1) := by decide +kernel
theorem dX5_repair_63 : decode cX5_repair 63 = .ok (.iadd, 1) := by decide +kernel
theorem dX5_repair_64 : decode cX5_repair 64 = .ok (.bipush 100, 2) := by decide +kernel
theorem dX5_repair_66 : decode cX5_repair 66 = .ok (.if_icmp .gt 12, 3) := by decide +kernel
theorem dX5_repair_69 : decode cX5_repair 69 = .ok (.iload_n 3, 1) := by decide +kernel
theorem dX5_repair_70 : decode cX5_repair 70 = .ok (.ifCond .le 12, 3) := by decide +kernel
theorem dX5_repair_73 : decode cX5_repair 73 = .ok (.iload 4, 2) := by decide +kernel
theorem dX5_repair_75 : decode cX5_repair 75 = .ok (.ifCond .ne 7, 3) := by decide +kernel
theorem dX5_repair_78 : decode cX5_repair 78 = .ok (.sipush (-10002), 3) := by decide +kernel
theorem dX5_repair_81 : decode cX5_repair 81 = .ok (.ireturn, 1) := by decide +kernel
theorem dX5_repair_82 : decode cX5_repair 82 = .ok (.aload_n 0, 1) := by decide +kernel
theorem dX5_repair_83 : decode cX5_repair 83 = .ok (.invokevirtual 57, 3) := by decide +kernel
theorem dX5_repair_86 : decode cX5_repair 86 = .ok (.aload_n 0, 1) := by decide +kernel
theorem dX5_repair_87 : decode cX5_repair 87 = .ok (.getfield 7, 3) := by decide +kernel
theorem dX5_repair_90 : decode cX5_repair 90 = .ok (.bipush 8, 2) := by decide +kernel
theorem dX5_repair_92 : decode cX5_repair 92 = .ok (.dup2, 1) := by decide +kernel
theorem dX5_repair_93 : decode cX5_repair 93 = .ok (.iaload, 1) := by decide +kernel
theorem dX5_repair_94 : decode cX5_repair 94 = .ok (.iload_n 2, 1) := by decide +kernel
theorem dX5_repair_95 : decode cX5_repair 95 = .ok (.iload_n 3, 1) := by decide +kernel
theorem dX5_repair_96 : decode cX5_repair 96 = .ok (.isub, 1) := by decide +kernel
theorem dX5_repair_97 : decode cX5_repair 97 = .ok (.isub, 1) := by decide +kernel
theorem dX5_repair_98 : decode cX5_repair 98 = .ok (.iastore, 1) := by decide +kernel
theorem dX5_repair_99 : decode cX5_repair 99 = .ok (.aload_n 0, 1) := by decide +kernel
theorem dX5_repair_100 : decode cX5_repair 100 = .ok (.getfield 7, 3) := by decide +kernel
theorem dX5_repair_103 : decode cX5_repair 103 = .ok (.bipush 7, 2) := by decide +kernel
theorem dX5_repair_105 : decode cX5_repair 105 = .ok (.dup2, 1) := by decide +kernel
theorem dX5_repair_106 : decode cX5_repair 106 = .ok (.iaload, 1) := by decide +kernel
theorem dX5_repair_107 : decode cX5_repair 107 = .ok (.iload_n 1, 1) := by decide +kernel
theorem dX5_repair_108 : decode cX5_repair 108 = .ok (.iadd, 1) := by decide +kernel
theorem dX5_repair_109 : decode cX5_repair 109 = .ok (.iastore, 1) := by decide +kernel
theorem dX5_repair_110 : decode cX5_repair 110 = .ok (.aload_n 0, 1) := by decide +kernel
theorem dX5_repair_111 : decode cX5_repair 111 = .ok (.getfield 7, 3) := by decide +kernel
theorem dX5_repair_114 : decode cX5_repair 114 = .ok (.bipush 11, 2) := by decide +kernel
theorem dX5_repair_116 : decode cX5_repair 116 = .ok (.dup2, 1) := by decide +kernel
theorem dX5_repair_117 : decode cX5_repair 117 = .ok (.iaload, 1) := by decide +kernel
theorem dX5_repair_118 : decode cX5_repair 118 = .ok (.iload_n 1, 1) := by decide +kernel
theorem dX5_repair_119 : decode cX5_repair 119 = .ok (.iadd, 1) := by decide +kernel
theorem dX5_repair_120 : decode cX5_repair 120 = .ok (.iastore, 1) := by decide +kernel
theorem dX5_repair_121 : decode cX5_repair 121 = .ok (.iload_n 3, 1) := by decide +kernel
theorem dX5_repair_122 : decode cX5_repair 122 = .ok (.istore 5, 2) := by decide +kernel
theorem dX5_repair_124 : decode cX5_repair 124 = .ok (.iconst 0, 1) := by decide +kernel
theorem dX5_repair_125 : decode cX5_repair 125 = .ok (.istore 6, 2) := by decide +kernel
theorem dX5_repair_127 : decode cX5_repair 127 = .ok (.iload 6, 2) := by decide +kernel
theorem dX5_repair_129 : decode cX5_repair 129 = .ok (.aload_n 0, 1) := by decide +kernel
theorem dX5_repair_130 : decode cX5_repair 130 = .ok (.getfield 7, 3) := by decide +kernel
theorem dX5_repair_133 : decode cX5_repair 133 = .ok (.iconst 5, 1) := by decide +kernel
theorem dX5_repair_134 : decode cX5_repair 134 = .ok (.iaload, 1) := by decide +kernel
theorem dX5_repair_135 : decode cX5_repair 135 = .ok (.if_icmp .ge 30, 3) := by decide +kernel
theorem dX5_repair_138 : decode cX5_repair 138 = .ok (.iload_n 3, 1) := by decide +kernel
theorem dX5_repair_139 : decode cX5_repair 139 = .ok (.ifCond .le 26, 3) := by decide +kernel
theorem dX5_repair_142 : decode cX5_repair 142 = .ok (.iload 5, 2) := by decide +kernel
theorem dX5_repair_144 : decode cX5_repair 144 = .ok (.iload_n 3, 1) := by decide +kernel
theorem dX5_repair_145 : decode cX5_repair 145 = .ok (.aload_n 0, 1) := by decide +kernel
theorem dX5_repair_146 : decode cX5_repair 146 = .ok (.iload 6, 2) := by decide +kernel
theorem dX5_repair_148 : decode cX5_repair 148 = .ok (.iconst 4, 1) := by decide +kernel
theorem dX5_repair_149 : decode cX5_repair 149 = .ok (.invokevirtual 39, 3) := by decide +kernel
theorem dX5_repair_152 : decode cX5_repair 152 = .ok (.imul, 1) := by decide +kernel
theorem dX5_repair_153 : decode cX5_repair 153 = .ok (.iload 4, 2) := by decide +kernel
theorem dX5_repair_155 : decode cX5_repair 155 = .ok (.idiv, 1) := by decide +kernel
theorem dX5_repair_156 : decode cX5_repair 156 = .ok (.isub, 1) := by decide +kernel
theorem dX5_repair_157 : decode cX5_repair 157 = .ok (.istore 5, 2) := by decide +kernel
theorem dX5_repair_159 : decode cX5_repair 159 = .ok (.iinc 6 1, 3) := by decide +kernel
theorem dX5_repair_162 : decode cX5_repair 162 = .ok (.goto (-35), 3) := by decide +kernel
theorem dX5_repair_165 : decode cX5_repair 165 = .ok (.iconst 0, 1) := by decide +kernel
theorem dX5_repair_166 : decode cX5_repair 166 = .ok (.istore 6, 2) := by decide +kernel
theorem dX5_repair_168 : decode cX5_repair 168 = .ok (.iload 6, 2) := by decide +kernel
theorem dX5_repair_170 : decode cX5_repair 170 = .ok (.aload_n 0, 1) := by decide +kernel
theorem dX5_repair_171 : decode cX5_repair 171 = .ok (.getfield 7, 3) := by decide +kernel
theorem dX5_repair_174 : decode cX5_repair 174 = .ok (.iconst 5, 1) := by decide +kernel
theorem dX5_repair_175 : decode cX5_repair 175 = .ok (.iaload, 1) := by decide +kernel
theorem dX5_repair_176 : decode cX5_repair 176 = .ok (.if_icmp .ge 88, 3) := by decide +kernel
theorem dX5_repair_179 : decode cX5_repair 179 = .ok (.iload_n 3, 1) := by decide +kernel
theorem dX5_repair_180 : decode cX5_repair 180 = .ok (.ifCond .le 84, 3) := by decide +kernel
theorem dX5_repair_183 : decode cX5_repair 183 = .ok (.iload 5, 2) := by decide +kernel
theorem dX5_repair_185 : decode cX5_repair 185 = .ok (.ifCond .le 17, 3) := by decide +kernel
theorem dX5_repair_188 : decode cX5_repair 188 = .ok (.aload_n 0, 1) := by decide +kernel
theorem dX5_repair_189 : decode cX5_repair 189 = .ok (.iload 6, 2) := by decide +kernel
theorem dX5_repair_191 : decode cX5_repair 191 = .ok (.iconst 4, 1) := by decide +kernel
theorem dX5_repair_192 : decode cX5_repair 192 = .ok (.invokevirtual 39, 3) := by decide +kernel
theorem dX5_repair_195 : decode cX5_repair 195 = .ok (.ifCond .le 7, 3) := by decide +kernel
theorem dX5_repair_198 : decode cX5_repair 198 = .ok (.iconst 1, 1) := by decide +kernel
theorem dX5_repair_199 : decode cX5_repair 199 = .ok (.goto 4, 3) := by decide +kernel
theorem dX5_repair_202 : decode cX5_repair 202 = .ok (.iconst 0, 1) := by decide +kernel
theorem dX5_repair_203 : decode cX5_repair 203 = .ok (.istore 7, 2) := by decide +kernel
theorem dX5_repair_205 : decode cX5_repair 205 = .ok (.iload 5, 2) := by decide +kernel
theorem dX5_repair_207 : decode cX5_repair 207 = .ok (.iload 7, 2) := by decide +kernel
theorem dX5_repair_209 : decode cX5_repair 209 = .ok (.ifCond .eq 7, 3) := by decide +kernel
theorem dX5_repair_212 : decode cX5_repair 212 = .ok (.iconst 1, 1) := by decide +kernel
theorem dX5_repair_213 : decode cX5_repair 213 = .ok (.goto 4, 3) := by decide +kernel
theorem dX5_repair_216 : decode cX5_repair 216 = .ok (.iconst 0, 1) := by decide +kernel
theorem dX5_repair_217 : decode cX5_repair 217 = .ok (.isub, 1) := by decide +kernel
theorem dX5_repair_218 : decode cX5_repair 218 = .ok (.istore 5, 2) := by decide +kernel
theorem dX5_repair_220 : decode cX5_repair 220 = .ok (.aload_n 0, 1) := by decide +kernel
theorem dX5_repair_221 : decode cX5_repair 221 = .ok (.iload 6, 2) := by decide +kernel
theorem dX5_repair_223 : decode cX5_repair 223 = .ok (.iconst 2, 1) := by decide +kernel
theorem dX5_repair_224 : decode cX5_repair 224 = .ok (.aload_n 0, 1) := by decide +kernel
theorem dX5_repair_225 : decode cX5_repair 225 = .ok (.iload 6, 2) := by decide +kernel
theorem dX5_repair_227 : decode cX5_repair 227 = .ok (.iconst 2, 1) := by decide +kernel
theorem dX5_repair_228 : decode cX5_repair 228 = .ok (.invokevirtual 39, 3) := by decide +kernel
theorem dX5_repair_231 : decode cX5_repair 231 = .ok (.iload_n 3, 1) := by decide +kernel
theorem dX5_repair_232 : decode cX5_repair 232 = .ok (.aload_n 0, 1) := by decide +kernel
theorem dX5_repair_233 : decode cX5_repair 233 = .ok (.iload 6, 2) := by decide +kernel
theorem dX5_repair_235 : decode cX5_repair 235 = .ok (.iconst 4, 1) := by decide +kernel
theorem dX5_repair_236 : decode cX5_repair 236 = .ok (.invokevirtual 39, 3) := by decide +kernel
theorem dX5_repair_239 : decode cX5_repair 239 = .ok (.imul, 1) := by decide +kernel
theorem dX5_repair_240 : decode cX5_repair 240 = .ok (.iload 4, 2) := by decide +kernel
theorem dX5_repair_242 : decode cX5_repair 242 = .ok (.idiv, 1) := by decide +kernel
theorem dX5_repair_243 : decode cX5_repair 243 = .ok (.iadd, 1) := by decide +kernel
theorem dX5_repair_244 : decode cX5_repair 244 = .ok (.iload 7, 2) := by decide +kernel
theorem dX5_repair_246 : decode cX5_repair 246 = .ok (.ifCond .eq 7, 3) := by decide +kernel
theorem dX5_repair_249 : decode cX5_repair 249 = .ok (.iconst 1, 1) := by decide +kernel
theorem dX5_repair_250 : decode cX5_repair 250 = .ok (.goto 4, 3) := by decide +kernel
theorem dX5_repair_253 : decode cX5_repair 253 = .ok (.iconst 0, 1) := by decide +kernel
theorem dX5_repair_254 : decode cX5_repair 254 = .ok (.iadd, 1) := by decide +kernel
theorem dX5_repair_255 : decode cX5_repair 255 = .ok (.invokevirtual 60, 3) := by decide +kernel
theorem dX5_repair_258 : decode cX5_repair 258 = .ok (.iinc 6 1, 3) := by decide +kernel
theorem dX5_repair_261 : decode cX5_repair 261 = .ok (.goto (-93), 3) := by decide +kernel
theorem dX5_repair_264 : decode cX5_repair 264 = .ok (.iload_n 3, 1) := by decide +kernel
theorem dX5_repair_265 : decode cX5_repair 265 = .ok (.ireturn, 1) := by decide +kernel
theorem dX5_set_0 : decode cX5_set 0 = .ok (.iload_n 1, 1) := by decide +kernel
theorem dX5_set_1 : decode cX5_set 1 = .ok (.ifCond .eq 8, 3) := by decide +kernel
theorem dX5_set_4 : decode cX5_set 4 = .ok (.iload_n 1, 1) := by decide +kernel
theorem dX5_set_5 : decode cX5_set 5 = .ok (.iconst 4, 1) := by decide +kernel
theorem dX5_set_6 : decode cX5_set 6 = .ok (.if_icmp .ne 7, 3) := by decide +kernel
theorem dX5_set_9 : decode cX5_set 9 = .ok (.iconst 1, 1) := by decide +kernel
theorem dX5_set_10 : decode cX5_set 10 = .ok (.goto 4, 3) := by decide +kernel
theorem dX5_set_13 : decode cX5_set 13 = .ok (.iconst 0, 1) := by decide +kernel
theorem dX5_set_14 : decode cX5_set 14 = .ok (.istore_n 3, 1) := by decide +kernel
theorem dX5_set_15 : decode cX5_set 15 = .ok (.iload_n 1, 1) := by decide +kernel
theorem dX5_set_16 : decode cX5_set 16 = .ok (.ifCond .ne 9, 3) := by decide +kernel
theorem dX5_set_19 : decode cX5_set 19 = .ok (.sipush 200, 3) := by decide +kernel
theorem dX5_set_22 : decode cX5_set 22 = .ok (.goto 36, 3) := by decide +kernel
theorem dX5_set_25 : decode cX5_set 25 = .ok (.iload_n 1, 1) := by decide +kernel
theorem dX5_set_26 : decode cX5_set 26 = .ok (.iconst 1, 1) := by decide +kernel
theorem dX5_set_27 : decode cX5_set 27 = .ok (.if_icmp .ne 8, 3) := by decide +kernel
theorem dX5_set_30 : decode cX5_set 30 = .ok (.bipush 100, 2) := by decide +kernel
theorem dX5_set_32 : decode cX5_set 32 = .ok (.goto 26, 3) := by decide +kernel
theorem dX5_set_35 : decode cX5_set 35 = .ok (.iload_n 1, 1) := by decide +kernel
theorem dX5_set_36 : decode cX5_set 36 = .ok (.iconst 2, 1) := by decide +kernel
theorem dX5_set_37 : decode cX5_set 37 = .ok (.if_icmp .ne 8, 3) := by decide +kernel
theorem dX5_set_40 : decode cX5_set 40 = .ok (.bipush 50, 2) := by decide +kernel
theorem dX5_set_42 : decode cX5_set 42 = .ok (.goto 16, 3) := by decide +kernel
theorem dX5_set_45 : decode cX5_set 45 = .ok (.iload_n 1, 1) := by decide +kernel
theorem dX5_set_46 : decode cX5_set 46 = .ok (.iconst 3, 1) := by decide +kernel
theorem dX5_set_47 : decode cX5_set 47 = .ok (.if_icmp .ne 9, 3) := by decide +kernel
theorem dX5_set_50 : decode cX5_set 50 = .ok (.sipush 999, 3) := by decide +kernel
theorem dX5_set_53 : decode cX5_set 53 = .ok (.goto 5, 3) := by decide +kernel
theorem dX5_set_56 : decode cX5_set 56 = .ok (.bipush 20, 2) := by decide +kernel
theorem dX5_set_58 : decode cX5_set 58 = .ok (.istore 4, 2) := by decide +kernel
theorem dX5_set_60 : decode cX5_set 60 = .ok (.iload_n 1, 1) := by decide +kernel
theorem dX5_set_61 : decode cX5_set 61 = .ok (.iconst 0, 1) := by decide +kernel
theorem dX5_set_62 : decode cX5_set 62 = .ok (.iconst 4, 1) := by decide +kernel
theorem dX5_set_63 : decode cX5_set 63 = .ok (.invokestatic 53, 3) := by decide +kernel
theorem dX5_set_66 : decode cX5_set 66 = .ok (.ifCond .eq 13, 3) := by decide +kernel
theorem dX5_set_69 : decode cX5_set 69 = .ok (.iload_n 2, 1) := by decide +kernel
theorem dX5_set_70 : decode cX5_set 70 = .ok (.iload_n 3, 1) := by decide +kernel
theorem dX5_set_71 : decode cX5_set 71 = .ok (.iload 4, 2) := by decide +kernel
theorem dX5_set_73 : decode cX5_set 73 = .ok (.invokestatic 53, 3) := by decide +kernel
theorem dX5_set_76 : decode cX5_set 76 = .ok (.ifCond .ne 7, 3) := by decide +kernel
theorem dX5_set_79 : decode cX5_set 79 = .ok (.sipush (-10001), 3) := by decide +kernel
theorem dX5_set_82 : decode cX5_set 82 = .ok (.ireturn, 1) := by decide +kernel
theorem dX5_set_83 : decode cX5_set 83 = .ok (.aload_n 0, 1) := by decide +kernel
theorem dX5_set_84 : decode cX5_set 84 = .ok (.invokevirtual 57, 3) := by decide +kernel
theorem dX5_set_87 : decode cX5_set 87 = .ok (.aload_n 0, 1) := by decide +kernel
theorem dX5_set_88 : decode cX5_set 88 = .ok (.getfield 7, 3) := by decide +kernel
theorem dX5_set_91 : decode cX5_set 91 = .ok (.iload_n 1, 1) := by decide +kernel
theorem dX5_set_92 : decode cX5_set 92 = .ok (.iaload, 1) := by decide +kernel
theorem dX5_set_93 : decode cX5_set 93 = .ok (.istore 5, 2) := by decide +kernel
theorem dX5_set_95 : decode cX5_set 95 = .ok (.aload_n 0, 1) := by decide +kernel
theorem dX5_set_96 : decode cX5_set 96 = .ok (.getfield 7, 3) := by decide +kernel
theorem dX5_set_99 : decode cX5_set 99 = .ok (.iload_n 1, 1) := by decide +kernel
theorem dX5_set_100 : decode cX5_set 100 = .ok (.iload_n 2, 1) := by decide +kernel
theorem dX5_set_101 : decode cX5_set 101 = .ok (.iastore, 1) := by decide +kernel
theorem dX5_set_102 : decode cX5_set 102 = .ok (.iload 5, 2) := by decide +kernel
theorem dX5_set_104 : decode cX5_set 104 = .ok (.ireturn, 1) := by decide +kernel
theorem dX5_memberOf_0 : decode cX5_memberOf 0 = .ok (.aload_n 0, 1) := by decide +kernel
theorem dX5_memberOf_1 : decode cX5_memberOf 1 = .ok (.iload_n 1, 1) := by decide +kernel
theorem dX5_memberOf_2 : decode cX5_memberOf 2 = .ok (.invokevirtual 64, 3) := by decide +kernel
theorem dX5_memberOf_5 : decode cX5_memberOf 5 = .ok (.ifCond .eq 13, 3) := by decide +kernel
theorem dX5_memberOf_8 : decode cX5_memberOf 8 = .ok (.iload_n 2, 1) := by decide +kernel
theorem dX5_memberOf_9 : decode cX5_memberOf 9 = .ok (.iconst 0, 1) := by decide +kernel
theorem dX5_memberOf_10 : decode cX5_memberOf 10 = .ok (.bipush 9, 2) := by decide +kernel
theorem dX5_memberOf_12 : decode cX5_memberOf 12 = .ok (.invokestatic 53, 3) := by decide +kernel
theorem dX5_memberOf_15 : decode cX5_memberOf 15 = .ok (.ifCond .ne 7, 3) := by decide +kernel
theorem dX5_memberOf_18 : decode cX5_memberOf 18 = .ok (.sipush (-10001), 3) := by decide +kernel
theorem dX5_memberOf_21 : decode cX5_memberOf 21 = .ok (.ireturn, 1) := by decide +kernel
theorem dX5_memberOf_22 : decode cX5_memberOf 22 = .ok (.iload_n 2, 1) := by decide +kernel
theorem dX5_memberOf_23 : decode cX5_memberOf 23 = .ok (.iconst 2, 1) := by decide +kernel
theorem dX5_memberOf_24 : decode cX5_memberOf 24 = .ok (.if_icmp .ge 12, 3) := by decide +kernel
theorem dX5_memberOf_27 : decode cX5_memberOf 27 = .ok (.aload_n 0, 1) := by decide +kernel
theorem dX5_memberOf_28 : decode cX5_memberOf 28 = .ok (.iload_n 1, 1) := by decide +kernel
theorem dX5_memberOf_29 : decode cX5_memberOf 29 = .ok (.iload_n 2, 1) := by decide +kernel
theorem dX5_memberOf_30 : decode cX5_memberOf 30 = .ok (.invokevirtual 39, 3) := by decide +kernel
theorem dX5_memberOf_33 : decode cX5_memberOf 33 = .ok (.goto 44, 3) := by decide +kernel
theorem dX5_memberOf_36 : decode cX5_memberOf 36 = .ok (.iload_n 2, 1) := by decide +kernel
theorem dX5_memberOf_37 : decode cX5_memberOf 37 = .ok (.iconst 2, 1) := by decide +kernel
theorem dX5_memberOf_38 : decode cX5_memberOf 38 = .ok (.if_icmp .ne 17, 3) := by decide +kernel
theorem dX5_memberOf_41 : decode cX5_memberOf 41 = .ok (.aload_n 0, 1) := by decide +kernel
theorem dX5_memberOf_42 : decode cX5_memberOf 42 = .ok (.iload_n 1, 1) := by decide +kernel
theorem dX5_memberOf_43 : decode cX5_memberOf 43 = .ok (.aload_n 0, 1) := by decide +kernel
theorem dX5_memberOf_44 : decode cX5_memberOf 44 = .ok (.iload_n 1, 1) := by decide +kernel
theorem dX5_memberOf_45 : decode cX5_memberOf 45 = .ok (.iconst 1, 1) := by decide +kernel
theorem dX5_memberOf_46 : decode cX5_memberOf 46 = .ok (.invokevirtual 39, 3) := by decide +kernel
theorem dX5_memberOf_49 : decode cX5_memberOf 49 = .ok (.invokevirtual 68, 3) := by decide +kernel
theorem dX5_memberOf_52 : decode cX5_memberOf 52 = .ok (.goto 25, 3) := by decide +kernel
theorem dX5_memberOf_55 : decode cX5_memberOf 55 = .ok (.iload_n 2, 1) := by decide +kernel
theorem dX5_memberOf_56 : decode cX5_memberOf 56 = .ok (.bipush 9, 2) := by decide +kernel
theorem dX5_memberOf_58 : decode cX5_memberOf 58 = .ok (.if_icmp .ge 14, 3) := by decide +kernel
theorem dX5_memberOf_61 : decode cX5_memberOf 61 = .ok (.aload_n 0, 1) := by decide +kernel
theorem dX5_memberOf_62 : decode cX5_memberOf 62 = .ok (.iload_n 1, 1) := by decide +kernel
theorem dX5_memberOf_63 : decode cX5_memberOf 63 = .ok (.iload_n 2, 1) := by decide +kernel
theorem dX5_memberOf_64 : decode cX5_memberOf 64 = .ok (.iconst 1, 1) := by decide +kernel
theorem dX5_memberOf_65 : decode cX5_memberOf 65 = .ok (.isub, 1) := by decide +kernel
theorem dX5_memberOf_66 : decode cX5_memberOf 66 = .ok (.invokevirtual 39, 3) := by decide +kernel
theorem dX5_memberOf_69 : decode cX5_memberOf 69 = .ok (.goto 8, 3) := by decide +kernel
theorem dX5_memberOf_72 : decode cX5_memberOf 72 = .ok (.aload_n 0, 1) := by decide +kernel
theorem dX5_memberOf_73 : decode cX5_memberOf 73 = .ok (.iload_n 1, 1) := by decide +kernel
theorem dX5_memberOf_74 : decode cX5_memberOf 74 = .ok (.invokevirtual 43, 3) := by decide +kernel
theorem dX5_memberOf_77 : decode cX5_memberOf 77 = .ok (.ireturn, 1) := by decide +kernel
theorem dX5_count_0 : decode cX5_count 0 = .ok (.iload_n 1, 1) := by decide +kernel
theorem dX5_count_1 : decode cX5_count 1 = .ok (.tableswitch 134 0 12 #[67, 67, 67, 76, 82, 92, 100, 106, 111, 111, 111, 124, 129], 67) := by decide +kernel
theorem dX5_count_68 : decode cX5_count 68 = .ok (.aload_n 0, 1) := by decide +kernel
theorem dX5_count_69 : decode cX5_count 69 = .ok (.getfield 7, 3) := by decide +kernel
theorem dX5_count_72 : decode cX5_count 72 = .ok (.iconst 5, 1) := by decide +kernel
theorem dX5_count_73 : decode cX5_count 73 = .ok (.iload_n 1, 1) := by decide +kernel
theorem dX5_count_74 : decode cX5_count 74 = .ok (.iadd, 1) := by decide +kernel
theorem dX5_count_75 : decode cX5_count 75 = .ok (.iaload, 1) := by decide +kernel
theorem dX5_count_76 : decode cX5_count 76 = .ok (.ireturn, 1) := by decide +kernel
theorem dX5_count_77 : decode cX5_count 77 = .ok (.aload_n 0, 1) := by decide +kernel
theorem dX5_count_78 : decode cX5_count 78 = .ok (.iconst 1, 1) := by decide +kernel
theorem dX5_count_79 : decode cX5_count 79 = .ok (.invokevirtual 71, 3) := by decide +kernel
theorem dX5_count_82 : decode cX5_count 82 = .ok (.ireturn, 1) := by decide +kernel
theorem dX5_count_83 : decode cX5_count 83 = .ok (.aload_n 0, 1) := by decide +kernel
theorem dX5_count_84 : decode cX5_count 84 = .ok (.aload_n 0, 1) := by decide +kernel
theorem dX5_count_85 : decode cX5_count 85 = .ok (.iconst 1, 1) := by decide +kernel
theorem dX5_count_86 : decode cX5_count 86 = .ok (.invokevirtual 71, 3) := by decide +kernel
theorem dX5_count_89 : decode cX5_count 89 = .ok (.invokevirtual 50, 3) := by decide +kernel
theorem dX5_count_92 : decode cX5_count 92 = .ok (.ireturn, 1) := by decide +kernel
theorem dX5_count_93 : decode cX5_count 93 = .ok (.aload_n 0, 1) := by decide +kernel
theorem dX5_count_94 : decode cX5_count 94 = .ok (.getfield 7, 3) := by decide +kernel
theorem dX5_count_97 : decode cX5_count 97 = .ok (.bipush 8, 2) := by decide +kernel
theorem dX5_count_99 : decode cX5_count 99 = .ok (.iaload, 1) := by decide +kernel
theorem dX5_count_100 : decode cX5_count 100 = .ok (.ireturn, 1) := by decide +kernel
theorem dX5_count_101 : decode cX5_count 101 = .ok (.aload_n 0, 1) := by decide +kernel
theorem dX5_count_102 : decode cX5_count 102 = .ok (.iconst 2, 1) := by decide +kernel
theorem dX5_count_103 : decode cX5_count 103 = .ok (.invokevirtual 71, 3) := by decide +kernel
theorem dX5_count_106 : decode cX5_count 106 = .ok (.ireturn, 1) := by decide +kernel
theorem dX5_count_107 : decode cX5_count 107 = .ok (.aload_n 0, 1) := by decide +kernel
theorem dX5_count_108 : decode cX5_count 108 = .ok (.invokevirtual 74, 3) := by decide +kernel
theorem dX5_count_111 : decode cX5_count 111 = .ok (.ireturn, 1) := by decide +kernel
theorem dX5_count_112 : decode cX5_count 112 = .ok (.aload_n 0, 1) := by decide +kernel
theorem dX5_count_113 : decode cX5_count 113 = .ok (.getfield 7, 3) := by decide +kernel
theorem dX5_count_116 : decode cX5_count 116 = .ok (.bipush 9, 2) := by decide +kernel
theorem dX5_count_118 : decode cX5_count 118 = .ok (.iload_n 1, 1) := by decide +kernel
theorem dX5_count_119 : decode cX5_count 119 = .ok (.iadd, 1) := by decide +kernel
theorem dX5_count_120 : decode cX5_count 120 = .ok (.bipush 8, 2) := by decide +kernel
theorem dX5_count_122 : decode cX5_count 122 = .ok (.isub, 1) := by decide +kernel
theorem dX5_count_123 : decode cX5_count 123 = .ok (.iaload, 1) := by decide +kernel
theorem dX5_count_124 : decode cX5_count 124 = .ok (.ireturn, 1) := by decide +kernel
theorem dX5_count_125 : decode cX5_count 125 = .ok (.aload_n 0, 1) := by decide +kernel
theorem dX5_count_126 : decode cX5_count 126 = .ok (.getfield 35, 3) := by decide +kernel
theorem dX5_count_129 : decode cX5_count 129 = .ok (.ireturn, 1) := by decide +kernel
theorem dX5_count_130 : decode cX5_count 130 = .ok (.aload_n 0, 1) := by decide +kernel
theorem dX5_count_131 : decode cX5_count 131 = .ok (.getfield 89, 3) := by decide +kernel
theorem dX5_count_134 : decode cX5_count 134 = .ok (.ireturn, 1) := by decide +kernel
theorem dX5_count_135 : decode cX5_count 135 = .ok (.iload_n 1, 1) := by decide +kernel
theorem dX5_count_136 : decode cX5_count 136 = .ok (.bipush 20, 2) := by decide +kernel
theorem dX5_count_138 : decode cX5_count 138 = .ok (.bipush 24, 2) := by decide +kernel
theorem dX5_count_140 : decode cX5_count 140 = .ok (.invokestatic 53, 3) := by decide +kernel
theorem dX5_count_143 : decode cX5_count 143 = .ok (.ifCond .eq 15, 3) := by decide +kernel
theorem dX5_count_146 : decode cX5_count 146 = .ok (.aload_n 0, 1) := by decide +kernel
theorem dX5_count_147 : decode cX5_count 147 = .ok (.getfield 7, 3) := by decide +kernel
theorem dX5_count_150 : decode cX5_count 150 = .ok (.iload_n 1, 1) := by decide +kernel
theorem dX5_count_151 : decode cX5_count 151 = .ok (.bipush 20, 2) := by decide +kernel
theorem dX5_count_153 : decode cX5_count 153 = .ok (.isub, 1) := by decide +kernel
theorem dX5_count_154 : decode cX5_count 154 = .ok (.iaload, 1) := by decide +kernel
theorem dX5_count_155 : decode cX5_count 155 = .ok (.goto 6, 3) := by decide +kernel
theorem dX5_count_158 : decode cX5_count 158 = .ok (.sipush (-10001), 3) := by decide +kernel
theorem dX5_count_161 : decode cX5_count 161 = .ok (.ireturn, 1) := by decide +kernel
theorem dX5_seasonOf_0 : decode cX5_seasonOf 0 = .ok (.iload_n 1, 1) := by decide +kernel
theorem dX5_seasonOf_1 : decode cX5_seasonOf 1 = .ok (.ifCond .lt 12, 3) := by decide +kernel
theorem dX5_seasonOf_4 : decode cX5_seasonOf 4 = .ok (.iload_n 2, 1) := by decide +kernel
theorem dX5_seasonOf_5 : decode cX5_seasonOf 5 = .ok (.iconst 0, 1) := by decide +kernel
theorem dX5_seasonOf_6 : decode cX5_seasonOf 6 = .ok (.iconst 4, 1) := by decide +kernel
theorem dX5_seasonOf_7 : decode cX5_seasonOf 7 = .ok (.invokestatic 53, 3) := by decide +kernel
theorem dX5_seasonOf_10 : decode cX5_seasonOf 10 = .ok (.ifCond .ne 7, 3) := by decide +kernel
theorem dX5_seasonOf_13 : decode cX5_seasonOf 13 = .ok (.sipush (-10001), 3) := by decide +kernel
theorem dX5_seasonOf_16 : decode cX5_seasonOf 16 = .ok (.ireturn, 1) := by decide +kernel
theorem dX5_seasonOf_17 : decode cX5_seasonOf 17 = .ok (.iload_n 1, 1) := by decide +kernel
theorem dX5_seasonOf_18 : decode cX5_seasonOf 18 = .ok (.aload_n 0, 1) := by decide +kernel
theorem dX5_seasonOf_19 : decode cX5_seasonOf 19 = .ok (.getfield 7, 3) := by decide +kernel
theorem dX5_seasonOf_22 : decode cX5_seasonOf 22 = .ok (.bipush 12, 2) := by decide +kernel
theorem dX5_seasonOf_24 : decode cX5_seasonOf 24 = .ok (.iaload, 1) := by decide +kernel
theorem dX5_seasonOf_25 : decode cX5_seasonOf 25 = .ok (.if_icmp .lt 9, 3) := by decide +kernel
theorem dX5_seasonOf_28 : decode cX5_seasonOf 28 = .ok (.sipush (-10004), 3) := by decide +kernel
theorem dX5_seasonOf_31 : decode cX5_seasonOf 31 = .ok (.goto 16, 3) := by decide +kernel
theorem dX5_seasonOf_34 : decode cX5_seasonOf 34 = .ok (.aload_n 0, 1) := by decide +kernel
theorem dX5_seasonOf_35 : decode cX5_seasonOf 35 = .ok (.getfield 7, 3) := by decide +kernel
theorem dX5_seasonOf_38 : decode cX5_seasonOf 38 = .ok (.bipush 77, 2) := by decide +kernel
theorem dX5_seasonOf_40 : decode cX5_seasonOf 40 = .ok (.iconst 5, 1) := by decide +kernel
theorem dX5_seasonOf_41 : decode cX5_seasonOf 41 = .ok (.iload_n 1, 1) := by decide +kernel
theorem dX5_seasonOf_42 : decode cX5_seasonOf 42 = .ok (.imul, 1) := by decide +kernel
theorem dX5_seasonOf_43 : decode cX5_seasonOf 43 = .ok (.iadd, 1) := by decide +kernel
theorem dX5_seasonOf_44 : decode cX5_seasonOf 44 = .ok (.iload_n 2, 1) := by decide +kernel
theorem dX5_seasonOf_45 : decode cX5_seasonOf 45 = .ok (.iadd, 1) := by decide +kernel
theorem dX5_seasonOf_46 : decode cX5_seasonOf 46 = .ok (.iaload, 1) := by decide +kernel
theorem dX5_seasonOf_47 : decode cX5_seasonOf 47 = .ok (.ireturn, 1) := by decide +kernel
theorem dX5_gainFor_0 : decode cX5_gainFor 0 = .ok (.aload_n 0, 1) := by decide +kernel
theorem dX5_gainFor_1 : decode cX5_gainFor 1 = .ok (.iload_n 1, 1) := by decide +kernel
theorem dX5_gainFor_2 : decode cX5_gainFor 2 = .ok (.iconst 0, 1) := by decide +kernel
theorem dX5_gainFor_3 : decode cX5_gainFor 3 = .ok (.invokevirtual 39, 3) := by decide +kernel
theorem dX5_gainFor_6 : decode cX5_gainFor 6 = .ok (.iload_n 2, 1) := by decide +kernel
theorem dX5_gainFor_7 : decode cX5_gainFor 7 = .ok (.imul, 1) := by decide +kernel
theorem dX5_gainFor_8 : decode cX5_gainFor 8 = .ok (.aload_n 0, 1) := by decide +kernel
theorem dX5_gainFor_9 : decode cX5_gainFor 9 = .ok (.iload_n 1, 1) := by decide +kernel
theorem dX5_gainFor_10 : decode cX5_gainFor 10 = .ok (.iload_n 2, 1) := by decide +kernel
theorem dX5_gainFor_11 : decode cX5_gainFor 11 = .ok (.invokevirtual 68, 3) := by decide +kernel
theorem dX5_gainFor_14 : decode cX5_gainFor 14 = .ok (.isub, 1) := by decide +kernel
theorem dX5_gainFor_15 : decode cX5_gainFor 15 = .ok (.ireturn, 1) := by decide +kernel
theorem dX5_gain_0 : decode cX5_gain 0 = .ok (.aload_n 0, 1) := by decide +kernel
theorem dX5_gain_1 : decode cX5_gain 1 = .ok (.iload_n 1, 1) := by decide +kernel
theorem dX5_gain_2 : decode cX5_gain 2 = .ok (.invokevirtual 64, 3) := by decide +kernel
theorem dX5_gain_5 : decode cX5_gain 5 = .ok (.ifCond .eq 13, 3) := by decide +kernel
theorem dX5_gain_8 : decode cX5_gain 8 = .ok (.iload_n 2, 1) := by decide +kernel
theorem dX5_gain_9 : decode cX5_gain 9 = .ok (.iconst 0, 1) := by decide +kernel
theorem dX5_gain_10 : decode cX5_gain 10 = .ok (.bipush 20, 2) := by decide +kernel
theorem dX5_gain_12 : decode cX5_gain 12 = .ok (.invokestatic 53, 3) := by decide +kernel
theorem dX5_gain_15 : decode cX5_gain 15 = .ok (.ifCond .ne 7, 3) := by decide +kernel
theorem dX5_gain_18 : decode cX5_gain 18 = .ok (.sipush (-10001), 3) := by decide +kernel
theorem dX5_gain_21 : decode cX5_gain 21 = .ok (.ireturn, 1) := by decide +kernel
theorem dX5_gain_22 : decode cX5_gain 22 = .ok (.aload_n 0, 1) := by decide +kernel
theorem dX5_gain_23 : decode cX5_gain 23 = .ok (.iload_n 1, 1) := by decide +kernel
theorem dX5_gain_24 : decode cX5_gain 24 = .ok (.bipush 6, 2) := by decide +kernel
theorem dX5_gain_26 : decode cX5_gain 26 = .ok (.invokevirtual 39, 3) := by decide +kernel
theorem dX5_gain_29 : decode cX5_gain 29 = .ok (.iconst 1, 1) := by decide +kernel
theorem dX5_gain_30 : decode cX5_gain 30 = .ok (.if_icmp .ne 13, 3) := by decide +kernel
theorem dX5_gain_33 : decode cX5_gain 33 = .ok (.iload_n 2, 1) := by decide +kernel
theorem dX5_gain_34 : decode cX5_gain 34 = .ok (.ifCond .le 9, 3) := by decide +kernel
theorem dX5_gain_37 : decode cX5_gain 37 = .ok (.sipush (-10002), 3) := by decide +kernel
theorem dX5_gain_40 : decode cX5_gain 40 = .ok (.goto 13, 3) := by decide +kernel
theorem dX5_gain_43 : decode cX5_gain 43 = .ok (.aload_n 0, 1) := by decide +kernel
theorem dX5_gain_44 : decode cX5_gain 44 = .ok (.iload_n 1, 1) := by decide +kernel
theorem dX5_gain_45 : decode cX5_gain 45 = .ok (.iload_n 2, 1) := by decide +kernel
theorem dX5_gain_46 : decode cX5_gain 46 = .ok (.invokevirtual 92, 3) := by decide +kernel
theorem dX5_gain_49 : decode cX5_gain 49 = .ok (.sipush 10000, 3) := by decide +kernel
theorem dX5_gain_52 : decode cX5_gain 52 = .ok (.iadd, 1) := by decide +kernel
theorem dX5_gain_53 : decode cX5_gain 53 = .ok (.ireturn, 1) := by decide +kernel
theorem dX5_best_0 : decode cX5_best 0 = .ok (.iconst 0, 1) := by decide +kernel
theorem dX5_best_1 : decode cX5_best 1 = .ok (.istore_n 2, 1) := by decide +kernel
theorem dX5_best_2 : decode cX5_best 2 = .ok (.iconst 1, 1) := by decide +kernel
theorem dX5_best_3 : decode cX5_best 3 = .ok (.istore_n 3, 1) := by decide +kernel
theorem dX5_best_4 : decode cX5_best 4 = .ok (.iload_n 3, 1) := by decide +kernel
theorem dX5_best_5 : decode cX5_best 5 = .ok (.bipush 20, 2) := by decide +kernel
theorem dX5_best_7 : decode cX5_best 7 = .ok (.if_icmp .gt 40, 3) := by decide +kernel
theorem dX5_best_10 : decode cX5_best 10 = .ok (.aload_n 0, 1) := by decide +kernel
theorem dX5_best_11 : decode cX5_best 11 = .ok (.iload_n 1, 1) := by decide +kernel
theorem dX5_best_12 : decode cX5_best 12 = .ok (.bipush 6, 2) := by decide +kernel
theorem dX5_best_14 : decode cX5_best 14 = .ok (.invokevirtual 39, 3) := by decide +kernel
theorem dX5_best_17 : decode cX5_best 17 = .ok (.ifCond .ne 30, 3) := by decide +kernel
theorem dX5_best_20 : decode cX5_best 20 = .ok (.aload_n 0, 1) := by decide +kernel
theorem dX5_best_21 : decode cX5_best 21 = .ok (.iload_n 1, 1) := by decide +kernel
theorem dX5_best_22 : decode cX5_best 22 = .ok (.iload_n 3, 1) := by decide +kernel
theorem dX5_best_23 : decode cX5_best 23 = .ok (.invokevirtual 92, 3) := by decide +kernel
theorem dX5_best_26 : decode cX5_best 26 = .ok (.aload_n 0, 1) := by decide +kernel
theorem dX5_best_27 : decode cX5_best 27 = .ok (.iload_n 1, 1) := by decide +kernel
theorem dX5_best_28 : decode cX5_best 28 = .ok (.iload_n 2, 1) := by decide +kernel
theorem dX5_best_29 : decode cX5_best 29 = .ok (.invokevirtual 92, 3) := by decide +kernel
theorem dX5_best_32 : decode cX5_best 32 = .ok (.if_icmp .le 7, 3) := by decide +kernel
theorem dX5_best_35 : decode cX5_best 35 = .ok (.iload_n 3, 1) := by decide +kernel
theorem dX5_best_36 : decode cX5_best 36 = .ok (.goto 4, 3) := by decide +kernel
theorem dX5_best_39 : decode cX5_best 39 = .ok (.iload_n 2, 1) := by decide +kernel
theorem dX5_best_40 : decode cX5_best 40 = .ok (.istore_n 2, 1) := by decide +kernel
theorem dX5_best_41 : decode cX5_best 41 = .ok (.iinc 3 1, 3) := by decide +kernel
theorem dX5_best_44 : decode cX5_best 44 = .ok (.goto (-40), 3) := by decide +kernel
theorem dX5_best_47 : decode cX5_best 47 = .ok (.iload_n 2, 1) := by decide +kernel
theorem dX5_best_48 : decode cX5_best 48 = .ok (.ireturn, 1) := by decide +kernel
theorem dX5_bestUse_0 : decode cX5_bestUse 0 = .ok (.aload_n 0, 1) := by decide +kernel
theorem dX5_bestUse_1 : decode cX5_bestUse 1 = .ok (.iload_n 1, 1) := by decide +kernel
theorem dX5_bestUse_2 : decode cX5_bestUse 2 = .ok (.invokevirtual 64, 3) := by decide +kernel
theorem dX5_bestUse_5 : decode cX5_bestUse 5 = .ok (.ifCond .eq 11, 3) := by decide +kernel
theorem dX5_bestUse_8 : decode cX5_bestUse 8 = .ok (.aload_n 0, 1) := by decide +kernel
theorem dX5_bestUse_9 : decode cX5_bestUse 9 = .ok (.iload_n 1, 1) := by decide +kernel
theorem dX5_bestUse_10 : decode cX5_bestUse 10 = .ok (.invokevirtual 95, 3) := by decide +kernel
theorem dX5_bestUse_13 : decode cX5_bestUse 13 = .ok (.goto 6, 3) := by decide +kernel
theorem dX5_bestUse_16 : decode cX5_bestUse 16 = .ok (.sipush (-10001), 3) := by decide +kernel
theorem dX5_bestUse_19 : decode cX5_bestUse 19 = .ok (.ireturn, 1) := by decide +kernel
theorem dX5_turns_0 : decode cX5_turns 0 = .ok (.iconst 0, 1) := by decide +kernel
theorem dX5_turns_1 : decode cX5_turns 1 = .ok (.istore_n 1, 1) := by decide +kernel
theorem dX5_turns_2 : decode cX5_turns 2 = .ok (.iconst 0, 1) := by decide +kernel
theorem dX5_turns_3 : decode cX5_turns 3 = .ok (.istore_n 2, 1) := by decide +kernel
theorem dX5_turns_4 : decode cX5_turns 4 = .ok (.iload_n 2, 1) := by decide +kernel
theorem dX5_turns_5 : decode cX5_turns 5 = .ok (.aload_n 0, 1) := by decide +kernel
theorem dX5_turns_6 : decode cX5_turns 6 = .ok (.getfield 7, 3) := by decide +kernel
theorem dX5_turns_9 : decode cX5_turns 9 = .ok (.iconst 5, 1) := by decide +kernel
theorem dX5_turns_10 : decode cX5_turns 10 = .ok (.iaload, 1) := by decide +kernel
theorem dX5_turns_11 : decode cX5_turns 11 = .ok (.if_icmp .ge 42, 3) := by decide +kernel
theorem dX5_turns_14 : decode cX5_turns 14 = .ok (.aload_n 0, 1) := by decide +kernel
theorem dX5_turns_15 : decode cX5_turns 15 = .ok (.iload_n 2, 1) := by decide +kernel
theorem dX5_turns_16 : decode cX5_turns 16 = .ok (.invokevirtual 95, 3) := by decide +kernel
theorem dX5_turns_19 : decode cX5_turns 19 = .ok (.istore_n 3, 1) := by decide +kernel
theorem dX5_turns_20 : decode cX5_turns 20 = .ok (.iload_n 1, 1) := by decide +kernel
theorem dX5_turns_21 : decode cX5_turns 21 = .ok (.ifCond .ne 13, 3) := by decide +kernel
theorem dX5_turns_24 : decode cX5_turns 24 = .ok (.iload_n 3, 1) := by decide +kernel
theorem dX5_turns_25 : decode cX5_turns 25 = .ok (.aload_n 0, 1) := by decide +kernel
theorem dX5_turns_26 : decode cX5_turns 26 = .ok (.iload_n 2, 1) := by decide +kernel
theorem dX5_turns_27 : decode cX5_turns 27 = .ok (.iconst 1, 1) := by decide +kernel
theorem dX5_turns_28 : decode cX5_turns 28 = .ok (.invokevirtual 39, 3) := by decide +kernel
theorem dX5_turns_31 : decode cX5_turns 31 = .ok (.if_icmp .eq 7, 3) := by decide +kernel
theorem dX5_turns_34 : decode cX5_turns 34 = .ok (.iconst 1, 1) := by decide +kernel
theorem dX5_turns_35 : decode cX5_turns 35 = .ok (.goto 4, 3) := by decide +kernel
theorem dX5_turns_38 : decode cX5_turns 38 = .ok (.iconst 0, 1) := by decide +kernel
theorem dX5_turns_39 : decode cX5_turns 39 = .ok (.istore_n 1, 1) := by decide +kernel
theorem dX5_turns_40 : decode cX5_turns 40 = .ok (.aload_n 0, 1) := by decide +kernel
theorem dX5_turns_41 : decode cX5_turns 41 = .ok (.iload_n 2, 1) := by decide +kernel
theorem dX5_turns_42 : decode cX5_turns 42 = .ok (.iconst 1, 1) := by decide +kernel
theorem dX5_turns_43 : decode cX5_turns 43 = .ok (.iload_n 3, 1) := by decide +kernel
theorem dX5_turns_44 : decode cX5_turns 44 = .ok (.invokevirtual 60, 3) := by decide +kernel
theorem dX5_turns_47 : decode cX5_turns 47 = .ok (.iinc 2 1, 3) := by decide +kernel
theorem dX5_turns_50 : decode cX5_turns 50 = .ok (.goto (-46), 3) := by decide +kernel
theorem dX5_turns_53 : decode cX5_turns 53 = .ok (.iload_n 1, 1) := by decide +kernel
theorem dX5_turns_54 : decode cX5_turns 54 = .ok (.ireturn, 1) := by decide +kernel
theorem dX5_calm_0 : decode cX5_calm 0 = .ok (.aload_n 0, 1) := by decide +kernel
theorem dX5_calm_1 : decode cX5_calm 1 = .ok (.iload_n 1, 1) := by decide +kernel
theorem dX5_calm_2 : decode cX5_calm 2 = .ok (.invokevirtual 64, 3) := by decide +kernel
theorem dX5_calm_5 : decode cX5_calm 5 = .ok (.ifCond .ne 17, 3) := by decide +kernel
theorem dX5_calm_8 : decode cX5_calm 8 = .ok (.iload_n 1, 1) := by decide +kernel
theorem dX5_calm_9 : decode cX5_calm 9 = .ok (.bipush (-2), 2) := by decide +kernel
theorem dX5_calm_11 : decode cX5_calm 11 = .ok (.iconst (-1), 1) := by decide +kernel
theorem dX5_calm_12 : decode cX5_calm 12 = .ok (.invokestatic 53, 3) := by decide +kernel
theorem dX5_calm_15 : decode cX5_calm 15 = .ok (.ifCond .ne 7, 3) := by decide +kernel
theorem dX5_calm_18 : decode cX5_calm 18 = .ok (.sipush (-10001), 3) := by decide +kernel
theorem dX5_calm_21 : decode cX5_calm 21 = .ok (.ireturn, 1) := by decide +kernel
theorem dX5_calm_22 : decode cX5_calm 22 = .ok (.aload_n 0, 1) := by decide +kernel
theorem dX5_calm_23 : decode cX5_calm 23 = .ok (.getfield 7, 3) := by decide +kernel
theorem dX5_calm_26 : decode cX5_calm 26 = .ok (.aload_n 0, 1) := by decide +kernel
theorem dX5_calm_27 : decode cX5_calm 27 = .ok (.getfield 16, 3) := by decide +kernel
theorem dX5_calm_30 : decode cX5_calm 30 = .ok (.invokestatic 98, 3) := by decide +kernel
theorem dX5_calm_33 : decode cX5_calm 33 = .ok (.iconst 0, 1) := by decide +kernel
theorem dX5_calm_34 : decode cX5_calm 34 = .ok (.istore_n 2, 1) := by decide +kernel
theorem dX5_calm_35 : decode cX5_calm 35 = .ok (.iconst 1, 1) := by decide +kernel
theorem dX5_calm_36 : decode cX5_calm 36 = .ok (.istore_n 3, 1) := by decide +kernel
theorem dX5_calm_37 : decode cX5_calm 37 = .ok (.iload_n 3, 1) := by decide +kernel
theorem dX5_calm_38 : decode cX5_calm 38 = .ok (.ifCond .eq 20, 3) := by decide +kernel
theorem dX5_calm_41 : decode cX5_calm 41 = .ok (.iload_n 2, 1) := by decide +kernel
theorem dX5_calm_42 : decode cX5_calm 42 = .ok (.bipush 40, 2) := by decide +kernel
theorem dX5_calm_44 : decode cX5_calm 44 = .ok (.if_icmp .ge 14, 3) := by decide +kernel
theorem dX5_calm_47 : decode cX5_calm 47 = .ok (.aload_n 0, 1) := by decide +kernel
theorem dX5_calm_48 : decode cX5_calm 48 = .ok (.invokevirtual 102, 3) := by decide +kernel
theorem dX5_calm_51 : decode cX5_calm 51 = .ok (.istore_n 3, 1) := by decide +kernel
theorem dX5_calm_52 : decode cX5_calm 52 = .ok (.iinc 2 1, 3) := by decide +kernel
theorem dX5_calm_55 : decode cX5_calm 55 = .ok (.goto (-18), 3) := by decide +kernel
theorem dX5_calm_58 : decode cX5_calm 58 = .ok (.iload_n 1, 1) := by decide +kernel
theorem dX5_calm_59 : decode cX5_calm 59 = .ok (.iconst (-1), 1) := by decide +kernel
theorem dX5_calm_60 : decode cX5_calm 60 = .ok (.if_icmp .ne 11, 3) := by decide +kernel
theorem dX5_calm_63 : decode cX5_calm 63 = .ok (.aload_n 0, 1) := by decide +kernel
theorem dX5_calm_64 : decode cX5_calm 64 = .ok (.iconst 1, 1) := by decide +kernel
theorem dX5_calm_65 : decode cX5_calm 65 = .ok (.invokevirtual 71, 3) := by decide +kernel
theorem dX5_calm_68 : decode cX5_calm 68 = .ok (.goto 19, 3) := by decide +kernel
theorem dX5_calm_71 : decode cX5_calm 71 = .ok (.iload_n 1, 1) := by decide +kernel
theorem dX5_calm_72 : decode cX5_calm 72 = .ok (.bipush (-2), 2) := by decide +kernel
theorem dX5_calm_74 : decode cX5_calm 74 = .ok (.if_icmp .ne 7, 3) := by decide +kernel
theorem dX5_calm_77 : decode cX5_calm 77 = .ok (.iload_n 2, 1) := by decide +kernel
theorem dX5_calm_78 : decode cX5_calm 78 = .ok (.goto 9, 3) := by decide +kernel
theorem dX5_calm_81 : decode cX5_calm 81 = .ok (.aload_n 0, 1) := by decide +kernel
theorem dX5_calm_82 : decode cX5_calm 82 = .ok (.iload_n 1, 1) := by decide +kernel
theorem dX5_calm_83 : decode cX5_calm 83 = .ok (.iconst 1, 1) := by decide +kernel
theorem dX5_calm_84 : decode cX5_calm 84 = .ok (.invokevirtual 39, 3) := by decide +kernel
theorem dX5_calm_87 : decode cX5_calm 87 = .ok (.istore 4, 2) := by decide +kernel
theorem dX5_calm_89 : decode cX5_calm 89 = .ok (.aload_n 0, 1) := by decide +kernel
theorem dX5_calm_90 : decode cX5_calm 90 = .ok (.getfield 16, 3) := by decide +kernel
theorem dX5_calm_93 : decode cX5_calm 93 = .ok (.aload_n 0, 1) := by decide +kernel
theorem dX5_calm_94 : decode cX5_calm 94 = .ok (.getfield 7, 3) := by decide +kernel
theorem dX5_calm_97 : decode cX5_calm 97 = .ok (.invokestatic 98, 3) := by decide +kernel
theorem dX5_calm_100 : decode cX5_calm 100 = .ok (.iload_n 3, 1) := by decide +kernel
theorem dX5_calm_101 : decode cX5_calm 101 = .ok (.ifCond .eq 9, 3) := by decide +kernel
theorem dX5_calm_104 : decode cX5_calm 104 = .ok (.sipush (-10004), 3) := by decide +kernel
theorem dX5_calm_107 : decode cX5_calm 107 = .ok (.goto 5, 3) := by decide +kernel
theorem dX5_calm_110 : decode cX5_calm 110 = .ok (.iload 4, 2) := by decide +kernel
theorem dX5_calm_112 : decode cX5_calm 112 = .ok (.ireturn, 1) := by decide +kernel
theorem dX5_bestForAll_0 : decode cX5_bestForAll 0 = .ok (.iload_n 1, 1) := by decide +kernel
theorem dX5_bestForAll_1 : decode cX5_bestForAll 1 = .ok (.iconst 0, 1) := by decide +kernel
theorem dX5_bestForAll_2 : decode cX5_bestForAll 2 = .ok (.iconst 1, 1) := by decide +kernel
theorem dX5_bestForAll_3 : decode cX5_bestForAll 3 = .ok (.invokestatic 53, 3) := by decide +kernel
theorem dX5_bestForAll_6 : decode cX5_bestForAll 6 = .ok (.ifCond .ne 7, 3) := by decide +kernel
theorem dX5_bestForAll_9 : decode cX5_bestForAll 9 = .ok (.sipush (-10001), 3) := by decide +kernel
theorem dX5_bestForAll_12 : decode cX5_bestForAll 12 = .ok (.ireturn, 1) := by decide +kernel
theorem dX5_bestForAll_13 : decode cX5_bestForAll 13 = .ok (.iconst 0, 1) := by decide +kernel
theorem dX5_bestForAll_14 : decode cX5_bestForAll 14 = .ok (.istore_n 2, 1) := by decide +kernel
theorem dX5_bestForAll_15 : decode cX5_bestForAll 15 = .ok (.iconst 0, 1) := by decide +kernel
theorem dX5_bestForAll_16 : decode cX5_bestForAll 16 = .ok (.istore_n 3, 1) := by decide +kernel
theorem dX5_bestForAll_17 : decode cX5_bestForAll 17 = .ok (.iconst 0, 1) := by decide +kernel
theorem dX5_bestForAll_18 : decode cX5_bestForAll 18 = .ok (.istore 4, 2) := by decide +kernel
theorem dX5_bestForAll_20 : decode cX5_bestForAll 20 = .ok (.iconst 1, 1) := by decide +kernel
theorem dX5_bestForAll_21 : decode cX5_bestForAll 21 = .ok (.istore 5, 2) := by decide +kernel
theorem dX5_bestForAll_23 : decode cX5_bestForAll 23 = .ok (.iload 5, 2) := by decide +kernel
theorem dX5_bestForAll_25 : decode cX5_bestForAll 25 = .ok (.ifCond .eq 219, 3) := by decide +kernel
theorem dX5_bestForAll_28 : decode cX5_bestForAll 28 = .ok (.sipush (-10004), 3) := by decide +kernel
theorem dX5_bestForAll_31 : decode cX5_bestForAll 31 = .ok (.istore 6, 2) := by decide +kernel
theorem dX5_bestForAll_33 : decode cX5_bestForAll 33 = .ok (.iconst 0, 1) := by decide +kernel
theorem dX5_bestForAll_34 : decode cX5_bestForAll 34 = .ok (.istore 7, 2) := by decide +kernel
theorem dX5_bestForAll_36 : decode cX5_bestForAll 36 = .ok (.iload 7, 2) := by decide +kernel
theorem dX5_bestForAll_38 : decode cX5_bestForAll 38 = .ok (.aload_n 0, 1) := by decide +kernel
theorem dX5_bestForAll_39 : decode cX5_bestForAll 39 = .ok (.getfield 7, 3) := by decide +kernel
theorem dX5_bestForAll_42 : decode cX5_bestForAll 42 = .ok (.iconst 5, 1) := by decide +kernel
theorem dX5_bestForAll_43 : decode cX5_bestForAll 43 = .ok (.iaload, 1) := by decide +kernel
theorem dX5_bestForAll_44 : decode cX5_bestForAll 44 = .ok (.if_icmp .ge 72, 3) := by decide +kernel
theorem dX5_bestForAll_47 : decode cX5_bestForAll 47 = .ok (.aload_n 0, 1) := by decide +kernel
theorem dX5_bestForAll_48 : decode cX5_bestForAll 48 = .ok (.iload 7, 2) := by decide +kernel
theorem dX5_bestForAll_50 : decode cX5_bestForAll 50 = .ok (.bipush 6, 2) := by decide +kernel
theorem dX5_bestForAll_52 : decode cX5_bestForAll 52 = .ok (.invokevirtual 39, 3) := by decide +kernel
theorem dX5_bestForAll_55 : decode cX5_bestForAll 55 = .ok (.ifCond .ne 16, 3) := by decide +kernel
theorem dX5_bestForAll_58 : decode cX5_bestForAll 58 = .ok (.iload_n 2, 1) := by decide +kernel
theorem dX5_bestForAll_59 : decode cX5_bestForAll 59 = .ok (.iload 7, 2) := by decide +kernel
theorem dX5_bestForAll_61 : decode cX5_bestForAll 61 = .ok (.ishr, 1) := by decide +kernel
theorem dX5_bestForAll_62 : decode cX5_bestForAll 62 = .ok (.iconst 1, 1) := by decide +kernel
theorem dX5_bestForAll_63 : decode cX5_bestForAll 63 = .ok (.iand, 1) := by decide +kernel
theorem dX5_bestForAll_64 : decode cX5_bestForAll 64 = .ok (.ifCond .ne 7, 3) := by decide +kernel
theorem dX5_bestForAll_67 : decode cX5_bestForAll 67 = .ok (.iconst 1, 1) := by decide +kernel
theorem dX5_bestForAll_68 : decode cX5_bestForAll 68 = .ok (.goto 4, 3) := by decide +kernel
theorem dX5_bestForAll_71 : decode cX5_bestForAll 71 = .ok (.iconst 0, 1) := by decide +kernel
theorem dX5_bestForAll_72 : decode cX5_bestForAll 72 = .ok (.istore 8, 2) := by decide +kernel
theorem dX5_bestForAll_74 : decode cX5_bestForAll 74 = .ok (.iload 8, 2) := by decide +kernel
theorem dX5_bestForAll_76 : decode cX5_bestForAll 76 = .ok (.ifCond .eq 30, 3) := by decide +kernel
theorem dX5_bestForAll_79 : decode cX5_bestForAll 79 = .ok (.iload 6, 2) := by decide +kernel
theorem dX5_bestForAll_81 : decode cX5_bestForAll 81 = .ok (.ifCond .lt 20, 3) := by decide +kernel
theorem dX5_bestForAll_84 : decode cX5_bestForAll 84 = .ok (.aload_n 0, 1) := by decide +kernel
theorem dX5_bestForAll_85 : decode cX5_bestForAll 85 = .ok (.iload 7, 2) := by decide +kernel
theorem dX5_bestForAll_87 : decode cX5_bestForAll 87 = .ok (.iconst 0, 1) := by decide +kernel
theorem dX5_bestForAll_88 : decode cX5_bestForAll 88 = .ok (.invokevirtual 39, 3) := by decide +kernel
theorem dX5_bestForAll_91 : decode cX5_bestForAll 91 = .ok (.aload_n 0, 1) := by decide +kernel
theorem dX5_bestForAll_92 : decode cX5_bestForAll 92 = .ok (.iload 6, 2) := by decide +kernel
theorem dX5_bestForAll_94 : decode cX5_bestForAll 94 = .ok (.iconst 0, 1) := by decide +kernel
theorem dX5_bestForAll_95 : decode cX5_bestForAll 95 = .ok (.invokevirtual 39, 3) := by decide +kernel
theorem dX5_bestForAll_98 : decode cX5_bestForAll 98 = .ok (.if_icmp .le 8, 3) := by decide +kernel
theorem dX5_bestForAll_101 : decode cX5_bestForAll 101 = .ok (.iload 7, 2) := by decide +kernel
theorem dX5_bestForAll_103 : decode cX5_bestForAll 103 = .ok (.goto 5, 3) := by decide +kernel
theorem dX5_bestForAll_106 : decode cX5_bestForAll 106 = .ok (.iload 6, 2) := by decide +kernel
theorem dX5_bestForAll_108 : decode cX5_bestForAll 108 = .ok (.istore 6, 2) := by decide +kernel
theorem dX5_bestForAll_110 : decode cX5_bestForAll 110 = .ok (.iinc 7 1, 3) := by decide +kernel
theorem dX5_bestForAll_113 : decode cX5_bestForAll 113 = .ok (.goto (-77), 3) := by decide +kernel
theorem dX5_bestForAll_116 : decode cX5_bestForAll 116 = .ok (.iload 6, 2) := by decide +kernel
theorem dX5_bestForAll_118 : decode cX5_bestForAll 118 = .ok (.ifCond .lt 7, 3) := by decide +kernel
theorem dX5_bestForAll_121 : decode cX5_bestForAll 121 = .ok (.iconst 1, 1) := by decide +kernel
theorem dX5_bestForAll_122 : decode cX5_bestForAll 122 = .ok (.goto 4, 3) := by decide +kernel
theorem dX5_bestForAll_125 : decode cX5_bestForAll 125 = .ok (.iconst 0, 1) := by decide +kernel
theorem dX5_bestForAll_126 : decode cX5_bestForAll 126 = .ok (.istore 5, 2) := by decide +kernel
theorem dX5_bestForAll_128 : decode cX5_bestForAll 128 = .ok (.iconst 0, 1) := by decide +kernel
theorem dX5_bestForAll_129 : decode cX5_bestForAll 129 = .ok (.istore 7, 2) := by decide +kernel
theorem dX5_bestForAll_131 : decode cX5_bestForAll 131 = .ok (.iload 5, 2) := by decide +kernel
theorem dX5_bestForAll_133 : decode cX5_bestForAll 133 = .ok (.ifCond .eq 92, 3) := by decide +kernel
theorem dX5_bestForAll_136 : decode cX5_bestForAll 136 = .ok (.iload 7, 2) := by decide +kernel
theorem dX5_bestForAll_138 : decode cX5_bestForAll 138 = .ok (.bipush 20, 2) := by decide +kernel
theorem dX5_bestForAll_140 : decode cX5_bestForAll 140 = .ok (.if_icmp .ge 85, 3) := by decide +kernel
theorem dX5_bestForAll_143 : decode cX5_bestForAll 143 = .ok (.aload_n 0, 1) := by decide +kernel
theorem dX5_bestForAll_144 : decode cX5_bestForAll 144 = .ok (.iload 6, 2) := by decide +kernel
theorem dX5_bestForAll_146 : decode cX5_bestForAll 146 = .ok (.iconst 0, 1) := by decide +kernel
theorem dX5_bestForAll_147 : decode cX5_bestForAll 147 = .ok (.invokevirtual 39, 3) := by decide +kernel
theorem dX5_bestForAll_150 : decode cX5_bestForAll 150 = .ok (.aload_n 0, 1) := by decide +kernel
theorem dX5_bestForAll_151 : decode cX5_bestForAll 151 = .ok (.iload_n 3, 1) := by decide +kernel
theorem dX5_bestForAll_152 : decode cX5_bestForAll 152 = .ok (.iconst 1, 1) := by decide +kernel
theorem dX5_bestForAll_153 : decode cX5_bestForAll 153 = .ok (.iadd, 1) := by decide +kernel
theorem dX5_bestForAll_154 : decode cX5_bestForAll 154 = .ok (.invokevirtual 50, 3) := by decide +kernel
theorem dX5_bestForAll_157 : decode cX5_bestForAll 157 = .ok (.aload_n 0, 1) := by decide +kernel
theorem dX5_bestForAll_158 : decode cX5_bestForAll 158 = .ok (.iload_n 3, 1) := by decide +kernel
theorem dX5_bestForAll_159 : decode cX5_bestForAll 159 = .ok (.invokevirtual 50, 3) := by decide +kernel
theorem dX5_bestForAll_162 : decode cX5_bestForAll 162 = .ok (.isub, 1) := by decide +kernel
theorem dX5_bestForAll_163 : decode cX5_bestForAll 163 = .ok (.if_icmp .le 7, 3) := by decide +kernel
theorem dX5_bestForAll_166 : decode cX5_bestForAll 166 = .ok (.iconst 1, 1) := by decide +kernel
theorem dX5_bestForAll_167 : decode cX5_bestForAll 167 = .ok (.goto 4, 3) := by decide +kernel
theorem dX5_bestForAll_170 : decode cX5_bestForAll 170 = .ok (.iconst 0, 1) := by decide +kernel
theorem dX5_bestForAll_171 : decode cX5_bestForAll 171 = .ok (.istore 5, 2) := by decide +kernel
theorem dX5_bestForAll_173 : decode cX5_bestForAll 173 = .ok (.iload_n 3, 1) := by decide +kernel
theorem dX5_bestForAll_174 : decode cX5_bestForAll 174 = .ok (.iload 5, 2) := by decide +kernel
theorem dX5_bestForAll_176 : decode cX5_bestForAll 176 = .ok (.ifCond .eq 7, 3) := by decide +kernel
theorem dX5_bestForAll_179 : decode cX5_bestForAll 179 = .ok (.iconst 1, 1) := by decide +kernel
theorem dX5_bestForAll_180 : decode cX5_bestForAll 180 = .ok (.goto 4, 3) := by decide +kernel
theorem dX5_bestForAll_183 : decode cX5_bestForAll 183 = .ok (.iconst 0, 1) := by decide +kernel
theorem dX5_bestForAll_184 : decode cX5_bestForAll 184 = .ok (.iadd, 1) := by decide +kernel
theorem dX5_bestForAll_185 : decode cX5_bestForAll 185 = .ok (.istore_n 3, 1) := by decide +kernel
theorem dX5_bestForAll_186 : decode cX5_bestForAll 186 = .ok (.iload 4, 2) := by decide +kernel
theorem dX5_bestForAll_188 : decode cX5_bestForAll 188 = .ok (.iload 5, 2) := by decide +kernel
theorem dX5_bestForAll_190 : decode cX5_bestForAll 190 = .ok (.ifCond .eq 13, 3) := by decide +kernel
theorem dX5_bestForAll_193 : decode cX5_bestForAll 193 = .ok (.aload_n 0, 1) := by decide +kernel
theorem dX5_bestForAll_194 : decode cX5_bestForAll 194 = .ok (.iload 6, 2) := by decide +kernel
theorem dX5_bestForAll_196 : decode cX5_bestForAll 196 = .ok (.iconst 0, 1) := by decide +kernel
theorem dX5_bestForAll_197 : decode cX5_bestForAll 197 = .ok (.invokevirtual 39, 3) := by decide +kernel
theorem dX5_bestForAll_200 : decode cX5_bestForAll 200 = .ok (.goto 4, 3) := by decide +kernel
theorem dX5_bestForAll_203 : decode cX5_bestForAll 203 = .ok (.iconst 0, 1) := by decide +kernel
theorem dX5_bestForAll_204 : decode cX5_bestForAll 204 = .ok (.iadd, 1) := by decide +kernel
theorem dX5_bestForAll_205 : decode cX5_bestForAll 205 = .ok (.istore 4, 2) := by decide +kernel
theorem dX5_bestForAll_207 : decode cX5_bestForAll 207 = .ok (.iload 7, 2) := by decide +kernel
theorem dX5_bestForAll_209 : decode cX5_bestForAll 209 = .ok (.iload 5, 2) := by decide +kernel
theorem dX5_bestForAll_211 : decode cX5_bestForAll 211 = .ok (.ifCond .eq 7, 3) := by decide +kernel
theorem dX5_bestForAll_214 : decode cX5_bestForAll 214 = .ok (.iconst 1, 1) := by decide +kernel
theorem dX5_bestForAll_215 : decode cX5_bestForAll 215 = .ok (.goto 4, 3) := by decide +kernel
theorem dX5_bestForAll_218 : decode cX5_bestForAll 218 = .ok (.iconst 0, 1) := by decide +kernel
theorem dX5_bestForAll_219 : decode cX5_bestForAll 219 = .ok (.iadd, 1) := by decide +kernel
theorem dX5_bestForAll_220 : decode cX5_bestForAll 220 = .ok (.istore 7, 2) := by decide +kernel
theorem dX5_bestForAll_222 : decode cX5_bestForAll 222 = .ok (.goto (-91), 3) := by decide +kernel
theorem dX5_bestForAll_225 : decode cX5_bestForAll 225 = .ok (.iload_n 2, 1) := by decide +kernel
theorem dX5_bestForAll_226 : decode cX5_bestForAll 226 = .ok (.iload 5, 2) := by decide +kernel
theorem dX5_bestForAll_228 : decode cX5_bestForAll 228 = .ok (.ifCond .eq 10, 3) := by decide +kernel
theorem dX5_bestForAll_231 : decode cX5_bestForAll 231 = .ok (.iconst 1, 1) := by decide +kernel
theorem dX5_bestForAll_232 : decode cX5_bestForAll 232 = .ok (.iload 6, 2) := by decide +kernel
theorem dX5_bestForAll_234 : decode cX5_bestForAll 234 = .ok (.ishl, 1) := by decide +kernel
theorem dX5_bestForAll_235 : decode cX5_bestForAll 235 = .ok (.goto 4, 3) := by decide +kernel
theorem dX5_bestForAll_238 : decode cX5_bestForAll 238 = .ok (.iconst 0, 1) := by decide +kernel
theorem dX5_bestForAll_239 : decode cX5_bestForAll 239 = .ok (.ior, 1) := by decide +kernel
theorem dX5_bestForAll_240 : decode cX5_bestForAll 240 = .ok (.istore_n 2, 1) := by decide +kernel
theorem dX5_bestForAll_241 : decode cX5_bestForAll 241 = .ok (.goto (-218), 3) := by decide +kernel
theorem dX5_bestForAll_244 : decode cX5_bestForAll 244 = .ok (.iload_n 1, 1) := by decide +kernel
theorem dX5_bestForAll_245 : decode cX5_bestForAll 245 = .ok (.ifCond .ne 7, 3) := by decide +kernel
theorem dX5_bestForAll_248 : decode cX5_bestForAll 248 = .ok (.iload_n 3, 1) := by decide +kernel
theorem dX5_bestForAll_249 : decode cX5_bestForAll 249 = .ok (.goto 11, 3) := by decide +kernel
theorem dX5_bestForAll_252 : decode cX5_bestForAll 252 = .ok (.iload 4, 2) := by decide +kernel
theorem dX5_bestForAll_254 : decode cX5_bestForAll 254 = .ok (.aload_n 0, 1) := by decide +kernel
theorem dX5_bestForAll_255 : decode cX5_bestForAll 255 = .ok (.iload_n 3, 1) := by decide +kernel
theorem dX5_bestForAll_256 : decode cX5_bestForAll 256 = .ok (.invokevirtual 50, 3) := by decide +kernel
theorem dX5_bestForAll_259 : decode cX5_bestForAll 259 = .ok (.isub, 1) := by decide +kernel
theorem dX5_bestForAll_260 : decode cX5_bestForAll 260 = .ok (.ireturn, 1) := by decide +kernel
theorem dX5_wouldExclude_0 : decode cX5_wouldExclude 0 = .ok (.aload_n 0, 1) := by decide +kernel
theorem dX5_wouldExclude_1 : decode cX5_wouldExclude 1 = .ok (.getfield 7, 3) := by decide +kernel
theorem dX5_wouldExclude_4 : decode cX5_wouldExclude 4 = .ok (.iconst 5, 1) := by decide +kernel
theorem dX5_wouldExclude_5 : decode cX5_wouldExclude 5 = .ok (.iaload, 1) := by decide +kernel
theorem dX5_wouldExclude_6 : decode cX5_wouldExclude 6 = .ok (.ifCond .ne 5, 3) := by decide +kernel
theorem dX5_wouldExclude_9 : decode cX5_wouldExclude 9 = .ok (.iconst 0, 1) := by decide +kernel
theorem dX5_wouldExclude_10 : decode cX5_wouldExclude 10 = .ok (.ireturn, 1) := by decide +kernel
theorem dX5_wouldExclude_11 : decode cX5_wouldExclude 11 = .ok (.aload_n 0, 1) := by decide +kernel
theorem dX5_wouldExclude_12 : decode cX5_wouldExclude 12 = .ok (.getfield 7, 3) := by decide +kernel
theorem dX5_wouldExclude_15 : decode cX5_wouldExclude 15 = .ok (.aload_n 0, 1) := by decide +kernel
theorem dX5_wouldExclude_16 : decode cX5_wouldExclude 16 = .ok (.getfield 16, 3) := by decide +kernel
theorem dX5_wouldExclude_19 : decode cX5_wouldExclude 19 = .ok (.invokestatic 98, 3) := by decide +kernel
theorem dX5_wouldExclude_22 : decode cX5_wouldExclude 22 = .ok (.aload_n 0, 1) := by decide +kernel
theorem dX5_wouldExclude_23 : decode cX5_wouldExclude 23 = .ok (.invokevirtual 86, 3) := by decide +kernel
theorem dX5_wouldExclude_26 : decode cX5_wouldExclude 26 = .ok (.pop, 1) := by decide +kernel
theorem dX5_wouldExclude_27 : decode cX5_wouldExclude 27 = .ok (.aload_n 0, 1) := by decide +kernel
theorem dX5_wouldExclude_28 : decode cX5_wouldExclude 28 = .ok (.invokevirtual 74, 3) := by decide +kernel
theorem dX5_wouldExclude_31 : decode cX5_wouldExclude 31 = .ok (.istore_n 1, 1) := by decide +kernel
theorem dX5_wouldExclude_32 : decode cX5_wouldExclude 32 = .ok (.aload_n 0, 1) := by decide +kernel
theorem dX5_wouldExclude_33 : decode cX5_wouldExclude 33 = .ok (.getfield 16, 3) := by decide +kernel
theorem dX5_wouldExclude_36 : decode cX5_wouldExclude 36 = .ok (.aload_n 0, 1) := by decide +kernel
theorem dX5_wouldExclude_37 : decode cX5_wouldExclude 37 = .ok (.getfield 7, 3) := by decide +kernel
theorem dX5_wouldExclude_40 : decode cX5_wouldExclude 40 = .ok (.invokestatic 98, 3) := by decide +kernel
theorem dX5_wouldExclude_43 : decode cX5_wouldExclude 43 = .ok (.iload_n 1, 1) := by decide +kernel
theorem dX5_wouldExclude_44 : decode cX5_wouldExclude 44 = .ok (.ireturn, 1) := by decide +kernel
theorem dX5_canRepair_0 : decode cX5_canRepair 0 = .ok (.aload_n 0, 1) := by decide +kernel
theorem dX5_canRepair_1 : decode cX5_canRepair 1 = .ok (.getfield 7, 3) := by decide +kernel
theorem dX5_canRepair_4 : decode cX5_canRepair 4 = .ok (.bipush 8, 2) := by decide +kernel
theorem dX5_canRepair_6 : decode cX5_canRepair 6 = .ok (.iaload, 1) := by decide +kernel
theorem dX5_canRepair_7 : decode cX5_canRepair 7 = .ok (.aload_n 0, 1) := by decide +kernel
theorem dX5_canRepair_8 : decode cX5_canRepair 8 = .ok (.getfield 7, 3) := by decide +kernel
theorem dX5_canRepair_11 : decode cX5_canRepair 11 = .ok (.iconst 4, 1) := by decide +kernel
theorem dX5_canRepair_12 : decode cX5_canRepair 12 = .ok (.iaload, 1) := by decide +kernel
theorem dX5_canRepair_13 : decode cX5_canRepair 13 = .ok (.idiv, 1) := by decide +kernel
theorem dX5_canRepair_14 : decode cX5_canRepair 14 = .ok (.istore_n 1, 1) := by decide +kernel
theorem dX5_canRepair_15 : decode cX5_canRepair 15 = .ok (.iload_n 1, 1) := by decide +kernel
theorem dX5_canRepair_16 : decode cX5_canRepair 16 = .ok (.bipush 100, 2) := by decide +kernel
theorem dX5_canRepair_18 : decode cX5_canRepair 18 = .ok (.aload_n 0, 1) := by decide +kernel
theorem dX5_canRepair_19 : decode cX5_canRepair 19 = .ok (.getfield 7, 3) := by decide +kernel
theorem dX5_canRepair_22 : decode cX5_canRepair 22 = .ok (.bipush 7, 2) := by decide +kernel
theorem dX5_canRepair_24 : decode cX5_canRepair 24 = .ok (.iaload, 1) := by decide +kernel
theorem dX5_canRepair_25 : decode cX5_canRepair 25 = .ok (.isub, 1) := by decide +kernel
theorem dX5_canRepair_26 : decode cX5_canRepair 26 = .ok (.if_icmp .le 16, 3) := by decide +kernel
theorem dX5_canRepair_29 : decode cX5_canRepair 29 = .ok (.bipush 100, 2) := by decide +kernel
theorem dX5_canRepair_31 : decode cX5_canRepair 31 = .ok (.aload_n 0, 1) := by decide +kernel
theorem dX5_canRepair_32 : decode cX5_canRepair 32 = .ok (.getfield 7, 3) := by decide +kernel
theorem dX5_canRepair_35 : decode cX5_canRepair 35 = .ok (.bipush 7, 2) := by decide +kernel
theorem dX5_canRepair_37 : decode cX5_canRepair 37 = .ok (.iaload, 1) := by decide +kernel
theorem dX5_canRepair_38 : decode cX5_canRepair 38 = .ok (.isub, 1) := by decide +kernel
theorem dX5_canRepair_39 : decode cX5_canRepair 39 = .ok (.goto 4, 3) := by decide +kernel
theorem dX5_canRepair_42 : decode cX5_canRepair 42 = .ok (.iload_n 1, 1) := by decide +kernel
theorem dX5_canRepair_43 : decode cX5_canRepair 43 = .ok (.ireturn, 1) := by decide +kernel
theorem dX5_undo_0 : decode cX5_undo 0 = .ok (.aload_n 0, 1) := by decide +kernel
theorem dX5_undo_1 : decode cX5_undo 1 = .ok (.getfield 35, 3) := by decide +kernel
theorem dX5_undo_4 : decode cX5_undo 4 = .ok (.ifCond .ne 7, 3) := by decide +kernel
theorem dX5_undo_7 : decode cX5_undo 7 = .ok (.sipush (-10002), 3) := by decide +kernel
theorem dX5_undo_10 : decode cX5_undo 10 = .ok (.ireturn, 1) := by decide +kernel
theorem dX5_undo_11 : decode cX5_undo 11 = .ok (.aload_n 0, 1) := by decide +kernel
theorem dX5_undo_12 : decode cX5_undo 12 = .ok (.dup, 1) := by decide +kernel
theorem dX5_undo_13 : decode cX5_undo 13 = .ok (.getfield 35, 3) := by decide +kernel
theorem dX5_undo_16 : decode cX5_undo 16 = .ok (.iconst 1, 1) := by decide +kernel
theorem dX5_undo_17 : decode cX5_undo 17 = .ok (.isub, 1) := by decide +kernel
theorem dX5_undo_18 : decode cX5_undo 18 = .ok (.putfield 35, 3) := by decide +kernel
theorem dX5_undo_21 : decode cX5_undo 21 = .ok (.iconst 0, 1) := by decide +kernel
theorem dX5_undo_22 : decode cX5_undo 22 = .ok (.istore_n 1, 1) := by decide +kernel
theorem dX5_undo_23 : decode cX5_undo 23 = .ok (.iload_n 1, 1) := by decide +kernel
theorem dX5_undo_24 : decode cX5_undo 24 = .ok (.bipush 107, 2) := by decide +kernel
theorem dX5_undo_26 : decode cX5_undo 26 = .ok (.if_icmp .ge 29, 3) := by decide +kernel
theorem dX5_undo_29 : decode cX5_undo 29 = .ok (.aload_n 0, 1) := by decide +kernel
theorem dX5_undo_30 : decode cX5_undo 30 = .ok (.getfield 7, 3) := by decide +kernel
theorem dX5_undo_33 : decode cX5_undo 33 = .ok (.iload_n 1, 1) := by decide +kernel
theorem dX5_undo_34 : decode cX5_undo 34 = .ok (.aload_n 0, 1) := by decide +kernel
theorem dX5_undo_35 : decode cX5_undo 35 = .ok (.getfield 13, 3) := by decide +kernel
theorem dX5_undo_38 : decode cX5_undo 38 = .ok (.bipush 107, 2) := by decide +kernel
theorem dX5_undo_40 : decode cX5_undo 40 = .ok (.aload_n 0, 1) := by decide +kernel
theorem dX5_undo_41 : decode cX5_undo 41 = .ok (.getfield 35, 3) := by decide +kernel
theorem dX5_undo_44 : decode cX5_undo 44 = .ok (.imul, 1) := by decide +kernel
theorem dX5_undo_45 : decode cX5_undo 45 = .ok (.iload_n 1, 1) := by decide +kernel
theorem dX5_undo_46 : decode cX5_undo 46 = .ok (.iadd, 1) := by decide +kernel
theorem dX5_undo_47 : decode cX5_undo 47 = .ok (.iaload, 1) := by decide +kernel
theorem dX5_undo_48 : decode cX5_undo 48 = .ok (.iastore, 1) := by decide +kernel
theorem dX5_undo_49 : decode cX5_undo 49 = .ok (.iinc 1 1, 3) := by decide +kernel
theorem dX5_undo_52 : decode cX5_undo 52 = .ok (.goto (-29), 3) := by decide +kernel
theorem dX5_undo_55 : decode cX5_undo 55 = .ok (.aload_n 0, 1) := by decide +kernel
theorem dX5_undo_56 : decode cX5_undo 56 = .ok (.getfield 35, 3) := by decide +kernel
theorem dX5_undo_59 : decode cX5_undo 59 = .ok (.ireturn, 1) := by decide +kernel
theorem dX5_type_0 : decode cX5_type 0 = .ok (.iload_n 1, 1) := by decide +kernel
theorem dX5_type_1 : decode cX5_type 1 = .ok (.bipush 32, 2) := by decide +kernel
theorem dX5_type_3 : decode cX5_type 3 = .ok (.bipush 126, 2) := by decide +kernel
theorem dX5_type_5 : decode cX5_type 5 = .ok (.invokestatic 53, 3) := by decide +kernel
theorem dX5_type_8 : decode cX5_type 8 = .ok (.ifCond .ne 7, 3) := by decide +kernel
theorem dX5_type_11 : decode cX5_type 11 = .ok (.sipush (-10001), 3) := by decide +kernel
theorem dX5_type_14 : decode cX5_type 14 = .ok (.ireturn, 1) := by decide +kernel
theorem dX5_type_15 : decode cX5_type 15 = .ok (.aload_n 0, 1) := by decide +kernel
theorem dX5_type_16 : decode cX5_type 16 = .ok (.getfield 89, 3) := by decide +kernel
theorem dX5_type_19 : decode cX5_type 19 = .ok (.bipush 60, 2) := by decide +kernel
theorem dX5_type_21 : decode cX5_type 21 = .ok (.if_icmp .ne 7, 3) := by decide +kernel
theorem dX5_type_24 : decode cX5_type 24 = .ok (.sipush (-10003), 3) := by decide +kernel
theorem dX5_type_27 : decode cX5_type 27 = .ok (.ireturn, 1) := by decide +kernel
theorem dX5_type_28 : decode cX5_type 28 = .ok (.aload_n 0, 1) := by decide +kernel
theorem dX5_type_29 : decode cX5_type 29 = .ok (.getfield 19, 3) := by decide +kernel
theorem dX5_type_32 : decode cX5_type 32 = .ok (.aload_n 0, 1) := by decide +kernel
theorem dX5_type_33 : decode cX5_type 33 = .ok (.getfield 89, 3) := by decide +kernel
theorem dX5_type_36 : decode cX5_type 36 = .ok (.iload_n 1, 1) := by decide +kernel
theorem dX5_type_37 : decode cX5_type 37 = .ok (.iastore, 1) := by decide +kernel
theorem dX5_type_38 : decode cX5_type 38 = .ok (.aload_n 0, 1) := by decide +kernel
theorem dX5_type_39 : decode cX5_type 39 = .ok (.dup, 1) := by decide +kernel
theorem dX5_type_40 : decode cX5_type 40 = .ok (.getfield 89, 3) := by decide +kernel
theorem dX5_type_43 : decode cX5_type 43 = .ok (.iconst 1, 1) := by decide +kernel
theorem dX5_type_44 : decode cX5_type 44 = .ok (.iadd, 1) := by decide +kernel
theorem dX5_type_45 : decode cX5_type 45 = .ok (.putfield 89, 3) := by decide +kernel
theorem dX5_type_48 : decode cX5_type 48 = .ok (.aload_n 0, 1) := by decide +kernel
theorem dX5_type_49 : decode cX5_type 49 = .ok (.getfield 89, 3) := by decide +kernel
theorem dX5_type_52 : decode cX5_type 52 = .ok (.ireturn, 1) := by decide +kernel
theorem dX5_clearText_0 : decode cX5_clearText 0 = .ok (.aload_n 0, 1) := by decide +kernel
theorem dX5_clearText_1 : decode cX5_clearText 1 = .ok (.getfield 89, 3) := by decide +kernel
theorem dX5_clearText_4 : decode cX5_clearText 4 = .ok (.istore_n 1, 1) := by decide +kernel
theorem dX5_clearText_5 : decode cX5_clearText 5 = .ok (.aload_n 0, 1) := by decide +kernel
theorem dX5_clearText_6 : decode cX5_clearText 6 = .ok (.iconst 0, 1) := by decide +kernel
theorem dX5_clearText_7 : decode cX5_clearText 7 = .ok (.putfield 89, 3) := by decide +kernel
theorem dX5_clearText_10 : decode cX5_clearText 10 = .ok (.iload_n 1, 1) := by decide +kernel
theorem dX5_clearText_11 : decode cX5_clearText 11 = .ok (.ireturn, 1) := by decide +kernel
theorem dX5_isAt_0 : decode cX5_isAt 0 = .ok (.aload_n 0, 1) := by decide +kernel
theorem dX5_isAt_1 : decode cX5_isAt 1 = .ok (.getfield 106, 3) := by decide +kernel
theorem dX5_isAt_4 : decode cX5_isAt 4 = .ok (.aload_n 0, 1) := by decide +kernel
theorem dX5_isAt_5 : decode cX5_isAt 5 = .ok (.getfield 89, 3) := by decide +kernel
theorem dX5_isAt_8 : decode cX5_isAt 8 = .ok (.if_icmp .ge 24, 3) := by decide +kernel
theorem dX5_isAt_11 : decode cX5_isAt 11 = .ok (.aload_n 0, 1) := by decide +kernel
theorem dX5_isAt_12 : decode cX5_isAt 12 = .ok (.getfield 19, 3) := by decide +kernel
theorem dX5_isAt_15 : decode cX5_isAt 15 = .ok (.aload_n 0, 1) := by decide +kernel
theorem dX5_isAt_16 : decode cX5_isAt 16 = .ok (.getfield 106, 3) := by decide +kernel
theorem dX5_isAt_19 : decode cX5_isAt 19 = .ok (.iaload, 1) := by decide +kernel
theorem dX5_isAt_20 : decode cX5_isAt 20 = .ok (.iload_n 1, 1) := by decide +kernel
theorem dX5_isAt_21 : decode cX5_isAt 21 = .ok (.iload_n 2, 1) := by decide +kernel
theorem dX5_isAt_22 : decode cX5_isAt 22 = .ok (.invokestatic 53, 3) := by decide +kernel
theorem dX5_isAt_25 : decode cX5_isAt 25 = .ok (.ifCond .eq 7, 3) := by decide +kernel
theorem dX5_isAt_28 : decode cX5_isAt 28 = .ok (.iconst 1, 1) := by decide +kernel
theorem dX5_isAt_29 : decode cX5_isAt 29 = .ok (.goto 4, 3) := by decide +kernel
theorem dX5_isAt_32 : decode cX5_isAt 32 = .ok (.iconst 0, 1) := by decide +kernel
theorem dX5_isAt_33 : decode cX5_isAt 33 = .ok (.ireturn, 1) := by decide +kernel
theorem dX5_number_0 : decode cX5_number 0 = .ok (.aload_n 0, 1) := by decide +kernel
theorem dX5_number_1 : decode cX5_number 1 = .ok (.getfield 106, 3) := by decide +kernel
theorem dX5_number_4 : decode cX5_number 4 = .ok (.istore_n 3, 1) := by decide +kernel
theorem dX5_number_5 : decode cX5_number 5 = .ok (.aload_n 0, 1) := by decide +kernel
theorem dX5_number_6 : decode cX5_number 6 = .ok (.getfield 25, 3) := by decide +kernel
theorem dX5_number_9 : decode cX5_number 9 = .ok (.iload_n 1, 1) := by decide +kernel
theorem dX5_number_10 : decode cX5_number 10 = .ok (.iconst 0, 1) := by decide +kernel
theorem dX5_number_11 : decode cX5_number 11 = .ok (.iastore, 1) := by decide +kernel
theorem dX5_number_12 : decode cX5_number 12 = .ok (.aload_n 0, 1) := by decide +kernel
theorem dX5_number_13 : decode cX5_number 13 = .ok (.bipush 48, 2) := by decide +kernel
theorem dX5_number_15 : decode cX5_number 15 = .ok (.bipush 57, 2) := by decide +kernel
theorem dX5_number_17 : decode cX5_number 17 = .ok (.invokevirtual 109, 3) := by decide +kernel
theorem dX5_number_20 : decode cX5_number 20 = .ok (.ifCond .eq 54, 3) := by decide +kernel
theorem dX5_number_23 : decode cX5_number 23 = .ok (.aload_n 0, 1) := by decide +kernel
theorem dX5_number_24 : decode cX5_number 24 = .ok (.getfield 106, 3) := by decide +kernel
theorem dX5_number_27 : decode cX5_number 27 = .ok (.iload_n 3, 1) := by decide +kernel
theorem dX5_number_28 : decode cX5_number 28 = .ok (.isub, 1) := by decide +kernel
theorem dX5_number_29 : decode cX5_number 29 = .ok (.iconst 3, 1) := by decide +kernel
theorem dX5_number_30 : decode cX5_number 30 = .ok (.if_icmp .ge 44, 3) := by decide +kernel
theorem dX5_number_33 : decode cX5_number 33 = .ok (.aload_n 0, 1) := by decide +kernel
theorem dX5_number_34 : decode cX5_number 34 = .ok (.getfield 25, 3) := by decide +kernel
theorem dX5_number_37 : decode cX5_number 37 = .ok (.iload_n 1, 1) := by decide +kernel
theorem dX5_number_38 : decode cX5_number 38 = .ok (.bipush 10, 2) := by decide +kernel
theorem dX5_number_40 : decode cX5_number 40 = .ok (.aload_n 0, 1) := by decide +kernel
theorem dX5_number_41 : decode cX5_number 41 = .ok (.getfield 25, 3) := by decide +kernel
theorem dX5_number_44 : decode cX5_number 44 = .ok (.iload_n 1, 1) := by decide +kernel
theorem dX5_number_45 : decode cX5_number 45 = .ok (.iaload, 1) := by decide +kernel
theorem dX5_number_46 : decode cX5_number 46 = .ok (.imul, 1) := by decide +kernel
theorem dX5_number_47 : decode cX5_number 47 = .ok (.aload_n 0, 1) := by decide +kernel
theorem dX5_number_48 : decode cX5_number 48 = .ok (.getfield 19, 3) := by decide +kernel
theorem dX5_number_51 : decode cX5_number 51 = .ok (.aload_n 0, 1) := by decide +kernel
theorem dX5_number_52 : decode cX5_number 52 = .ok (.getfield 106, 3) := by decide +kernel
theorem dX5_number_55 : decode cX5_number 55 = .ok (.iaload, 1) := by decide +kernel
theorem dX5_number_56 : decode cX5_number 56 = .ok (.iadd, 1) := by decide +kernel
theorem dX5_number_57 : decode cX5_number 57 = .ok (.bipush 48, 2) := by decide +kernel
theorem dX5_number_59 : decode cX5_number 59 = .ok (.isub, 1) := by decide +kernel
theorem dX5_number_60 : decode cX5_number 60 = .ok (.iastore, 1) := by decide +kernel
theorem dX5_number_61 : decode cX5_number 61 = .ok (.aload_n 0, 1) := by decide +kernel
theorem dX5_number_62 : decode cX5_number 62 = .ok (.dup, 1) := by decide +kernel
theorem dX5_number_63 : decode cX5_number 63 = .ok (.getfield 106, 3) := by decide +kernel
theorem dX5_number_66 : decode cX5_number 66 = .ok (.iconst 1, 1) := by decide +kernel
theorem dX5_number_67 : decode cX5_number 67 = .ok (.iadd, 1) := by decide +kernel
theorem dX5_number_68 : decode cX5_number 68 = .ok (.putfield 106, 3) := by decide +kernel
theorem dX5_number_71 : decode cX5_number 71 = .ok (.goto (-59), 3) := by decide +kernel
theorem dX5_number_74 : decode cX5_number 74 = .ok (.aload_n 0, 1) := by decide +kernel
theorem dX5_number_75 : decode cX5_number 75 = .ok (.getfield 106, 3) := by decide +kernel
theorem dX5_number_78 : decode cX5_number 78 = .ok (.iload_n 3, 1) := by decide +kernel
theorem dX5_number_79 : decode cX5_number 79 = .ok (.if_icmp .le 16, 3) := by decide +kernel
theorem dX5_number_82 : decode cX5_number 82 = .ok (.aload_n 0, 1) := by decide +kernel
theorem dX5_number_83 : decode cX5_number 83 = .ok (.iload_n 2, 1) := by decide +kernel
theorem dX5_number_84 : decode cX5_number 84 = .ok (.iload_n 2, 1) := by decide +kernel
theorem dX5_number_85 : decode cX5_number 85 = .ok (.invokevirtual 109, 3) := by decide +kernel
theorem dX5_number_88 : decode cX5_number 88 = .ok (.ifCond .eq 7, 3) := by decide +kernel
theorem dX5_number_91 : decode cX5_number 91 = .ok (.iconst 1, 1) := by decide +kernel
theorem dX5_number_92 : decode cX5_number 92 = .ok (.goto 4, 3) := by decide +kernel
theorem dX5_number_95 : decode cX5_number 95 = .ok (.iconst 0, 1) := by decide +kernel
theorem dX5_number_96 : decode cX5_number 96 = .ok (.istore 4, 2) := by decide +kernel
theorem dX5_number_98 : decode cX5_number 98 = .ok (.aload_n 0, 1) := by decide +kernel
theorem dX5_number_99 : decode cX5_number 99 = .ok (.dup, 1) := by decide +kernel
theorem dX5_number_100 : decode cX5_number 100 = .ok (.getfield 106, 3) := by decide +kernel
theorem dX5_number_103 : decode cX5_number 103 = .ok (.iconst 1, 1) := by decide +kernel
theorem dX5_number_104 : decode cX5_number 104 = .ok (.iadd, 1) := by decide +kernel
theorem dX5_number_105 : decode cX5_number 105 = .ok (.putfield 106, 3) := by decide +kernel
theorem dX5_number_108 : decode cX5_number 108 = .ok (.iload 4, 2) := by decide +kernel
theorem dX5_number_110 : decode cX5_number 110 = .ok (.ireturn, 1) := by decide +kernel
theorem dX5_isForm_0 : decode cX5_isForm 0 = .ok (.aload_n 0, 1) := by decide +kernel
theorem dX5_isForm_1 : decode cX5_isForm 1 = .ok (.dup, 1) := by decide +kernel
theorem dX5_isForm_2 : decode cX5_isForm 2 = .ok (.getfield 106, 3) := by decide +kernel
theorem dX5_isForm_5 : decode cX5_isForm 5 = .ok (.iconst 1, 1) := by decide +kernel
theorem dX5_isForm_6 : decode cX5_isForm 6 = .ok (.iadd, 1) := by decide +kernel
theorem dX5_isForm_7 : decode cX5_isForm 7 = .ok (.putfield 106, 3) := by decide +kernel
theorem dX5_isForm_10 : decode cX5_isForm 10 = .ok (.iload_n 1, 1) := by decide +kernel
theorem dX5_isForm_11 : decode cX5_isForm 11 = .ok (.bipush 99, 2) := by decide +kernel
theorem dX5_isForm_13 : decode cX5_isForm 13 = .ok (.if_icmp .ne 24, 3) := by decide +kernel
theorem dX5_isForm_16 : decode cX5_isForm 16 = .ok (.aload_n 0, 1) := by decide +kernel
theorem dX5_isForm_17 : decode cX5_isForm 17 = .ok (.bipush 59, 2) := by decide +kernel
theorem dX5_isForm_19 : decode cX5_isForm 19 = .ok (.bipush 59, 2) := by decide +kernel
theorem dX5_isForm_21 : decode cX5_isForm 21 = .ok (.invokevirtual 109, 3) := by decide +kernel
theorem dX5_isForm_24 : decode cX5_isForm 24 = .ok (.istore_n 2, 1) := by decide +kernel
theorem dX5_isForm_25 : decode cX5_isForm 25 = .ok (.aload_n 0, 1) := by decide +kernel
theorem dX5_isForm_26 : decode cX5_isForm 26 = .ok (.dup, 1) := by decide +kernel
theorem dX5_isForm_27 : decode cX5_isForm 27 = .ok (.getfield 106, 3) := by decide +kernel
theorem dX5_isForm_30 : decode cX5_isForm 30 = .ok (.iconst 1, 1) := by decide +kernel
theorem dX5_isForm_31 : decode cX5_isForm 31 = .ok (.iadd, 1) := by decide +kernel
theorem dX5_isForm_32 : decode cX5_isForm 32 = .ok (.putfield 106, 3) := by decide +kernel
theorem dX5_isForm_35 : decode cX5_isForm 35 = .ok (.iload_n 2, 1) := by decide +kernel
theorem dX5_isForm_36 : decode cX5_isForm 36 = .ok (.ireturn, 1) := by decide +kernel
theorem dX5_isForm_37 : decode cX5_isForm 37 = .ok (.iload_n 1, 1) := by decide +kernel
theorem dX5_isForm_38 : decode cX5_isForm 38 = .ok (.bipush 109, 2) := by decide +kernel
theorem dX5_isForm_40 : decode cX5_isForm 40 = .ok (.if_icmp .eq 9, 3) := by decide +kernel
theorem dX5_isForm_43 : decode cX5_isForm 43 = .ok (.iload_n 1, 1) := by decide +kernel
theorem dX5_isForm_44 : decode cX5_isForm 44 = .ok (.bipush 114, 2) := by decide +kernel
theorem dX5_isForm_46 : decode cX5_isForm 46 = .ok (.if_icmp .ne 11, 3) := by decide +kernel
theorem dX5_isForm_49 : decode cX5_isForm 49 = .ok (.aload_n 0, 1) := by decide +kernel
theorem dX5_isForm_50 : decode cX5_isForm 50 = .ok (.iconst 0, 1) := by decide +kernel
theorem dX5_isForm_51 : decode cX5_isForm 51 = .ok (.bipush 59, 2) := by decide +kernel
theorem dX5_isForm_53 : decode cX5_isForm 53 = .ok (.invokevirtual 113, 3) := by decide +kernel
theorem dX5_isForm_56 : decode cX5_isForm 56 = .ok (.ireturn, 1) := by decide +kernel
theorem dX5_isForm_57 : decode cX5_isForm 57 = .ok (.iload_n 1, 1) := by decide +kernel
theorem dX5_isForm_58 : decode cX5_isForm 58 = .ok (.bipush 117, 2) := by decide +kernel
theorem dX5_isForm_60 : decode cX5_isForm 60 = .ok (.if_icmp .eq 9, 3) := by decide +kernel
theorem dX5_isForm_63 : decode cX5_isForm 63 = .ok (.iload_n 1, 1) := by decide +kernel
theorem dX5_isForm_64 : decode cX5_isForm 64 = .ok (.bipush 112, 2) := by decide +kernel
theorem dX5_isForm_66 : decode cX5_isForm 66 = .ok (.if_icmp .ne 27, 3) := by decide +kernel
theorem dX5_isForm_69 : decode cX5_isForm 69 = .ok (.aload_n 0, 1) := by decide +kernel
theorem dX5_isForm_70 : decode cX5_isForm 70 = .ok (.iconst 0, 1) := by decide +kernel
theorem dX5_isForm_71 : decode cX5_isForm 71 = .ok (.bipush 44, 2) := by decide +kernel
theorem dX5_isForm_73 : decode cX5_isForm 73 = .ok (.invokevirtual 113, 3) := by decide +kernel
theorem dX5_isForm_76 : decode cX5_isForm 76 = .ok (.ifCond .eq 17, 3) := by decide +kernel
theorem dX5_isForm_79 : decode cX5_isForm 79 = .ok (.aload_n 0, 1) := by decide +kernel
theorem dX5_isForm_80 : decode cX5_isForm 80 = .ok (.iconst 1, 1) := by decide +kernel
theorem dX5_isForm_81 : decode cX5_isForm 81 = .ok (.bipush 59, 2) := by decide +kernel
theorem dX5_isForm_83 : decode cX5_isForm 83 = .ok (.invokevirtual 113, 3) := by decide +kernel
theorem dX5_isForm_86 : decode cX5_isForm 86 = .ok (.ifCond .eq 7, 3) := by decide +kernel
theorem dX5_isForm_89 : decode cX5_isForm 89 = .ok (.iconst 1, 1) := by decide +kernel
theorem dX5_isForm_90 : decode cX5_isForm 90 = .ok (.goto 4, 3) := by decide +kernel
theorem dX5_isForm_93 : decode cX5_isForm 93 = .ok (.iconst 0, 1) := by decide +kernel
theorem dX5_isForm_94 : decode cX5_isForm 94 = .ok (.ireturn, 1) := by decide +kernel
theorem dX5_calls_0 : decode cX5_calls 0 = .ok (.iload_n 1, 1) := by decide +kernel
theorem dX5_calls_1 : decode cX5_calls 1 = .ok (.lookupswitch 93 #[(99, 71), (109, 43), (112, 76), (117, 54)], 43) := by decide +kernel
theorem dX5_calls_44 : decode cX5_calls 44 = .ok (.aload_n 0, 1) := by decide +kernel
theorem dX5_calls_45 : decode cX5_calls 45 = .ok (.aload_n 0, 1) := by decide +kernel
theorem dX5_calls_46 : decode cX5_calls 46 = .ok (.getfield 25, 3) := by decide +kernel
theorem dX5_calls_49 : decode cX5_calls 49 = .ok (.iconst 0, 1) := by decide +kernel
theorem dX5_calls_50 : decode cX5_calls 50 = .ok (.iaload, 1) := by decide +kernel
theorem dX5_calls_51 : decode cX5_calls 51 = .ok (.invokevirtual 116, 3) := by decide +kernel
theorem dX5_calls_54 : decode cX5_calls 54 = .ok (.ireturn, 1) := by decide +kernel
theorem dX5_calls_55 : decode cX5_calls 55 = .ok (.aload_n 0, 1) := by decide +kernel
theorem dX5_calls_56 : decode cX5_calls 56 = .ok (.aload_n 0, 1) := by decide +kernel
theorem dX5_calls_57 : decode cX5_calls 57 = .ok (.getfield 25, 3) := by decide +kernel
theorem dX5_calls_60 : decode cX5_calls 60 = .ok (.iconst 0, 1) := by decide +kernel
theorem dX5_calls_61 : decode cX5_calls 61 = .ok (.iaload, 1) := by decide +kernel
theorem dX5_calls_62 : decode cX5_calls 62 = .ok (.aload_n 0, 1) := by decide +kernel
theorem dX5_calls_63 : decode cX5_calls 63 = .ok (.getfield 25, 3) := by decide +kernel
theorem dX5_calls_66 : decode cX5_calls 66 = .ok (.iconst 1, 1) := by decide +kernel
theorem dX5_calls_67 : decode cX5_calls 67 = .ok (.iaload, 1) := by decide +kernel
theorem dX5_calls_68 : decode cX5_calls 68 = .ok (.invokevirtual 119, 3) := by decide +kernel
theorem dX5_calls_71 : decode cX5_calls 71 = .ok (.ireturn, 1) := by decide +kernel
theorem dX5_calls_72 : decode cX5_calls 72 = .ok (.aload_n 0, 1) := by decide +kernel
theorem dX5_calls_73 : decode cX5_calls 73 = .ok (.invokevirtual 122, 3) := by decide +kernel
theorem dX5_calls_76 : decode cX5_calls 76 = .ok (.ireturn, 1) := by decide +kernel
theorem dX5_calls_77 : decode cX5_calls 77 = .ok (.aload_n 0, 1) := by decide +kernel
theorem dX5_calls_78 : decode cX5_calls 78 = .ok (.aload_n 0, 1) := by decide +kernel
theorem dX5_calls_79 : decode cX5_calls 79 = .ok (.getfield 25, 3) := by decide +kernel
theorem dX5_calls_82 : decode cX5_calls 82 = .ok (.iconst 0, 1) := by decide +kernel
theorem dX5_calls_83 : decode cX5_calls 83 = .ok (.iaload, 1) := by decide +kernel
theorem dX5_calls_84 : decode cX5_calls 84 = .ok (.aload_n 0, 1) := by decide +kernel
theorem dX5_calls_85 : decode cX5_calls 85 = .ok (.getfield 25, 3) := by decide +kernel
theorem dX5_calls_88 : decode cX5_calls 88 = .ok (.iconst 1, 1) := by decide +kernel
theorem dX5_calls_89 : decode cX5_calls 89 = .ok (.iaload, 1) := by decide +kernel
theorem dX5_calls_90 : decode cX5_calls 90 = .ok (.invokevirtual 125, 3) := by decide +kernel
theorem dX5_calls_93 : decode cX5_calls 93 = .ok (.ireturn, 1) := by decide +kernel
theorem dX5_calls_94 : decode cX5_calls 94 = .ok (.aload_n 0, 1) := by decide +kernel
theorem dX5_calls_95 : decode cX5_calls 95 = .ok (.aload_n 0, 1) := by decide +kernel
theorem dX5_calls_96 : decode cX5_calls 96 = .ok (.getfield 25, 3) := by decide +kernel
theorem dX5_calls_99 : decode cX5_calls 99 = .ok (.iconst 0, 1) := by decide +kernel
theorem dX5_calls_100 : decode cX5_calls 100 = .ok (.iaload, 1) := by decide +kernel
theorem dX5_calls_101 : decode cX5_calls 101 = .ok (.invokevirtual 128, 3) := by decide +kernel
theorem dX5_calls_104 : decode cX5_calls 104 = .ok (.ireturn, 1) := by decide +kernel
theorem dX5_plays_0 : decode cX5_plays 0 = .ok (.aload_n 0, 1) := by decide +kernel
theorem dX5_plays_1 : decode cX5_plays 1 = .ok (.iconst 1, 1) := by decide +kernel
theorem dX5_plays_2 : decode cX5_plays 2 = .ok (.putfield 31, 3) := by decide +kernel
theorem dX5_plays_5 : decode cX5_plays 5 = .ok (.aload_n 0, 1) := by decide +kernel
theorem dX5_plays_6 : decode cX5_plays 6 = .ok (.iconst 0, 1) := by decide +kernel
theorem dX5_plays_7 : decode cX5_plays 7 = .ok (.putfield 106, 3) := by decide +kernel
theorem dX5_plays_10 : decode cX5_plays 10 = .ok (.aload_n 0, 1) := by decide +kernel
theorem dX5_plays_11 : decode cX5_plays 11 = .ok (.iconst 0, 1) := by decide +kernel
theorem dX5_plays_12 : decode cX5_plays 12 = .ok (.putfield 131, 3) := by decide +kernel
theorem dX5_plays_15 : decode cX5_plays 15 = .ok (.iconst 0, 1) := by decide +kernel
theorem dX5_plays_16 : decode cX5_plays 16 = .ok (.istore_n 1, 1) := by decide +kernel
theorem dX5_plays_17 : decode cX5_plays 17 = .ok (.iconst 1, 1) := by decide +kernel
theorem dX5_plays_18 : decode cX5_plays 18 = .ok (.istore_n 2, 1) := by decide +kernel
theorem dX5_plays_19 : decode cX5_plays 19 = .ok (.aload_n 0, 1) := by decide +kernel
theorem dX5_plays_20 : decode cX5_plays 20 = .ok (.getfield 106, 3) := by decide +kernel
theorem dX5_plays_23 : decode cX5_plays 23 = .ok (.aload_n 0, 1) := by decide +kernel
theorem dX5_plays_24 : decode cX5_plays 24 = .ok (.getfield 89, 3) := by decide +kernel
theorem dX5_plays_27 : decode cX5_plays 27 = .ok (.if_icmp .ge 78, 3) := by decide +kernel
theorem dX5_plays_30 : decode cX5_plays 30 = .ok (.iload_n 2, 1) := by decide +kernel
theorem dX5_plays_31 : decode cX5_plays 31 = .ok (.ifCond .eq 74, 3) := by decide +kernel
theorem dX5_plays_34 : decode cX5_plays 34 = .ok (.aload_n 0, 1) := by decide +kernel
theorem dX5_plays_35 : decode cX5_plays 35 = .ok (.getfield 106, 3) := by decide +kernel
theorem dX5_plays_38 : decode cX5_plays 38 = .ok (.istore_n 1, 1) := by decide +kernel
theorem dX5_plays_39 : decode cX5_plays 39 = .ok (.aload_n 0, 1) := by decide +kernel
theorem dX5_plays_40 : decode cX5_plays 40 = .ok (.getfield 19, 3) := by decide +kernel
theorem dX5_plays_43 : decode cX5_plays 43 = .ok (.aload_n 0, 1) := by decide +kernel
theorem dX5_plays_44 : decode cX5_plays 44 = .ok (.getfield 106, 3) := by decide +kernel
theorem dX5_plays_47 : decode cX5_plays 47 = .ok (.iaload, 1) := by decide +kernel
theorem dX5_plays_48 : decode cX5_plays 48 = .ok (.istore_n 3, 1) := by decide +kernel
theorem dX5_plays_49 : decode cX5_plays 49 = .ok (.aload_n 0, 1) := by decide +kernel
theorem dX5_plays_50 : decode cX5_plays 50 = .ok (.iload_n 3, 1) := by decide +kernel
theorem dX5_plays_51 : decode cX5_plays 51 = .ok (.invokevirtual 134, 3) := by decide +kernel
theorem dX5_plays_54 : decode cX5_plays 54 = .ok (.istore 4, 2) := by decide +kernel
theorem dX5_plays_56 : decode cX5_plays 56 = .ok (.aload_n 0, 1) := by decide +kernel
theorem dX5_plays_57 : decode cX5_plays 57 = .ok (.iload 4, 2) := by decide +kernel
theorem dX5_plays_59 : decode cX5_plays 59 = .ok (.ifCond .eq 11, 3) := by decide +kernel
theorem dX5_plays_62 : decode cX5_plays 62 = .ok (.aload_n 0, 1) := by decide +kernel
theorem dX5_plays_63 : decode cX5_plays 63 = .ok (.iload_n 3, 1) := by decide +kernel
theorem dX5_plays_64 : decode cX5_plays 64 = .ok (.invokevirtual 137, 3) := by decide +kernel
theorem dX5_plays_67 : decode cX5_plays 67 = .ok (.goto 4, 3) := by decide +kernel
theorem dX5_plays_70 : decode cX5_plays 70 = .ok (.iconst 0, 1) := by decide +kernel
theorem dX5_plays_71 : decode cX5_plays 71 = .ok (.putfield 140, 3) := by decide +kernel
theorem dX5_plays_74 : decode cX5_plays 74 = .ok (.iload 4, 2) := by decide +kernel
theorem dX5_plays_76 : decode cX5_plays 76 = .ok (.ifCond .eq 14, 3) := by decide +kernel
theorem dX5_plays_79 : decode cX5_plays 79 = .ok (.aload_n 0, 1) := by decide +kernel
theorem dX5_plays_80 : decode cX5_plays 80 = .ok (.getfield 140, 3) := by decide +kernel
theorem dX5_plays_83 : decode cX5_plays 83 = .ok (.ifCond .lt 7, 3) := by decide +kernel
theorem dX5_plays_86 : decode cX5_plays 86 = .ok (.iconst 1, 1) := by decide +kernel
theorem dX5_plays_87 : decode cX5_plays 87 = .ok (.goto 4, 3) := by decide +kernel
theorem dX5_plays_90 : decode cX5_plays 90 = .ok (.iconst 0, 1) := by decide +kernel
theorem dX5_plays_91 : decode cX5_plays 91 = .ok (.istore_n 2, 1) := by decide +kernel
theorem dX5_plays_92 : decode cX5_plays 92 = .ok (.aload_n 0, 1) := by decide +kernel
theorem dX5_plays_93 : decode cX5_plays 93 = .ok (.dup, 1) := by decide +kernel
theorem dX5_plays_94 : decode cX5_plays 94 = .ok (.getfield 131, 3) := by decide +kernel
theorem dX5_plays_97 : decode cX5_plays 97 = .ok (.iconst 1, 1) := by decide +kernel
theorem dX5_plays_98 : decode cX5_plays 98 = .ok (.iadd, 1) := by decide +kernel
theorem dX5_plays_99 : decode cX5_plays 99 = .ok (.putfield 131, 3) := by decide +kernel
theorem dX5_plays_102 : decode cX5_plays 102 = .ok (.goto (-83), 3) := by decide +kernel
theorem dX5_plays_105 : decode cX5_plays 105 = .ok (.aload_n 0, 1) := by decide +kernel
theorem dX5_plays_106 : decode cX5_plays 106 = .ok (.iconst 0, 1) := by decide +kernel
theorem dX5_plays_107 : decode cX5_plays 107 = .ok (.putfield 31, 3) := by decide +kernel
theorem dX5_plays_110 : decode cX5_plays 110 = .ok (.iload_n 2, 1) := by decide +kernel
theorem dX5_plays_111 : decode cX5_plays 111 = .ok (.ifCond .eq 9, 3) := by decide +kernel
theorem dX5_plays_114 : decode cX5_plays 114 = .ok (.sipush (-10004), 3) := by decide +kernel
theorem dX5_plays_117 : decode cX5_plays 117 = .ok (.goto 4, 3) := by decide +kernel
theorem dX5_plays_120 : decode cX5_plays 120 = .ok (.iload_n 1, 1) := by decide +kernel
theorem dX5_plays_121 : decode cX5_plays 121 = .ok (.ireturn, 1) := by decide +kernel
theorem dX5_fault_0 : decode cX5_fault 0 = .ok (.iload_n 1, 1) := by decide +kernel
theorem dX5_fault_1 : decode cX5_fault 1 = .ok (.iconst 0, 1) := by decide +kernel
theorem dX5_fault_2 : decode cX5_fault 2 = .ok (.iconst 2, 1) := by decide +kernel
theorem dX5_fault_3 : decode cX5_fault 3 = .ok (.invokestatic 53, 3) := by decide +kernel
theorem dX5_fault_6 : decode cX5_fault 6 = .ok (.ifCond .ne 7, 3) := by decide +kernel
theorem dX5_fault_9 : decode cX5_fault 9 = .ok (.sipush (-10001), 3) := by decide +kernel
theorem dX5_fault_12 : decode cX5_fault 12 = .ok (.ireturn, 1) := by decide +kernel
theorem dX5_fault_13 : decode cX5_fault 13 = .ok (.aload_n 0, 1) := by decide +kernel
theorem dX5_fault_14 : decode cX5_fault 14 = .ok (.getfield 7, 3) := by decide +kernel
theorem dX5_fault_17 : decode cX5_fault 17 = .ok (.aload_n 0, 1) := by decide +kernel
theorem dX5_fault_18 : decode cX5_fault 18 = .ok (.getfield 28, 3) := by decide +kernel
theorem dX5_fault_21 : decode cX5_fault 21 = .ok (.invokestatic 98, 3) := by decide +kernel
theorem dX5_fault_24 : decode cX5_fault 24 = .ok (.aload_n 0, 1) := by decide +kernel
theorem dX5_fault_25 : decode cX5_fault 25 = .ok (.invokevirtual 143, 3) := by decide +kernel
theorem dX5_fault_28 : decode cX5_fault 28 = .ok (.istore_n 2, 1) := by decide +kernel
theorem dX5_fault_29 : decode cX5_fault 29 = .ok (.aload_n 0, 1) := by decide +kernel
theorem dX5_fault_30 : decode cX5_fault 30 = .ok (.getfield 28, 3) := by decide +kernel
theorem dX5_fault_33 : decode cX5_fault 33 = .ok (.aload_n 0, 1) := by decide +kernel
theorem dX5_fault_34 : decode cX5_fault 34 = .ok (.getfield 7, 3) := by decide +kernel
theorem dX5_fault_37 : decode cX5_fault 37 = .ok (.invokestatic 98, 3) := by decide +kernel
theorem dX5_fault_40 : decode cX5_fault 40 = .ok (.iload_n 2, 1) := by decide +kernel
theorem dX5_fault_41 : decode cX5_fault 41 = .ok (.sipush (-10004), 3) := by decide +kernel
theorem dX5_fault_44 : decode cX5_fault 44 = .ok (.if_icmp .eq 7, 3) := by decide +kernel
theorem dX5_fault_47 : decode cX5_fault 47 = .ok (.iload_n 1, 1) := by decide +kernel
theorem dX5_fault_48 : decode cX5_fault 48 = .ok (.ifCond .ne 7, 3) := by decide +kernel
theorem dX5_fault_51 : decode cX5_fault 51 = .ok (.iload_n 2, 1) := by decide +kernel
theorem dX5_fault_52 : decode cX5_fault 52 = .ok (.goto 40, 3) := by decide +kernel
theorem dX5_fault_55 : decode cX5_fault 55 = .ok (.iload_n 1, 1) := by decide +kernel
theorem dX5_fault_56 : decode cX5_fault 56 = .ok (.iconst 1, 1) := by decide +kernel
theorem dX5_fault_57 : decode cX5_fault 57 = .ok (.if_icmp .ne 18, 3) := by decide +kernel
theorem dX5_fault_60 : decode cX5_fault 60 = .ok (.aload_n 0, 1) := by decide +kernel
theorem dX5_fault_61 : decode cX5_fault 61 = .ok (.getfield 140, 3) := by decide +kernel
theorem dX5_fault_64 : decode cX5_fault 64 = .ok (.ifCond .ne 7, 3) := by decide +kernel
theorem dX5_fault_67 : decode cX5_fault 67 = .ok (.iconst 1, 1) := by decide +kernel
theorem dX5_fault_68 : decode cX5_fault 68 = .ok (.goto 24, 3) := by decide +kernel
theorem dX5_fault_71 : decode cX5_fault 71 = .ok (.iconst 2, 1) := by decide +kernel
theorem dX5_fault_72 : decode cX5_fault 72 = .ok (.goto 20, 3) := by decide +kernel
theorem dX5_fault_75 : decode cX5_fault 75 = .ok (.aload_n 0, 1) := by decide +kernel
theorem dX5_fault_76 : decode cX5_fault 76 = .ok (.getfield 140, 3) := by decide +kernel
theorem dX5_fault_79 : decode cX5_fault 79 = .ok (.ifCond .ne 9, 3) := by decide +kernel
theorem dX5_fault_82 : decode cX5_fault 82 = .ok (.sipush (-10004), 3) := by decide +kernel
theorem dX5_fault_85 : decode cX5_fault 85 = .ok (.goto 7, 3) := by decide +kernel
theorem dX5_fault_88 : decode cX5_fault 88 = .ok (.aload_n 0, 1) := by decide +kernel
theorem dX5_fault_89 : decode cX5_fault 89 = .ok (.getfield 140, 3) := by decide +kernel
theorem dX5_fault_92 : decode cX5_fault 92 = .ok (.ireturn, 1) := by decide +kernel
theorem dX5_play_0 : decode cX5_play 0 = .ok (.aload_n 0, 1) := by decide +kernel
theorem dX5_play_1 : decode cX5_play 1 = .ok (.getfield 7, 3) := by decide +kernel
theorem dX5_play_4 : decode cX5_play 4 = .ok (.aload_n 0, 1) := by decide +kernel
theorem dX5_play_5 : decode cX5_play 5 = .ok (.getfield 28, 3) := by decide +kernel
theorem dX5_play_8 : decode cX5_play 8 = .ok (.invokestatic 98, 3) := by decide +kernel
theorem dX5_play_11 : decode cX5_play 11 = .ok (.aload_n 0, 1) := by decide +kernel
theorem dX5_play_12 : decode cX5_play 12 = .ok (.invokevirtual 143, 3) := by decide +kernel
theorem dX5_play_15 : decode cX5_play 15 = .ok (.istore_n 1, 1) := by decide +kernel
theorem dX5_play_16 : decode cX5_play 16 = .ok (.aload_n 0, 1) := by decide +kernel
theorem dX5_play_17 : decode cX5_play 17 = .ok (.getfield 28, 3) := by decide +kernel
theorem dX5_play_20 : decode cX5_play 20 = .ok (.aload_n 0, 1) := by decide +kernel
theorem dX5_play_21 : decode cX5_play 21 = .ok (.getfield 7, 3) := by decide +kernel
theorem dX5_play_24 : decode cX5_play 24 = .ok (.invokestatic 98, 3) := by decide +kernel
theorem dX5_play_27 : decode cX5_play 27 = .ok (.iload_n 1, 1) := by decide +kernel
theorem dX5_play_28 : decode cX5_play 28 = .ok (.sipush (-10004), 3) := by decide +kernel
theorem dX5_play_31 : decode cX5_play 31 = .ok (.if_icmp .eq 7, 3) := by decide +kernel
theorem dX5_play_34 : decode cX5_play 34 = .ok (.sipush (-10002), 3) := by decide +kernel
theorem dX5_play_37 : decode cX5_play 37 = .ok (.ireturn, 1) := by decide +kernel
theorem dX5_play_38 : decode cX5_play 38 = .ok (.aload_n 0, 1) := by decide +kernel
theorem dX5_play_39 : decode cX5_play 39 = .ok (.invokevirtual 57, 3) := by decide +kernel
theorem dX5_play_42 : decode cX5_play 42 = .ok (.aload_n 0, 1) := by decide +kernel
theorem dX5_play_43 : decode cX5_play 43 = .ok (.invokevirtual 143, 3) := by decide +kernel
theorem dX5_play_46 : decode cX5_play 46 = .ok (.sipush (-10004), 3) := by decide +kernel
theorem dX5_play_49 : decode cX5_play 49 = .ok (.if_icmp .ne 10, 3) := by decide +kernel
theorem dX5_play_52 : decode cX5_play 52 = .ok (.aload_n 0, 1) := by decide +kernel
theorem dX5_play_53 : decode cX5_play 53 = .ok (.getfield 131, 3) := by decide +kernel
theorem dX5_play_56 : decode cX5_play 56 = .ok (.goto 6, 3) := by decide +kernel
theorem dX5_play_59 : decode cX5_play 59 = .ok (.sipush (-10004), 3) := by decide +kernel
theorem dX5_play_62 : decode cX5_play 62 = .ok (.ireturn, 1) := by decide +kernel
theorem dJ9_max_7cf53_0 : decode cJ9_max_7cf53 0 = .ok (.iload_n 0, 1) := by decide +kernel
theorem dJ9_max_7cf53_1 : decode cJ9_max_7cf53 1 = .ok (.iload_n 1, 1) := by decide +kernel
theorem dJ9_max_7cf53_2 : decode cJ9_max_7cf53 2 = .ok (.if_icmp .lt 7, 3) := by decide +kernel
theorem dJ9_max_7cf53_5 : decode cJ9_max_7cf53 5 = .ok (.iload_n 0, 1) := by decide +kernel
theorem dJ9_max_7cf53_6 : decode cJ9_max_7cf53 6 = .ok (.goto 4, 3) := by decide +kernel
theorem dJ9_max_7cf53_9 : decode cJ9_max_7cf53 9 = .ok (.iload_n 1, 1) := by decide +kernel
theorem dJ9_max_7cf53_10 : decode cJ9_max_7cf53 10 = .ok (.ireturn, 1) := by decide +kernel
theorem dJ9_min_7cf53_0 : decode cJ9_min_7cf53 0 = .ok (.iload_n 0, 1) := by decide +kernel
theorem dJ9_min_7cf53_1 : decode cJ9_min_7cf53 1 = .ok (.iload_n 1, 1) := by decide +kernel
theorem dJ9_min_7cf53_2 : decode cJ9_min_7cf53 2 = .ok (.if_icmp .gt 7, 3) := by decide +kernel
theorem dJ9_min_7cf53_5 : decode cJ9_min_7cf53 5 = .ok (.iload_n 0, 1) := by decide +kernel
theorem dJ9_min_7cf53_6 : decode cJ9_min_7cf53 6 = .ok (.goto 4, 3) := by decide +kernel
theorem dJ9_min_7cf53_9 : decode cJ9_min_7cf53 9 = .ok (.iload_n 1, 1) := by decide +kernel
theorem dJ9_min_7cf53_10 : decode cJ9_min_7cf53 10 = .ok (.ireturn, 1) := by decide +kernel
theorem dL_law_0 : decode cL_law 0 = .ok (.new 7, 3) := by decide +kernel
theorem dL_law_3 : decode cL_law 3 = .ok (.dup, 1) := by decide +kernel
theorem dL_law_4 : decode cL_law 4 = .ok (.invokespecial 9, 3) := by decide +kernel
theorem dL_law_7 : decode cL_law 7 = .ok (.astore_n 1, 1) := by decide +kernel
theorem dL_law_8 : decode cL_law 8 = .ok (.new 10, 3) := by decide +kernel
theorem dL_law_11 : decode cL_law 11 = .ok (.dup, 1) := by decide +kernel
theorem dL_law_12 : decode cL_law 12 = .ok (.invokespecial 12, 3) := by decide +kernel
theorem dL_law_15 : decode cL_law 15 = .ok (.astore_n 2, 1) := by decide +kernel
theorem dL_law_16 : decode cL_law 16 = .ok (.iconst 0, 1) := by decide +kernel
theorem dL_law_17 : decode cL_law 17 = .ok (.istore_n 3, 1) := by decide +kernel
theorem dL_law_18 : decode cL_law 18 = .ok (.iload_n 3, 1) := by decide +kernel
theorem dL_law_19 : decode cL_law 19 = .ok (.aload_n 0, 1) := by decide +kernel
theorem dL_law_20 : decode cL_law 20 = .ok (.arraylength, 1) := by decide +kernel
theorem dL_law_21 : decode cL_law 21 = .ok (.iconst 3, 1) := by decide +kernel
theorem dL_law_22 : decode cL_law 22 = .ok (.isub, 1) := by decide +kernel
theorem dL_law_23 : decode cL_law 23 = .ok (.if_icmp .gt 571, 3) := by decide +kernel
theorem dL_law_26 : decode cL_law 26 = .ok (.aload_n 0, 1) := by decide +kernel
theorem dL_law_27 : decode cL_law 27 = .ok (.iload_n 3, 1) := by decide +kernel
theorem dL_law_28 : decode cL_law 28 = .ok (.iaload, 1) := by decide +kernel
theorem dL_law_29 : decode cL_law 29 = .ok (.bipush 31, 2) := by decide +kernel
theorem dL_law_31 : decode cL_law 31 = .ok (.iand, 1) := by decide +kernel
theorem dL_law_32 : decode cL_law 32 = .ok (.tableswitch 556 0 19 #[96, 119, 152, 165, 198, 221, 254, 287, 310, 343, 376, 399, 422, 445, 458, 471, 484, 507, 520, 543], 96) := by decide +kernel
theorem dL_law_128 : decode cL_law 128 = .ok (.aload_n 1, 1) := by decide +kernel
theorem dL_law_129 : decode cL_law 129 = .ok (.aload_n 0, 1) := by decide +kernel
theorem dL_law_130 : decode cL_law 130 = .ok (.iload_n 3, 1) := by decide +kernel
theorem dL_law_131 : decode cL_law 131 = .ok (.iconst 1, 1) := by decide +kernel
theorem dL_law_132 : decode cL_law 132 = .ok (.iadd, 1) := by decide +kernel
theorem dL_law_133 : decode cL_law 133 = .ok (.iaload, 1) := by decide +kernel
theorem dL_law_134 : decode cL_law 134 = .ok (.invokevirtual 13, 3) := by decide +kernel
theorem dL_law_137 : decode cL_law 137 = .ok (.aload_n 2, 1) := by decide +kernel
theorem dL_law_138 : decode cL_law 138 = .ok (.aload_n 0, 1) := by decide +kernel
theorem dL_law_139 : decode cL_law 139 = .ok (.iload_n 3, 1) := by decide +kernel
theorem dL_law_140 : decode cL_law 140 = .ok (.iconst 1, 1) := by decide +kernel
theorem dL_law_141 : decode cL_law 141 = .ok (.iadd, 1) := by decide +kernel
theorem dL_law_142 : decode cL_law 142 = .ok (.iaload, 1) := by decide +kernel
theorem dL_law_143 : decode cL_law 143 = .ok (.invokevirtual 17, 3) := by decide +kernel
theorem dL_law_146 : decode cL_law 146 = .ok (.if_icmp .eq 442, 3) := by decide +kernel
theorem dL_law_149 : decode cL_law 149 = .ok (.iconst 0, 1) := by decide +kernel
theorem dL_law_150 : decode cL_law 150 = .ok (.ireturn, 1) := by decide +kernel
theorem dL_law_151 : decode cL_law 151 = .ok (.aload_n 1, 1) := by decide +kernel
theorem dL_law_152 : decode cL_law 152 = .ok (.aload_n 0, 1) := by decide +kernel
theorem dL_law_153 : decode cL_law 153 = .ok (.iload_n 3, 1) := by decide +kernel
theorem dL_law_154 : decode cL_law 154 = .ok (.iconst 1, 1) := by decide +kernel
theorem dL_law_155 : decode cL_law 155 = .ok (.iadd, 1) := by decide +kernel
theorem dL_law_156 : decode cL_law 156 = .ok (.iaload, 1) := by decide +kernel
theorem dL_law_157 : decode cL_law 157 = .ok (.aload_n 0, 1) := by decide +kernel
theorem dL_law_158 : decode cL_law 158 = .ok (.iload_n 3, 1) := by decide +kernel
theorem dL_law_159 : decode cL_law 159 = .ok (.iconst 2, 1) := by decide +kernel
theorem dL_law_160 : decode cL_law 160 = .ok (.iadd, 1) := by decide +kernel
theorem dL_law_161 : decode cL_law 161 = .ok (.iaload, 1) := by decide +kernel
theorem dL_law_162 : decode cL_law 162 = .ok (.invokevirtual 18, 3) := by decide +kernel
theorem dL_law_165 : decode cL_law 165 = .ok (.aload_n 2, 1) := by decide +kernel
theorem dL_law_166 : decode cL_law 166 = .ok (.aload_n 0, 1) := by decide +kernel
theorem dL_law_167 : decode cL_law 167 = .ok (.iload_n 3, 1) := by decide +kernel
theorem dL_law_168 : decode cL_law 168 = .ok (.iconst 1, 1) := by decide +kernel
theorem dL_law_169 : decode cL_law 169 = .ok (.iadd, 1) := by decide +kernel
theorem dL_law_170 : decode cL_law 170 = .ok (.iaload, 1) := by decide +kernel
theorem dL_law_171 : decode cL_law 171 = .ok (.aload_n 0, 1) := by decide +kernel
theorem dL_law_172 : decode cL_law 172 = .ok (.iload_n 3, 1) := by decide +kernel
theorem dL_law_173 : decode cL_law 173 = .ok (.iconst 2, 1) := by decide +kernel
theorem dL_law_174 : decode cL_law 174 = .ok (.iadd, 1) := by decide +kernel
theorem dL_law_175 : decode cL_law 175 = .ok (.iaload, 1) := by decide +kernel
theorem dL_law_176 : decode cL_law 176 = .ok (.invokevirtual 22, 3) := by decide +kernel
theorem dL_law_179 : decode cL_law 179 = .ok (.if_icmp .eq 409, 3) := by decide +kernel
theorem dL_law_182 : decode cL_law 182 = .ok (.iconst 0, 1) := by decide +kernel
theorem dL_law_183 : decode cL_law 183 = .ok (.ireturn, 1) := by decide +kernel
theorem dL_law_184 : decode cL_law 184 = .ok (.aload_n 1, 1) := by decide +kernel
theorem dL_law_185 : decode cL_law 185 = .ok (.invokevirtual 23, 3) := by decide +kernel
theorem dL_law_188 : decode cL_law 188 = .ok (.aload_n 2, 1) := by decide +kernel
theorem dL_law_189 : decode cL_law 189 = .ok (.invokevirtual 27, 3) := by decide +kernel
theorem dL_law_192 : decode cL_law 192 = .ok (.if_icmp .eq 396, 3) := by decide +kernel
theorem dL_law_195 : decode cL_law 195 = .ok (.iconst 0, 1) := by decide +kernel
theorem dL_law_196 : decode cL_law 196 = .ok (.ireturn, 1) := by decide +kernel
theorem dL_law_197 : decode cL_law 197 = .ok (.aload_n 1, 1) := by decide +kernel
theorem dL_law_198 : decode cL_law 198 = .ok (.aload_n 0, 1) := by decide +kernel
theorem dL_law_199 : decode cL_law 199 = .ok (.iload_n 3, 1) := by decide +kernel
theorem dL_law_200 : decode cL_law 200 = .ok (.iconst 1, 1) := by decide +kernel
theorem dL_law_201 : decode cL_law 201 = .ok (.iadd, 1) := by decide +kernel
theorem dL_law_202 : decode cL_law 202 = .ok (.iaload, 1) := by decide +kernel
theorem dL_law_203 : decode cL_law 203 = .ok (.aload_n 0, 1) := by decide +kernel
theorem dL_law_204 : decode cL_law 204 = .ok (.iload_n 3, 1) := by decide +kernel
theorem dL_law_205 : decode cL_law 205 = .ok (.iconst 2, 1) := by decide +kernel
theorem dL_law_206 : decode cL_law 206 = .ok (.iadd, 1) := by decide +kernel
theorem dL_law_207 : decode cL_law 207 = .ok (.iaload, 1) := by decide +kernel
theorem dL_law_208 : decode cL_law 208 = .ok (.invokevirtual 28, 3) := by decide +kernel
theorem dL_law_211 : decode cL_law 211 = .ok (.aload_n 2, 1) := by decide +kernel
theorem dL_law_212 : decode cL_law 212 = .ok (.aload_n 0, 1) := by decide +kernel
theorem dL_law_213 : decode cL_law 213 = .ok (.iload_n 3, 1) := by decide +kernel
theorem dL_law_214 : decode cL_law 214 = .ok (.iconst 1, 1) := by decide +kernel
theorem dL_law_215 : decode cL_law 215 = .ok (.iadd, 1) := by decide +kernel
theorem dL_law_216 : decode cL_law 216 = .ok (.iaload, 1) := by decide +kernel
theorem dL_law_217 : decode cL_law 217 = .ok (.aload_n 0, 1) := by decide +kernel
theorem dL_law_218 : decode cL_law 218 = .ok (.iload_n 3, 1) := by decide +kernel
theorem dL_law_219 : decode cL_law 219 = .ok (.iconst 2, 1) := by decide +kernel
theorem dL_law_220 : decode cL_law 220 = .ok (.iadd, 1) := by decide +kernel
theorem dL_law_221 : decode cL_law 221 = .ok (.iaload, 1) := by decide +kernel
theorem dL_law_222 : decode cL_law 222 = .ok (.invokevirtual 31, 3) := by decide +kernel
theorem dL_law_225 : decode cL_law 225 = .ok (.if_icmp .eq 363, 3) := by decide +kernel
theorem dL_law_228 : decode cL_law 228 = .ok (.iconst 0, 1) := by decide +kernel
theorem dL_law_229 : decode cL_law 229 = .ok (.ireturn, 1) := by decide +kernel
theorem dL_law_230 : decode cL_law 230 = .ok (.aload_n 1, 1) := by decide +kernel
theorem dL_law_231 : decode cL_law 231 = .ok (.aload_n 0, 1) := by decide +kernel
theorem dL_law_232 : decode cL_law 232 = .ok (.iload_n 3, 1) := by decide +kernel
theorem dL_law_233 : decode cL_law 233 = .ok (.iconst 1, 1) := by decide +kernel
theorem dL_law_234 : decode cL_law 234 = .ok (.iadd, 1) := by decide +kernel
theorem dL_law_235 : decode cL_law 235 = .ok (.iaload, 1) := by decide +kernel
theorem dL_law_236 : decode cL_law 236 = .ok (.invokevirtual 32, 3) := by decide +kernel
theorem dL_law_239 : decode cL_law 239 = .ok (.aload_n 2, 1) := by decide +kernel
theorem dL_law_240 : decode cL_law 240 = .ok (.aload_n 0, 1) := by decide +kernel
theorem dL_law_241 : decode cL_law 241 = .ok (.iload_n 3, 1) := by decide +kernel
theorem dL_law_242 : decode cL_law 242 = .ok (.iconst 1, 1) := by decide +kernel
theorem dL_law_243 : decode cL_law 243 = .ok (.iadd, 1) := by decide +kernel
theorem dL_law_244 : decode cL_law 244 = .ok (.iaload, 1) := by decide +kernel
theorem dL_law_245 : decode cL_law 245 = .ok (.invokevirtual 35, 3) := by decide +kernel
theorem dL_law_248 : decode cL_law 248 = .ok (.if_icmp .eq 340, 3) := by decide +kernel
theorem dL_law_251 : decode cL_law 251 = .ok (.iconst 0, 1) := by decide +kernel
theorem dL_law_252 : decode cL_law 252 = .ok (.ireturn, 1) := by decide +kernel
theorem dL_law_253 : decode cL_law 253 = .ok (.aload_n 1, 1) := by decide +kernel
theorem dL_law_254 : decode cL_law 254 = .ok (.aload_n 0, 1) := by decide +kernel
theorem dL_law_255 : decode cL_law 255 = .ok (.iload_n 3, 1) := by decide +kernel
theorem dL_law_256 : decode cL_law 256 = .ok (.iconst 1, 1) := by decide +kernel
theorem dL_law_257 : decode cL_law 257 = .ok (.iadd, 1) := by decide +kernel
theorem dL_law_258 : decode cL_law 258 = .ok (.iaload, 1) := by decide +kernel
theorem dL_law_259 : decode cL_law 259 = .ok (.aload_n 0, 1) := by decide +kernel
theorem dL_law_260 : decode cL_law 260 = .ok (.iload_n 3, 1) := by decide +kernel
theorem dL_law_261 : decode cL_law 261 = .ok (.iconst 2, 1) := by decide +kernel
theorem dL_law_262 : decode cL_law 262 = .ok (.iadd, 1) := by decide +kernel
theorem dL_law_263 : decode cL_law 263 = .ok (.iaload, 1) := by decide +kernel
theorem dL_law_264 : decode cL_law 264 = .ok (.invokevirtual 36, 3) := by decide +kernel
theorem dL_law_267 : decode cL_law 267 = .ok (.aload_n 2, 1) := by decide +kernel
theorem dL_law_268 : decode cL_law 268 = .ok (.aload_n 0, 1) := by decide +kernel
theorem dL_law_269 : decode cL_law 269 = .ok (.iload_n 3, 1) := by decide +kernel
theorem dL_law_270 : decode cL_law 270 = .ok (.iconst 1, 1) := by decide +kernel
theorem dL_law_271 : decode cL_law 271 = .ok (.iadd, 1) := by decide +kernel
theorem dL_law_272 : decode cL_law 272 = .ok (.iaload, 1) := by decide +kernel
theorem dL_law_273 : decode cL_law 273 = .ok (.aload_n 0, 1) := by decide +kernel
theorem dL_law_274 : decode cL_law 274 = .ok (.iload_n 3, 1) := by decide +kernel
theorem dL_law_275 : decode cL_law 275 = .ok (.iconst 2, 1) := by decide +kernel
theorem dL_law_276 : decode cL_law 276 = .ok (.iadd, 1) := by decide +kernel
theorem dL_law_277 : decode cL_law 277 = .ok (.iaload, 1) := by decide +kernel
theorem dL_law_278 : decode cL_law 278 = .ok (.invokevirtual 39, 3) := by decide +kernel
theorem dL_law_281 : decode cL_law 281 = .ok (.if_icmp .eq 307, 3) := by decide +kernel
theorem dL_law_284 : decode cL_law 284 = .ok (.iconst 0, 1) := by decide +kernel
theorem dL_law_285 : decode cL_law 285 = .ok (.ireturn, 1) := by decide +kernel
theorem dL_law_286 : decode cL_law 286 = .ok (.aload_n 1, 1) := by decide +kernel
theorem dL_law_287 : decode cL_law 287 = .ok (.aload_n 0, 1) := by decide +kernel
theorem dL_law_288 : decode cL_law 288 = .ok (.iload_n 3, 1) := by decide +kernel
theorem dL_law_289 : decode cL_law 289 = .ok (.iconst 1, 1) := by decide +kernel
theorem dL_law_290 : decode cL_law 290 = .ok (.iadd, 1) := by decide +kernel
theorem dL_law_291 : decode cL_law 291 = .ok (.iaload, 1) := by decide +kernel
theorem dL_law_292 : decode cL_law 292 = .ok (.aload_n 0, 1) := by decide +kernel
theorem dL_law_293 : decode cL_law 293 = .ok (.iload_n 3, 1) := by decide +kernel
theorem dL_law_294 : decode cL_law 294 = .ok (.iconst 2, 1) := by decide +kernel
theorem dL_law_295 : decode cL_law 295 = .ok (.iadd, 1) := by decide +kernel
theorem dL_law_296 : decode cL_law 296 = .ok (.iaload, 1) := by decide +kernel
theorem dL_law_297 : decode cL_law 297 = .ok (.invokevirtual 40, 3) := by decide +kernel
theorem dL_law_300 : decode cL_law 300 = .ok (.aload_n 2, 1) := by decide +kernel
theorem dL_law_301 : decode cL_law 301 = .ok (.aload_n 0, 1) := by decide +kernel
theorem dL_law_302 : decode cL_law 302 = .ok (.iload_n 3, 1) := by decide +kernel
theorem dL_law_303 : decode cL_law 303 = .ok (.iconst 1, 1) := by decide +kernel
theorem dL_law_304 : decode cL_law 304 = .ok (.iadd, 1) := by decide +kernel
theorem dL_law_305 : decode cL_law 305 = .ok (.iaload, 1) := by decide +kernel
theorem dL_law_306 : decode cL_law 306 = .ok (.aload_n 0, 1) := by decide +kernel
theorem dL_law_307 : decode cL_law 307 = .ok (.iload_n 3, 1) := by decide +kernel
theorem dL_law_308 : decode cL_law 308 = .ok (.iconst 2, 1) := by decide +kernel
theorem dL_law_309 : decode cL_law 309 = .ok (.iadd, 1) := by decide +kernel
theorem dL_law_310 : decode cL_law 310 = .ok (.iaload, 1) := by decide +kernel
theorem dL_law_311 : decode cL_law 311 = .ok (.invokevirtual 43, 3) := by decide +kernel
theorem dL_law_314 : decode cL_law 314 = .ok (.if_icmp .eq 274, 3) := by decide +kernel
theorem dL_law_317 : decode cL_law 317 = .ok (.iconst 0, 1) := by decide +kernel
theorem dL_law_318 : decode cL_law 318 = .ok (.ireturn, 1) := by decide +kernel
theorem dL_law_319 : decode cL_law 319 = .ok (.aload_n 1, 1) := by decide +kernel
theorem dL_law_320 : decode cL_law 320 = .ok (.aload_n 0, 1) := by decide +kernel
theorem dL_law_321 : decode cL_law 321 = .ok (.iload_n 3, 1) := by decide +kernel
theorem dL_law_322 : decode cL_law 322 = .ok (.iconst 1, 1) := by decide +kernel
theorem dL_law_323 : decode cL_law 323 = .ok (.iadd, 1) := by decide +kernel
theorem dL_law_324 : decode cL_law 324 = .ok (.iaload, 1) := by decide +kernel
theorem dL_law_325 : decode cL_law 325 = .ok (.invokevirtual 44, 3) := by decide +kernel
theorem dL_law_328 : decode cL_law 328 = .ok (.aload_n 2, 1) := by decide +kernel
theorem dL_law_329 : decode cL_law 329 = .ok (.aload_n 0, 1) := by decide +kernel
theorem dL_law_330 : decode cL_law 330 = .ok (.iload_n 3, 1) := by decide +kernel
theorem dL_law_331 : decode cL_law 331 = .ok (.iconst 1, 1) := by decide +kernel
theorem dL_law_332 : decode cL_law 332 = .ok (.iadd, 1) := by decide +kernel
theorem dL_law_333 : decode cL_law 333 = .ok (.iaload, 1) := by decide +kernel
theorem dL_law_334 : decode cL_law 334 = .ok (.invokevirtual 47, 3) := by decide +kernel
theorem dL_law_337 : decode cL_law 337 = .ok (.if_icmp .eq 251, 3) := by decide +kernel
theorem dL_law_340 : decode cL_law 340 = .ok (.iconst 0, 1) := by decide +kernel
theorem dL_law_341 : decode cL_law 341 = .ok (.ireturn, 1) := by decide +kernel
theorem dL_law_342 : decode cL_law 342 = .ok (.aload_n 1, 1) := by decide +kernel
theorem dL_law_343 : decode cL_law 343 = .ok (.aload_n 0, 1) := by decide +kernel
theorem dL_law_344 : decode cL_law 344 = .ok (.iload_n 3, 1) := by decide +kernel
theorem dL_law_345 : decode cL_law 345 = .ok (.iconst 1, 1) := by decide +kernel
theorem dL_law_346 : decode cL_law 346 = .ok (.iadd, 1) := by decide +kernel
theorem dL_law_347 : decode cL_law 347 = .ok (.iaload, 1) := by decide +kernel
theorem dL_law_348 : decode cL_law 348 = .ok (.aload_n 0, 1) := by decide +kernel
theorem dL_law_349 : decode cL_law 349 = .ok (.iload_n 3, 1) := by decide +kernel
theorem dL_law_350 : decode cL_law 350 = .ok (.iconst 2, 1) := by decide +kernel
theorem dL_law_351 : decode cL_law 351 = .ok (.iadd, 1) := by decide +kernel
theorem dL_law_352 : decode cL_law 352 = .ok (.iaload, 1) := by decide +kernel
theorem dL_law_353 : decode cL_law 353 = .ok (.invokevirtual 48, 3) := by decide +kernel
theorem dL_law_356 : decode cL_law 356 = .ok (.aload_n 2, 1) := by decide +kernel
theorem dL_law_357 : decode cL_law 357 = .ok (.aload_n 0, 1) := by decide +kernel
theorem dL_law_358 : decode cL_law 358 = .ok (.iload_n 3, 1) := by decide +kernel
theorem dL_law_359 : decode cL_law 359 = .ok (.iconst 1, 1) := by decide +kernel
theorem dL_law_360 : decode cL_law 360 = .ok (.iadd, 1) := by decide +kernel
theorem dL_law_361 : decode cL_law 361 = .ok (.iaload, 1) := by decide +kernel
theorem dL_law_362 : decode cL_law 362 = .ok (.aload_n 0, 1) := by decide +kernel
theorem dL_law_363 : decode cL_law 363 = .ok (.iload_n 3, 1) := by decide +kernel
theorem dL_law_364 : decode cL_law 364 = .ok (.iconst 2, 1) := by decide +kernel
theorem dL_law_365 : decode cL_law 365 = .ok (.iadd, 1) := by decide +kernel
theorem dL_law_366 : decode cL_law 366 = .ok (.iaload, 1) := by decide +kernel
theorem dL_law_367 : decode cL_law 367 = .ok (.invokevirtual 51, 3) := by decide +kernel
theorem dL_law_370 : decode cL_law 370 = .ok (.if_icmp .eq 218, 3) := by decide +kernel
theorem dL_law_373 : decode cL_law 373 = .ok (.iconst 0, 1) := by decide +kernel
theorem dL_law_374 : decode cL_law 374 = .ok (.ireturn, 1) := by decide +kernel
theorem dL_law_375 : decode cL_law 375 = .ok (.aload_n 1, 1) := by decide +kernel
theorem dL_law_376 : decode cL_law 376 = .ok (.aload_n 0, 1) := by decide +kernel
theorem dL_law_377 : decode cL_law 377 = .ok (.iload_n 3, 1) := by decide +kernel
theorem dL_law_378 : decode cL_law 378 = .ok (.iconst 1, 1) := by decide +kernel
theorem dL_law_379 : decode cL_law 379 = .ok (.iadd, 1) := by decide +kernel
theorem dL_law_380 : decode cL_law 380 = .ok (.iaload, 1) := by decide +kernel
theorem dL_law_381 : decode cL_law 381 = .ok (.aload_n 0, 1) := by decide +kernel
theorem dL_law_382 : decode cL_law 382 = .ok (.iload_n 3, 1) := by decide +kernel
theorem dL_law_383 : decode cL_law 383 = .ok (.iconst 2, 1) := by decide +kernel
theorem dL_law_384 : decode cL_law 384 = .ok (.iadd, 1) := by decide +kernel
theorem dL_law_385 : decode cL_law 385 = .ok (.iaload, 1) := by decide +kernel
theorem dL_law_386 : decode cL_law 386 = .ok (.invokevirtual 52, 3) := by decide +kernel
theorem dL_law_389 : decode cL_law 389 = .ok (.aload_n 2, 1) := by decide +kernel
theorem dL_law_390 : decode cL_law 390 = .ok (.aload_n 0, 1) := by decide +kernel
theorem dL_law_391 : decode cL_law 391 = .ok (.iload_n 3, 1) := by decide +kernel
theorem dL_law_392 : decode cL_law 392 = .ok (.iconst 1, 1) := by decide +kernel
theorem dL_law_393 : decode cL_law 393 = .ok (.iadd, 1) := by decide +kernel
theorem dL_law_394 : decode cL_law 394 = .ok (.iaload, 1) := by decide +kernel
theorem dL_law_395 : decode cL_law 395 = .ok (.aload_n 0, 1) := by decide +kernel
theorem dL_law_396 : decode cL_law 396 = .ok (.iload_n 3, 1) := by decide +kernel
theorem dL_law_397 : decode cL_law 397 = .ok (.iconst 2, 1) := by decide +kernel
theorem dL_law_398 : decode cL_law 398 = .ok (.iadd, 1) := by decide +kernel
theorem dL_law_399 : decode cL_law 399 = .ok (.iaload, 1) := by decide +kernel
theorem dL_law_400 : decode cL_law 400 = .ok (.invokevirtual 55, 3) := by decide +kernel
theorem dL_law_403 : decode cL_law 403 = .ok (.if_icmp .eq 185, 3) := by decide +kernel
theorem dL_law_406 : decode cL_law 406 = .ok (.iconst 0, 1) := by decide +kernel
theorem dL_law_407 : decode cL_law 407 = .ok (.ireturn, 1) := by decide +kernel
theorem dL_law_408 : decode cL_law 408 = .ok (.aload_n 1, 1) := by decide +kernel
theorem dL_law_409 : decode cL_law 409 = .ok (.aload_n 0, 1) := by decide +kernel
theorem dL_law_410 : decode cL_law 410 = .ok (.iload_n 3, 1) := by decide +kernel
theorem dL_law_411 : decode cL_law 411 = .ok (.iconst 1, 1) := by decide +kernel
theorem dL_law_412 : decode cL_law 412 = .ok (.iadd, 1) := by decide +kernel
theorem dL_law_413 : decode cL_law 413 = .ok (.iaload, 1) := by decide +kernel
theorem dL_law_414 : decode cL_law 414 = .ok (.invokevirtual 56, 3) := by decide +kernel
theorem dL_law_417 : decode cL_law 417 = .ok (.aload_n 2, 1) := by decide +kernel
theorem dL_law_418 : decode cL_law 418 = .ok (.aload_n 0, 1) := by decide +kernel
theorem dL_law_419 : decode cL_law 419 = .ok (.iload_n 3, 1) := by decide +kernel
theorem dL_law_420 : decode cL_law 420 = .ok (.iconst 1, 1) := by decide +kernel
theorem dL_law_421 : decode cL_law 421 = .ok (.iadd, 1) := by decide +kernel
theorem dL_law_422 : decode cL_law 422 = .ok (.iaload, 1) := by decide +kernel
theorem dL_law_423 : decode cL_law 423 = .ok (.invokevirtual 59, 3) := by decide +kernel
theorem dL_law_426 : decode cL_law 426 = .ok (.if_icmp .eq 162, 3) := by decide +kernel
theorem dL_law_429 : decode cL_law 429 = .ok (.iconst 0, 1) := by decide +kernel
theorem dL_law_430 : decode cL_law 430 = .ok (.ireturn, 1) := by decide +kernel
theorem dL_law_431 : decode cL_law 431 = .ok (.aload_n 1, 1) := by decide +kernel
theorem dL_law_432 : decode cL_law 432 = .ok (.aload_n 0, 1) := by decide +kernel
theorem dL_law_433 : decode cL_law 433 = .ok (.iload_n 3, 1) := by decide +kernel
theorem dL_law_434 : decode cL_law 434 = .ok (.iconst 1, 1) := by decide +kernel
theorem dL_law_435 : decode cL_law 435 = .ok (.iadd, 1) := by decide +kernel
theorem dL_law_436 : decode cL_law 436 = .ok (.iaload, 1) := by decide +kernel
theorem dL_law_437 : decode cL_law 437 = .ok (.invokevirtual 60, 3) := by decide +kernel
theorem dL_law_440 : decode cL_law 440 = .ok (.aload_n 2, 1) := by decide +kernel
theorem dL_law_441 : decode cL_law 441 = .ok (.aload_n 0, 1) := by decide +kernel
theorem dL_law_442 : decode cL_law 442 = .ok (.iload_n 3, 1) := by decide +kernel
theorem dL_law_443 : decode cL_law 443 = .ok (.iconst 1, 1) := by decide +kernel
theorem dL_law_444 : decode cL_law 444 = .ok (.iadd, 1) := by decide +kernel
theorem dL_law_445 : decode cL_law 445 = .ok (.iaload, 1) := by decide +kernel
theorem dL_law_446 : decode cL_law 446 = .ok (.invokevirtual 63, 3) := by decide +kernel
theorem dL_law_449 : decode cL_law 449 = .ok (.if_icmp .eq 139, 3) := by decide +kernel
theorem dL_law_452 : decode cL_law 452 = .ok (.iconst 0, 1) := by decide +kernel
theorem dL_law_453 : decode cL_law 453 = .ok (.ireturn, 1) := by decide +kernel
theorem dL_law_454 : decode cL_law 454 = .ok (.aload_n 1, 1) := by decide +kernel
theorem dL_law_455 : decode cL_law 455 = .ok (.aload_n 0, 1) := by decide +kernel
theorem dL_law_456 : decode cL_law 456 = .ok (.iload_n 3, 1) := by decide +kernel
theorem dL_law_457 : decode cL_law 457 = .ok (.iconst 1, 1) := by decide +kernel
theorem dL_law_458 : decode cL_law 458 = .ok (.iadd, 1) := by decide +kernel
theorem dL_law_459 : decode cL_law 459 = .ok (.iaload, 1) := by decide +kernel
theorem dL_law_460 : decode cL_law 460 = .ok (.invokevirtual 64, 3) := by decide +kernel
theorem dL_law_463 : decode cL_law 463 = .ok (.aload_n 2, 1) := by decide +kernel
theorem dL_law_464 : decode cL_law 464 = .ok (.aload_n 0, 1) := by decide +kernel
theorem dL_law_465 : decode cL_law 465 = .ok (.iload_n 3, 1) := by decide +kernel
theorem dL_law_466 : decode cL_law 466 = .ok (.iconst 1, 1) := by decide +kernel
theorem dL_law_467 : decode cL_law 467 = .ok (.iadd, 1) := by decide +kernel
theorem dL_law_468 : decode cL_law 468 = .ok (.iaload, 1) := by decide +kernel
theorem dL_law_469 : decode cL_law 469 = .ok (.invokevirtual 67, 3) := by decide +kernel
theorem dL_law_472 : decode cL_law 472 = .ok (.if_icmp .eq 116, 3) := by decide +kernel
theorem dL_law_475 : decode cL_law 475 = .ok (.iconst 0, 1) := by decide +kernel
theorem dL_law_476 : decode cL_law 476 = .ok (.ireturn, 1) := by decide +kernel
theorem dL_law_477 : decode cL_law 477 = .ok (.aload_n 1, 1) := by decide +kernel
theorem dL_law_478 : decode cL_law 478 = .ok (.invokevirtual 68, 3) := by decide +kernel
theorem dL_law_481 : decode cL_law 481 = .ok (.aload_n 2, 1) := by decide +kernel
theorem dL_law_482 : decode cL_law 482 = .ok (.invokevirtual 71, 3) := by decide +kernel
theorem dL_law_485 : decode cL_law 485 = .ok (.if_icmp .eq 103, 3) := by decide +kernel
theorem dL_law_488 : decode cL_law 488 = .ok (.iconst 0, 1) := by decide +kernel
theorem dL_law_489 : decode cL_law 489 = .ok (.ireturn, 1) := by decide +kernel
theorem dL_law_490 : decode cL_law 490 = .ok (.aload_n 1, 1) := by decide +kernel
theorem dL_law_491 : decode cL_law 491 = .ok (.invokevirtual 72, 3) := by decide +kernel
theorem dL_law_494 : decode cL_law 494 = .ok (.aload_n 2, 1) := by decide +kernel
theorem dL_law_495 : decode cL_law 495 = .ok (.invokevirtual 75, 3) := by decide +kernel
theorem dL_law_498 : decode cL_law 498 = .ok (.if_icmp .eq 90, 3) := by decide +kernel
theorem dL_law_501 : decode cL_law 501 = .ok (.iconst 0, 1) := by decide +kernel
theorem dL_law_502 : decode cL_law 502 = .ok (.ireturn, 1) := by decide +kernel
theorem dL_law_503 : decode cL_law 503 = .ok (.aload_n 1, 1) := by decide +kernel
theorem dL_law_504 : decode cL_law 504 = .ok (.invokevirtual 76, 3) := by decide +kernel
theorem dL_law_507 : decode cL_law 507 = .ok (.aload_n 2, 1) := by decide +kernel
theorem dL_law_508 : decode cL_law 508 = .ok (.invokevirtual 79, 3) := by decide +kernel
theorem dL_law_511 : decode cL_law 511 = .ok (.if_icmp .eq 77, 3) := by decide +kernel
theorem dL_law_514 : decode cL_law 514 = .ok (.iconst 0, 1) := by decide +kernel
theorem dL_law_515 : decode cL_law 515 = .ok (.ireturn, 1) := by decide +kernel
theorem dL_law_516 : decode cL_law 516 = .ok (.aload_n 1, 1) := by decide +kernel
theorem dL_law_517 : decode cL_law 517 = .ok (.aload_n 0, 1) := by decide +kernel
theorem dL_law_518 : decode cL_law 518 = .ok (.iload_n 3, 1) := by decide +kernel
theorem dL_law_519 : decode cL_law 519 = .ok (.iconst 1, 1) := by decide +kernel
theorem dL_law_520 : decode cL_law 520 = .ok (.iadd, 1) := by decide +kernel
theorem dL_law_521 : decode cL_law 521 = .ok (.iaload, 1) := by decide +kernel
theorem dL_law_522 : decode cL_law 522 = .ok (.invokevirtual 80, 3) := by decide +kernel
theorem dL_law_525 : decode cL_law 525 = .ok (.aload_n 2, 1) := by decide +kernel
theorem dL_law_526 : decode cL_law 526 = .ok (.aload_n 0, 1) := by decide +kernel
theorem dL_law_527 : decode cL_law 527 = .ok (.iload_n 3, 1) := by decide +kernel
theorem dL_law_528 : decode cL_law 528 = .ok (.iconst 1, 1) := by decide +kernel
theorem dL_law_529 : decode cL_law 529 = .ok (.iadd, 1) := by decide +kernel
theorem dL_law_530 : decode cL_law 530 = .ok (.iaload, 1) := by decide +kernel
theorem dL_law_531 : decode cL_law 531 = .ok (.invokevirtual 83, 3) := by decide +kernel
theorem dL_law_534 : decode cL_law 534 = .ok (.if_icmp .eq 54, 3) := by decide +kernel
theorem dL_law_537 : decode cL_law 537 = .ok (.iconst 0, 1) := by decide +kernel
theorem dL_law_538 : decode cL_law 538 = .ok (.ireturn, 1) := by decide +kernel
theorem dL_law_539 : decode cL_law 539 = .ok (.aload_n 1, 1) := by decide +kernel
theorem dL_law_540 : decode cL_law 540 = .ok (.invokevirtual 84, 3) := by decide +kernel
theorem dL_law_543 : decode cL_law 543 = .ok (.aload_n 2, 1) := by decide +kernel
theorem dL_law_544 : decode cL_law 544 = .ok (.invokevirtual 87, 3) := by decide +kernel
theorem dL_law_547 : decode cL_law 547 = .ok (.if_icmp .eq 41, 3) := by decide +kernel
theorem dL_law_550 : decode cL_law 550 = .ok (.iconst 0, 1) := by decide +kernel
theorem dL_law_551 : decode cL_law 551 = .ok (.ireturn, 1) := by decide +kernel
theorem dL_law_552 : decode cL_law 552 = .ok (.aload_n 1, 1) := by decide +kernel
theorem dL_law_553 : decode cL_law 553 = .ok (.aload_n 0, 1) := by decide +kernel
theorem dL_law_554 : decode cL_law 554 = .ok (.iload_n 3, 1) := by decide +kernel
theorem dL_law_555 : decode cL_law 555 = .ok (.iconst 1, 1) := by decide +kernel
theorem dL_law_556 : decode cL_law 556 = .ok (.iadd, 1) := by decide +kernel
theorem dL_law_557 : decode cL_law 557 = .ok (.iaload, 1) := by decide +kernel
theorem dL_law_558 : decode cL_law 558 = .ok (.invokevirtual 88, 3) := by decide +kernel
theorem dL_law_561 : decode cL_law 561 = .ok (.aload_n 2, 1) := by decide +kernel
theorem dL_law_562 : decode cL_law 562 = .ok (.aload_n 0, 1) := by decide +kernel
theorem dL_law_563 : decode cL_law 563 = .ok (.iload_n 3, 1) := by decide +kernel
theorem dL_law_564 : decode cL_law 564 = .ok (.iconst 1, 1) := by decide +kernel
theorem dL_law_565 : decode cL_law 565 = .ok (.iadd, 1) := by decide +kernel
theorem dL_law_566 : decode cL_law 566 = .ok (.iaload, 1) := by decide +kernel
theorem dL_law_567 : decode cL_law 567 = .ok (.invokevirtual 91, 3) := by decide +kernel
theorem dL_law_570 : decode cL_law 570 = .ok (.if_icmp .eq 18, 3) := by decide +kernel
theorem dL_law_573 : decode cL_law 573 = .ok (.iconst 0, 1) := by decide +kernel
theorem dL_law_574 : decode cL_law 574 = .ok (.ireturn, 1) := by decide +kernel
theorem dL_law_575 : decode cL_law 575 = .ok (.aload_n 1, 1) := by decide +kernel
theorem dL_law_576 : decode cL_law 576 = .ok (.invokevirtual 92, 3) := by decide +kernel
theorem dL_law_579 : decode cL_law 579 = .ok (.aload_n 2, 1) := by decide +kernel
theorem dL_law_580 : decode cL_law 580 = .ok (.invokevirtual 95, 3) := by decide +kernel
theorem dL_law_583 : decode cL_law 583 = .ok (.if_icmp .eq 5, 3) := by decide +kernel
theorem dL_law_586 : decode cL_law 586 = .ok (.iconst 0, 1) := by decide +kernel
theorem dL_law_587 : decode cL_law 587 = .ok (.ireturn, 1) := by decide +kernel
theorem dL_law_588 : decode cL_law 588 = .ok (.iinc 3 3, 3) := by decide +kernel
theorem dL_law_591 : decode cL_law 591 = .ok (.goto (-573), 3) := by decide +kernel
theorem dL_law_594 : decode cL_law 594 = .ok (.iconst 1, 1) := by decide +kernel
theorem dL_law_595 : decode cL_law 595 = .ok (.ireturn, 1) := by decide +kernel
end
section
/-! the words of the tables, in the names' terms -/
theorem q_ini_L : Cond.initialized RL ∈ TT := tt_mem (i := 24) (by decide +kernel) (by decide +kernel)
theorem q_ini_X4 : Cond.initialized RX4 ∈ TT := tt_mem (i := 25) (by decide +kernel) (by decide +kernel)
theorem q_ini_X0 : Cond.initialized RX0 ∈ TT := tt_mem (i := 26) (by decide +kernel) (by decide +kernel)
theorem q_ini_X1 : Cond.initialized RX1 ∈ TT := tt_mem (i := 27) (by decide +kernel) (by decide +kernel)
theorem q_ini_X3 : Cond.initialized RX3 ∈ TT := tt_mem (i := 28) (by decide +kernel) (by decide +kernel)
theorem q_ini_X2 : Cond.initialized RX2 ∈ TT := tt_mem (i := 29) (by decide +kernel) (by decide +kernel)
theorem q_ini_X5 : Cond.initialized RX5 ∈ TT := tt_mem (i := 30) (by decide +kernel) (by decide +kernel)
theorem q_ini_J9 : Cond.initialized RJ9 ∈ TT := tt_mem (i := 31) (by decide +kernel) (by decide +kernel)
theorem q_ini_J10 : Cond.initialized RJ10 ∈ TT := tt_mem (i := 32) (by decide +kernel) (by decide +kernel)
theorem q_cl_L_7 : Cond.classLink RL 7 RX4 ∈ TT := tt_mem (i := 33) (by decide +kernel) (by decide +kernel)
theorem q_new_X4 : Cond.instantiable RX4 5 ∈ TT := tt_mem (i := 34) (by decide +kernel) (by decide +kernel)
theorem q_ml_L_9 : Cond.methodLink RL 9 yX4_init ∈ TT := tt_mem (i := 35) (by decide +kernel) (by decide +kernel)
theorem q_ins_X4_init : Cond.instanceMethod yX4_init ∈ TT := tt_mem (i := 36) (by decide +kernel) (by decide +kernel)
theorem q_code_X4_init : Cond.code yX4_init cX4_init 1 none ∈ TT := tt_mem (i := 37) (by decide +kernel) (by decide +kernel)
theorem q_ml_X4_1 : Cond.methodLink RX4 1 objectInit ∈ TT := tt_mem (i := 38) (by decide +kernel) (by decide +kernel)
theorem q_ins_Object_init : Cond.instanceMethod objectInit ∈ TT := tt_mem (i := 39) (by decide +kernel) (by decide +kernel)
theorem q_code_Object_init : Cond.code objectInit ⟨#[0xb1]⟩ 1 none ∈ TT := tt_mem (i := 40) (by decide +kernel) (by decide +kernel)
theorem q_cl_X4_7 : Cond.classLink RX4 7 RX0 ∈ TT := tt_mem (i := 41) (by decide +kernel) (by decide +kernel)
theorem q_new_X0 : Cond.instantiable RX0 17 ∈ TT := tt_mem (i := 42) (by decide +kernel) (by decide +kernel)
theorem q_ins_X0_init : Cond.instanceMethod yX0_init ∈ TT := tt_mem (i := 44) (by decide +kernel) (by decide +kernel)
theorem q_code_X0_init : Cond.code yX0_init cX0_init 1 none ∈ TT := tt_mem (i := 45) (by decide +kernel) (by decide +kernel)
theorem q_ml_X0_3 : Cond.methodLink RX0 3 objectInit ∈ TT := tt_mem (i := 46) (by decide +kernel) (by decide +kernel)
theorem q_fl_X0_9 : Cond.fieldLink RX0 9 (TX0 0).1 (TX0 0).2.1 (TX0 0).2.2.1 ∈ TT := tt_mem (i := 47) (by decide +kernel) (by decide +kernel)
theorem q_fl_X0_15 : Cond.fieldLink RX0 15 (TX0 1).1 (TX0 1).2.1 (TX0 1).2.2.1 ∈ TT := tt_mem (i := 48) (by decide +kernel) (by decide +kernel)
theorem q_fl_X0_18 : Cond.fieldLink RX0 18 (TX0 2).1 (TX0 2).2.1 (TX0 2).2.2.1 ∈ TT := tt_mem (i := 49) (by decide +kernel) (by decide +kernel)
theorem q_fl_X4_95 : Cond.fieldLink RX4 95 (TX0 2).1 (TX0 2).2.1 (TX0 2).2.2.1 ∈ TT := tt_mem (i := 50) (by decide +kernel) (by decide +kernel)
theorem q_fl_X0_21 : Cond.fieldLink RX0 21 (TX0 3).1 (TX0 3).2.1 (TX0 3).2.2.1 ∈ TT := tt_mem (i := 51) (by decide +kernel) (by decide +kernel)
theorem q_fl_X0_24 : Cond.fieldLink RX0 24 (TX0 4).1 (TX0 4).2.1 (TX0 4).2.2.1 ∈ TT := tt_mem (i := 52) (by decide +kernel) (by decide +kernel)
theorem q_fl_X0_27 : Cond.fieldLink RX0 27 (TX0 5).1 (TX0 5).2.1 (TX0 5).2.2.1 ∈ TT := tt_mem (i := 53) (by decide +kernel) (by decide +kernel)
theorem q_fl_X0_30 : Cond.fieldLink RX0 30 (TX0 6).1 (TX0 6).2.1 (TX0 6).2.2.1 ∈ TT := tt_mem (i := 54) (by decide +kernel) (by decide +kernel)
theorem q_fl_X0_33 : Cond.fieldLink RX0 33 (TX0 7).1 (TX0 7).2.1 (TX0 7).2.2.1 ∈ TT := tt_mem (i := 55) (by decide +kernel) (by decide +kernel)
theorem q_fl_X0_36 : Cond.fieldLink RX0 36 (TX0 8).1 (TX0 8).2.1 (TX0 8).2.2.1 ∈ TT := tt_mem (i := 56) (by decide +kernel) (by decide +kernel)
theorem q_fl_X0_47 : Cond.fieldLink RX0 47 (TX0 9).1 (TX0 9).2.1 (TX0 9).2.2.1 ∈ TT := tt_mem (i := 57) (by decide +kernel) (by decide +kernel)
theorem q_fl_X0_50 : Cond.fieldLink RX0 50 (TX0 10).1 (TX0 10).2.1 (TX0 10).2.2.1 ∈ TT := tt_mem (i := 58) (by decide +kernel) (by decide +kernel)
theorem q_fl_X0_39 : Cond.fieldLink RX0 39 (TX0 11).1 (TX0 11).2.1 (TX0 11).2.2.1 ∈ TT := tt_mem (i := 59) (by decide +kernel) (by decide +kernel)
theorem q_fl_X0_53 : Cond.fieldLink RX0 53 (TX0 12).1 (TX0 12).2.1 (TX0 12).2.2.1 ∈ TT := tt_mem (i := 60) (by decide +kernel) (by decide +kernel)
theorem q_fl_X0_56 : Cond.fieldLink RX0 56 (TX0 13).1 (TX0 13).2.1 (TX0 13).2.2.1 ∈ TT := tt_mem (i := 61) (by decide +kernel) (by decide +kernel)
theorem q_fl_X4_108 : Cond.fieldLink RX4 108 (TX0 13).1 (TX0 13).2.1 (TX0 13).2.2.1 ∈ TT := tt_mem (i := 62) (by decide +kernel) (by decide +kernel)
theorem q_fl_X0_59 : Cond.fieldLink RX0 59 (TX0 14).1 (TX0 14).2.1 (TX0 14).2.2.1 ∈ TT := tt_mem (i := 63) (by decide +kernel) (by decide +kernel)
theorem q_fl_X0_62 : Cond.fieldLink RX0 62 (TX0 15).1 (TX0 15).2.1 (TX0 15).2.2.1 ∈ TT := tt_mem (i := 64) (by decide +kernel) (by decide +kernel)
theorem q_fl_X0_65 : Cond.fieldLink RX0 65 (TX0 16).1 (TX0 16).2.1 (TX0 16).2.2.1 ∈ TT := tt_mem (i := 65) (by decide +kernel) (by decide +kernel)
theorem q_ac_int : Cond.arrayClass .int ∈ TT := tt_mem (i := 101) (by decide +kernel) (by decide +kernel)
theorem q_cl_X4_19 : Cond.classLink RX4 19 RX1 ∈ TT := tt_mem (i := 102) (by decide +kernel) (by decide +kernel)
theorem q_new_X1 : Cond.instantiable RX1 3 ∈ TT := tt_mem (i := 103) (by decide +kernel) (by decide +kernel)
theorem q_ml_X4_21 : Cond.methodLink RX4 21 yX1_init ∈ TT := tt_mem (i := 104) (by decide +kernel) (by decide +kernel)
theorem q_ins_X1_init : Cond.instanceMethod yX1_init ∈ TT := tt_mem (i := 105) (by decide +kernel) (by decide +kernel)
theorem q_code_X1_init : Cond.code yX1_init cX1_init 2 none ∈ TT := tt_mem (i := 106) (by decide +kernel) (by decide +kernel)
theorem q_ml_X1_3 : Cond.methodLink RX1 3 objectInit ∈ TT := tt_mem (i := 107) (by decide +kernel) (by decide +kernel)
theorem q_cl_X1_9 : Cond.classLink RX1 9 RX0 ∈ TT := tt_mem (i := 108) (by decide +kernel) (by decide +kernel)
theorem q_fl_X1_11 : Cond.fieldLink RX1 11 (TX1 0).1 (TX1 0).2.1 (TX1 0).2.2.1 ∈ TT := tt_mem (i := 111) (by decide +kernel) (by decide +kernel)
theorem q_fl_X1_22 : Cond.fieldLink RX1 22 (TX1 1).1 (TX1 1).2.1 (TX1 1).2.2.1 ∈ TT := tt_mem (i := 112) (by decide +kernel) (by decide +kernel)
theorem q_fl_X1_18 : Cond.fieldLink RX1 18 (TX1 2).1 (TX1 2).2.1 (TX1 2).2.2.1 ∈ TT := tt_mem (i := 113) (by decide +kernel) (by decide +kernel)
theorem q_fl_X4_71 : Cond.fieldLink RX4 71 (TX1 2).1 (TX1 2).2.1 (TX1 2).2.2.1 ∈ TT := tt_mem (i := 114) (by decide +kernel) (by decide +kernel)
theorem q_cl_X4_26 : Cond.classLink RX4 26 RX3 ∈ TT := tt_mem (i := 122) (by decide +kernel) (by decide +kernel)
theorem q_new_X3 : Cond.instantiable RX3 6 ∈ TT := tt_mem (i := 123) (by decide +kernel) (by decide +kernel)
theorem q_ins_X3_init : Cond.instanceMethod yX3_init ∈ TT := tt_mem (i := 125) (by decide +kernel) (by decide +kernel)
theorem q_code_X3_init : Cond.code yX3_init cX3_init 1 none ∈ TT := tt_mem (i := 126) (by decide +kernel) (by decide +kernel)
theorem q_ml_X3_3 : Cond.methodLink RX3 3 objectInit ∈ TT := tt_mem (i := 127) (by decide +kernel) (by decide +kernel)
theorem q_fl_X3_9 : Cond.fieldLink RX3 9 (TX3 0).1 (TX3 0).2.1 (TX3 0).2.2.1 ∈ TT := tt_mem (i := 128) (by decide +kernel) (by decide +kernel)
theorem q_fl_X3_15 : Cond.fieldLink RX3 15 (TX3 1).1 (TX3 1).2.1 (TX3 1).2.2.1 ∈ TT := tt_mem (i := 129) (by decide +kernel) (by decide +kernel)
theorem q_fl_X4_75 : Cond.fieldLink RX4 75 (TX3 1).1 (TX3 1).2.1 (TX3 1).2.2.1 ∈ TT := tt_mem (i := 130) (by decide +kernel) (by decide +kernel)
theorem q_fl_X3_26 : Cond.fieldLink RX3 26 (TX3 2).1 (TX3 2).2.1 (TX3 2).2.2.1 ∈ TT := tt_mem (i := 131) (by decide +kernel) (by decide +kernel)
theorem q_fl_X4_141 : Cond.fieldLink RX4 141 (TX3 2).1 (TX3 2).2.1 (TX3 2).2.2.1 ∈ TT := tt_mem (i := 132) (by decide +kernel) (by decide +kernel)
theorem q_fl_X3_23 : Cond.fieldLink RX3 23 (TX3 3).1 (TX3 3).2.1 (TX3 3).2.2.1 ∈ TT := tt_mem (i := 133) (by decide +kernel) (by decide +kernel)
theorem q_fl_X4_154 : Cond.fieldLink RX4 154 (TX3 3).1 (TX3 3).2.1 (TX3 3).2.2.1 ∈ TT := tt_mem (i := 134) (by decide +kernel) (by decide +kernel)
theorem q_fl_X3_29 : Cond.fieldLink RX3 29 (TX3 4).1 (TX3 4).2.1 (TX3 4).2.2.1 ∈ TT := tt_mem (i := 135) (by decide +kernel) (by decide +kernel)
theorem q_fl_X4_157 : Cond.fieldLink RX4 157 (TX3 4).1 (TX3 4).2.1 (TX3 4).2.2.1 ∈ TT := tt_mem (i := 136) (by decide +kernel) (by decide +kernel)
theorem q_fl_X3_32 : Cond.fieldLink RX3 32 (TX3 5).1 (TX3 5).2.1 (TX3 5).2.2.1 ∈ TT := tt_mem (i := 137) (by decide +kernel) (by decide +kernel)
theorem q_fl_X4_160 : Cond.fieldLink RX4 160 (TX3 5).1 (TX3 5).2.1 (TX3 5).2.2.1 ∈ TT := tt_mem (i := 138) (by decide +kernel) (by decide +kernel)
theorem q_ac_char : Cond.arrayClass .char ∈ TT := tt_mem (i := 152) (by decide +kernel) (by decide +kernel)
theorem q_cl_X4_33 : Cond.classLink RX4 33 RX2 ∈ TT := tt_mem (i := 153) (by decide +kernel) (by decide +kernel)
theorem q_new_X2 : Cond.instantiable RX2 4 ∈ TT := tt_mem (i := 154) (by decide +kernel) (by decide +kernel)
theorem q_ins_X2_init : Cond.instanceMethod yX2_init ∈ TT := tt_mem (i := 156) (by decide +kernel) (by decide +kernel)
theorem q_code_X2_init : Cond.code yX2_init cX2_init 1 none ∈ TT := tt_mem (i := 157) (by decide +kernel) (by decide +kernel)
theorem q_ml_X2_3 : Cond.methodLink RX2 3 objectInit ∈ TT := tt_mem (i := 158) (by decide +kernel) (by decide +kernel)
theorem q_fl_X2_9 : Cond.fieldLink RX2 9 (TX2 0).1 (TX2 0).2.1 (TX2 0).2.2.1 ∈ TT := tt_mem (i := 159) (by decide +kernel) (by decide +kernel)
theorem q_fl_X4_126 : Cond.fieldLink RX4 126 (TX2 0).1 (TX2 0).2.1 (TX2 0).2.2.1 ∈ TT := tt_mem (i := 160) (by decide +kernel) (by decide +kernel)
theorem q_fl_X2_15 : Cond.fieldLink RX2 15 (TX2 1).1 (TX2 1).2.1 (TX2 1).2.2.1 ∈ TT := tt_mem (i := 161) (by decide +kernel) (by decide +kernel)
theorem q_fl_X4_123 : Cond.fieldLink RX4 123 (TX2 1).1 (TX2 1).2.1 (TX2 1).2.2.1 ∈ TT := tt_mem (i := 162) (by decide +kernel) (by decide +kernel)
theorem q_fl_X2_18 : Cond.fieldLink RX2 18 (TX2 2).1 (TX2 2).2.1 (TX2 2).2.2.1 ∈ TT := tt_mem (i := 163) (by decide +kernel) (by decide +kernel)
theorem q_fl_X4_129 : Cond.fieldLink RX4 129 (TX2 2).1 (TX2 2).2.1 (TX2 2).2.2.1 ∈ TT := tt_mem (i := 164) (by decide +kernel) (by decide +kernel)
theorem q_fl_X2_21 : Cond.fieldLink RX2 21 (TX2 3).1 (TX2 3).2.1 (TX2 3).2.2.1 ∈ TT := tt_mem (i := 165) (by decide +kernel) (by decide +kernel)
theorem q_fl_X4_132 : Cond.fieldLink RX4 132 (TX2 3).1 (TX2 3).2.1 (TX2 3).2.2.1 ∈ TT := tt_mem (i := 166) (by decide +kernel) (by decide +kernel)
theorem q_fl_X4_10 : Cond.fieldLink RX4 10 (TX4 0).1 (TX4 0).2.1 (TX4 0).2.2.1 ∈ TT := tt_mem (i := 176) (by decide +kernel) (by decide +kernel)
theorem q_fl_X4_16 : Cond.fieldLink RX4 16 (TX4 1).1 (TX4 1).2.1 (TX4 1).2.2.1 ∈ TT := tt_mem (i := 177) (by decide +kernel) (by decide +kernel)
theorem q_fl_X4_22 : Cond.fieldLink RX4 22 (TX4 2).1 (TX4 2).2.1 (TX4 2).2.2.1 ∈ TT := tt_mem (i := 178) (by decide +kernel) (by decide +kernel)
theorem q_fl_X4_29 : Cond.fieldLink RX4 29 (TX4 3).1 (TX4 3).2.1 (TX4 3).2.2.1 ∈ TT := tt_mem (i := 179) (by decide +kernel) (by decide +kernel)
theorem q_fl_X4_36 : Cond.fieldLink RX4 36 (TX4 4).1 (TX4 4).2.1 (TX4 4).2.2.1 ∈ TT := tt_mem (i := 180) (by decide +kernel) (by decide +kernel)
theorem q_ml_L_13 : Cond.methodLink RL 13 yX4_member ∈ TT := tt_mem (i := 192) (by decide +kernel) (by decide +kernel)
theorem q_ins_X4_member : Cond.instanceMethod yX4_member ∈ TT := tt_mem (i := 193) (by decide +kernel) (by decide +kernel)
theorem q_sel_X4_member : Cond.selects RX4 yX4_member yX4_member ∈ TT := tt_mem (i := 194) (by decide +kernel) (by decide +kernel)
theorem q_code_X4_member : Cond.code yX4_member cX4_member 2 (some .int) ∈ TT := tt_mem (i := 195) (by decide +kernel) (by decide +kernel)
theorem q_ml_X4_40 : Cond.methodLink RX4 40 yX0_takeOver ∈ TT := tt_mem (i := 196) (by decide +kernel) (by decide +kernel)
theorem q_ins_X0_takeOver : Cond.instanceMethod yX0_takeOver ∈ TT := tt_mem (i := 197) (by decide +kernel) (by decide +kernel)
theorem q_sel_X0_takeOver : Cond.selects RX0 yX0_takeOver yX0_takeOver ∈ TT := tt_mem (i := 198) (by decide +kernel) (by decide +kernel)
theorem q_code_X0_takeOver : Cond.code yX0_takeOver cX0_takeOver 2 none ∈ TT := tt_mem (i := 199) (by decide +kernel) (by decide +kernel)
theorem q_sta_X4_copyRow : Cond.static yX4_copyRow ∈ TT := tt_mem (i := 201) (by decide +kernel) (by decide +kernel)
theorem q_code_X4_copyRow : Cond.code yX4_copyRow cX4_copyRow 2 none ∈ TT := tt_mem (i := 202) (by decide +kernel) (by decide +kernel)
theorem q_ml_X4_163 : Cond.methodLink RX4 163 Lib.Math.min.name ∈ TT := tt_mem (i := 203) (by decide +kernel) (by decide +kernel)
theorem q_sta_J9_min : Cond.static Lib.Math.min.name ∈ TT := tt_mem (i := 204) (by decide +kernel) (by decide +kernel)
theorem q_code_J9_min : Cond.code Lib.Math.min.name Lib.Math.min.code 2 (some .int) ∈ TT := tt_mem (i := 205) (by decide +kernel) (by decide +kernel)
theorem q_ml_X4_168 : Cond.methodLink RX4 168 arraycopyName ∈ TT := tt_mem (i := 206) (by decide +kernel) (by decide +kernel)
theorem q_sta_J10_arraycopy : Cond.static arraycopyName ∈ TT := tt_mem (i := 207) (by decide +kernel) (by decide +kernel)
theorem q_nat_J10_arraycopy : Cond.native arraycopyName ∈ TT := tt_mem (i := 208) (by decide +kernel) (by decide +kernel)
theorem q_ml_X4_44 : Cond.methodLink RX4 44 yX0_addMember ∈ TT := tt_mem (i := 209) (by decide +kernel) (by decide +kernel)
theorem q_ins_X0_addMember : Cond.instanceMethod yX0_addMember ∈ TT := tt_mem (i := 210) (by decide +kernel) (by decide +kernel)
theorem q_sel_X0_addMember : Cond.selects RX0 yX0_addMember yX0_addMember ∈ TT := tt_mem (i := 211) (by decide +kernel) (by decide +kernel)
theorem q_code_X0_addMember : Cond.code yX0_addMember cX0_addMember 2 (some .int) ∈ TT := tt_mem (i := 212) (by decide +kernel) (by decide +kernel)
theorem q_ml_X4_48 : Cond.methodLink RX4 48 yX4_keptIfDone ∈ TT := tt_mem (i := 213) (by decide +kernel) (by decide +kernel)
theorem q_ins_X4_keptIfDone : Cond.instanceMethod yX4_keptIfDone ∈ TT := tt_mem (i := 215) (by decide +kernel) (by decide +kernel)
theorem q_code_X4_keptIfDone : Cond.code yX4_keptIfDone cX4_keptIfDone 2 (some .int) ∈ TT := tt_mem (i := 216) (by decide +kernel) (by decide +kernel)
theorem q_ml_X4_135 : Cond.methodLink RX4 135 yX1_record ∈ TT := tt_mem (i := 217) (by decide +kernel) (by decide +kernel)
theorem q_ins_X1_record : Cond.instanceMethod yX1_record ∈ TT := tt_mem (i := 218) (by decide +kernel) (by decide +kernel)
theorem q_sel_X1_record : Cond.selects RX1 yX1_record yX1_record ∈ TT := tt_mem (i := 219) (by decide +kernel) (by decide +kernel)
theorem q_code_X1_record : Cond.code yX1_record cX1_record 3 none ∈ TT := tt_mem (i := 220) (by decide +kernel) (by decide +kernel)
theorem q_ml_X1_25 : Cond.methodLink RX1 25 yX0_takeOver ∈ TT := tt_mem (i := 221) (by decide +kernel) (by decide +kernel)
theorem q_ml_L_18 : Cond.methodLink RL 18 yX4_use ∈ TT := tt_mem (i := 222) (by decide +kernel) (by decide +kernel)
theorem q_ins_X4_use : Cond.instanceMethod yX4_use ∈ TT := tt_mem (i := 223) (by decide +kernel) (by decide +kernel)
theorem q_sel_X4_use : Cond.selects RX4 yX4_use yX4_use ∈ TT := tt_mem (i := 224) (by decide +kernel) (by decide +kernel)
theorem q_code_X4_use : Cond.code yX4_use cX4_use 3 (some .int) ∈ TT := tt_mem (i := 225) (by decide +kernel) (by decide +kernel)
theorem q_ml_X4_51 : Cond.methodLink RX4 51 yX0_declareUse ∈ TT := tt_mem (i := 226) (by decide +kernel) (by decide +kernel)
theorem q_ins_X0_declareUse : Cond.instanceMethod yX0_declareUse ∈ TT := tt_mem (i := 227) (by decide +kernel) (by decide +kernel)
theorem q_sel_X0_declareUse : Cond.selects RX0 yX0_declareUse yX0_declareUse ∈ TT := tt_mem (i := 228) (by decide +kernel) (by decide +kernel)
theorem q_code_X0_declareUse : Cond.code yX0_declareUse cX0_declareUse 3 (some .int) ∈ TT := tt_mem (i := 229) (by decide +kernel) (by decide +kernel)
theorem q_ml_X0_86 : Cond.methodLink RX0 86 yX0_has ∈ TT := tt_mem (i := 230) (by decide +kernel) (by decide +kernel)
theorem q_ins_X0_has : Cond.instanceMethod yX0_has ∈ TT := tt_mem (i := 231) (by decide +kernel) (by decide +kernel)
theorem q_sel_X0_has : Cond.selects RX0 yX0_has yX0_has ∈ TT := tt_mem (i := 232) (by decide +kernel) (by decide +kernel)
theorem q_code_X0_has : Cond.code yX0_has cX0_has 2 (some .boolean) ∈ TT := tt_mem (i := 233) (by decide +kernel) (by decide +kernel)
theorem q_sta_X4_isUnits : Cond.static yX4_isUnits ∈ TT := tt_mem (i := 235) (by decide +kernel) (by decide +kernel)
theorem q_code_X4_isUnits : Cond.code yX4_isUnits cX4_isUnits 1 (some .boolean) ∈ TT := tt_mem (i := 236) (by decide +kernel) (by decide +kernel)
theorem q_ml_X0_93 : Cond.methodLink RX0 93 yX0_isOut ∈ TT := tt_mem (i := 237) (by decide +kernel) (by decide +kernel)
theorem q_ins_X0_isOut : Cond.instanceMethod yX0_isOut ∈ TT := tt_mem (i := 238) (by decide +kernel) (by decide +kernel)
theorem q_sel_X0_isOut : Cond.selects RX0 yX0_isOut yX0_isOut ∈ TT := tt_mem (i := 239) (by decide +kernel) (by decide +kernel)
theorem q_code_X0_isOut : Cond.code yX0_isOut cX0_isOut 2 (some .boolean) ∈ TT := tt_mem (i := 240) (by decide +kernel) (by decide +kernel)
theorem q_ml_X0_96 : Cond.methodLink RX0 96 yX0_chargeOf ∈ TT := tt_mem (i := 241) (by decide +kernel) (by decide +kernel)
theorem q_ins_X0_chargeOf : Cond.instanceMethod yX0_chargeOf ∈ TT := tt_mem (i := 242) (by decide +kernel) (by decide +kernel)
theorem q_sel_X0_chargeOf : Cond.selects RX0 yX0_chargeOf yX0_chargeOf ∈ TT := tt_mem (i := 243) (by decide +kernel) (by decide +kernel)
theorem q_code_X0_chargeOf : Cond.code yX0_chargeOf cX0_chargeOf 2 (some .int) ∈ TT := tt_mem (i := 244) (by decide +kernel) (by decide +kernel)
theorem q_ml_X0_76 : Cond.methodLink RX0 76 yX0_unitsAhead ∈ TT := tt_mem (i := 245) (by decide +kernel) (by decide +kernel)
theorem q_ins_X0_unitsAhead : Cond.instanceMethod yX0_unitsAhead ∈ TT := tt_mem (i := 246) (by decide +kernel) (by decide +kernel)
theorem q_sel_X0_unitsAhead : Cond.selects RX0 yX0_unitsAhead yX0_unitsAhead ∈ TT := tt_mem (i := 247) (by decide +kernel) (by decide +kernel)
theorem q_code_X0_unitsAhead : Cond.code yX0_unitsAhead cX0_unitsAhead 5 (some .int) ∈ TT := tt_mem (i := 248) (by decide +kernel) (by decide +kernel)
theorem q_ml_X0_72 : Cond.methodLink RX0 72 yX0_placeOf ∈ TT := tt_mem (i := 249) (by decide +kernel) (by decide +kernel)
theorem q_ins_X0_placeOf : Cond.instanceMethod yX0_placeOf ∈ TT := tt_mem (i := 250) (by decide +kernel) (by decide +kernel)
theorem q_sel_X0_placeOf : Cond.selects RX0 yX0_placeOf yX0_placeOf ∈ TT := tt_mem (i := 251) (by decide +kernel) (by decide +kernel)
theorem q_code_X0_placeOf : Cond.code yX0_placeOf cX0_placeOf 3 (some .int) ∈ TT := tt_mem (i := 252) (by decide +kernel) (by decide +kernel)
theorem q_ml_X0_79 : Cond.methodLink RX0 79 yX0_damageAdded ∈ TT := tt_mem (i := 253) (by decide +kernel) (by decide +kernel)
theorem q_ins_X0_damageAdded : Cond.instanceMethod yX0_damageAdded ∈ TT := tt_mem (i := 254) (by decide +kernel) (by decide +kernel)
theorem q_sel_X0_damageAdded : Cond.selects RX0 yX0_damageAdded yX0_damageAdded ∈ TT := tt_mem (i := 255) (by decide +kernel) (by decide +kernel)
theorem q_code_X0_damageAdded : Cond.code yX0_damageAdded cX0_damageAdded 3 (some .int) ∈ TT := tt_mem (i := 256) (by decide +kernel) (by decide +kernel)
theorem q_ml_X0_83 : Cond.methodLink RX0 83 yX0_damageOf ∈ TT := tt_mem (i := 257) (by decide +kernel) (by decide +kernel)
theorem q_ins_X0_damageOf : Cond.instanceMethod yX0_damageOf ∈ TT := tt_mem (i := 258) (by decide +kernel) (by decide +kernel)
theorem q_sel_X0_damageOf : Cond.selects RX0 yX0_damageOf yX0_damageOf ∈ TT := tt_mem (i := 259) (by decide +kernel) (by decide +kernel)
theorem q_code_X0_damageOf : Cond.code yX0_damageOf cX0_damageOf 3 (some .int) ∈ TT := tt_mem (i := 260) (by decide +kernel) (by decide +kernel)
theorem q_ml_L_23 : Cond.methodLink RL 23 yX4_close ∈ TT := tt_mem (i := 261) (by decide +kernel) (by decide +kernel)
theorem q_ins_X4_close : Cond.instanceMethod yX4_close ∈ TT := tt_mem (i := 262) (by decide +kernel) (by decide +kernel)
theorem q_sel_X4_close : Cond.selects RX4 yX4_close yX4_close ∈ TT := tt_mem (i := 263) (by decide +kernel) (by decide +kernel)
theorem q_code_X4_close : Cond.code yX4_close cX4_close 1 (some .int) ∈ TT := tt_mem (i := 264) (by decide +kernel) (by decide +kernel)
theorem q_ml_X4_55 : Cond.methodLink RX4 55 yX0_closeSeason ∈ TT := tt_mem (i := 265) (by decide +kernel) (by decide +kernel)
theorem q_ins_X0_closeSeason : Cond.instanceMethod yX0_closeSeason ∈ TT := tt_mem (i := 266) (by decide +kernel) (by decide +kernel)
theorem q_sel_X0_closeSeason : Cond.selects RX0 yX0_closeSeason yX0_closeSeason ∈ TT := tt_mem (i := 267) (by decide +kernel) (by decide +kernel)
theorem q_code_X0_closeSeason : Cond.code yX0_closeSeason cX0_closeSeason 1 (some .int) ∈ TT := tt_mem (i := 268) (by decide +kernel) (by decide +kernel)
theorem q_ml_X0_117 : Cond.methodLink RX0 117 yX0_endSeason ∈ TT := tt_mem (i := 269) (by decide +kernel) (by decide +kernel)
theorem q_ins_X0_endSeason : Cond.instanceMethod yX0_endSeason ∈ TT := tt_mem (i := 270) (by decide +kernel) (by decide +kernel)
theorem q_sel_X0_endSeason : Cond.selects RX0 yX0_endSeason yX0_endSeason ∈ TT := tt_mem (i := 271) (by decide +kernel) (by decide +kernel)
theorem q_code_X0_endSeason : Cond.code yX0_endSeason cX0_endSeason 4 (some .int) ∈ TT := tt_mem (i := 272) (by decide +kernel) (by decide +kernel)
theorem q_ml_X0_121 : Cond.methodLink RX0 121 yX0_allUnits ∈ TT := tt_mem (i := 273) (by decide +kernel) (by decide +kernel)
theorem q_ins_X0_allUnits : Cond.instanceMethod yX0_allUnits ∈ TT := tt_mem (i := 274) (by decide +kernel) (by decide +kernel)
theorem q_sel_X0_allUnits : Cond.selects RX0 yX0_allUnits yX0_allUnits ∈ TT := tt_mem (i := 275) (by decide +kernel) (by decide +kernel)
theorem q_code_X0_allUnits : Cond.code yX0_allUnits cX0_allUnits 1 (some .int) ∈ TT := tt_mem (i := 276) (by decide +kernel) (by decide +kernel)
theorem q_sta_X4_sumOf : Cond.static yX4_sumOf ∈ TT := tt_mem (i := 278) (by decide +kernel) (by decide +kernel)
theorem q_code_X4_sumOf : Cond.code yX4_sumOf cX4_sumOf 3 (some .int) ∈ TT := tt_mem (i := 279) (by decide +kernel) (by decide +kernel)
theorem q_ml_X0_124 : Cond.methodLink RX0 124 yX0_oweCharges ∈ TT := tt_mem (i := 280) (by decide +kernel) (by decide +kernel)
theorem q_ins_X0_oweCharges : Cond.instanceMethod yX0_oweCharges ∈ TT := tt_mem (i := 281) (by decide +kernel) (by decide +kernel)
theorem q_sel_X0_oweCharges : Cond.selects RX0 yX0_oweCharges yX0_oweCharges ∈ TT := tt_mem (i := 282) (by decide +kernel) (by decide +kernel)
theorem q_code_X0_oweCharges : Cond.code yX0_oweCharges cX0_oweCharges 5 none ∈ TT := tt_mem (i := 283) (by decide +kernel) (by decide +kernel)
theorem q_ml_X0_127 : Cond.methodLink RX0 127 Lib.Math.max.name ∈ TT := tt_mem (i := 284) (by decide +kernel) (by decide +kernel)
theorem q_sta_J9_max : Cond.static Lib.Math.max.name ∈ TT := tt_mem (i := 285) (by decide +kernel) (by decide +kernel)
theorem q_code_J9_max : Cond.code Lib.Math.max.name Lib.Math.max.code 2 (some .int) ∈ TT := tt_mem (i := 286) (by decide +kernel) (by decide +kernel)
theorem q_ml_X0_105 : Cond.methodLink RX0 105 Lib.Math.min.name ∈ TT := tt_mem (i := 287) (by decide +kernel) (by decide +kernel)
theorem q_ml_X0_130 : Cond.methodLink RX0 130 yX0_keepSeason ∈ TT := tt_mem (i := 288) (by decide +kernel) (by decide +kernel)
theorem q_ins_X0_keepSeason : Cond.instanceMethod yX0_keepSeason ∈ TT := tt_mem (i := 289) (by decide +kernel) (by decide +kernel)
theorem q_sel_X0_keepSeason : Cond.selects RX0 yX0_keepSeason yX0_keepSeason ∈ TT := tt_mem (i := 290) (by decide +kernel) (by decide +kernel)
theorem q_code_X0_keepSeason : Cond.code yX0_keepSeason cX0_keepSeason 4 none ∈ TT := tt_mem (i := 291) (by decide +kernel) (by decide +kernel)
theorem q_ml_X0_134 : Cond.methodLink RX0 134 yX0_bookUses ∈ TT := tt_mem (i := 292) (by decide +kernel) (by decide +kernel)
theorem q_ins_X0_bookUses : Cond.instanceMethod yX0_bookUses ∈ TT := tt_mem (i := 293) (by decide +kernel) (by decide +kernel)
theorem q_sel_X0_bookUses : Cond.selects RX0 yX0_bookUses yX0_bookUses ∈ TT := tt_mem (i := 294) (by decide +kernel) (by decide +kernel)
theorem q_code_X0_bookUses : Cond.code yX0_bookUses cX0_bookUses 2 none ∈ TT := tt_mem (i := 295) (by decide +kernel) (by decide +kernel)
theorem q_ml_X0_137 : Cond.methodLink RX0 137 yX0_excludeInTurn ∈ TT := tt_mem (i := 296) (by decide +kernel) (by decide +kernel)
theorem q_ins_X0_excludeInTurn : Cond.instanceMethod yX0_excludeInTurn ∈ TT := tt_mem (i := 297) (by decide +kernel) (by decide +kernel)
theorem q_sel_X0_excludeInTurn : Cond.selects RX0 yX0_excludeInTurn yX0_excludeInTurn ∈ TT := tt_mem (i := 298) (by decide +kernel) (by decide +kernel)
theorem q_code_X0_excludeInTurn : Cond.code yX0_excludeInTurn cX0_excludeInTurn 5 none ∈ TT := tt_mem (i := 299) (by decide +kernel) (by decide +kernel)
theorem q_ml_X0_146 : Cond.methodLink RX0 146 yX0_turnsNeeded ∈ TT := tt_mem (i := 300) (by decide +kernel) (by decide +kernel)
theorem q_ins_X0_turnsNeeded : Cond.instanceMethod yX0_turnsNeeded ∈ TT := tt_mem (i := 301) (by decide +kernel) (by decide +kernel)
theorem q_sel_X0_turnsNeeded : Cond.selects RX0 yX0_turnsNeeded yX0_turnsNeeded ∈ TT := tt_mem (i := 302) (by decide +kernel) (by decide +kernel)
theorem q_code_X0_turnsNeeded : Cond.code yX0_turnsNeeded cX0_turnsNeeded 3 (some .int) ∈ TT := tt_mem (i := 303) (by decide +kernel) (by decide +kernel)
theorem q_ml_X0_149 : Cond.methodLink RX0 149 yX0_heaviestNotIn ∈ TT := tt_mem (i := 304) (by decide +kernel) (by decide +kernel)
theorem q_ins_X0_heaviestNotIn : Cond.instanceMethod yX0_heaviestNotIn ∈ TT := tt_mem (i := 305) (by decide +kernel) (by decide +kernel)
theorem q_sel_X0_heaviestNotIn : Cond.selects RX0 yX0_heaviestNotIn yX0_heaviestNotIn ∈ TT := tt_mem (i := 306) (by decide +kernel) (by decide +kernel)
theorem q_code_X0_heaviestNotIn : Cond.code yX0_heaviestNotIn cX0_heaviestNotIn 5 (some .int) ∈ TT := tt_mem (i := 307) (by decide +kernel) (by decide +kernel)
theorem q_ml_X0_140 : Cond.methodLink RX0 140 yX0_excludeDebtors ∈ TT := tt_mem (i := 308) (by decide +kernel) (by decide +kernel)
theorem q_ins_X0_excludeDebtors : Cond.instanceMethod yX0_excludeDebtors ∈ TT := tt_mem (i := 309) (by decide +kernel) (by decide +kernel)
theorem q_sel_X0_excludeDebtors : Cond.selects RX0 yX0_excludeDebtors yX0_excludeDebtors ∈ TT := tt_mem (i := 310) (by decide +kernel) (by decide +kernel)
theorem q_code_X0_excludeDebtors : Cond.code yX0_excludeDebtors cX0_excludeDebtors 2 none ∈ TT := tt_mem (i := 311) (by decide +kernel) (by decide +kernel)
theorem q_ml_X0_143 : Cond.methodLink RX0 143 yX0_noteSeasonsOut ∈ TT := tt_mem (i := 312) (by decide +kernel) (by decide +kernel)
theorem q_ins_X0_noteSeasonsOut : Cond.instanceMethod yX0_noteSeasonsOut ∈ TT := tt_mem (i := 313) (by decide +kernel) (by decide +kernel)
theorem q_sel_X0_noteSeasonsOut : Cond.selects RX0 yX0_noteSeasonsOut yX0_noteSeasonsOut ∈ TT := tt_mem (i := 314) (by decide +kernel) (by decide +kernel)
theorem q_code_X0_noteSeasonsOut : Cond.code yX0_noteSeasonsOut cX0_noteSeasonsOut 2 none ∈ TT := tt_mem (i := 315) (by decide +kernel) (by decide +kernel)
theorem q_ml_L_28 : Cond.methodLink RL 28 yX4_pay ∈ TT := tt_mem (i := 316) (by decide +kernel) (by decide +kernel)
theorem q_ins_X4_pay : Cond.instanceMethod yX4_pay ∈ TT := tt_mem (i := 317) (by decide +kernel) (by decide +kernel)
theorem q_sel_X4_pay : Cond.selects RX4 yX4_pay yX4_pay ∈ TT := tt_mem (i := 318) (by decide +kernel) (by decide +kernel)
theorem q_code_X4_pay : Cond.code yX4_pay cX4_pay 3 (some .int) ∈ TT := tt_mem (i := 319) (by decide +kernel) (by decide +kernel)
theorem q_ml_X4_59 : Cond.methodLink RX4 59 yX0_payCoins ∈ TT := tt_mem (i := 320) (by decide +kernel) (by decide +kernel)
theorem q_ins_X0_payCoins : Cond.instanceMethod yX0_payCoins ∈ TT := tt_mem (i := 321) (by decide +kernel) (by decide +kernel)
theorem q_sel_X0_payCoins : Cond.selects RX0 yX0_payCoins yX0_payCoins ∈ TT := tt_mem (i := 322) (by decide +kernel) (by decide +kernel)
theorem q_code_X0_payCoins : Cond.code yX0_payCoins cX0_payCoins 3 (some .int) ∈ TT := tt_mem (i := 323) (by decide +kernel) (by decide +kernel)
theorem q_ml_L_32 : Cond.methodLink RL 32 yX4_repair ∈ TT := tt_mem (i := 324) (by decide +kernel) (by decide +kernel)
theorem q_ins_X4_repair : Cond.instanceMethod yX4_repair ∈ TT := tt_mem (i := 325) (by decide +kernel) (by decide +kernel)
theorem q_sel_X4_repair : Cond.selects RX4 yX4_repair yX4_repair ∈ TT := tt_mem (i := 326) (by decide +kernel) (by decide +kernel)
theorem q_code_X4_repair : Cond.code yX4_repair cX4_repair 2 (some .int) ∈ TT := tt_mem (i := 327) (by decide +kernel) (by decide +kernel)
theorem q_ml_X4_62 : Cond.methodLink RX4 62 yX0_repairPoints ∈ TT := tt_mem (i := 328) (by decide +kernel) (by decide +kernel)
theorem q_ins_X0_repairPoints : Cond.instanceMethod yX0_repairPoints ∈ TT := tt_mem (i := 329) (by decide +kernel) (by decide +kernel)
theorem q_sel_X0_repairPoints : Cond.selects RX0 yX0_repairPoints yX0_repairPoints ∈ TT := tt_mem (i := 330) (by decide +kernel) (by decide +kernel)
theorem q_code_X0_repairPoints : Cond.code yX0_repairPoints cX0_repairPoints 5 (some .int) ∈ TT := tt_mem (i := 331) (by decide +kernel) (by decide +kernel)
theorem q_ml_X0_110 : Cond.methodLink RX0 110 yX0_oweByUses ∈ TT := tt_mem (i := 332) (by decide +kernel) (by decide +kernel)
theorem q_ins_X0_oweByUses : Cond.instanceMethod yX0_oweByUses ∈ TT := tt_mem (i := 333) (by decide +kernel) (by decide +kernel)
theorem q_sel_X0_oweByUses : Cond.selects RX0 yX0_oweByUses yX0_oweByUses ∈ TT := tt_mem (i := 334) (by decide +kernel) (by decide +kernel)
theorem q_code_X0_oweByUses : Cond.code yX0_oweByUses cX0_oweByUses 6 none ∈ TT := tt_mem (i := 335) (by decide +kernel) (by decide +kernel)
theorem q_sta_X4_quotient : Cond.static yX4_quotient ∈ TT := tt_mem (i := 337) (by decide +kernel) (by decide +kernel)
theorem q_code_X4_quotient : Cond.code yX4_quotient cX4_quotient 2 (some .int) ∈ TT := tt_mem (i := 338) (by decide +kernel) (by decide +kernel)
theorem q_ml_L_36 : Cond.methodLink RL 36 yX4_set ∈ TT := tt_mem (i := 339) (by decide +kernel) (by decide +kernel)
theorem q_ins_X4_set : Cond.instanceMethod yX4_set ∈ TT := tt_mem (i := 340) (by decide +kernel) (by decide +kernel)
theorem q_sel_X4_set : Cond.selects RX4 yX4_set yX4_set ∈ TT := tt_mem (i := 341) (by decide +kernel) (by decide +kernel)
theorem q_code_X4_set : Cond.code yX4_set cX4_set 3 (some .int) ∈ TT := tt_mem (i := 342) (by decide +kernel) (by decide +kernel)
theorem q_ml_X4_65 : Cond.methodLink RX4 65 yX0_changeSetting ∈ TT := tt_mem (i := 343) (by decide +kernel) (by decide +kernel)
theorem q_ins_X0_changeSetting : Cond.instanceMethod yX0_changeSetting ∈ TT := tt_mem (i := 344) (by decide +kernel) (by decide +kernel)
theorem q_sel_X0_changeSetting : Cond.selects RX0 yX0_changeSetting yX0_changeSetting ∈ TT := tt_mem (i := 345) (by decide +kernel) (by decide +kernel)
theorem q_code_X0_changeSetting : Cond.code yX0_changeSetting cX0_changeSetting 4 (some .int) ∈ TT := tt_mem (i := 346) (by decide +kernel) (by decide +kernel)
theorem q_ml_L_40 : Cond.methodLink RL 40 yX4_memberOf ∈ TT := tt_mem (i := 351) (by decide +kernel) (by decide +kernel)
theorem q_ins_X4_memberOf : Cond.instanceMethod yX4_memberOf ∈ TT := tt_mem (i := 352) (by decide +kernel) (by decide +kernel)
theorem q_sel_X4_memberOf : Cond.selects RX4 yX4_memberOf yX4_memberOf ∈ TT := tt_mem (i := 353) (by decide +kernel) (by decide +kernel)
theorem q_code_X4_memberOf : Cond.code yX4_memberOf cX4_memberOf 3 (some .int) ∈ TT := tt_mem (i := 354) (by decide +kernel) (by decide +kernel)
theorem q_ml_X4_68 : Cond.methodLink RX4 68 yX0_numberOfMember ∈ TT := tt_mem (i := 355) (by decide +kernel) (by decide +kernel)
theorem q_ins_X0_numberOfMember : Cond.instanceMethod yX0_numberOfMember ∈ TT := tt_mem (i := 356) (by decide +kernel) (by decide +kernel)
theorem q_sel_X0_numberOfMember : Cond.selects RX0 yX0_numberOfMember yX0_numberOfMember ∈ TT := tt_mem (i := 357) (by decide +kernel) (by decide +kernel)
theorem q_code_X0_numberOfMember : Cond.code yX0_numberOfMember cX0_numberOfMember 3 (some .int) ∈ TT := tt_mem (i := 358) (by decide +kernel) (by decide +kernel)
theorem q_ml_L_44 : Cond.methodLink RL 44 yX4_count ∈ TT := tt_mem (i := 359) (by decide +kernel) (by decide +kernel)
theorem q_ins_X4_count : Cond.instanceMethod yX4_count ∈ TT := tt_mem (i := 360) (by decide +kernel) (by decide +kernel)
theorem q_sel_X4_count : Cond.selects RX4 yX4_count yX4_count ∈ TT := tt_mem (i := 361) (by decide +kernel) (by decide +kernel)
theorem q_code_X4_count : Cond.code yX4_count cX4_count 2 (some .int) ∈ TT := tt_mem (i := 362) (by decide +kernel) (by decide +kernel)
theorem q_ml_X4_76 : Cond.methodLink RX4 76 yX0_numberOfAll ∈ TT := tt_mem (i := 363) (by decide +kernel) (by decide +kernel)
theorem q_ins_X0_numberOfAll : Cond.instanceMethod yX0_numberOfAll ∈ TT := tt_mem (i := 364) (by decide +kernel) (by decide +kernel)
theorem q_sel_X0_numberOfAll : Cond.selects RX0 yX0_numberOfAll yX0_numberOfAll ∈ TT := tt_mem (i := 365) (by decide +kernel) (by decide +kernel)
theorem q_code_X0_numberOfAll : Cond.code yX0_numberOfAll cX0_numberOfAll 2 (some .int) ∈ TT := tt_mem (i := 366) (by decide +kernel) (by decide +kernel)
theorem q_ml_L_48 : Cond.methodLink RL 48 yX4_seasonOf ∈ TT := tt_mem (i := 367) (by decide +kernel) (by decide +kernel)
theorem q_ins_X4_seasonOf : Cond.instanceMethod yX4_seasonOf ∈ TT := tt_mem (i := 368) (by decide +kernel) (by decide +kernel)
theorem q_sel_X4_seasonOf : Cond.selects RX4 yX4_seasonOf yX4_seasonOf ∈ TT := tt_mem (i := 369) (by decide +kernel) (by decide +kernel)
theorem q_code_X4_seasonOf : Cond.code yX4_seasonOf cX4_seasonOf 3 (some .int) ∈ TT := tt_mem (i := 370) (by decide +kernel) (by decide +kernel)
theorem q_ml_X4_79 : Cond.methodLink RX4 79 yX0_numberOfSeason ∈ TT := tt_mem (i := 371) (by decide +kernel) (by decide +kernel)
theorem q_ins_X0_numberOfSeason : Cond.instanceMethod yX0_numberOfSeason ∈ TT := tt_mem (i := 372) (by decide +kernel) (by decide +kernel)
theorem q_sel_X0_numberOfSeason : Cond.selects RX0 yX0_numberOfSeason yX0_numberOfSeason ∈ TT := tt_mem (i := 373) (by decide +kernel) (by decide +kernel)
theorem q_code_X0_numberOfSeason : Cond.code yX0_numberOfSeason cX0_numberOfSeason 3 (some .int) ∈ TT := tt_mem (i := 374) (by decide +kernel) (by decide +kernel)
theorem q_ml_L_52 : Cond.methodLink RL 52 yX4_gain ∈ TT := tt_mem (i := 375) (by decide +kernel) (by decide +kernel)
theorem q_ins_X4_gain : Cond.instanceMethod yX4_gain ∈ TT := tt_mem (i := 376) (by decide +kernel) (by decide +kernel)
theorem q_sel_X4_gain : Cond.selects RX4 yX4_gain yX4_gain ∈ TT := tt_mem (i := 377) (by decide +kernel) (by decide +kernel)
theorem q_code_X4_gain : Cond.code yX4_gain cX4_gain 3 (some .int) ∈ TT := tt_mem (i := 378) (by decide +kernel) (by decide +kernel)
theorem q_ml_X4_82 : Cond.methodLink RX4 82 yX0_liftedGain ∈ TT := tt_mem (i := 379) (by decide +kernel) (by decide +kernel)
theorem q_ins_X0_liftedGain : Cond.instanceMethod yX0_liftedGain ∈ TT := tt_mem (i := 380) (by decide +kernel) (by decide +kernel)
theorem q_sel_X0_liftedGain : Cond.selects RX0 yX0_liftedGain yX0_liftedGain ∈ TT := tt_mem (i := 381) (by decide +kernel) (by decide +kernel)
theorem q_code_X0_liftedGain : Cond.code yX0_liftedGain cX0_liftedGain 3 (some .int) ∈ TT := tt_mem (i := 382) (by decide +kernel) (by decide +kernel)
theorem q_ml_X0_152 : Cond.methodLink RX0 152 yX0_gainBehind ∈ TT := tt_mem (i := 383) (by decide +kernel) (by decide +kernel)
theorem q_ins_X0_gainBehind : Cond.instanceMethod yX0_gainBehind ∈ TT := tt_mem (i := 384) (by decide +kernel) (by decide +kernel)
theorem q_sel_X0_gainBehind : Cond.selects RX0 yX0_gainBehind yX0_gainBehind ∈ TT := tt_mem (i := 385) (by decide +kernel) (by decide +kernel)
theorem q_code_X0_gainBehind : Cond.code yX0_gainBehind cX0_gainBehind 4 (some .int) ∈ TT := tt_mem (i := 386) (by decide +kernel) (by decide +kernel)
theorem q_ml_L_56 : Cond.methodLink RL 56 yX4_bestUse ∈ TT := tt_mem (i := 387) (by decide +kernel) (by decide +kernel)
theorem q_ins_X4_bestUse : Cond.instanceMethod yX4_bestUse ∈ TT := tt_mem (i := 388) (by decide +kernel) (by decide +kernel)
theorem q_sel_X4_bestUse : Cond.selects RX4 yX4_bestUse yX4_bestUse ∈ TT := tt_mem (i := 389) (by decide +kernel) (by decide +kernel)
theorem q_code_X4_bestUse : Cond.code yX4_bestUse cX4_bestUse 2 (some .int) ∈ TT := tt_mem (i := 390) (by decide +kernel) (by decide +kernel)
theorem q_ml_X4_85 : Cond.methodLink RX4 85 yX0_has ∈ TT := tt_mem (i := 391) (by decide +kernel) (by decide +kernel)
theorem q_ml_X4_89 : Cond.methodLink RX4 89 yX0_bestUnits ∈ TT := tt_mem (i := 392) (by decide +kernel) (by decide +kernel)
theorem q_ins_X0_bestUnits : Cond.instanceMethod yX0_bestUnits ∈ TT := tt_mem (i := 393) (by decide +kernel) (by decide +kernel)
theorem q_sel_X0_bestUnits : Cond.selects RX0 yX0_bestUnits yX0_bestUnits ∈ TT := tt_mem (i := 394) (by decide +kernel) (by decide +kernel)
theorem q_code_X0_bestUnits : Cond.code yX0_bestUnits cX0_bestUnits 7 (some .int) ∈ TT := tt_mem (i := 395) (by decide +kernel) (by decide +kernel)
theorem q_ml_L_60 : Cond.methodLink RL 60 yX4_calm ∈ TT := tt_mem (i := 396) (by decide +kernel) (by decide +kernel)
theorem q_ins_X4_calm : Cond.instanceMethod yX4_calm ∈ TT := tt_mem (i := 397) (by decide +kernel) (by decide +kernel)
theorem q_sel_X4_calm : Cond.selects RX4 yX4_calm yX4_calm ∈ TT := tt_mem (i := 398) (by decide +kernel) (by decide +kernel)
theorem q_code_X4_calm : Cond.code yX4_calm cX4_calm 3 (some .int) ∈ TT := tt_mem (i := 399) (by decide +kernel) (by decide +kernel)
theorem q_ml_X4_92 : Cond.methodLink RX4 92 yX0_calmDown ∈ TT := tt_mem (i := 400) (by decide +kernel) (by decide +kernel)
theorem q_ins_X0_calmDown : Cond.instanceMethod yX0_calmDown ∈ TT := tt_mem (i := 401) (by decide +kernel) (by decide +kernel)
theorem q_sel_X0_calmDown : Cond.selects RX0 yX0_calmDown yX0_calmDown ∈ TT := tt_mem (i := 402) (by decide +kernel) (by decide +kernel)
theorem q_code_X0_calmDown : Cond.code yX0_calmDown cX0_calmDown 2 (some .int) ∈ TT := tt_mem (i := 403) (by decide +kernel) (by decide +kernel)
theorem q_ml_X0_156 : Cond.methodLink RX0 156 yX0_roundChanges ∈ TT := tt_mem (i := 404) (by decide +kernel) (by decide +kernel)
theorem q_ins_X0_roundChanges : Cond.instanceMethod yX0_roundChanges ∈ TT := tt_mem (i := 405) (by decide +kernel) (by decide +kernel)
theorem q_sel_X0_roundChanges : Cond.selects RX0 yX0_roundChanges yX0_roundChanges ∈ TT := tt_mem (i := 406) (by decide +kernel) (by decide +kernel)
theorem q_code_X0_roundChanges : Cond.code yX0_roundChanges cX0_roundChanges 4 (some .boolean) ∈ TT := tt_mem (i := 407) (by decide +kernel) (by decide +kernel)
theorem q_ml_X0_160 : Cond.methodLink RX0 160 yX0_bestUnits ∈ TT := tt_mem (i := 408) (by decide +kernel) (by decide +kernel)
theorem q_ml_X4_99 : Cond.methodLink RX4 99 yX0_allUnits ∈ TT := tt_mem (i := 409) (by decide +kernel) (by decide +kernel)
theorem q_ml_L_64 : Cond.methodLink RL 64 yX4_bestForAll ∈ TT := tt_mem (i := 410) (by decide +kernel) (by decide +kernel)
theorem q_ins_X4_bestForAll : Cond.instanceMethod yX4_bestForAll ∈ TT := tt_mem (i := 411) (by decide +kernel) (by decide +kernel)
theorem q_sel_X4_bestForAll : Cond.selects RX4 yX4_bestForAll yX4_bestForAll ∈ TT := tt_mem (i := 412) (by decide +kernel) (by decide +kernel)
theorem q_code_X4_bestForAll : Cond.code yX4_bestForAll cX4_bestForAll 3 (some .int) ∈ TT := tt_mem (i := 413) (by decide +kernel) (by decide +kernel)
theorem q_ml_X4_102 : Cond.methodLink RX4 102 yX0_useBestForAll ∈ TT := tt_mem (i := 414) (by decide +kernel) (by decide +kernel)
theorem q_ins_X0_useBestForAll : Cond.instanceMethod yX0_useBestForAll ∈ TT := tt_mem (i := 415) (by decide +kernel) (by decide +kernel)
theorem q_sel_X0_useBestForAll : Cond.selects RX0 yX0_useBestForAll yX0_useBestForAll ∈ TT := tt_mem (i := 416) (by decide +kernel) (by decide +kernel)
theorem q_code_X0_useBestForAll : Cond.code yX0_useBestForAll cX0_useBestForAll 4 (some .int) ∈ TT := tt_mem (i := 417) (by decide +kernel) (by decide +kernel)
theorem q_ml_X0_163 : Cond.methodLink RX0 163 yX0_worthiestWithRoom ∈ TT := tt_mem (i := 418) (by decide +kernel) (by decide +kernel)
theorem q_ins_X0_worthiestWithRoom : Cond.instanceMethod yX0_worthiestWithRoom ∈ TT := tt_mem (i := 419) (by decide +kernel) (by decide +kernel)
theorem q_sel_X0_worthiestWithRoom : Cond.selects RX0 yX0_worthiestWithRoom yX0_worthiestWithRoom ∈ TT := tt_mem (i := 420) (by decide +kernel) (by decide +kernel)
theorem q_code_X0_worthiestWithRoom : Cond.code yX0_worthiestWithRoom cX0_worthiestWithRoom 4 (some .int) ∈ TT := tt_mem (i := 421) (by decide +kernel) (by decide +kernel)
theorem q_ml_L_68 : Cond.methodLink RL 68 yX4_wouldExclude ∈ TT := tt_mem (i := 422) (by decide +kernel) (by decide +kernel)
theorem q_ins_X4_wouldExclude : Cond.instanceMethod yX4_wouldExclude ∈ TT := tt_mem (i := 423) (by decide +kernel) (by decide +kernel)
theorem q_sel_X4_wouldExclude : Cond.selects RX4 yX4_wouldExclude yX4_wouldExclude ∈ TT := tt_mem (i := 424) (by decide +kernel) (by decide +kernel)
theorem q_code_X4_wouldExclude : Cond.code yX4_wouldExclude cX4_wouldExclude 1 (some .int) ∈ TT := tt_mem (i := 425) (by decide +kernel) (by decide +kernel)
theorem q_ml_X4_105 : Cond.methodLink RX4 105 yX0_endSeason ∈ TT := tt_mem (i := 426) (by decide +kernel) (by decide +kernel)
theorem q_ml_L_72 : Cond.methodLink RL 72 yX4_canRepair ∈ TT := tt_mem (i := 427) (by decide +kernel) (by decide +kernel)
theorem q_ins_X4_canRepair : Cond.instanceMethod yX4_canRepair ∈ TT := tt_mem (i := 428) (by decide +kernel) (by decide +kernel)
theorem q_sel_X4_canRepair : Cond.selects RX4 yX4_canRepair yX4_canRepair ∈ TT := tt_mem (i := 429) (by decide +kernel) (by decide +kernel)
theorem q_code_X4_canRepair : Cond.code yX4_canRepair cX4_canRepair 1 (some .int) ∈ TT := tt_mem (i := 430) (by decide +kernel) (by decide +kernel)
theorem q_ml_X4_111 : Cond.methodLink RX4 111 yX0_pointsFromFund ∈ TT := tt_mem (i := 431) (by decide +kernel) (by decide +kernel)
theorem q_ins_X0_pointsFromFund : Cond.instanceMethod yX0_pointsFromFund ∈ TT := tt_mem (i := 432) (by decide +kernel) (by decide +kernel)
theorem q_sel_X0_pointsFromFund : Cond.selects RX0 yX0_pointsFromFund yX0_pointsFromFund ∈ TT := tt_mem (i := 433) (by decide +kernel) (by decide +kernel)
theorem q_code_X0_pointsFromFund : Cond.code yX0_pointsFromFund cX0_pointsFromFund 1 (some .int) ∈ TT := tt_mem (i := 434) (by decide +kernel) (by decide +kernel)
theorem q_ml_L_76 : Cond.methodLink RL 76 yX4_undo ∈ TT := tt_mem (i := 435) (by decide +kernel) (by decide +kernel)
theorem q_ins_X4_undo : Cond.instanceMethod yX4_undo ∈ TT := tt_mem (i := 436) (by decide +kernel) (by decide +kernel)
theorem q_sel_X4_undo : Cond.selects RX4 yX4_undo yX4_undo ∈ TT := tt_mem (i := 437) (by decide +kernel) (by decide +kernel)
theorem q_code_X4_undo : Cond.code yX4_undo cX4_undo 1 (some .int) ∈ TT := tt_mem (i := 438) (by decide +kernel) (by decide +kernel)
theorem q_ml_X4_114 : Cond.methodLink RX4 114 yX1_restoreLatest ∈ TT := tt_mem (i := 439) (by decide +kernel) (by decide +kernel)
theorem q_ins_X1_restoreLatest : Cond.instanceMethod yX1_restoreLatest ∈ TT := tt_mem (i := 440) (by decide +kernel) (by decide +kernel)
theorem q_sel_X1_restoreLatest : Cond.selects RX1 yX1_restoreLatest yX1_restoreLatest ∈ TT := tt_mem (i := 441) (by decide +kernel) (by decide +kernel)
theorem q_code_X1_restoreLatest : Cond.code yX1_restoreLatest cX1_restoreLatest 3 none ∈ TT := tt_mem (i := 442) (by decide +kernel) (by decide +kernel)
theorem q_ml_L_80 : Cond.methodLink RL 80 yX4_type ∈ TT := tt_mem (i := 443) (by decide +kernel) (by decide +kernel)
theorem q_ins_X4_type : Cond.instanceMethod yX4_type ∈ TT := tt_mem (i := 444) (by decide +kernel) (by decide +kernel)
theorem q_sel_X4_type : Cond.selects RX4 yX4_type yX4_type ∈ TT := tt_mem (i := 445) (by decide +kernel) (by decide +kernel)
theorem q_code_X4_type : Cond.code yX4_type cX4_type 2 (some .int) ∈ TT := tt_mem (i := 446) (by decide +kernel) (by decide +kernel)
theorem q_ml_X4_117 : Cond.methodLink RX4 117 yX3_append ∈ TT := tt_mem (i := 447) (by decide +kernel) (by decide +kernel)
theorem q_ins_X3_append : Cond.instanceMethod yX3_append ∈ TT := tt_mem (i := 448) (by decide +kernel) (by decide +kernel)
theorem q_sel_X3_append : Cond.selects RX3 yX3_append yX3_append ∈ TT := tt_mem (i := 449) (by decide +kernel) (by decide +kernel)
theorem q_code_X3_append : Cond.code yX3_append cX3_append 2 (some .int) ∈ TT := tt_mem (i := 450) (by decide +kernel) (by decide +kernel)
theorem q_ml_L_84 : Cond.methodLink RL 84 yX4_clearText ∈ TT := tt_mem (i := 451) (by decide +kernel) (by decide +kernel)
theorem q_ins_X4_clearText : Cond.instanceMethod yX4_clearText ∈ TT := tt_mem (i := 452) (by decide +kernel) (by decide +kernel)
theorem q_sel_X4_clearText : Cond.selects RX4 yX4_clearText yX4_clearText ∈ TT := tt_mem (i := 453) (by decide +kernel) (by decide +kernel)
theorem q_code_X4_clearText : Cond.code yX4_clearText cX4_clearText 2 (some .int) ∈ TT := tt_mem (i := 454) (by decide +kernel) (by decide +kernel)
theorem q_ml_L_88 : Cond.methodLink RL 88 yX4_fault ∈ TT := tt_mem (i := 455) (by decide +kernel) (by decide +kernel)
theorem q_ins_X4_fault : Cond.instanceMethod yX4_fault ∈ TT := tt_mem (i := 456) (by decide +kernel) (by decide +kernel)
theorem q_sel_X4_fault : Cond.selects RX4 yX4_fault yX4_fault ∈ TT := tt_mem (i := 457) (by decide +kernel) (by decide +kernel)
theorem q_code_X4_fault : Cond.code yX4_fault cX4_fault 2 (some .int) ∈ TT := tt_mem (i := 458) (by decide +kernel) (by decide +kernel)
theorem q_ml_X4_120 : Cond.methodLink RX4 120 yX4_rehearse ∈ TT := tt_mem (i := 459) (by decide +kernel) (by decide +kernel)
theorem q_ins_X4_rehearse : Cond.instanceMethod yX4_rehearse ∈ TT := tt_mem (i := 461) (by decide +kernel) (by decide +kernel)
theorem q_code_X4_rehearse : Cond.code yX4_rehearse cX4_rehearse 2 none ∈ TT := tt_mem (i := 462) (by decide +kernel) (by decide +kernel)
theorem q_ml_X4_138 : Cond.methodLink RX4 138 yX2_begin ∈ TT := tt_mem (i := 463) (by decide +kernel) (by decide +kernel)
theorem q_ins_X2_begin : Cond.instanceMethod yX2_begin ∈ TT := tt_mem (i := 464) (by decide +kernel) (by decide +kernel)
theorem q_sel_X2_begin : Cond.selects RX2 yX2_begin yX2_begin ∈ TT := tt_mem (i := 465) (by decide +kernel) (by decide +kernel)
theorem q_code_X2_begin : Cond.code yX2_begin cX2_begin 1 none ∈ TT := tt_mem (i := 466) (by decide +kernel) (by decide +kernel)
theorem q_ml_X4_144 : Cond.methodLink RX4 144 yX3_readCommand ∈ TT := tt_mem (i := 467) (by decide +kernel) (by decide +kernel)
theorem q_ins_X3_readCommand : Cond.instanceMethod yX3_readCommand ∈ TT := tt_mem (i := 468) (by decide +kernel) (by decide +kernel)
theorem q_sel_X3_readCommand : Cond.selects RX3 yX3_readCommand yX3_readCommand ∈ TT := tt_mem (i := 469) (by decide +kernel) (by decide +kernel)
theorem q_code_X3_readCommand : Cond.code yX3_readCommand cX3_readCommand 1 (some .boolean) ∈ TT := tt_mem (i := 470) (by decide +kernel) (by decide +kernel)
theorem q_ml_X3_19 : Cond.methodLink RX3 19 yX3_signAhead ∈ TT := tt_mem (i := 471) (by decide +kernel) (by decide +kernel)
theorem q_ins_X3_signAhead : Cond.instanceMethod yX3_signAhead ∈ TT := tt_mem (i := 472) (by decide +kernel) (by decide +kernel)
theorem q_sel_X3_signAhead : Cond.selects RX3 yX3_signAhead yX3_signAhead ∈ TT := tt_mem (i := 473) (by decide +kernel) (by decide +kernel)
theorem q_code_X3_signAhead : Cond.code yX3_signAhead cX3_signAhead 1 (some .int) ∈ TT := tt_mem (i := 474) (by decide +kernel) (by decide +kernel)
theorem q_ml_X3_35 : Cond.methodLink RX3 35 yX3_readNumber ∈ TT := tt_mem (i := 475) (by decide +kernel) (by decide +kernel)
theorem q_ins_X3_readNumber : Cond.instanceMethod yX3_readNumber ∈ TT := tt_mem (i := 476) (by decide +kernel) (by decide +kernel)
theorem q_sel_X3_readNumber : Cond.selects RX3 yX3_readNumber yX3_readNumber ∈ TT := tt_mem (i := 477) (by decide +kernel) (by decide +kernel)
theorem q_code_X3_readNumber : Cond.code yX3_readNumber cX3_readNumber 4 (some .int) ∈ TT := tt_mem (i := 478) (by decide +kernel) (by decide +kernel)
theorem q_ml_X3_42 : Cond.methodLink RX3 42 Lib.Math.max.name ∈ TT := tt_mem (i := 479) (by decide +kernel) (by decide +kernel)
theorem q_ml_X3_38 : Cond.methodLink RX3 38 yX3_passes ∈ TT := tt_mem (i := 480) (by decide +kernel) (by decide +kernel)
theorem q_ins_X3_passes : Cond.instanceMethod yX3_passes ∈ TT := tt_mem (i := 481) (by decide +kernel) (by decide +kernel)
theorem q_sel_X3_passes : Cond.selects RX3 yX3_passes yX3_passes ∈ TT := tt_mem (i := 482) (by decide +kernel) (by decide +kernel)
theorem q_code_X3_passes : Cond.code yX3_passes cX3_passes 2 (some .boolean) ∈ TT := tt_mem (i := 483) (by decide +kernel) (by decide +kernel)
theorem q_ml_X4_148 : Cond.methodLink RX4 148 yX4_commandOnTrial ∈ TT := tt_mem (i := 484) (by decide +kernel) (by decide +kernel)
theorem q_ins_X4_commandOnTrial : Cond.instanceMethod yX4_commandOnTrial ∈ TT := tt_mem (i := 486) (by decide +kernel) (by decide +kernel)
theorem q_code_X4_commandOnTrial : Cond.code yX4_commandOnTrial cX4_commandOnTrial 1 (some .int) ∈ TT := tt_mem (i := 487) (by decide +kernel) (by decide +kernel)
theorem q_ml_X4_151 : Cond.methodLink RX4 151 yX2_isStoppedBy ∈ TT := tt_mem (i := 488) (by decide +kernel) (by decide +kernel)
theorem q_ins_X2_isStoppedBy : Cond.instanceMethod yX2_isStoppedBy ∈ TT := tt_mem (i := 489) (by decide +kernel) (by decide +kernel)
theorem q_sel_X2_isStoppedBy : Cond.selects RX2 yX2_isStoppedBy yX2_isStoppedBy ∈ TT := tt_mem (i := 490) (by decide +kernel) (by decide +kernel)
theorem q_code_X2_isStoppedBy : Cond.code yX2_isStoppedBy cX2_isStoppedBy 2 (some .boolean) ∈ TT := tt_mem (i := 491) (by decide +kernel) (by decide +kernel)
theorem q_ml_L_92 : Cond.methodLink RL 92 yX4_play ∈ TT := tt_mem (i := 492) (by decide +kernel) (by decide +kernel)
theorem q_ins_X4_play : Cond.instanceMethod yX4_play ∈ TT := tt_mem (i := 493) (by decide +kernel) (by decide +kernel)
theorem q_sel_X4_play : Cond.selects RX4 yX4_play yX4_play ∈ TT := tt_mem (i := 494) (by decide +kernel) (by decide +kernel)
theorem q_code_X4_play : Cond.code yX4_play cX4_play 1 (some .int) ∈ TT := tt_mem (i := 495) (by decide +kernel) (by decide +kernel)
theorem q_cl_L_10 : Cond.classLink RL 10 RX5 ∈ TT := tt_mem (i := 496) (by decide +kernel) (by decide +kernel)
theorem q_new_X5 : Cond.instantiable RX5 13 ∈ TT := tt_mem (i := 497) (by decide +kernel) (by decide +kernel)
theorem q_ml_L_12 : Cond.methodLink RL 12 yX5_init ∈ TT := tt_mem (i := 498) (by decide +kernel) (by decide +kernel)
theorem q_ins_X5_init : Cond.instanceMethod yX5_init ∈ TT := tt_mem (i := 499) (by decide +kernel) (by decide +kernel)
theorem q_code_X5_init : Cond.code yX5_init cX5_init 1 none ∈ TT := tt_mem (i := 500) (by decide +kernel) (by decide +kernel)
theorem q_ml_X5_1 : Cond.methodLink RX5 1 objectInit ∈ TT := tt_mem (i := 501) (by decide +kernel) (by decide +kernel)
theorem q_fl_X5_7 : Cond.fieldLink RX5 7 (TX5 0).1 (TX5 0).2.1 (TX5 0).2.2.1 ∈ TT := tt_mem (i := 502) (by decide +kernel) (by decide +kernel)
theorem q_fl_X5_13 : Cond.fieldLink RX5 13 (TX5 1).1 (TX5 1).2.1 (TX5 1).2.2.1 ∈ TT := tt_mem (i := 503) (by decide +kernel) (by decide +kernel)
theorem q_fl_X5_16 : Cond.fieldLink RX5 16 (TX5 2).1 (TX5 2).2.1 (TX5 2).2.2.1 ∈ TT := tt_mem (i := 504) (by decide +kernel) (by decide +kernel)
theorem q_fl_X5_35 : Cond.fieldLink RX5 35 (TX5 3).1 (TX5 3).2.1 (TX5 3).2.2.1 ∈ TT := tt_mem (i := 505) (by decide +kernel) (by decide +kernel)
theorem q_fl_X5_31 : Cond.fieldLink RX5 31 (TX5 4).1 (TX5 4).2.1 (TX5 4).2.2.1 ∈ TT := tt_mem (i := 506) (by decide +kernel) (by decide +kernel)
theorem q_fl_X5_19 : Cond.fieldLink RX5 19 (TX5 5).1 (TX5 5).2.1 (TX5 5).2.2.1 ∈ TT := tt_mem (i := 507) (by decide +kernel) (by decide +kernel)
theorem q_fl_X5_89 : Cond.fieldLink RX5 89 (TX5 6).1 (TX5 6).2.1 (TX5 6).2.2.1 ∈ TT := tt_mem (i := 508) (by decide +kernel) (by decide +kernel)
theorem q_fl_X5_22 : Cond.fieldLink RX5 22 (TX5 7).1 (TX5 7).2.1 (TX5 7).2.2.1 ∈ TT := tt_mem (i := 509) (by decide +kernel) (by decide +kernel)
theorem q_fl_X5_106 : Cond.fieldLink RX5 106 (TX5 8).1 (TX5 8).2.1 (TX5 8).2.2.1 ∈ TT := tt_mem (i := 510) (by decide +kernel) (by decide +kernel)
theorem q_fl_X5_140 : Cond.fieldLink RX5 140 (TX5 9).1 (TX5 9).2.1 (TX5 9).2.2.1 ∈ TT := tt_mem (i := 511) (by decide +kernel) (by decide +kernel)
theorem q_fl_X5_131 : Cond.fieldLink RX5 131 (TX5 10).1 (TX5 10).2.1 (TX5 10).2.2.1 ∈ TT := tt_mem (i := 512) (by decide +kernel) (by decide +kernel)
theorem q_fl_X5_25 : Cond.fieldLink RX5 25 (TX5 11).1 (TX5 11).2.1 (TX5 11).2.2.1 ∈ TT := tt_mem (i := 513) (by decide +kernel) (by decide +kernel)
theorem q_fl_X5_28 : Cond.fieldLink RX5 28 (TX5 12).1 (TX5 12).2.1 (TX5 12).2.2.1 ∈ TT := tt_mem (i := 514) (by decide +kernel) (by decide +kernel)
theorem q_ml_L_17 : Cond.methodLink RL 17 yX5_member ∈ TT := tt_mem (i := 542) (by decide +kernel) (by decide +kernel)
theorem q_ins_X5_member : Cond.instanceMethod yX5_member ∈ TT := tt_mem (i := 543) (by decide +kernel) (by decide +kernel)
theorem q_sel_X5_member : Cond.selects RX5 yX5_member yX5_member ∈ TT := tt_mem (i := 544) (by decide +kernel) (by decide +kernel)
theorem q_code_X5_member : Cond.code yX5_member cX5_member 4 (some .int) ∈ TT := tt_mem (i := 545) (by decide +kernel) (by decide +kernel)
theorem q_ml_X5_53 : Cond.methodLink RX5 53 yX5_in ∈ TT := tt_mem (i := 546) (by decide +kernel) (by decide +kernel)
theorem q_sta_X5_in : Cond.static yX5_in ∈ TT := tt_mem (i := 547) (by decide +kernel) (by decide +kernel)
theorem q_code_X5_in : Cond.code yX5_in cX5_in 3 (some .boolean) ∈ TT := tt_mem (i := 548) (by decide +kernel) (by decide +kernel)
theorem q_ml_X5_57 : Cond.methodLink RX5 57 yX5_changes ∈ TT := tt_mem (i := 549) (by decide +kernel) (by decide +kernel)
theorem q_ins_X5_changes : Cond.instanceMethod yX5_changes ∈ TT := tt_mem (i := 551) (by decide +kernel) (by decide +kernel)
theorem q_code_X5_changes : Cond.code yX5_changes cX5_changes 2 none ∈ TT := tt_mem (i := 552) (by decide +kernel) (by decide +kernel)
theorem q_ml_X5_60 : Cond.methodLink RX5 60 yX5_puts ∈ TT := tt_mem (i := 553) (by decide +kernel) (by decide +kernel)
theorem q_ins_X5_puts : Cond.instanceMethod yX5_puts ∈ TT := tt_mem (i := 555) (by decide +kernel) (by decide +kernel)
theorem q_code_X5_puts : Cond.code yX5_puts cX5_puts 4 none ∈ TT := tt_mem (i := 556) (by decide +kernel) (by decide +kernel)
theorem q_ml_L_22 : Cond.methodLink RL 22 yX5_use ∈ TT := tt_mem (i := 557) (by decide +kernel) (by decide +kernel)
theorem q_ins_X5_use : Cond.instanceMethod yX5_use ∈ TT := tt_mem (i := 558) (by decide +kernel) (by decide +kernel)
theorem q_sel_X5_use : Cond.selects RX5 yX5_use yX5_use ∈ TT := tt_mem (i := 559) (by decide +kernel) (by decide +kernel)
theorem q_code_X5_use : Cond.code yX5_use cX5_use 3 (some .int) ∈ TT := tt_mem (i := 560) (by decide +kernel) (by decide +kernel)
theorem q_ml_X5_64 : Cond.methodLink RX5 64 yX5_isMember ∈ TT := tt_mem (i := 561) (by decide +kernel) (by decide +kernel)
theorem q_ins_X5_isMember : Cond.instanceMethod yX5_isMember ∈ TT := tt_mem (i := 563) (by decide +kernel) (by decide +kernel)
theorem q_code_X5_isMember : Cond.code yX5_isMember cX5_isMember 2 (some .boolean) ∈ TT := tt_mem (i := 564) (by decide +kernel) (by decide +kernel)
theorem q_ml_X5_39 : Cond.methodLink RX5 39 yX5_of ∈ TT := tt_mem (i := 565) (by decide +kernel) (by decide +kernel)
theorem q_ins_X5_of : Cond.instanceMethod yX5_of ∈ TT := tt_mem (i := 567) (by decide +kernel) (by decide +kernel)
theorem q_code_X5_of : Cond.code yX5_of cX5_of 3 (some .int) ∈ TT := tt_mem (i := 568) (by decide +kernel) (by decide +kernel)
theorem q_ml_X5_68 : Cond.methodLink RX5 68 yX5_chargeFor ∈ TT := tt_mem (i := 569) (by decide +kernel) (by decide +kernel)
theorem q_ins_X5_chargeFor : Cond.instanceMethod yX5_chargeFor ∈ TT := tt_mem (i := 571) (by decide +kernel) (by decide +kernel)
theorem q_code_X5_chargeFor : Cond.code yX5_chargeFor cX5_chargeFor 4 (some .int) ∈ TT := tt_mem (i := 572) (by decide +kernel) (by decide +kernel)
theorem q_ml_X5_47 : Cond.methodLink RX5 47 yX5_ahead ∈ TT := tt_mem (i := 573) (by decide +kernel) (by decide +kernel)
theorem q_ins_X5_ahead : Cond.instanceMethod yX5_ahead ∈ TT := tt_mem (i := 575) (by decide +kernel) (by decide +kernel)
theorem q_code_X5_ahead : Cond.code yX5_ahead cX5_ahead 4 (some .int) ∈ TT := tt_mem (i := 576) (by decide +kernel) (by decide +kernel)
theorem q_ml_X5_43 : Cond.methodLink RX5 43 yX5_placeOf ∈ TT := tt_mem (i := 577) (by decide +kernel) (by decide +kernel)
theorem q_ins_X5_placeOf : Cond.instanceMethod yX5_placeOf ∈ TT := tt_mem (i := 579) (by decide +kernel) (by decide +kernel)
theorem q_code_X5_placeOf : Cond.code yX5_placeOf cX5_placeOf 2 (some .int) ∈ TT := tt_mem (i := 580) (by decide +kernel) (by decide +kernel)
theorem q_ml_X5_50 : Cond.methodLink RX5 50 yX5_damage ∈ TT := tt_mem (i := 581) (by decide +kernel) (by decide +kernel)
theorem q_ins_X5_damage : Cond.instanceMethod yX5_damage ∈ TT := tt_mem (i := 583) (by decide +kernel) (by decide +kernel)
theorem q_code_X5_damage : Cond.code yX5_damage cX5_damage 2 (some .int) ∈ TT := tt_mem (i := 584) (by decide +kernel) (by decide +kernel)
theorem q_ml_L_27 : Cond.methodLink RL 27 yX5_close ∈ TT := tt_mem (i := 585) (by decide +kernel) (by decide +kernel)
theorem q_ins_X5_close : Cond.instanceMethod yX5_close ∈ TT := tt_mem (i := 586) (by decide +kernel) (by decide +kernel)
theorem q_sel_X5_close : Cond.selects RX5 yX5_close yX5_close ∈ TT := tt_mem (i := 587) (by decide +kernel) (by decide +kernel)
theorem q_code_X5_close : Cond.code yX5_close cX5_close 1 (some .int) ∈ TT := tt_mem (i := 588) (by decide +kernel) (by decide +kernel)
theorem q_ml_X5_86 : Cond.methodLink RX5 86 yX5_ends ∈ TT := tt_mem (i := 589) (by decide +kernel) (by decide +kernel)
theorem q_ins_X5_ends : Cond.instanceMethod yX5_ends ∈ TT := tt_mem (i := 591) (by decide +kernel) (by decide +kernel)
theorem q_code_X5_ends : Cond.code yX5_ends cX5_ends 5 (some .int) ∈ TT := tt_mem (i := 592) (by decide +kernel) (by decide +kernel)
theorem q_ml_X5_71 : Cond.methodLink RX5 71 yX5_sum ∈ TT := tt_mem (i := 593) (by decide +kernel) (by decide +kernel)
theorem q_ins_X5_sum : Cond.instanceMethod yX5_sum ∈ TT := tt_mem (i := 595) (by decide +kernel) (by decide +kernel)
theorem q_code_X5_sum : Cond.code yX5_sum cX5_sum 4 (some .int) ∈ TT := tt_mem (i := 596) (by decide +kernel) (by decide +kernel)
theorem q_ml_X5_74 : Cond.methodLink RX5 74 yX5_outSet ∈ TT := tt_mem (i := 597) (by decide +kernel) (by decide +kernel)
theorem q_ins_X5_outSet : Cond.instanceMethod yX5_outSet ∈ TT := tt_mem (i := 599) (by decide +kernel) (by decide +kernel)
theorem q_code_X5_outSet : Cond.code yX5_outSet cX5_outSet 3 (some .int) ∈ TT := tt_mem (i := 600) (by decide +kernel) (by decide +kernel)
theorem q_ml_X5_78 : Cond.methodLink RX5 78 yX5_keeps ∈ TT := tt_mem (i := 601) (by decide +kernel) (by decide +kernel)
theorem q_ins_X5_keeps : Cond.instanceMethod yX5_keeps ∈ TT := tt_mem (i := 603) (by decide +kernel) (by decide +kernel)
theorem q_code_X5_keeps : Cond.code yX5_keeps cX5_keeps 6 none ∈ TT := tt_mem (i := 604) (by decide +kernel) (by decide +kernel)
theorem q_ml_X5_82 : Cond.methodLink RX5 82 yX5_excludes ∈ TT := tt_mem (i := 605) (by decide +kernel) (by decide +kernel)
theorem q_ins_X5_excludes : Cond.instanceMethod yX5_excludes ∈ TT := tt_mem (i := 607) (by decide +kernel) (by decide +kernel)
theorem q_code_X5_excludes : Cond.code yX5_excludes cX5_excludes 8 none ∈ TT := tt_mem (i := 608) (by decide +kernel) (by decide +kernel)
theorem q_ml_L_31 : Cond.methodLink RL 31 yX5_pay ∈ TT := tt_mem (i := 609) (by decide +kernel) (by decide +kernel)
theorem q_ins_X5_pay : Cond.instanceMethod yX5_pay ∈ TT := tt_mem (i := 610) (by decide +kernel) (by decide +kernel)
theorem q_sel_X5_pay : Cond.selects RX5 yX5_pay yX5_pay ∈ TT := tt_mem (i := 611) (by decide +kernel) (by decide +kernel)
theorem q_code_X5_pay : Cond.code yX5_pay cX5_pay 3 (some .int) ∈ TT := tt_mem (i := 612) (by decide +kernel) (by decide +kernel)
theorem q_ml_L_35 : Cond.methodLink RL 35 yX5_repair ∈ TT := tt_mem (i := 613) (by decide +kernel) (by decide +kernel)
theorem q_ins_X5_repair : Cond.instanceMethod yX5_repair ∈ TT := tt_mem (i := 614) (by decide +kernel) (by decide +kernel)
theorem q_sel_X5_repair : Cond.selects RX5 yX5_repair yX5_repair ∈ TT := tt_mem (i := 615) (by decide +kernel) (by decide +kernel)
theorem q_code_X5_repair : Cond.code yX5_repair cX5_repair 8 (some .int) ∈ TT := tt_mem (i := 616) (by decide +kernel) (by decide +kernel)
theorem q_ml_L_39 : Cond.methodLink RL 39 yX5_set ∈ TT := tt_mem (i := 617) (by decide +kernel) (by decide +kernel)
theorem q_ins_X5_set : Cond.instanceMethod yX5_set ∈ TT := tt_mem (i := 618) (by decide +kernel) (by decide +kernel)
theorem q_sel_X5_set : Cond.selects RX5 yX5_set yX5_set ∈ TT := tt_mem (i := 619) (by decide +kernel) (by decide +kernel)
theorem q_code_X5_set : Cond.code yX5_set cX5_set 6 (some .int) ∈ TT := tt_mem (i := 620) (by decide +kernel) (by decide +kernel)
theorem q_ml_L_43 : Cond.methodLink RL 43 yX5_memberOf ∈ TT := tt_mem (i := 621) (by decide +kernel) (by decide +kernel)
theorem q_ins_X5_memberOf : Cond.instanceMethod yX5_memberOf ∈ TT := tt_mem (i := 622) (by decide +kernel) (by decide +kernel)
theorem q_sel_X5_memberOf : Cond.selects RX5 yX5_memberOf yX5_memberOf ∈ TT := tt_mem (i := 623) (by decide +kernel) (by decide +kernel)
theorem q_code_X5_memberOf : Cond.code yX5_memberOf cX5_memberOf 3 (some .int) ∈ TT := tt_mem (i := 624) (by decide +kernel) (by decide +kernel)
theorem q_ml_L_47 : Cond.methodLink RL 47 yX5_count ∈ TT := tt_mem (i := 625) (by decide +kernel) (by decide +kernel)
theorem q_ins_X5_count : Cond.instanceMethod yX5_count ∈ TT := tt_mem (i := 626) (by decide +kernel) (by decide +kernel)
theorem q_sel_X5_count : Cond.selects RX5 yX5_count yX5_count ∈ TT := tt_mem (i := 627) (by decide +kernel) (by decide +kernel)
theorem q_code_X5_count : Cond.code yX5_count cX5_count 2 (some .int) ∈ TT := tt_mem (i := 628) (by decide +kernel) (by decide +kernel)
theorem q_ml_L_51 : Cond.methodLink RL 51 yX5_seasonOf ∈ TT := tt_mem (i := 629) (by decide +kernel) (by decide +kernel)
theorem q_ins_X5_seasonOf : Cond.instanceMethod yX5_seasonOf ∈ TT := tt_mem (i := 630) (by decide +kernel) (by decide +kernel)
theorem q_sel_X5_seasonOf : Cond.selects RX5 yX5_seasonOf yX5_seasonOf ∈ TT := tt_mem (i := 631) (by decide +kernel) (by decide +kernel)
theorem q_code_X5_seasonOf : Cond.code yX5_seasonOf cX5_seasonOf 3 (some .int) ∈ TT := tt_mem (i := 632) (by decide +kernel) (by decide +kernel)
theorem q_ml_L_55 : Cond.methodLink RL 55 yX5_gain ∈ TT := tt_mem (i := 633) (by decide +kernel) (by decide +kernel)
theorem q_ins_X5_gain : Cond.instanceMethod yX5_gain ∈ TT := tt_mem (i := 634) (by decide +kernel) (by decide +kernel)
theorem q_sel_X5_gain : Cond.selects RX5 yX5_gain yX5_gain ∈ TT := tt_mem (i := 635) (by decide +kernel) (by decide +kernel)
theorem q_code_X5_gain : Cond.code yX5_gain cX5_gain 3 (some .int) ∈ TT := tt_mem (i := 636) (by decide +kernel) (by decide +kernel)
theorem q_ml_X5_92 : Cond.methodLink RX5 92 yX5_gainFor ∈ TT := tt_mem (i := 637) (by decide +kernel) (by decide +kernel)
theorem q_ins_X5_gainFor : Cond.instanceMethod yX5_gainFor ∈ TT := tt_mem (i := 639) (by decide +kernel) (by decide +kernel)
theorem q_code_X5_gainFor : Cond.code yX5_gainFor cX5_gainFor 3 (some .int) ∈ TT := tt_mem (i := 640) (by decide +kernel) (by decide +kernel)
theorem q_ml_L_59 : Cond.methodLink RL 59 yX5_bestUse ∈ TT := tt_mem (i := 641) (by decide +kernel) (by decide +kernel)
theorem q_ins_X5_bestUse : Cond.instanceMethod yX5_bestUse ∈ TT := tt_mem (i := 642) (by decide +kernel) (by decide +kernel)
theorem q_sel_X5_bestUse : Cond.selects RX5 yX5_bestUse yX5_bestUse ∈ TT := tt_mem (i := 643) (by decide +kernel) (by decide +kernel)
theorem q_code_X5_bestUse : Cond.code yX5_bestUse cX5_bestUse 2 (some .int) ∈ TT := tt_mem (i := 644) (by decide +kernel) (by decide +kernel)
theorem q_ml_X5_95 : Cond.methodLink RX5 95 yX5_best ∈ TT := tt_mem (i := 645) (by decide +kernel) (by decide +kernel)
theorem q_ins_X5_best : Cond.instanceMethod yX5_best ∈ TT := tt_mem (i := 647) (by decide +kernel) (by decide +kernel)
theorem q_code_X5_best : Cond.code yX5_best cX5_best 4 (some .int) ∈ TT := tt_mem (i := 648) (by decide +kernel) (by decide +kernel)
theorem q_ml_L_63 : Cond.methodLink RL 63 yX5_calm ∈ TT := tt_mem (i := 649) (by decide +kernel) (by decide +kernel)
theorem q_ins_X5_calm : Cond.instanceMethod yX5_calm ∈ TT := tt_mem (i := 650) (by decide +kernel) (by decide +kernel)
theorem q_sel_X5_calm : Cond.selects RX5 yX5_calm yX5_calm ∈ TT := tt_mem (i := 651) (by decide +kernel) (by decide +kernel)
theorem q_code_X5_calm : Cond.code yX5_calm cX5_calm 5 (some .int) ∈ TT := tt_mem (i := 652) (by decide +kernel) (by decide +kernel)
theorem q_ml_X5_98 : Cond.methodLink RX5 98 yX5_copies ∈ TT := tt_mem (i := 653) (by decide +kernel) (by decide +kernel)
theorem q_sta_X5_copies : Cond.static yX5_copies ∈ TT := tt_mem (i := 654) (by decide +kernel) (by decide +kernel)
theorem q_code_X5_copies : Cond.code yX5_copies cX5_copies 3 none ∈ TT := tt_mem (i := 655) (by decide +kernel) (by decide +kernel)
theorem q_ml_X5_102 : Cond.methodLink RX5 102 yX5_turns ∈ TT := tt_mem (i := 656) (by decide +kernel) (by decide +kernel)
theorem q_ins_X5_turns : Cond.instanceMethod yX5_turns ∈ TT := tt_mem (i := 658) (by decide +kernel) (by decide +kernel)
theorem q_code_X5_turns : Cond.code yX5_turns cX5_turns 4 (some .boolean) ∈ TT := tt_mem (i := 659) (by decide +kernel) (by decide +kernel)
theorem q_ml_L_67 : Cond.methodLink RL 67 yX5_bestForAll ∈ TT := tt_mem (i := 660) (by decide +kernel) (by decide +kernel)
theorem q_ins_X5_bestForAll : Cond.instanceMethod yX5_bestForAll ∈ TT := tt_mem (i := 661) (by decide +kernel) (by decide +kernel)
theorem q_sel_X5_bestForAll : Cond.selects RX5 yX5_bestForAll yX5_bestForAll ∈ TT := tt_mem (i := 662) (by decide +kernel) (by decide +kernel)
theorem q_code_X5_bestForAll : Cond.code yX5_bestForAll cX5_bestForAll 9 (some .int) ∈ TT := tt_mem (i := 663) (by decide +kernel) (by decide +kernel)
theorem q_ml_L_71 : Cond.methodLink RL 71 yX5_wouldExclude ∈ TT := tt_mem (i := 664) (by decide +kernel) (by decide +kernel)
theorem q_ins_X5_wouldExclude : Cond.instanceMethod yX5_wouldExclude ∈ TT := tt_mem (i := 665) (by decide +kernel) (by decide +kernel)
theorem q_sel_X5_wouldExclude : Cond.selects RX5 yX5_wouldExclude yX5_wouldExclude ∈ TT := tt_mem (i := 666) (by decide +kernel) (by decide +kernel)
theorem q_code_X5_wouldExclude : Cond.code yX5_wouldExclude cX5_wouldExclude 2 (some .int) ∈ TT := tt_mem (i := 667) (by decide +kernel) (by decide +kernel)
theorem q_ml_L_75 : Cond.methodLink RL 75 yX5_canRepair ∈ TT := tt_mem (i := 668) (by decide +kernel) (by decide +kernel)
theorem q_ins_X5_canRepair : Cond.instanceMethod yX5_canRepair ∈ TT := tt_mem (i := 669) (by decide +kernel) (by decide +kernel)
theorem q_sel_X5_canRepair : Cond.selects RX5 yX5_canRepair yX5_canRepair ∈ TT := tt_mem (i := 670) (by decide +kernel) (by decide +kernel)
theorem q_code_X5_canRepair : Cond.code yX5_canRepair cX5_canRepair 2 (some .int) ∈ TT := tt_mem (i := 671) (by decide +kernel) (by decide +kernel)
theorem q_ml_L_79 : Cond.methodLink RL 79 yX5_undo ∈ TT := tt_mem (i := 672) (by decide +kernel) (by decide +kernel)
theorem q_ins_X5_undo : Cond.instanceMethod yX5_undo ∈ TT := tt_mem (i := 673) (by decide +kernel) (by decide +kernel)
theorem q_sel_X5_undo : Cond.selects RX5 yX5_undo yX5_undo ∈ TT := tt_mem (i := 674) (by decide +kernel) (by decide +kernel)
theorem q_code_X5_undo : Cond.code yX5_undo cX5_undo 2 (some .int) ∈ TT := tt_mem (i := 675) (by decide +kernel) (by decide +kernel)
theorem q_ml_L_83 : Cond.methodLink RL 83 yX5_type ∈ TT := tt_mem (i := 676) (by decide +kernel) (by decide +kernel)
theorem q_ins_X5_type : Cond.instanceMethod yX5_type ∈ TT := tt_mem (i := 677) (by decide +kernel) (by decide +kernel)
theorem q_sel_X5_type : Cond.selects RX5 yX5_type yX5_type ∈ TT := tt_mem (i := 678) (by decide +kernel) (by decide +kernel)
theorem q_code_X5_type : Cond.code yX5_type cX5_type 2 (some .int) ∈ TT := tt_mem (i := 679) (by decide +kernel) (by decide +kernel)
theorem q_ml_L_87 : Cond.methodLink RL 87 yX5_clearText ∈ TT := tt_mem (i := 680) (by decide +kernel) (by decide +kernel)
theorem q_ins_X5_clearText : Cond.instanceMethod yX5_clearText ∈ TT := tt_mem (i := 681) (by decide +kernel) (by decide +kernel)
theorem q_sel_X5_clearText : Cond.selects RX5 yX5_clearText yX5_clearText ∈ TT := tt_mem (i := 682) (by decide +kernel) (by decide +kernel)
theorem q_code_X5_clearText : Cond.code yX5_clearText cX5_clearText 2 (some .int) ∈ TT := tt_mem (i := 683) (by decide +kernel) (by decide +kernel)
theorem q_ml_L_91 : Cond.methodLink RL 91 yX5_fault ∈ TT := tt_mem (i := 684) (by decide +kernel) (by decide +kernel)
theorem q_ins_X5_fault : Cond.instanceMethod yX5_fault ∈ TT := tt_mem (i := 685) (by decide +kernel) (by decide +kernel)
theorem q_sel_X5_fault : Cond.selects RX5 yX5_fault yX5_fault ∈ TT := tt_mem (i := 686) (by decide +kernel) (by decide +kernel)
theorem q_code_X5_fault : Cond.code yX5_fault cX5_fault 3 (some .int) ∈ TT := tt_mem (i := 687) (by decide +kernel) (by decide +kernel)
theorem q_ml_X5_143 : Cond.methodLink RX5 143 yX5_plays ∈ TT := tt_mem (i := 688) (by decide +kernel) (by decide +kernel)
theorem q_ins_X5_plays : Cond.instanceMethod yX5_plays ∈ TT := tt_mem (i := 690) (by decide +kernel) (by decide +kernel)
theorem q_code_X5_plays : Cond.code yX5_plays cX5_plays 5 (some .int) ∈ TT := tt_mem (i := 691) (by decide +kernel) (by decide +kernel)
theorem q_ml_X5_134 : Cond.methodLink RX5 134 yX5_isForm ∈ TT := tt_mem (i := 692) (by decide +kernel) (by decide +kernel)
theorem q_ins_X5_isForm : Cond.instanceMethod yX5_isForm ∈ TT := tt_mem (i := 694) (by decide +kernel) (by decide +kernel)
theorem q_code_X5_isForm : Cond.code yX5_isForm cX5_isForm 3 (some .boolean) ∈ TT := tt_mem (i := 695) (by decide +kernel) (by decide +kernel)
theorem q_ml_X5_109 : Cond.methodLink RX5 109 yX5_isAt ∈ TT := tt_mem (i := 696) (by decide +kernel) (by decide +kernel)
theorem q_ins_X5_isAt : Cond.instanceMethod yX5_isAt ∈ TT := tt_mem (i := 698) (by decide +kernel) (by decide +kernel)
theorem q_code_X5_isAt : Cond.code yX5_isAt cX5_isAt 3 (some .boolean) ∈ TT := tt_mem (i := 699) (by decide +kernel) (by decide +kernel)
theorem q_ml_X5_113 : Cond.methodLink RX5 113 yX5_number ∈ TT := tt_mem (i := 700) (by decide +kernel) (by decide +kernel)
theorem q_ins_X5_number : Cond.instanceMethod yX5_number ∈ TT := tt_mem (i := 702) (by decide +kernel) (by decide +kernel)
theorem q_code_X5_number : Cond.code yX5_number cX5_number 5 (some .boolean) ∈ TT := tt_mem (i := 703) (by decide +kernel) (by decide +kernel)
theorem q_ml_X5_137 : Cond.methodLink RX5 137 yX5_calls ∈ TT := tt_mem (i := 704) (by decide +kernel) (by decide +kernel)
theorem q_ins_X5_calls : Cond.instanceMethod yX5_calls ∈ TT := tt_mem (i := 706) (by decide +kernel) (by decide +kernel)
theorem q_code_X5_calls : Cond.code yX5_calls cX5_calls 2 (some .int) ∈ TT := tt_mem (i := 707) (by decide +kernel) (by decide +kernel)
theorem q_ml_X5_116 : Cond.methodLink RX5 116 yX5_member ∈ TT := tt_mem (i := 708) (by decide +kernel) (by decide +kernel)
theorem q_ml_X5_119 : Cond.methodLink RX5 119 yX5_use ∈ TT := tt_mem (i := 709) (by decide +kernel) (by decide +kernel)
theorem q_ml_X5_122 : Cond.methodLink RX5 122 yX5_close ∈ TT := tt_mem (i := 710) (by decide +kernel) (by decide +kernel)
theorem q_ml_X5_125 : Cond.methodLink RX5 125 yX5_pay ∈ TT := tt_mem (i := 711) (by decide +kernel) (by decide +kernel)
theorem q_ml_X5_128 : Cond.methodLink RX5 128 yX5_repair ∈ TT := tt_mem (i := 712) (by decide +kernel) (by decide +kernel)
theorem q_ml_L_95 : Cond.methodLink RL 95 yX5_play ∈ TT := tt_mem (i := 713) (by decide +kernel) (by decide +kernel)
theorem q_ins_X5_play : Cond.instanceMethod yX5_play ∈ TT := tt_mem (i := 714) (by decide +kernel) (by decide +kernel)
theorem q_sel_X5_play : Cond.selects RX5 yX5_play yX5_play ∈ TT := tt_mem (i := 715) (by decide +kernel) (by decide +kernel)
theorem q_code_X5_play : Cond.code yX5_play cX5_play 2 (some .int) ∈ TT := tt_mem (i := 716) (by decide +kernel) (by decide +kernel)
theorem q_sel_X4_keptIfDone : Cond.selects RX4 yX4_keptIfDone yX4_keptIfDone ∈ TT := tt_mem (i := 0) (by decide +kernel) (by decide +kernel)
theorem q_sel_X4_rehearse : Cond.selects RX4 yX4_rehearse yX4_rehearse ∈ TT := tt_mem (i := 1) (by decide +kernel) (by decide +kernel)
theorem q_sel_X4_commandOnTrial : Cond.selects RX4 yX4_commandOnTrial yX4_commandOnTrial ∈ TT := tt_mem (i := 2) (by decide +kernel) (by decide +kernel)
theorem q_sel_X5_changes : Cond.selects RX5 yX5_changes yX5_changes ∈ TT := tt_mem (i := 3) (by decide +kernel) (by decide +kernel)
theorem q_sel_X5_puts : Cond.selects RX5 yX5_puts yX5_puts ∈ TT := tt_mem (i := 4) (by decide +kernel) (by decide +kernel)
theorem q_sel_X5_isMember : Cond.selects RX5 yX5_isMember yX5_isMember ∈ TT := tt_mem (i := 5) (by decide +kernel) (by decide +kernel)
theorem q_sel_X5_of : Cond.selects RX5 yX5_of yX5_of ∈ TT := tt_mem (i := 6) (by decide +kernel) (by decide +kernel)
theorem q_sel_X5_chargeFor : Cond.selects RX5 yX5_chargeFor yX5_chargeFor ∈ TT := tt_mem (i := 7) (by decide +kernel) (by decide +kernel)
theorem q_sel_X5_ahead : Cond.selects RX5 yX5_ahead yX5_ahead ∈ TT := tt_mem (i := 8) (by decide +kernel) (by decide +kernel)
theorem q_sel_X5_placeOf : Cond.selects RX5 yX5_placeOf yX5_placeOf ∈ TT := tt_mem (i := 9) (by decide +kernel) (by decide +kernel)
theorem q_sel_X5_damage : Cond.selects RX5 yX5_damage yX5_damage ∈ TT := tt_mem (i := 10) (by decide +kernel) (by decide +kernel)
theorem q_sel_X5_ends : Cond.selects RX5 yX5_ends yX5_ends ∈ TT := tt_mem (i := 11) (by decide +kernel) (by decide +kernel)
theorem q_sel_X5_sum : Cond.selects RX5 yX5_sum yX5_sum ∈ TT := tt_mem (i := 12) (by decide +kernel) (by decide +kernel)
theorem q_sel_X5_outSet : Cond.selects RX5 yX5_outSet yX5_outSet ∈ TT := tt_mem (i := 13) (by decide +kernel) (by decide +kernel)
theorem q_sel_X5_keeps : Cond.selects RX5 yX5_keeps yX5_keeps ∈ TT := tt_mem (i := 14) (by decide +kernel) (by decide +kernel)
theorem q_sel_X5_excludes : Cond.selects RX5 yX5_excludes yX5_excludes ∈ TT := tt_mem (i := 15) (by decide +kernel) (by decide +kernel)
theorem q_sel_X5_gainFor : Cond.selects RX5 yX5_gainFor yX5_gainFor ∈ TT := tt_mem (i := 16) (by decide +kernel) (by decide +kernel)
theorem q_sel_X5_best : Cond.selects RX5 yX5_best yX5_best ∈ TT := tt_mem (i := 17) (by decide +kernel) (by decide +kernel)
theorem q_sel_X5_turns : Cond.selects RX5 yX5_turns yX5_turns ∈ TT := tt_mem (i := 18) (by decide +kernel) (by decide +kernel)
theorem q_sel_X5_plays : Cond.selects RX5 yX5_plays yX5_plays ∈ TT := tt_mem (i := 19) (by decide +kernel) (by decide +kernel)
theorem q_sel_X5_isForm : Cond.selects RX5 yX5_isForm yX5_isForm ∈ TT := tt_mem (i := 20) (by decide +kernel) (by decide +kernel)
theorem q_sel_X5_isAt : Cond.selects RX5 yX5_isAt yX5_isAt ∈ TT := tt_mem (i := 21) (by decide +kernel) (by decide +kernel)
theorem q_sel_X5_number : Cond.selects RX5 yX5_number yX5_number ∈ TT := tt_mem (i := 22) (by decide +kernel) (by decide +kernel)
theorem q_sel_X5_calls : Cond.selects RX5 yX5_calls yX5_calls ∈ TT := tt_mem (i := 23) (by decide +kernel) (by decide +kernel)
theorem inX0 : ∀ w ∈ u_ws RX0 TX0 17, w ∈ TT := by decide +kernel
theorem inX1 : ∀ w ∈ u_ws RX1 TX1 3, w ∈ TT := by decide +kernel
theorem inX2 : ∀ w ∈ u_ws RX2 TX2 4, w ∈ TT := by decide +kernel
theorem inX3 : ∀ w ∈ u_ws RX3 TX3 6, w ∈ TT := by decide +kernel
theorem inX4 : ∀ w ∈ u_ws RX4 TX4 5, w ∈ TT := by decide +kernel
theorem inX5 : ∀ w ∈ u_ws RX5 TX5 13, w ∈ TT := by decide +kernel
end
section
theorem zbmod {n : Int} (h1 : -2 ^ 31 ≤ n) (h2 : n < 2 ^ 31) : n.bmod (2 ^ 32) = n := by
  apply Int.bmod_eq_of_le <;> omega
theorem i32_rem2 (x y : Int32) : (x - x / y * y).toInt = x.toInt.tmod y.toInt := by
  have a := (x % y).toInt_lt
  have b := (x % y).le_toInt
  rw [Int32.toInt_mod] at a b
  rw [Int32.toInt_sub, Int32.toInt_mul, Int32.toInt_div, Int.bmod_mul_bmod, Int.sub_bmod_bmod, Int.mul_comm, ← Int.tmod_def]
  exact zbmod b a
theorem i32_remE (x y : Int32) : x - x / y * y = x % y := Int32.toInt_inj.mp (by rw [i32_rem2, Int32.toInt_mod])
/-- the words of a virtual call -/
def WV (own : String) (idx : Nat) (C : String) (z : MethodName) (bz : ByteArray) (nz : Nat) (rz : Option FieldType) (n : Nat) : Prop :=
  Cond.code z bz nz rz ∈ TT ∧ Cond.methodLink own idx z ∈ TT ∧ Cond.instanceMethod z ∈ TT ∧ Cond.selects C z z ∈ TT ∧ Cond.initialized C ∈ TT ∧ (z.cls = C ∧ z.cls ≠ "java/lang/invoke/MethodHandle" ∧ z.cls ≠ "java/lang/invoke/VarHandle" ∧ (parseMethodDescriptor z.desc).map (fun d => d.parameters.length) = some n)
theorem WV.good {own : String} {idx : Nat} {C : String} {z : MethodName} {bz : ByteArray} {nz : Nat} {rz : Option FieldType} {n : Nat} (h : WV own idx C z bz nz rz n) : GoodIn TT (wsV own idx C z (Cond.code z bz nz rz :: TT)) := by
  obtain ⟨h1, h2, h3, h4, h5, -⟩ := h
  refine goodIn_ap (tt_in (fun w hw => ?_)) (tt_code h1)
  simp only [List.mem_cons, List.not_mem_nil, or_false] at hw
  rcases hw with rfl | rfl | rfl | rfl <;> assumption
/-- the words of a static call -/
def WS (own : String) (idx : Nat) (z : MethodName) (bz : ByteArray) (nz : Nat) (rz : Option FieldType) (n : Nat) : Prop :=
  Cond.code z bz nz rz ∈ TT ∧ Cond.methodLink own idx z ∈ TT ∧ Cond.static z ∈ TT ∧ Cond.initialized z.cls ∈ TT ∧ (z.cls ≠ "java/lang/invoke/MethodHandle" ∧ z.cls ≠ "java/lang/invoke/VarHandle" ∧ (parseMethodDescriptor z.desc).map (fun d => d.parameters.length) = some n)
/-- the nest's links -/
def NK (U : State) : Prop := va_Nw (.methodLinkNest RX4 9 yX0_init RX4) U ∧ va_Nw (.methodLinkNest RX1 17 yX0_init RX4) U ∧ va_Nw (.methodLinkNest RX4 28 yX3_init RX4) U ∧ va_Nw (.methodLinkNest RX4 35 yX2_init RX4) U ∧ va_Nw (.methodLinkNest RX0 43 yX4_copyRow RX4) U ∧ va_Nw (.methodLinkNest RX0 90 yX4_isUnits RX4) U ∧ va_Nw (.methodLinkNest RX0 68 yX4_sumOf RX4) U ∧ va_Nw (.methodLinkNest RX0 114 yX4_quotient RX4) U ∧ va_Nw (.fieldLinkNest RX0 99 RX4 "SETTING_LEAST" "[I" RX4) U ∧ va_Nw (.fieldLinkNest RX0 102 RX4 "SETTING_MOST" "[I" RX4) U
theorem NK.warm {s U : State} (hW : s.WarmedH U.vm) (h : NK s) : NK U := by
  obtain ⟨h1, h2, h3, h4, h5, h6, h7, h8, h9, h10⟩ := h
  exact ⟨h1.warmM hW, h2.warmM hW, h3.warmM hW, h4.warmM hW, h5.warmM hW, h6.warmM hW, h7.warmM hW, h8.warmM hW, h9.warmF hW, h10.warmF hW⟩
theorem NK.same {s U : State} (e : s.vm = U.vm) (h : NK s) : NK U := by
  obtain ⟨h1, h2, h3, h4, h5, h6, h7, h8, h9, h10⟩ := h
  exact ⟨h1.same rfl e, h2.same rfl e, h3.same rfl e, h4.same rfl e, h5.same rfl e, h6.same rfl e, h7.same rfl e, h8.same rfl e, h9.same rfl e, h10.same rfl e⟩
abbrev tyl (cI cH cO : ClassId) : List (ClassId × FieldType) := [(cI, .int), (cH, .char), (cO, .object RX0)]
def ltv {α β : Type} (v : β) (f : β → α) : α := f v
def bnd {α σ : Type} (q : Int32 × σ) (f : Int32 → σ → α) : α := f q.1 q.2
abbrev Cst : Type := Nat → Nat → Int32
def up (C : Cst) (k i : Nat) (x : Int32) : Cst := fun k' => if k' = k then upd (C k) i x else C k'
/-! contracts: a start in a world, an end in a world -/
def PW (D : va_G) (tys : List (ClassId × FieldType)) (X : State → Prop) (av : List Value) (sz : Nat) (ws : va_W) : Array Value → State → Prop := va_Pc av (fun U => U.heap.size = sz ∧ va_P D vwCl ws U.heap ∧ va_K D vwCl tys U ∧ va_D (fun _ => True) ws ∧ NK U ∧ X U)
def QI (D : va_G) (tys : List (ClassId × FieldType)) (ws : va_W) (sz : Nat) (r : Int32) (ws' : va_W) : Array Value → State → Outcome → State → Prop := va_Qi (fun (x : Int32) (_ : Unit) => x = r) (fun _ t => va_P D vwCl ws' t.heap ∧ va_K D vwCl tys t ∧ va_D (va_A ws sz) ws') (va_A ws sz)
def QV (D : va_G) (tys : List (ClassId × FieldType)) (ws : va_W) (sz : Nat) (ws' : va_W) : Array Value → State → Outcome → State → Prop := va_Qv (fun (_ : Unit) => True) (fun _ t => va_P D vwCl ws' t.heap ∧ va_K D vwCl tys t ∧ va_D (va_A ws sz) ws') (va_A ws sz)
abbrev XT : State → Prop := fun _ => True
abbrev rml (k : Nat) : Room := ({ frames := k, cells := 0, slots := 0, locals := 40 * k })
abbrev MI (l : Launch) (z : MethodName) (bz : ByteArray) (nz : Nat) (rz : Option FieldType) (k : Nat) (D : va_G) (tys : List (ClassId × FieldType)) (av : List Value) (ws : va_W) (r : Int32) (ws' : va_W) : Prop := ∀ sz : Nat, Met l z (Cond.code z bz nz rz :: TT) (rml k) (PW D tys XT av sz ws) (QI D tys ws sz r ws') 0 0 (va_A ws sz)
abbrev MV (l : Launch) (z : MethodName) (bz : ByteArray) (nz : Nat) (k : Nat) (D : va_G) (tys : List (ClassId × FieldType)) (av : List Value) (ws : va_W) (ws' : va_W) : Prop := ∀ sz : Nat, Met l z (Cond.code z bz nz none :: TT) (rml k) (PW D tys XT av sz ws) (QV D tys ws sz ws') 0 0 (va_A ws sz)
theorem pw_blind {D : va_G} {tys : List (ClassId × FieldType)} {av : List Value} {sz : Nat} {ws : va_W} : FrameBlind (PW D tys XT av sz ws) := fun a U g mk q => by
  obtain ⟨q0, q1, qP, qK, qD, qN, qX⟩ := q
  exact ⟨q0, q1, qP, va_K.moved (u := U) (U := U.calling g mk a) (Vm.Alike.refl U.vm) qK, qD, qN.same rfl, trivial⟩
/-- the fixed facts of a walk -/
def CX (p : Program) (s : State) (m : MethodId) (args : Array Value) (meth : Method) (c : Code) (cc : ByteArray) (nL : Nat) (own : String) (ret : Option FieldType) (D : va_G) (tys : List (ClassId × FieldType)) (A : Nat → Prop) : Prop := CallFix p m c cc nL s args TT own ∧ va_K D vwCl tys s ∧ NK s ∧ meth.sig.returnType = ret ∧ meth.locks = false ∧ ∀ q, s.heap.size ≤ q → A q
/-- a walk at pc, with locals lv and stack st, in the world ws, to an end that Kf says of the answer sp -/
def J {α : Type} (p : Program) (l : Launch) (e : Env) (R : Room) (s : State) (m : MethodId) (args : Array Value) (below : List Frame) (meth : Method) (c : Code) (nL : Nat) (D : va_G) (A : Nat → Prop) (kc ks : Nat) (Kf : α → State → Prop) (sp : α) (ws : va_W) (pc : Nat) (lv : List (Nat × Value)) (st : List Value) : Prop :=
  ∀ (ls : Array Slot) (H : Heap) (locs : List Loc), lv_has ls nL lv → va_P D vwCl ws H → va_D A ws → va_S A s.heap H locs → W p l e R s m args below meth c H locs kc ks (Kf sp) (F0 m pc ls st)
section JK
variable {α σ : Type} {p : Program} {l : Launch} {e : Env} {R : Room} {s : State} {m : MethodId} {args : Array Value} {below : List Frame} {meth : Method} {c : Code} {nL : Nat} {D : va_G} {A : Nat → Prop} {kc ks : Nat} {Kf : α → State → Prop} {sp : α} {ws : va_W} {pc pc' : Nat} {lv lv' : List (Nat × Value)} {rest : List Value}
variable {cc : ByteArray} {own : String} {ret : Option FieldType} {cI cH cO : ClassId}
theorem j_lv (ks' : List Nat) (hl : lv_pick lv ks' = lv') (k : J p l e R s m args below meth c nL D A kc ks Kf sp ws pc lv' rest) : J p l e R s m args below meth c nL D A kc ks Kf sp ws pc lv rest := fun ls H locs h => k ls H locs (lv_sub h ks' hl)
theorem j_eq {sp' : α} (h : sp = sp') (k : J p l e R s m args below meth c nL D A kc ks Kf sp' ws pc lv rest) : J p l e R s m args below meth c nL D A kc ks Kf sp ws pc lv rest := h ▸ k
theorem j_ws {ws' : va_W} (h : ws = ws') (k : J p l e R s m args below meth c nL D A kc ks Kf sp ws' pc lv rest) : J p l e R s m args below meth c nL D A kc ks Kf sp ws pc lv rest := h ▸ k
theorem j_iconst (X : CX p s m args meth c cc nL own ret D (tyl cI cH cO) A) {n : Int} {v : Int32} (hdg : decode cc pc = .ok (.iconst n, 1)) (hv : Int32.ofInt n = v)  (hpc : pc + 1 = pc') (k : J p l e R s m args below meth c nL D A kc ks Kf sp ws pc' lv (.int v :: rest)) : J p l e R s m args below meth c nL D A kc ks Kf sp ws pc lv rest := by
  subst hpc
  intro ls H locs hl hP hD hS
  obtain ⟨⟨hx, hb, hml, hown, hts⟩, hK, hN, hr, hlk, hA⟩ := X
  exact lv_iconst hx hb hdg hv (k ls H locs hl hP hD hS)
theorem j_bipush (X : CX p s m args meth c cc nL own ret D (tyl cI cH cO) A) {n : Int} {v : Int32} (hdg : decode cc pc = .ok (.bipush n, 2)) (hv : (Int8.ofInt n).toInt32 = v)  (hpc : pc + 2 = pc') (k : J p l e R s m args below meth c nL D A kc ks Kf sp ws pc' lv (.int v :: rest)) : J p l e R s m args below meth c nL D A kc ks Kf sp ws pc lv rest := by
  subst hpc
  intro ls H locs hl hP hD hS
  obtain ⟨⟨hx, hb, hml, hown, hts⟩, hK, hN, hr, hlk, hA⟩ := X
  exact lv_bipush hx hb hdg hv (k ls H locs hl hP hD hS)
theorem j_sipush (X : CX p s m args meth c cc nL own ret D (tyl cI cH cO) A) {n : Int} {v : Int32} (hdg : decode cc pc = .ok (.sipush n, 3)) (hv : (Int16.ofInt n).toInt32 = v)  (hpc : pc + 3 = pc') (k : J p l e R s m args below meth c nL D A kc ks Kf sp ws pc' lv (.int v :: rest)) : J p l e R s m args below meth c nL D A kc ks Kf sp ws pc lv rest := by
  subst hpc
  intro ls H locs hl hP hD hS
  obtain ⟨⟨hx, hb, hml, hown, hts⟩, hK, hN, hr, hlk, hA⟩ := X
  exact lv_sipush hx hb hdg hv (k ls H locs hl hP hD hS)
theorem j_iload_n (X : CX p s m args meth c cc nL own ret D (tyl cI cH cO) A) {kf : Fin 4} {i : Nat} {x : Int32} (q : Nat) (hdg : decode cc pc = .ok (.iload_n kf, 1)) (hi : (kf : Nat) = i) (hq : lv[q]? = some (i, .int x))  (hpc : pc + 1 = pc') (k : J p l e R s m args below meth c nL D A kc ks Kf sp ws pc' lv (.int x :: rest)) : J p l e R s m args below meth c nL D A kc ks Kf sp ws pc lv rest := by
  subst hpc
  intro ls H locs hl hP hD hS
  obtain ⟨⟨hx, hb, hml, hown, hts⟩, hK, hN, hr, hlk, hA⟩ := X
  exact lv_iload_n hx hb hdg hi (lv_at hl q hq) (k ls H locs hl hP hD hS)
theorem j_iload (X : CX p s m args meth c cc nL own ret D (tyl cI cH cO) A) {i : Nat} {x : Int32} (q : Nat) (hdg : decode cc pc = .ok (.iload i, 2)) (hq : lv[q]? = some (i, .int x))  (hpc : pc + 2 = pc') (k : J p l e R s m args below meth c nL D A kc ks Kf sp ws pc' lv (.int x :: rest)) : J p l e R s m args below meth c nL D A kc ks Kf sp ws pc lv rest := by
  subst hpc
  intro ls H locs hl hP hD hS
  obtain ⟨⟨hx, hb, hml, hown, hts⟩, hK, hN, hr, hlk, hA⟩ := X
  exact lv_iload hx hb hdg (lv_at hl q hq) (k ls H locs hl hP hD hS)
theorem j_aload_n (X : CX p s m args meth c cc nL own ret D (tyl cI cH cO) A) {kf : Fin 4} {i x : Nat} (q : Nat) (hdg : decode cc pc = .ok (.aload_n kf, 1)) (hi : (kf : Nat) = i) (hq : lv[q]? = some (i, .ref x))  (hpc : pc + 1 = pc') (k : J p l e R s m args below meth c nL D A kc ks Kf sp ws pc' lv (.ref x :: rest)) : J p l e R s m args below meth c nL D A kc ks Kf sp ws pc lv rest := by
  subst hpc
  intro ls H locs hl hP hD hS
  obtain ⟨⟨hx, hb, hml, hown, hts⟩, hK, hN, hr, hlk, hA⟩ := X
  exact lv_aload_n hx hb hdg hi (lv_at hl q hq) (k ls H locs hl hP hD hS)
theorem j_aload (X : CX p s m args meth c cc nL own ret D (tyl cI cH cO) A) {i x : Nat} (q : Nat) (hdg : decode cc pc = .ok (.aload i, 2)) (hq : lv[q]? = some (i, .ref x))  (hpc : pc + 2 = pc') (k : J p l e R s m args below meth c nL D A kc ks Kf sp ws pc' lv (.ref x :: rest)) : J p l e R s m args below meth c nL D A kc ks Kf sp ws pc lv rest := by
  subst hpc
  intro ls H locs hl hP hD hS
  obtain ⟨⟨hx, hb, hml, hown, hts⟩, hK, hN, hr, hlk, hA⟩ := X
  exact lv_aload hx hb hdg (lv_at hl q hq) (k ls H locs hl hP hD hS)
theorem j_iadd (X : CX p s m args meth c cc nL own ret D (tyl cI cH cO) A) {x y : Int32} (hdg : decode cc pc = .ok (.iadd, 1))  (hpc : pc + 1 = pc') (k : J p l e R s m args below meth c nL D A kc ks Kf sp ws pc' lv (.int (x + y) :: rest)) : J p l e R s m args below meth c nL D A kc ks Kf sp ws pc lv (.int y :: .int x :: rest) := by
  subst hpc
  intro ls H locs hl hP hD hS
  obtain ⟨⟨hx, hb, hml, hown, hts⟩, hK, hN, hr, hlk, hA⟩ := X
  exact lv_iadd hx hb hdg (k ls H locs hl hP hD hS)
theorem j_isub (X : CX p s m args meth c cc nL own ret D (tyl cI cH cO) A) {x y : Int32} (hdg : decode cc pc = .ok (.isub, 1))  (hpc : pc + 1 = pc') (k : J p l e R s m args below meth c nL D A kc ks Kf sp ws pc' lv (.int (x - y) :: rest)) : J p l e R s m args below meth c nL D A kc ks Kf sp ws pc lv (.int y :: .int x :: rest) := by
  subst hpc
  intro ls H locs hl hP hD hS
  obtain ⟨⟨hx, hb, hml, hown, hts⟩, hK, hN, hr, hlk, hA⟩ := X
  exact lv_isub hx hb hdg (k ls H locs hl hP hD hS)
theorem j_imul (X : CX p s m args meth c cc nL own ret D (tyl cI cH cO) A) {x y : Int32} (hdg : decode cc pc = .ok (.imul, 1))  (hpc : pc + 1 = pc') (k : J p l e R s m args below meth c nL D A kc ks Kf sp ws pc' lv (.int (x * y) :: rest)) : J p l e R s m args below meth c nL D A kc ks Kf sp ws pc lv (.int y :: .int x :: rest) := by
  subst hpc
  intro ls H locs hl hP hD hS
  obtain ⟨⟨hx, hb, hml, hown, hts⟩, hK, hN, hr, hlk, hA⟩ := X
  exact lv_imul hx hb hdg (k ls H locs hl hP hD hS)
theorem j_iand (X : CX p s m args meth c cc nL own ret D (tyl cI cH cO) A) {x y : Int32} (hdg : decode cc pc = .ok (.iand, 1))  (hpc : pc + 1 = pc') (k : J p l e R s m args below meth c nL D A kc ks Kf sp ws pc' lv (.int (x &&& y) :: rest)) : J p l e R s m args below meth c nL D A kc ks Kf sp ws pc lv (.int y :: .int x :: rest) := by
  subst hpc
  intro ls H locs hl hP hD hS
  obtain ⟨⟨hx, hb, hml, hown, hts⟩, hK, hN, hr, hlk, hA⟩ := X
  exact lv_iand hx hb hdg (k ls H locs hl hP hD hS)
theorem j_ior (X : CX p s m args meth c cc nL own ret D (tyl cI cH cO) A) {x y : Int32} (hdg : decode cc pc = .ok (.ior, 1))  (hpc : pc + 1 = pc') (k : J p l e R s m args below meth c nL D A kc ks Kf sp ws pc' lv (.int (x ||| y) :: rest)) : J p l e R s m args below meth c nL D A kc ks Kf sp ws pc lv (.int y :: .int x :: rest) := by
  subst hpc
  intro ls H locs hl hP hD hS
  obtain ⟨⟨hx, hb, hml, hown, hts⟩, hK, hN, hr, hlk, hA⟩ := X
  exact lv_ior hx hb hdg (k ls H locs hl hP hD hS)
theorem j_ishl (X : CX p s m args meth c cc nL own ret D (tyl cI cH cO) A) {x y : Int32} (hdg : decode cc pc = .ok (.ishl, 1))  (hpc : pc + 1 = pc') (k : J p l e R s m args below meth c nL D A kc ks Kf sp ws pc' lv (.int (x <<< (y &&& 31)) :: rest)) : J p l e R s m args below meth c nL D A kc ks Kf sp ws pc lv (.int y :: .int x :: rest) := by
  subst hpc
  intro ls H locs hl hP hD hS
  obtain ⟨⟨hx, hb, hml, hown, hts⟩, hK, hN, hr, hlk, hA⟩ := X
  exact lv_ishl hx hb hdg (k ls H locs hl hP hD hS)
theorem j_ishr (X : CX p s m args meth c cc nL own ret D (tyl cI cH cO) A) {x y : Int32} (hdg : decode cc pc = .ok (.ishr, 1))  (hpc : pc + 1 = pc') (k : J p l e R s m args below meth c nL D A kc ks Kf sp ws pc' lv (.int (x >>> (y &&& 31)) :: rest)) : J p l e R s m args below meth c nL D A kc ks Kf sp ws pc lv (.int y :: .int x :: rest) := by
  subst hpc
  intro ls H locs hl hP hD hS
  obtain ⟨⟨hx, hb, hml, hown, hts⟩, hK, hN, hr, hlk, hA⟩ := X
  exact lv_ishr hx hb hdg (k ls H locs hl hP hD hS)
theorem j_irem (X : CX p s m args meth c cc nL own ret D (tyl cI cH cO) A) {x y : Int32} (hdg : decode cc pc = .ok (.irem, 1)) (hne : ¬ y = 0)  (hpc : pc + 1 = pc') (k : J p l e R s m args below meth c nL D A kc ks Kf sp ws pc' lv (.int (x % y) :: rest)) : J p l e R s m args below meth c nL D A kc ks Kf sp ws pc lv (.int y :: .int x :: rest) := by
  subst hpc
  intro ls H locs hl hP hD hS
  obtain ⟨⟨hx, hb, hml, hown, hts⟩, hK, hN, hr, hlk, hA⟩ := X
  exact lv_irem hx hb hdg hne (by rw [i32_remE]; exact (k ls H locs hl hP hD hS))
theorem j_idiv (X : CX p s m args meth c cc nL own ret D (tyl cI cH cO) A) {x y : Int32} (hdg : decode cc pc = .ok (.idiv, 1)) (hne : ¬ y = 0)  (hpc : pc + 1 = pc') (k : J p l e R s m args below meth c nL D A kc ks Kf sp ws pc' lv (.int (x / y) :: rest)) : J p l e R s m args below meth c nL D A kc ks Kf sp ws pc lv (.int y :: .int x :: rest) := by
  subst hpc
  intro ls H locs hl hP hD hS
  obtain ⟨⟨hx, hb, hml, hown, hts⟩, hK, hN, hr, hlk, hA⟩ := X
  exact lv_idiv hx hb hdg hne (k ls H locs hl hP hD hS)
theorem j_dup (X : CX p s m args meth c cc nL own ret D (tyl cI cH cO) A) {v : Value} (hdg : decode cc pc = .ok (.dup, 1)) (hv : v.category = 1)  (hpc : pc + 1 = pc') (k : J p l e R s m args below meth c nL D A kc ks Kf sp ws pc' lv (v :: v :: rest)) : J p l e R s m args below meth c nL D A kc ks Kf sp ws pc lv (v :: rest) := by
  subst hpc
  intro ls H locs hl hP hD hS
  obtain ⟨⟨hx, hb, hml, hown, hts⟩, hK, hN, hr, hlk, hA⟩ := X
  exact lv_dup hx hb hdg hv (k ls H locs hl hP hD hS)
theorem j_pop (X : CX p s m args meth c cc nL own ret D (tyl cI cH cO) A) {v : Value} (hdg : decode cc pc = .ok (.pop, 1)) (hv : v.category = 1)  (hpc : pc + 1 = pc') (k : J p l e R s m args below meth c nL D A kc ks Kf sp ws pc' lv rest) : J p l e R s m args below meth c nL D A kc ks Kf sp ws pc lv (v :: rest) := by
  subst hpc
  intro ls H locs hl hP hD hS
  obtain ⟨⟨hx, hb, hml, hown, hts⟩, hK, hN, hr, hlk, hA⟩ := X
  exact lv_pop hx hb hdg hv (k ls H locs hl hP hD hS)
theorem j_dup2 (X : CX p s m args meth c cc nL own ret D (tyl cI cH cO) A) {v u : Value} (hdg : decode cc pc = .ok (.dup2, 1)) (hv : v.category = 1) (hu : u.category = 1)  (hpc : pc + 1 = pc') (k : J p l e R s m args below meth c nL D A kc ks Kf sp ws pc' lv (v :: u :: v :: u :: rest)) : J p l e R s m args below meth c nL D A kc ks Kf sp ws pc lv (v :: u :: rest) := by
  subst hpc
  intro ls H locs hl hP hD hS
  obtain ⟨⟨hx, hb, hml, hown, hts⟩, hK, hN, hr, hlk, hA⟩ := X
  exact lv_dup2_11 hx hb hdg hv hu (k ls H locs hl hP hD hS)
theorem j_dup_x1 (X : CX p s m args meth c cc nL own ret D (tyl cI cH cO) A) {v u : Value} (hdg : decode cc pc = .ok (.dup_x1, 1)) (hv : v.category = 1) (hu : u.category = 1)  (hpc : pc + 1 = pc') (k : J p l e R s m args below meth c nL D A kc ks Kf sp ws pc' lv (v :: u :: v :: rest)) : J p l e R s m args below meth c nL D A kc ks Kf sp ws pc lv (v :: u :: rest) := by
  subst hpc
  intro ls H locs hl hP hD hS
  obtain ⟨⟨hx, hb, hml, hown, hts⟩, hK, hN, hr, hlk, hA⟩ := X
  exact lv_dup_x1 hx hb hdg hv hu (k ls H locs hl hP hD hS)
theorem j_dup_x2 (X : CX p s m args meth c cc nL own ret D (tyl cI cH cO) A) {v u t : Value} (hdg : decode cc pc = .ok (.dup_x2, 1)) (hv : v.category = 1) (hu : u.category = 1) (ht : t.category = 1)  (hpc : pc + 1 = pc') (k : J p l e R s m args below meth c nL D A kc ks Kf sp ws pc' lv (v :: u :: t :: v :: rest)) : J p l e R s m args below meth c nL D A kc ks Kf sp ws pc lv (v :: u :: t :: rest) := by
  subst hpc
  intro ls H locs hl hP hD hS
  obtain ⟨⟨hx, hb, hml, hown, hts⟩, hK, hN, hr, hlk, hA⟩ := X
  exact lv_dup_x2 hx hb hdg hv hu ht (k ls H locs hl hP hD hS)
theorem j_i2c (X : CX p s m args meth c cc nL own ret D (tyl cI cH cO) A) {x v : Int32} (hdg : decode cc pc = .ok (.i2c, 1)) (hv : (x.toUInt32 % 65536).toInt32 = v)  (hpc : pc + 1 = pc') (k : J p l e R s m args below meth c nL D A kc ks Kf sp ws pc' lv (.int v :: rest)) : J p l e R s m args below meth c nL D A kc ks Kf sp ws pc lv (.int x :: rest) := by
  subst hpc
  intro ls H locs hl hP hD hS
  obtain ⟨⟨hx, hb, hml, hown, hts⟩, hK, hN, hr, hlk, hA⟩ := X
  exact lv_i2c hx hb hdg hv (k ls H locs hl hP hD hS)
theorem j_istore_n (X : CX p s m args meth c cc nL own ret D (tyl cI cH cO) A) {kf : Fin 4} {i : Nat} {x : Int32} (ks' : List Nat) (hdg : decode cc pc = .ok (.istore_n kf, 1)) (hi : (kf : Nat) = i) (hn : i < nL) (hl' : lv_pick ((i, Value.int x) :: lv.filter (fun q => !(q.1 == i) && !(q.1 + 1 == i && q.2.category == 2))) ks' = lv')  (hpc : pc + 1 = pc') (k : J p l e R s m args below meth c nL D A kc ks Kf sp ws pc' lv' rest) : J p l e R s m args below meth c nL D A kc ks Kf sp ws pc lv (.int x :: rest) := by
  subst hpc
  intro ls H locs hl hP hD hS
  obtain ⟨⟨hx, hb, hml, hown, hts⟩, hK, hN, hr, hlk, hA⟩ := X
  exact lv_istore_n hx hb hdg hi hl hn rfl (fun ls' h => k ls' H locs (lv_sub h ks' hl') hP hD hS)
theorem j_istore (X : CX p s m args meth c cc nL own ret D (tyl cI cH cO) A) {i : Nat} {x : Int32} (ks' : List Nat) (hdg : decode cc pc = .ok (.istore i, 2)) (hn : i < nL) (hl' : lv_pick ((i, Value.int x) :: lv.filter (fun q => !(q.1 == i) && !(q.1 + 1 == i && q.2.category == 2))) ks' = lv')  (hpc : pc + 2 = pc') (k : J p l e R s m args below meth c nL D A kc ks Kf sp ws pc' lv' rest) : J p l e R s m args below meth c nL D A kc ks Kf sp ws pc lv (.int x :: rest) := by
  subst hpc
  intro ls H locs hl hP hD hS
  obtain ⟨⟨hx, hb, hml, hown, hts⟩, hK, hN, hr, hlk, hA⟩ := X
  exact lv_istore hx hb hdg hl hn rfl (fun ls' h => k ls' H locs (lv_sub h ks' hl') hP hD hS)
theorem j_istore_nL (X : CX p s m args meth c cc nL own ret D (tyl cI cH cO) A) {kf : Fin 4} {i : Nat} {x : Int32} {f : Int32 → α} (lvf : Int32 → List (Nat × Value)) (ks' : List Nat) (hdg : decode cc pc = .ok (.istore_n kf, 1)) (hi : (kf : Nat) = i) (hn : i < nL) (hl' : ∀ y, lv_pick ((i, Value.int y) :: lv.filter (fun q => !(q.1 == i) && !(q.1 + 1 == i && q.2.category == 2))) ks' = lvf y) (hpc : pc + 1 = pc') (k : ∀ y, y = x → J p l e R s m args below meth c nL D A kc ks Kf (f y) ws pc' (lvf y) rest) : J p l e R s m args below meth c nL D A kc ks Kf (ltv x f) ws pc lv (.int x :: rest) := by
  subst hpc
  intro ls H locs hl hP hD hS
  obtain ⟨⟨hx, hb, hml, hown, hts⟩, hK, hN, hr, hlk, hA⟩ := X
  exact lv_istore_n hx hb hdg hi hl hn rfl (fun ls' h => k x rfl ls' H locs (lv_sub h ks' (hl' x)) hP hD hS)
theorem j_istoreL (X : CX p s m args meth c cc nL own ret D (tyl cI cH cO) A) {i : Nat} {x : Int32} {f : Int32 → α} (lvf : Int32 → List (Nat × Value)) (ks' : List Nat) (hdg : decode cc pc = .ok (.istore i, 2)) (hn : i < nL) (hl' : ∀ y, lv_pick ((i, Value.int y) :: lv.filter (fun q => !(q.1 == i) && !(q.1 + 1 == i && q.2.category == 2))) ks' = lvf y) (hpc : pc + 2 = pc') (k : ∀ y, y = x → J p l e R s m args below meth c nL D A kc ks Kf (f y) ws pc' (lvf y) rest) : J p l e R s m args below meth c nL D A kc ks Kf (ltv x f) ws pc lv (.int x :: rest) := by
  subst hpc
  intro ls H locs hl hP hD hS
  obtain ⟨⟨hx, hb, hml, hown, hts⟩, hK, hN, hr, hlk, hA⟩ := X
  exact lv_istore hx hb hdg hl hn rfl (fun ls' h => k x rfl ls' H locs (lv_sub h ks' (hl' x)) hP hD hS)
theorem j_iinc (X : CX p s m args meth c cc nL own ret D (tyl cI cH cO) A) {i q : Nat} {n : Int} {x v : Int32} (ks' : List Nat) (hdg : decode cc pc = .ok (.iinc i n, 3)) (hq : lv[q]? = some (i, .int x)) (hv : x + Int32.ofInt n = v) (hn : i < nL) (hl' : lv_pick ((i, Value.int v) :: lv.filter (fun q => !(q.1 == i) && !(q.1 + 1 == i && q.2.category == 2))) ks' = lv') (hpc : pc + 3 = pc') (k : J p l e R s m args below meth c nL D A kc ks Kf sp ws pc' lv' rest) : J p l e R s m args below meth c nL D A kc ks Kf sp ws pc lv rest := by
  subst hpc
  intro ls H locs hl hP hD hS
  obtain ⟨⟨hx, hb, hml, hown, hts⟩, hK, hN, hr, hlk, hA⟩ := X
  exact lv_iinc hx hb hdg hl hq hv hn rfl (fun ls' h => k ls' H locs (lv_sub h ks' hl') hP hD hS)
theorem j_iincL (X : CX p s m args meth c cc nL own ret D (tyl cI cH cO) A) {i q : Nat} {n : Int} {x v : Int32} {f : Int32 → α} (lvf : Int32 → List (Nat × Value)) (ks' : List Nat) (hdg : decode cc pc = .ok (.iinc i n, 3)) (hq : lv[q]? = some (i, .int x)) (hv : x + Int32.ofInt n = v) (hn : i < nL) (hl' : ∀ y, lv_pick ((i, Value.int y) :: lv.filter (fun q => !(q.1 == i) && !(q.1 + 1 == i && q.2.category == 2))) ks' = lvf y) (hpc : pc + 3 = pc') (k : ∀ y, y = v → J p l e R s m args below meth c nL D A kc ks Kf (f y) ws pc' (lvf y) rest) : J p l e R s m args below meth c nL D A kc ks Kf (ltv v f) ws pc lv rest := by
  subst hpc
  intro ls H locs hl hP hD hS
  obtain ⟨⟨hx, hb, hml, hown, hts⟩, hK, hN, hr, hlk, hA⟩ := X
  exact lv_iinc hx hb hdg hl hq hv hn rfl (fun ls' h => k v rfl ls' H locs (lv_sub h ks' (hl' v)) hP hD hS)
theorem j_goto (X : CX p s m args meth c cc nL own ret D (tyl cI cH cO) A) {off : Int} (hdg : decode cc pc = .ok (.goto off, 3)) (ht : (pc : Int) + off = (pc' : Int)) (k : J p l e R s m args below meth c nL D A kc ks Kf sp ws pc' lv rest) : J p l e R s m args below meth c nL D A kc ks Kf sp ws pc lv rest := by
  intro ls H locs hl hP hD hS
  obtain ⟨⟨hx, hb, hml, hown, hts⟩, hK, hN, hr, hlk, hA⟩ := X
  exact lv_goto hx hb hdg ht (k ls H locs hl hP hD hS)
theorem j_if_eq (X : CX p s m args meth c cc nL own ret D (tyl cI cH cO) A) {x : Int32} {off : Int} {tgt : Nat} {A1 B1 : α} (hdg : decode cc pc = .ok (.ifCond .eq off, 3)) (ht : (pc : Int) + off = (tgt : Int)) (hpc : pc + 3 = pc') (k1 : x = 0 → J p l e R s m args below meth c nL D A kc ks Kf A1 ws tgt lv rest) (k2 : ¬ (x = 0) → J p l e R s m args below meth c nL D A kc ks Kf B1 ws pc' lv rest) : J p l e R s m args below meth c nL D A kc ks Kf (if x = 0 then A1 else B1) ws pc lv (.int x :: rest) := by
  subst hpc
  intro ls H locs hl hP hD hS
  obtain ⟨⟨hx, hb, hml, hown, hts⟩, hK, hN, hr, hlk, hA⟩ := X
  refine lv_if_eq hx hb hdg ht (fun h => ?_) (fun h => ?_)
  · rw [if_pos h]; exact k1 h ls H locs hl hP hD hS
  · rw [if_neg h]; exact k2 h ls H locs hl hP hD hS
theorem j_icmp_eq (X : CX p s m args meth c cc nL own ret D (tyl cI cH cO) A) {x y : Int32} {off : Int} {tgt : Nat} {A1 B1 : α} (hdg : decode cc pc = .ok (.if_icmp .eq off, 3)) (ht : (pc : Int) + off = (tgt : Int)) (hpc : pc + 3 = pc') (k1 : x = y → J p l e R s m args below meth c nL D A kc ks Kf A1 ws tgt lv rest) (k2 : ¬ (x = y) → J p l e R s m args below meth c nL D A kc ks Kf B1 ws pc' lv rest) : J p l e R s m args below meth c nL D A kc ks Kf (if x = y then A1 else B1) ws pc lv (.int y :: .int x :: rest) := by
  subst hpc
  intro ls H locs hl hP hD hS
  obtain ⟨⟨hx, hb, hml, hown, hts⟩, hK, hN, hr, hlk, hA⟩ := X
  refine lv_icmp_eq hx hb hdg ht (fun h => ?_) (fun h => ?_)
  · rw [if_pos h]; exact k1 h ls H locs hl hP hD hS
  · rw [if_neg h]; exact k2 h ls H locs hl hP hD hS
theorem j_if_ne (X : CX p s m args meth c cc nL own ret D (tyl cI cH cO) A) {x : Int32} {off : Int} {tgt : Nat} {A1 B1 : α} (hdg : decode cc pc = .ok (.ifCond .ne off, 3)) (ht : (pc : Int) + off = (tgt : Int)) (hpc : pc + 3 = pc') (k1 : ¬ x = 0 → J p l e R s m args below meth c nL D A kc ks Kf A1 ws tgt lv rest) (k2 : ¬ (¬ x = 0) → J p l e R s m args below meth c nL D A kc ks Kf B1 ws pc' lv rest) : J p l e R s m args below meth c nL D A kc ks Kf (if ¬ x = 0 then A1 else B1) ws pc lv (.int x :: rest) := by
  subst hpc
  intro ls H locs hl hP hD hS
  obtain ⟨⟨hx, hb, hml, hown, hts⟩, hK, hN, hr, hlk, hA⟩ := X
  refine lv_if_ne hx hb hdg ht (fun h => ?_) (fun h => ?_)
  · rw [if_pos h]; exact k1 h ls H locs hl hP hD hS
  · rw [if_neg (fun q => q h)]; exact k2 (fun q => q h) ls H locs hl hP hD hS
theorem j_icmp_ne (X : CX p s m args meth c cc nL own ret D (tyl cI cH cO) A) {x y : Int32} {off : Int} {tgt : Nat} {A1 B1 : α} (hdg : decode cc pc = .ok (.if_icmp .ne off, 3)) (ht : (pc : Int) + off = (tgt : Int)) (hpc : pc + 3 = pc') (k1 : ¬ x = y → J p l e R s m args below meth c nL D A kc ks Kf A1 ws tgt lv rest) (k2 : ¬ (¬ x = y) → J p l e R s m args below meth c nL D A kc ks Kf B1 ws pc' lv rest) : J p l e R s m args below meth c nL D A kc ks Kf (if ¬ x = y then A1 else B1) ws pc lv (.int y :: .int x :: rest) := by
  subst hpc
  intro ls H locs hl hP hD hS
  obtain ⟨⟨hx, hb, hml, hown, hts⟩, hK, hN, hr, hlk, hA⟩ := X
  refine lv_icmp_ne hx hb hdg ht (fun h => ?_) (fun h => ?_)
  · rw [if_pos h]; exact k1 h ls H locs hl hP hD hS
  · rw [if_neg (fun q => q h)]; exact k2 (fun q => q h) ls H locs hl hP hD hS
theorem j_if_lt (X : CX p s m args meth c cc nL own ret D (tyl cI cH cO) A) {x : Int32} {off : Int} {tgt : Nat} {A1 B1 : α} (hdg : decode cc pc = .ok (.ifCond .lt off, 3)) (ht : (pc : Int) + off = (tgt : Int)) (hpc : pc + 3 = pc') (k1 : x < 0 → J p l e R s m args below meth c nL D A kc ks Kf A1 ws tgt lv rest) (k2 : ¬ (x < 0) → J p l e R s m args below meth c nL D A kc ks Kf B1 ws pc' lv rest) : J p l e R s m args below meth c nL D A kc ks Kf (if x < 0 then A1 else B1) ws pc lv (.int x :: rest) := by
  subst hpc
  intro ls H locs hl hP hD hS
  obtain ⟨⟨hx, hb, hml, hown, hts⟩, hK, hN, hr, hlk, hA⟩ := X
  refine lv_if_lt hx hb hdg ht (fun h => ?_) (fun h => ?_)
  · rw [if_pos h]; exact k1 h ls H locs hl hP hD hS
  · rw [if_neg h]; exact k2 h ls H locs hl hP hD hS
theorem j_icmp_lt (X : CX p s m args meth c cc nL own ret D (tyl cI cH cO) A) {x y : Int32} {off : Int} {tgt : Nat} {A1 B1 : α} (hdg : decode cc pc = .ok (.if_icmp .lt off, 3)) (ht : (pc : Int) + off = (tgt : Int)) (hpc : pc + 3 = pc') (k1 : x < y → J p l e R s m args below meth c nL D A kc ks Kf A1 ws tgt lv rest) (k2 : ¬ (x < y) → J p l e R s m args below meth c nL D A kc ks Kf B1 ws pc' lv rest) : J p l e R s m args below meth c nL D A kc ks Kf (if x < y then A1 else B1) ws pc lv (.int y :: .int x :: rest) := by
  subst hpc
  intro ls H locs hl hP hD hS
  obtain ⟨⟨hx, hb, hml, hown, hts⟩, hK, hN, hr, hlk, hA⟩ := X
  refine lv_icmp_lt hx hb hdg ht (fun h => ?_) (fun h => ?_)
  · rw [if_pos h]; exact k1 h ls H locs hl hP hD hS
  · rw [if_neg h]; exact k2 h ls H locs hl hP hD hS
theorem j_if_ge (X : CX p s m args meth c cc nL own ret D (tyl cI cH cO) A) {x : Int32} {off : Int} {tgt : Nat} {A1 B1 : α} (hdg : decode cc pc = .ok (.ifCond .ge off, 3)) (ht : (pc : Int) + off = (tgt : Int)) (hpc : pc + 3 = pc') (k1 : 0 ≤ x → J p l e R s m args below meth c nL D A kc ks Kf A1 ws tgt lv rest) (k2 : ¬ (0 ≤ x) → J p l e R s m args below meth c nL D A kc ks Kf B1 ws pc' lv rest) : J p l e R s m args below meth c nL D A kc ks Kf (if 0 ≤ x then A1 else B1) ws pc lv (.int x :: rest) := by
  subst hpc
  intro ls H locs hl hP hD hS
  obtain ⟨⟨hx, hb, hml, hown, hts⟩, hK, hN, hr, hlk, hA⟩ := X
  refine lv_if_ge hx hb hdg ht (fun h => ?_) (fun h => ?_)
  · rw [if_pos h]; exact k1 h ls H locs hl hP hD hS
  · rw [if_neg h]; exact k2 h ls H locs hl hP hD hS
theorem j_icmp_ge (X : CX p s m args meth c cc nL own ret D (tyl cI cH cO) A) {x y : Int32} {off : Int} {tgt : Nat} {A1 B1 : α} (hdg : decode cc pc = .ok (.if_icmp .ge off, 3)) (ht : (pc : Int) + off = (tgt : Int)) (hpc : pc + 3 = pc') (k1 : y ≤ x → J p l e R s m args below meth c nL D A kc ks Kf A1 ws tgt lv rest) (k2 : ¬ (y ≤ x) → J p l e R s m args below meth c nL D A kc ks Kf B1 ws pc' lv rest) : J p l e R s m args below meth c nL D A kc ks Kf (if y ≤ x then A1 else B1) ws pc lv (.int y :: .int x :: rest) := by
  subst hpc
  intro ls H locs hl hP hD hS
  obtain ⟨⟨hx, hb, hml, hown, hts⟩, hK, hN, hr, hlk, hA⟩ := X
  refine lv_icmp_ge hx hb hdg ht (fun h => ?_) (fun h => ?_)
  · rw [if_pos h]; exact k1 h ls H locs hl hP hD hS
  · rw [if_neg h]; exact k2 h ls H locs hl hP hD hS
theorem j_if_gt (X : CX p s m args meth c cc nL own ret D (tyl cI cH cO) A) {x : Int32} {off : Int} {tgt : Nat} {A1 B1 : α} (hdg : decode cc pc = .ok (.ifCond .gt off, 3)) (ht : (pc : Int) + off = (tgt : Int)) (hpc : pc + 3 = pc') (k1 : 0 < x → J p l e R s m args below meth c nL D A kc ks Kf A1 ws tgt lv rest) (k2 : ¬ (0 < x) → J p l e R s m args below meth c nL D A kc ks Kf B1 ws pc' lv rest) : J p l e R s m args below meth c nL D A kc ks Kf (if 0 < x then A1 else B1) ws pc lv (.int x :: rest) := by
  subst hpc
  intro ls H locs hl hP hD hS
  obtain ⟨⟨hx, hb, hml, hown, hts⟩, hK, hN, hr, hlk, hA⟩ := X
  refine lv_if_gt hx hb hdg ht (fun h => ?_) (fun h => ?_)
  · rw [if_pos h]; exact k1 h ls H locs hl hP hD hS
  · rw [if_neg h]; exact k2 h ls H locs hl hP hD hS
theorem j_icmp_gt (X : CX p s m args meth c cc nL own ret D (tyl cI cH cO) A) {x y : Int32} {off : Int} {tgt : Nat} {A1 B1 : α} (hdg : decode cc pc = .ok (.if_icmp .gt off, 3)) (ht : (pc : Int) + off = (tgt : Int)) (hpc : pc + 3 = pc') (k1 : y < x → J p l e R s m args below meth c nL D A kc ks Kf A1 ws tgt lv rest) (k2 : ¬ (y < x) → J p l e R s m args below meth c nL D A kc ks Kf B1 ws pc' lv rest) : J p l e R s m args below meth c nL D A kc ks Kf (if y < x then A1 else B1) ws pc lv (.int y :: .int x :: rest) := by
  subst hpc
  intro ls H locs hl hP hD hS
  obtain ⟨⟨hx, hb, hml, hown, hts⟩, hK, hN, hr, hlk, hA⟩ := X
  refine lv_icmp_gt hx hb hdg ht (fun h => ?_) (fun h => ?_)
  · rw [if_pos h]; exact k1 h ls H locs hl hP hD hS
  · rw [if_neg h]; exact k2 h ls H locs hl hP hD hS
theorem j_if_le (X : CX p s m args meth c cc nL own ret D (tyl cI cH cO) A) {x : Int32} {off : Int} {tgt : Nat} {A1 B1 : α} (hdg : decode cc pc = .ok (.ifCond .le off, 3)) (ht : (pc : Int) + off = (tgt : Int)) (hpc : pc + 3 = pc') (k1 : x ≤ 0 → J p l e R s m args below meth c nL D A kc ks Kf A1 ws tgt lv rest) (k2 : ¬ (x ≤ 0) → J p l e R s m args below meth c nL D A kc ks Kf B1 ws pc' lv rest) : J p l e R s m args below meth c nL D A kc ks Kf (if x ≤ 0 then A1 else B1) ws pc lv (.int x :: rest) := by
  subst hpc
  intro ls H locs hl hP hD hS
  obtain ⟨⟨hx, hb, hml, hown, hts⟩, hK, hN, hr, hlk, hA⟩ := X
  refine lv_if_le hx hb hdg ht (fun h => ?_) (fun h => ?_)
  · rw [if_pos h]; exact k1 h ls H locs hl hP hD hS
  · rw [if_neg h]; exact k2 h ls H locs hl hP hD hS
theorem j_icmp_le (X : CX p s m args meth c cc nL own ret D (tyl cI cH cO) A) {x y : Int32} {off : Int} {tgt : Nat} {A1 B1 : α} (hdg : decode cc pc = .ok (.if_icmp .le off, 3)) (ht : (pc : Int) + off = (tgt : Int)) (hpc : pc + 3 = pc') (k1 : x ≤ y → J p l e R s m args below meth c nL D A kc ks Kf A1 ws tgt lv rest) (k2 : ¬ (x ≤ y) → J p l e R s m args below meth c nL D A kc ks Kf B1 ws pc' lv rest) : J p l e R s m args below meth c nL D A kc ks Kf (if x ≤ y then A1 else B1) ws pc lv (.int y :: .int x :: rest) := by
  subst hpc
  intro ls H locs hl hP hD hS
  obtain ⟨⟨hx, hb, hml, hown, hts⟩, hK, hN, hr, hlk, hA⟩ := X
  refine lv_icmp_le hx hb hdg ht (fun h => ?_) (fun h => ?_)
  · rw [if_pos h]; exact k1 h ls H locs hl hP hD hS
  · rw [if_neg h]; exact k2 h ls H locs hl hP hD hS
theorem j_null (X : CX p s m args meth c cc nL own ret D (tyl cI cH cO) A) {v : Nat} {off : Int} {tgt : Nat} (hdg : decode cc pc = .ok (.ifnull off, 3)) (hpc : pc + 3 = pc') (k : J p l e R s m args below meth c nL D A kc ks Kf sp ws pc' lv rest) : J p l e R s m args below meth c nL D A kc ks Kf sp ws pc lv (.ref v :: rest) := by
  subst hpc
  intro ls H locs hl hP hD hS
  obtain ⟨⟨hx, hb, hml, hown, hts⟩, hK, hN, hr, hlk, hA⟩ := X
  exact lv_ifnull hx hb hdg (k ls H locs hl hP hD hS)
theorem j_get (X : CX p s m args meth c cc nL own ret D (tyl cI cH cO) A) {C : String} {T : u_T} {N ci : Nat} (hin : ∀ w ∈ u_ws C T N, w ∈ TT) (hc : vwCl[ci]? = some (C, T, N)) {a index : Nat} {v : Value} {fs : List Value} (q0 k : Nat) (hlink : Cond.fieldLink own index (T k).1 (T k).2.1 (T k).2.2.1 ∈ TT) (hk : k < N) (he : ws[q0]? = some (a, .inr (ci, fs))) (hv : fs[k]? = some v) (hdg : decode cc pc = .ok (.getfield index, 3)) (hpc : pc + 3 = pc') (kk : J p l e R s m args below meth c nL D A kc ks Kf sp ws pc' lv (v :: rest)) : J p l e R s m args below meth c nL D A kc ks Kf sp ws pc lv (.ref a :: rest) := by
  subst hpc
  intro ls H locs hl hP hD hS
  obtain ⟨⟨hx, hb, hml, hown, hts⟩, hK, hN, hr, hlk, hA⟩ := X
  exact va_get hx hb hts hin hown hK hP q0 he hc k hk (hts _ hlink) (fun _ h9 => h9) hv hdg (kk ls H locs hl hP hD hS)
theorem j_put (X : CX p s m args meth c cc nL own ret D (tyl cI cH cO) A) {C : String} {T : u_T} {N ci : Nat} (hin : ∀ w ∈ u_ws C T N, w ∈ TT) (hc : vwCl[ci]? = some (C, T, N)) {ty0 : Nat → FieldType} (hty : ∀ k, k < N → parseFieldDescriptor (T k).2.2.1 = some (ty0 k)) (hnm : ∀ a, a < N → ∀ b, b < N → a ≠ b → (T a).2.1 ≠ (T b).2.1) {a index : Nat} {x : Int32} {fs : List Value} {S : σ} {f : σ → α} (wf : σ → va_W) (q0 k : Nat) (hlink : Cond.fieldLink own index (T k).1 (T k).2.1 (T k).2.2.1 ∈ TT) (hk : k < N) (hfin : (T k).2.2.2 = false) (hn : narrow (ty0 k) (.int x) = .int x) (hfit : fits (ty0 k) (.int x) = true) (he : ws[q0]? = some (a, .inr (ci, fs))) (hl9 : k < fs.length) (hset : ws.set q0 (a, .inr (ci, fs.set k (.int x))) = wf S) (hdg : decode cc pc = .ok (.putfield index, 3)) (hpc : pc + 3 = pc') (kk : ∀ S', S' = S → J p l e R s m args below meth c nL D A kc ks Kf (f S') (wf S') pc' lv rest) : J p l e R s m args below meth c nL D A kc ks Kf (ltv S f) ws pc lv (.int x :: .ref a :: rest) := by
  subst hpc
  intro ls H locs hl hP hD hS
  obtain ⟨⟨hx, hb, hml, hown, hts⟩, hK, hN, hr, hlk, hA⟩ := X
  refine va_put hx hb hts hin ty0 hty hnm hown hK hP hD hS q0 he hc k hk (hts _ hlink) (fun _ h9 => h9) hfin (hty k hk) hn hfit hl9 hdg (fun H1 locs1 hP1 hD1 hS1 => ?_)
  rw [hset] at hP1 hD1
  exact kk S rfl ls H1 locs1 hl hP1 hD1 hS1
theorem j_iald (X : CX p s m args meth c cc nL own ret D (tyl cI cH cO) A) {a n : Nat} {g : Nat → Int32} {i : Int32} (q0 : Nat) (he : ws[q0]? = some (a, .inl (cI, n, .inl g))) (hin : vp_in i n) (hdg : decode cc pc = .ok (.iaload, 1)) (hpc : pc + 1 = pc') (kk : J p l e R s m args below meth c nL D A kc ks Kf sp ws pc' lv (.int (g i.toNatClampNeg) :: rest)) : J p l e R s m args below meth c nL D A kc ks Kf sp ws pc lv (.int i :: .ref a :: rest) := by
  subst hpc
  intro ls H locs hl hP hD hS
  obtain ⟨⟨hx, hb, hml, hown, hts⟩, hK, hN, hr, hlk, hA⟩ := X
  exact va_iald hx hb hK hP q0 0 he rfl hin hdg (kk ls H locs hl hP hD hS)
theorem j_iast (X : CX p s m args meth c cc nL own ret D (tyl cI cH cO) A) {a n : Nat} {g : Nat → Int32} {i x : Int32} {S : σ} {f : σ → α} (wf : σ → va_W) (q0 : Nat) (he : ws[q0]? = some (a, .inl (cI, n, .inl g))) (hset : ws.set q0 (a, .inl (cI, n, .inl (upd g i.toNatClampNeg x))) = wf S) (hin : vp_in i n) (hdg : decode cc pc = .ok (.iastore, 1)) (hpc : pc + 1 = pc') (kk : ∀ S', S' = S → J p l e R s m args below meth c nL D A kc ks Kf (f S') (wf S') pc' lv rest) : J p l e R s m args below meth c nL D A kc ks Kf (ltv S f) ws pc lv (.int x :: .int i :: .ref a :: rest) := by
  subst hpc
  intro ls H locs hl hP hD hS
  obtain ⟨⟨hx, hb, hml, hown, hts⟩, hK, hN, hr, hlk, hA⟩ := X
  refine va_iast hx hb hK hP hD hS q0 0 he rfl hin hdg (fun H1 locs1 hP1 hD1 hS1 => ?_)
  rw [hset] at hP1 hD1
  exact kk S rfl ls H1 locs1 hl hP1 hD1 hS1
theorem j_cald (X : CX p s m args meth c cc nL own ret D (tyl cI cH cO) A) {a n : Nat} {g : Nat → Int32} {i : Int32} (q0 : Nat) (he : ws[q0]? = some (a, .inl (cH, n, .inl g))) (hin : vp_in i n) (hdg : decode cc pc = .ok (.caload, 1)) (hpc : pc + 1 = pc') (kk : J p l e R s m args below meth c nL D A kc ks Kf sp ws pc' lv (.int (g i.toNatClampNeg) :: rest)) : J p l e R s m args below meth c nL D A kc ks Kf sp ws pc lv (.int i :: .ref a :: rest) := by
  subst hpc
  intro ls H locs hl hP hD hS
  obtain ⟨⟨hx, hb, hml, hown, hts⟩, hK, hN, hr, hlk, hA⟩ := X
  exact va_cald hx hb hK hP q0 1 he rfl hin hdg (kk ls H locs hl hP hD hS)
theorem j_cast (X : CX p s m args meth c cc nL own ret D (tyl cI cH cO) A) {a n : Nat} {g : Nat → Int32} {i x : Int32} {S : σ} {f : σ → α} (wf : σ → va_W) (q0 : Nat) (he : ws[q0]? = some (a, .inl (cH, n, .inl g))) (hset : ws.set q0 (a, .inl (cH, n, .inl (upd g i.toNatClampNeg (vp_nar .char x)))) = wf S) (hin : vp_in i n) (hdg : decode cc pc = .ok (.castore, 1)) (hpc : pc + 1 = pc') (kk : ∀ S', S' = S → J p l e R s m args below meth c nL D A kc ks Kf (f S') (wf S') pc' lv rest) : J p l e R s m args below meth c nL D A kc ks Kf (ltv S f) ws pc lv (.int x :: .int i :: .ref a :: rest) := by
  subst hpc
  intro ls H locs hl hP hD hS
  obtain ⟨⟨hx, hb, hml, hown, hts⟩, hK, hN, hr, hlk, hA⟩ := X
  refine va_cast hx hb hK hP hD hS q0 1 he rfl hin hdg (fun H1 locs1 hP1 hD1 hS1 => ?_)
  rw [hset] at hP1 hD1
  exact kk S rfl ls H1 locs1 hl hP1 hD1 hS1
theorem j_alen (X : CX p s m args meth c cc nL own ret D (tyl cI cH cO) A) {a : Nat} {cA : ClassId} {x : vp_A} {ty : FieldType} {v : Int32} (q0 t0 : Nat) (he : ws[q0]? = some (a, .inl (cA, x))) (ht : (tyl cI cH cO)[t0]? = some (cA, ty)) (hv : Int32.ofNat x.1 = v) (hdg : decode cc pc = .ok (.arraylength, 1)) (hpc : pc + 1 = pc') (kk : J p l e R s m args below meth c nL D A kc ks Kf sp ws pc' lv (.int v :: rest)) : J p l e R s m args below meth c nL D A kc ks Kf sp ws pc lv (.ref a :: rest) := by
  subst hpc
  intro ls H locs hl hP hD hS
  obtain ⟨⟨hx, hb, hml, hown, hts⟩, hK, hN, hr, hlk, hA⟩ := X
  exact va_alen hx hb hK hP q0 t0 he ht hv hdg (kk ls H locs hl hP hD hS)
theorem j_mmin (X : CX p s m args meth c cc nL own ret D (tyl cI cH cO) A) {idx : Nat} {x y : Int32} (hw : Cond.methodLink own idx Lib.Math.min.name ∈ TT ∧ Cond.static Lib.Math.min.name ∈ TT ∧ Cond.initialized "java/lang/Math" ∈ TT ∧ Cond.code Lib.Math.min.name Lib.Math.min.code 2 (some .int) ∈ TT) (hR : 1 ≤ R.frames ∧ (rest.map fun v => v.category).sum + 13 ≤ R.locals ∧ kc ≤ R.cells ∧ ks ≤ R.slots) (hdg : decode cc pc = .ok (.invokestatic idx, 3)) (hpc : pc + 3 = pc') (kk : J p l e R s m args below meth c nL D A kc ks Kf sp ws pc' lv (.int (if y < x then y else x) :: rest)) : J p l e R s m args below meth c nL D A kc ks Kf sp ws pc lv (.int y :: .int x :: rest) := by
  subst hpc
  intro ls H locs hl hP hD hS
  obtain ⟨⟨hx, hb, hml, hown, hts⟩, hK, hN, hr, hlk, hA⟩ := X
  exact va_mmin hx hb (by rw [hml]; exact hl.1.symm) hown (hts _ hw.1) (hts _ hw.2.1) (hts _ hw.2.2.1) (hts _ hw.2.2.2) hR.1 hR.2.1 hR.2.2.1 hR.2.2.2 hdg (kk ls H locs hl hP hD hS)
theorem j_mmax (X : CX p s m args meth c cc nL own ret D (tyl cI cH cO) A) {idx : Nat} {x y : Int32} (hw : Cond.methodLink own idx Lib.Math.max.name ∈ TT ∧ Cond.static Lib.Math.max.name ∈ TT ∧ Cond.initialized "java/lang/Math" ∈ TT ∧ Cond.code Lib.Math.max.name Lib.Math.max.code 2 (some .int) ∈ TT) (hR : 1 ≤ R.frames ∧ (rest.map fun v => v.category).sum + 13 ≤ R.locals ∧ kc ≤ R.cells ∧ ks ≤ R.slots) (hdg : decode cc pc = .ok (.invokestatic idx, 3)) (hpc : pc + 3 = pc') (kk : J p l e R s m args below meth c nL D A kc ks Kf sp ws pc' lv (.int (if x < y then y else x) :: rest)) : J p l e R s m args below meth c nL D A kc ks Kf sp ws pc lv (.int y :: .int x :: rest) := by
  subst hpc
  intro ls H locs hl hP hD hS
  obtain ⟨⟨hx, hb, hml, hown, hts⟩, hK, hN, hr, hlk, hA⟩ := X
  exact va_mmax hx hb (by rw [hml]; exact hl.1.symm) hown (hts _ hw.1) (hts _ hw.2.1) (hts _ hw.2.2.1) (hts _ hw.2.2.2) hR.1 hR.2.1 hR.2.2.1 hR.2.2.2 hdg (kk ls H locs hl hP hD hS)
def KI (below : List Frame) (args : Array Value) (s : State) (D : va_G) (tys : List (ClassId × FieldType)) (ws0 : va_W) (wf : σ → va_W) : Int32 × σ → State → Prop := fun sp => MQ below (QI D tys ws0 s.heap.size sp.1 (wf sp.2)) args s 0 0 (va_A ws0 s.heap.size)
def KP (below : List Frame) (args : Array Value) (s : State) (D : va_G) (tys : List (ClassId × FieldType)) (ws0 : va_W) : Int32 → State → Prop := fun r => MQ below (QI D tys ws0 s.heap.size r ws0) args s 0 0 (va_A ws0 s.heap.size)
def KV (below : List Frame) (args : Array Value) (s : State) (D : va_G) (tys : List (ClassId × FieldType)) (ws0 : va_W) (wf : σ → va_W) : σ → State → Prop := fun u => MQ below (QV D tys ws0 s.heap.size (wf u)) args s 0 0 (va_A ws0 s.heap.size)
end JK
section JR
variable {σ : Type} {p : Program} {l : Launch} {e : Env} {R : Room} {s : State} {m : MethodId} {args : Array Value} {below : List Frame} {meth : Method} {c : Code} {nL : Nat} {D : va_G} {ws ws0 : va_W} {pc pc' : Nat} {lv lv' : List (Nat × Value)} {rest : List Value}
variable {cc : ByteArray} {own : String} {ret : Option FieldType} {cI cH cO : ClassId}
theorem j_iretP (X : CX p s m args meth c cc nL own (some .int) D (tyl cI cH cO) (va_A ws0 s.heap.size)) {v r : Int32} (hv : v = r) (hw : ws = ws0) (hdg : decode cc pc = .ok (.ireturn, 1)) : J p l e R s m args below meth c nL D (va_A ws0 s.heap.size) 0 0 (KP below args s D (tyl cI cH cO) ws0) r ws pc lv [.int v] := by
  intro ls H locs hl hP hD hS
  obtain ⟨⟨hx, hb, hml, hown, hts⟩, hK, hN, hr, hlk, hA⟩ := X
  subst hw
  exact W.iret (v := v) hx hb hr (fun t ht hW => ⟨⟨v, (), rfl, hv, by rw [ht]; exact hP, va_K.moved hW.alike hK, hD⟩, hS.F ht⟩) hS.2.2 hdg hlk
theorem j_zretP (X : CX p s m args meth c cc nL own (some .boolean) D (tyl cI cH cO) (va_A ws0 s.heap.size)) {v r : Int32} (hn : narrow .boolean (.int v) = .int v) (hv : v = r) (hw : ws = ws0) (hdg : decode cc pc = .ok (.ireturn, 1)) : J p l e R s m args below meth c nL D (va_A ws0 s.heap.size) 0 0 (KP below args s D (tyl cI cH cO) ws0) r ws pc lv [.int v] := by
  intro ls H locs hl hP hD hS
  obtain ⟨⟨hx, hb, hml, hown, hts⟩, hK, hN, hr, hlk, hA⟩ := X
  subst hw
  exact W.zret (v := v) hx hb hr hn (fun t ht hW => ⟨⟨v, (), rfl, hv, by rw [ht]; exact hP, va_K.moved hW.alike hK, hD⟩, hS.F ht⟩) hS.2.2 hdg hlk
theorem j_iretI (X : CX p s m args meth c cc nL own (some .int) D (tyl cI cH cO) (va_A ws0 s.heap.size)) {v : Int32} {sp : Int32 × σ} {wf : σ → va_W} (hv : v = sp.1) (hw : ws = wf sp.2) (hdg : decode cc pc = .ok (.ireturn, 1)) : J p l e R s m args below meth c nL D (va_A ws0 s.heap.size) 0 0 (KI below args s D (tyl cI cH cO) ws0 wf) sp ws pc lv [.int v] := by
  intro ls H locs hl hP hD hS
  obtain ⟨⟨hx, hb, hml, hown, hts⟩, hK, hN, hr, hlk, hA⟩ := X
  subst hw
  exact W.iret (v := v) hx hb hr (fun t ht hW => ⟨⟨v, (), rfl, hv, by rw [ht]; exact hP, va_K.moved hW.alike hK, hD⟩, hS.F ht⟩) hS.2.2 hdg hlk
theorem j_zretI (X : CX p s m args meth c cc nL own (some .boolean) D (tyl cI cH cO) (va_A ws0 s.heap.size)) {v : Int32} {sp : Int32 × σ} {wf : σ → va_W} (hn : narrow .boolean (.int v) = .int v) (hv : v = sp.1) (hw : ws = wf sp.2) (hdg : decode cc pc = .ok (.ireturn, 1)) : J p l e R s m args below meth c nL D (va_A ws0 s.heap.size) 0 0 (KI below args s D (tyl cI cH cO) ws0 wf) sp ws pc lv [.int v] := by
  intro ls H locs hl hP hD hS
  obtain ⟨⟨hx, hb, hml, hown, hts⟩, hK, hN, hr, hlk, hA⟩ := X
  subst hw
  exact W.zret (v := v) hx hb hr hn (fun t ht hW => ⟨⟨v, (), rfl, hv, by rw [ht]; exact hP, va_K.moved hW.alike hK, hD⟩, hS.F ht⟩) hS.2.2 hdg hlk
theorem j_vret (X : CX p s m args meth c cc nL own none D (tyl cI cH cO) (va_A ws0 s.heap.size)) {sp : σ} {wf : σ → va_W} (hw : ws = wf sp) (hdg : decode cc pc = .ok (.return_, 1)) : J p l e R s m args below meth c nL D (va_A ws0 s.heap.size) 0 0 (KV below args s D (tyl cI cH cO) ws0 wf) sp ws pc lv [] := by
  intro ls H locs hl hP hD hS
  obtain ⟨⟨hx, hb, hml, hown, hts⟩, hK, hN, hr, hlk, hA⟩ := X
  subst hw
  exact W.vret hx hb hr (fun t ht hW => ⟨⟨(), rfl, trivial, by rw [ht]; exact hP, va_K.moved hW.alike hK, hD⟩, hS.F ht⟩) hS.2.2 hdg hlk
end JR
/-- a method's start -/
theorem j_start {y : MethodName} {cc : ByteArray} {n : Nat} {ret : Option FieldType} {l : Launch} {k sz : Nat} {D : va_G} {cI cH cO : ClassId} {X : State → Prop} {av : List Value} {ws : va_W} {Qc : Array Value → State → Outcome → State → Prop} {own : String} {α : Type} (Kf : List Frame → State → α → State → Prop) (sp : α) (hy : plainName y.cls = true) (hyc : y.cls = own) (hn : (lg_sl av).length ≤ n) (hKf : ∀ (below : List Frame) (s : State), s.heap.size = sz → X s → Kf below s sp = MQ below Qc av.toArray s 0 0 (va_A ws sz))
    (body : ∀ (p : Program) (e : Env) (s : State) (m : MethodId) (below : List Frame) (meth : Method) (c : Code), X s → CX p s m av.toArray meth c cc n own ret D (tyl cI cH cO) (va_A ws s.heap.size) → J p l e (rml k) s m av.toArray below meth c n D (va_A ws s.heap.size) 0 0 (Kf below s) sp ws 0 (lv_args 0 av) []) :
    Met l y (Cond.code y cc n ret :: TT) (rml k) (PW D (tyl cI cH cO) X av sz ws) Qc 0 0 (va_A ws sz) := by
  refine Met.ofW (cc := cc) (maxL := n) (ret := ret) hy rfl ?_
  intro p e s m args below meth c s₁ B hml hv
  obtain ⟨rfl, hsz, hP, hK, hD0, hN, hX⟩ := hv
  have hts := atoms_spec (ws := Cond.code y cc n ret :: TT) B.pre
  have hown : s.vm.findClass own = some m.cls := hyc ▸ findClass_of_methodNamed B.named
  have hl := lv_entry av (n := n) hn
  rw [lg_entry_eq]
  rw [← hKf below s hsz hX]
  subst hsz
  exact body p e s m below meth c hX ⟨⟨B.exec, B.bytes, hml, hown, fun w h => hts w (List.mem_cons_of_mem _ h)⟩, hK, hN, B.returns, B.notSynchronized, fun q h => Or.inr h⟩ _ s.heap [] hl hP hD0.self va_S.rf
section JC
variable {α σ : Type} {p : Program} {l : Launch} {e : Env} {R : Room} {s : State} {m : MethodId} {args : Array Value} {below : List Frame} {meth : Method} {c : Code} {nL : Nat} {D : va_G} {A : Nat → Prop} {kc ks : Nat} {Kf : α → State → Prop} {sp : α} {ws ws' : va_W} {pc pc' : Nat} {lv lv' : List (Nat × Value)} {rest st : List Value}
variable {cc : ByteArray} {own : String} {ret : Option FieldType} {cI cH cO : ClassId}
variable {z : MethodName} {bz : ByteArray} {nz idx n0 kz : Nat} {rz : Option FieldType} {C : String} {b : Nat} {r : Int32}
/-- the room of a callee in a caller's -/
def RM (R : Room) (kz nz kc ks : Nat) : Prop := kz + 1 ≤ R.frames ∧ 8 + (nz + 11) + 40 * kz ≤ R.locals ∧ kc + 0 ≤ R.cells ∧ ks + 0 ≤ R.slots
theorem j_callVi (X : CX p s m args meth c cc nL own ret D (tyl cI cH cO) A) {As : List Value} (hM : MI l z bz nz rz kz D (tyl cI cH cO) (.ref b :: As) ws r ws') (hw : WV own idx C z bz nz rz n0) (hrecv : ∃ (q0 ci : Nat) (fs : List Value) (q : vw_C), vwCl[ci]? = some q ∧ q.1 = C ∧ ws[q0]? = some (b, .inr (ci, fs))) (hR : RM R kz nz kc ks) (hst : st = As.reverse ++ .ref b :: rest) (hn : As.length = n0) (hsum : (rest.map fun v => v.category).sum ≤ 8) (hdg : decode cc pc = .ok (.invokevirtual idx, 3)) (hpc : pc + 3 = pc') (kk : J p l e R s m args below meth c nL D A kc ks Kf sp ws' pc' lv (.int r :: rest)) : J p l e R s m args below meth c nL D A kc ks Kf sp ws pc lv st := by
  subst hpc
  subst hst
  intro ls H locs hl hP hD hS
  obtain ⟨⟨hx, hb, hml, hown, hts⟩, hK, hN, hr, hlk, hA⟩ := X
  have hPz := hP
  have hDz := hD
  have hF : ∀ q, va_A ws H.size q → A q := fun q h => by
    rcases h with ⟨k, e9, h⟩ | h
    · exact hDz.2 k (q, e9) h
    · exact hA q (Nat.le_trans hS.1 h)
  refine va_calli (mc := 0) (ms := 0) (va_runV (As := As) (rest := rest) ⟨hx, hb, hml, hown, hts⟩ (hM H.size) (cwV n0 hts hw.good rfl rfl rfl hw.2.2.2.2.2 ⟨hR.1, hR.2.1⟩) ⟨pw_blind, (by obtain ⟨q0, ci, fs, q, g1, g2, g3⟩ := hrecv; obtain ⟨cell, y1, y2, y3⟩ := va_recv hK hPz g1 g3; exact ⟨cell, y1, y2, by rw [← g2]; exact y3⟩), fun U hU hW => ⟨rfl, by rw [hU], by rw [hU]; exact hPz, va_K.moved hW.alike hK, hDz.weaken (fun _ _ _ _ => trivial), hN.warm hW, trivial⟩⟩ rfl hn hl.1 rfl (lv_room hsum) hdg ⟨hR.2.2.1, hR.2.2.2⟩) hS (fun q _ h => hF q h) hF (fun r9 u t H1 locs1 ht hvm hw9 hB hz1 hk1 hS1 => ?_)
  subst hw9
  obtain ⟨hP1, hK1, hD1⟩ := hB
  rw [ht] at hP1
  exact kk ls H1 locs1 hl hP1 (hD1.weaken (fun k q _ h => hF q.1 h)) hS1
theorem j_callViF (X : CX p s m args meth c cc nL own ret D (tyl cI cH cO) A) {As : List Value} {wz wz1 wr : va_W} (isC isR ps : List Nat) (hC : isC.map (fun i => ws[i]?) = wz.map some) (hRr : isR.map (fun i => ws[i]?) = wr.map some) (hnd : va_nd isC = true ∧ va_nd isR = true ∧ va_nd ps = true ∧ ∀ i ∈ isR, i ∉ isC) (hps : ps.map (fun i => (wr ++ wz1)[i]?) = ws'.map some) (hM : MI l z bz nz rz kz D (tyl cI cH cO) (.ref b :: As) wz r wz1) (hw : WV own idx C z bz nz rz n0) (hrecv : ∃ (q0 ci : Nat) (fs : List Value) (q : vw_C), vwCl[ci]? = some q ∧ q.1 = C ∧ wz[q0]? = some (b, .inr (ci, fs))) (hR : RM R kz nz kc ks) (hst : st = As.reverse ++ .ref b :: rest) (hn : As.length = n0) (hsum : (rest.map fun v => v.category).sum ≤ 8) (hdg : decode cc pc = .ok (.invokevirtual idx, 3)) (hpc : pc + 3 = pc') (kk : J p l e R s m args below meth c nL D A kc ks Kf sp ws' pc' lv (.int r :: rest)) : J p l e R s m args below meth c nL D A kc ks Kf sp ws pc lv st := by
  subst hpc
  subst hst
  intro ls H locs hl hP hD hS
  obtain ⟨⟨hx, hb, hml, hown, hts⟩, hK, hN, hr, hlk, hA⟩ := X
  have hPz : va_P D vwCl wz H := hP.sub isC (by
    have h9 := congrArg (List.filterMap id) hC
    simpa [List.filterMap_map, List.map_map] using h9)
  have hDz : va_D A wz := hD.sub isC hnd.1 hC
  have hF : ∀ q, va_A wz H.size q → A q := fun q h => by
    rcases h with ⟨k, e9, h⟩ | h
    · exact hDz.2 k (q, e9) h
    · exact hA q (Nat.le_trans hS.1 h)
  refine va_calli (mc := 0) (ms := 0) (va_runV (As := As) (rest := rest) ⟨hx, hb, hml, hown, hts⟩ (hM H.size) (cwV n0 hts hw.good rfl rfl rfl hw.2.2.2.2.2 ⟨hR.1, hR.2.1⟩) ⟨pw_blind, (by obtain ⟨q0, ci, fs, q, g1, g2, g3⟩ := hrecv; obtain ⟨cell, y1, y2, y3⟩ := va_recv hK hPz g1 g3; exact ⟨cell, y1, y2, by rw [← g2]; exact y3⟩), fun U hU hW => ⟨rfl, by rw [hU], by rw [hU]; exact hPz, va_K.moved hW.alike hK, hDz.weaken (fun _ _ _ _ => trivial), hN.warm hW, trivial⟩⟩ rfl hn hl.1 rfl (lv_room hsum) hdg ⟨hR.2.2.1, hR.2.2.2⟩) hS (fun q _ h => hF q h) hF (fun r9 u t H1 locs1 ht hvm hw9 hB hz1 hk1 hS1 => ?_)
  subst hw9
  obtain ⟨hP1, hK1, hD1⟩ := hB
  rw [ht] at hP1
  obtain ⟨hP2, hD2⟩ := va_join hP hD isC isR hC hRr hnd.2.1 hnd.2.2.2 hk1 hF hP1 hD1
  exact kk ls H1 locs1 hl (hP2.sub ps (by
    have h9 := congrArg (List.filterMap id) hps
    simpa [List.filterMap_map, List.map_map] using h9)) (hD2.sub ps hnd.2.2.1 hps) hS1
theorem j_callVv (X : CX p s m args meth c cc nL own ret D (tyl cI cH cO) A) {As : List Value} (hM : MV l z bz nz kz D (tyl cI cH cO) (.ref b :: As) ws ws') (hw : WV own idx C z bz nz none n0) (hrecv : ∃ (q0 ci : Nat) (fs : List Value) (q : vw_C), vwCl[ci]? = some q ∧ q.1 = C ∧ ws[q0]? = some (b, .inr (ci, fs))) (hR : RM R kz nz kc ks) (hst : st = As.reverse ++ .ref b :: rest) (hn : As.length = n0) (hsum : (rest.map fun v => v.category).sum ≤ 8) (hdg : decode cc pc = .ok (.invokevirtual idx, 3)) (hpc : pc + 3 = pc') (kk : J p l e R s m args below meth c nL D A kc ks Kf sp ws' pc' lv rest) : J p l e R s m args below meth c nL D A kc ks Kf sp ws pc lv st := by
  subst hpc
  subst hst
  intro ls H locs hl hP hD hS
  obtain ⟨⟨hx, hb, hml, hown, hts⟩, hK, hN, hr, hlk, hA⟩ := X
  have hPz := hP
  have hDz := hD
  have hF : ∀ q, va_A ws H.size q → A q := fun q h => by
    rcases h with ⟨k, e9, h⟩ | h
    · exact hDz.2 k (q, e9) h
    · exact hA q (Nat.le_trans hS.1 h)
  refine va_callv (mc := 0) (ms := 0) (va_runV (As := As) (rest := rest) ⟨hx, hb, hml, hown, hts⟩ (hM H.size) (cwV n0 hts hw.good rfl rfl rfl hw.2.2.2.2.2 ⟨hR.1, hR.2.1⟩) ⟨pw_blind, (by obtain ⟨q0, ci, fs, q, g1, g2, g3⟩ := hrecv; obtain ⟨cell, y1, y2, y3⟩ := va_recv hK hPz g1 g3; exact ⟨cell, y1, y2, by rw [← g2]; exact y3⟩), fun U hU hW => ⟨rfl, by rw [hU], by rw [hU]; exact hPz, va_K.moved hW.alike hK, hDz.weaken (fun _ _ _ _ => trivial), hN.warm hW, trivial⟩⟩ rfl hn hl.1 rfl (lv_room hsum) hdg ⟨hR.2.2.1, hR.2.2.2⟩) hS (fun q _ h => hF q h) hF (fun u t H1 locs1 ht hvm hw9 hB hz1 hk1 hS1 => ?_)
  obtain ⟨hP1, hK1, hD1⟩ := hB
  rw [ht] at hP1
  exact kk ls H1 locs1 hl hP1 (hD1.weaken (fun k q _ h => hF q.1 h)) hS1
theorem j_callVvF (X : CX p s m args meth c cc nL own ret D (tyl cI cH cO) A) {As : List Value} {wz wz1 wr : va_W} (isC isR ps : List Nat) (hC : isC.map (fun i => ws[i]?) = wz.map some) (hRr : isR.map (fun i => ws[i]?) = wr.map some) (hnd : va_nd isC = true ∧ va_nd isR = true ∧ va_nd ps = true ∧ ∀ i ∈ isR, i ∉ isC) (hps : ps.map (fun i => (wr ++ wz1)[i]?) = ws'.map some) (hM : MV l z bz nz kz D (tyl cI cH cO) (.ref b :: As) wz wz1) (hw : WV own idx C z bz nz none n0) (hrecv : ∃ (q0 ci : Nat) (fs : List Value) (q : vw_C), vwCl[ci]? = some q ∧ q.1 = C ∧ wz[q0]? = some (b, .inr (ci, fs))) (hR : RM R kz nz kc ks) (hst : st = As.reverse ++ .ref b :: rest) (hn : As.length = n0) (hsum : (rest.map fun v => v.category).sum ≤ 8) (hdg : decode cc pc = .ok (.invokevirtual idx, 3)) (hpc : pc + 3 = pc') (kk : J p l e R s m args below meth c nL D A kc ks Kf sp ws' pc' lv rest) : J p l e R s m args below meth c nL D A kc ks Kf sp ws pc lv st := by
  subst hpc
  subst hst
  intro ls H locs hl hP hD hS
  obtain ⟨⟨hx, hb, hml, hown, hts⟩, hK, hN, hr, hlk, hA⟩ := X
  have hPz : va_P D vwCl wz H := hP.sub isC (by
    have h9 := congrArg (List.filterMap id) hC
    simpa [List.filterMap_map, List.map_map] using h9)
  have hDz : va_D A wz := hD.sub isC hnd.1 hC
  have hF : ∀ q, va_A wz H.size q → A q := fun q h => by
    rcases h with ⟨k, e9, h⟩ | h
    · exact hDz.2 k (q, e9) h
    · exact hA q (Nat.le_trans hS.1 h)
  refine va_callv (mc := 0) (ms := 0) (va_runV (As := As) (rest := rest) ⟨hx, hb, hml, hown, hts⟩ (hM H.size) (cwV n0 hts hw.good rfl rfl rfl hw.2.2.2.2.2 ⟨hR.1, hR.2.1⟩) ⟨pw_blind, (by obtain ⟨q0, ci, fs, q, g1, g2, g3⟩ := hrecv; obtain ⟨cell, y1, y2, y3⟩ := va_recv hK hPz g1 g3; exact ⟨cell, y1, y2, by rw [← g2]; exact y3⟩), fun U hU hW => ⟨rfl, by rw [hU], by rw [hU]; exact hPz, va_K.moved hW.alike hK, hDz.weaken (fun _ _ _ _ => trivial), hN.warm hW, trivial⟩⟩ rfl hn hl.1 rfl (lv_room hsum) hdg ⟨hR.2.2.1, hR.2.2.2⟩) hS (fun q _ h => hF q h) hF (fun u t H1 locs1 ht hvm hw9 hB hz1 hk1 hS1 => ?_)
  obtain ⟨hP1, hK1, hD1⟩ := hB
  rw [ht] at hP1
  obtain ⟨hP2, hD2⟩ := va_join hP hD isC isR hC hRr hnd.2.1 hnd.2.2.2 hk1 hF hP1 hD1
  exact kk ls H1 locs1 hl (hP2.sub ps (by
    have h9 := congrArg (List.filterMap id) hps
    simpa [List.filterMap_map, List.map_map] using h9)) (hD2.sub ps hnd.2.2.1 hps) hS1
theorem j_callSi (X : CX p s m args meth c cc nL own ret D (tyl cI cH cO) A) {As : List Value} (hM : MI l z bz nz rz kz D (tyl cI cH cO) As ws r ws') (hw : WS own idx z bz nz rz n0) (hR : RM R kz nz kc ks) (hst : st = As.reverse ++ rest) (hn : As.length = n0) (hsum : (rest.map fun v => v.category).sum ≤ 8) (hdg : decode cc pc = .ok (.invokestatic idx, 3)) (hpc : pc + 3 = pc') (kk : J p l e R s m args below meth c nL D A kc ks Kf sp ws' pc' lv (.int r :: rest)) : J p l e R s m args below meth c nL D A kc ks Kf sp ws pc lv st := by
  subst hpc
  subst hst
  intro ls H locs hl hP hD hS
  obtain ⟨⟨hx, hb, hml, hown, hts⟩, hK, hN, hr, hlk, hA⟩ := X
  have hPz := hP
  have hDz := hD
  have hF : ∀ q, va_A ws H.size q → A q := fun q h => by
    rcases h with ⟨k, e9, h⟩ | h
    · exact hDz.2 k (q, e9) h
    · exact hA q (Nat.le_trans hS.1 h)
  refine va_calli (mc := 0) (ms := 0) (va_runS (As := As) (rest := rest) ⟨hx, hb, hml, hown, hts⟩ (hM H.size) (va_cwS n0 hts (goodIn_ap (tt_in (fun w h => by simp only [List.mem_cons, List.not_mem_nil, or_false] at h; rcases h with rfl | rfl | rfl; exact hw.2.1; exact hw.2.2.1; exact hw.2.2.2.1)) (tt_code hw.1)) rfl rfl rfl hw.2.2.2.2 ⟨hR.1, hR.2.1⟩) ⟨pw_blind, fun U hU hW => ⟨rfl, by rw [hU], by rw [hU]; exact hPz, va_K.moved hW.alike hK, hDz.weaken (fun _ _ _ _ => trivial), hN.warm hW, trivial⟩⟩ rfl hn hl.1 rfl (lv_room hsum) hdg ⟨hR.2.2.1, hR.2.2.2⟩) hS (fun q _ h => hF q h) hF (fun r9 u t H1 locs1 ht hvm hw9 hB hz1 hk1 hS1 => ?_)
  subst hw9
  obtain ⟨hP1, hK1, hD1⟩ := hB
  rw [ht] at hP1
  exact kk ls H1 locs1 hl hP1 (hD1.weaken (fun k q _ h => hF q.1 h)) hS1
theorem j_callSiF (X : CX p s m args meth c cc nL own ret D (tyl cI cH cO) A) {As : List Value} {wz wz1 wr : va_W} (isC isR ps : List Nat) (hC : isC.map (fun i => ws[i]?) = wz.map some) (hRr : isR.map (fun i => ws[i]?) = wr.map some) (hnd : va_nd isC = true ∧ va_nd isR = true ∧ va_nd ps = true ∧ ∀ i ∈ isR, i ∉ isC) (hps : ps.map (fun i => (wr ++ wz1)[i]?) = ws'.map some) (hM : MI l z bz nz rz kz D (tyl cI cH cO) As wz r wz1) (hw : WS own idx z bz nz rz n0) (hR : RM R kz nz kc ks) (hst : st = As.reverse ++ rest) (hn : As.length = n0) (hsum : (rest.map fun v => v.category).sum ≤ 8) (hdg : decode cc pc = .ok (.invokestatic idx, 3)) (hpc : pc + 3 = pc') (kk : J p l e R s m args below meth c nL D A kc ks Kf sp ws' pc' lv (.int r :: rest)) : J p l e R s m args below meth c nL D A kc ks Kf sp ws pc lv st := by
  subst hpc
  subst hst
  intro ls H locs hl hP hD hS
  obtain ⟨⟨hx, hb, hml, hown, hts⟩, hK, hN, hr, hlk, hA⟩ := X
  have hPz : va_P D vwCl wz H := hP.sub isC (by
    have h9 := congrArg (List.filterMap id) hC
    simpa [List.filterMap_map, List.map_map] using h9)
  have hDz : va_D A wz := hD.sub isC hnd.1 hC
  have hF : ∀ q, va_A wz H.size q → A q := fun q h => by
    rcases h with ⟨k, e9, h⟩ | h
    · exact hDz.2 k (q, e9) h
    · exact hA q (Nat.le_trans hS.1 h)
  refine va_calli (mc := 0) (ms := 0) (va_runS (As := As) (rest := rest) ⟨hx, hb, hml, hown, hts⟩ (hM H.size) (va_cwS n0 hts (goodIn_ap (tt_in (fun w h => by simp only [List.mem_cons, List.not_mem_nil, or_false] at h; rcases h with rfl | rfl | rfl; exact hw.2.1; exact hw.2.2.1; exact hw.2.2.2.1)) (tt_code hw.1)) rfl rfl rfl hw.2.2.2.2 ⟨hR.1, hR.2.1⟩) ⟨pw_blind, fun U hU hW => ⟨rfl, by rw [hU], by rw [hU]; exact hPz, va_K.moved hW.alike hK, hDz.weaken (fun _ _ _ _ => trivial), hN.warm hW, trivial⟩⟩ rfl hn hl.1 rfl (lv_room hsum) hdg ⟨hR.2.2.1, hR.2.2.2⟩) hS (fun q _ h => hF q h) hF (fun r9 u t H1 locs1 ht hvm hw9 hB hz1 hk1 hS1 => ?_)
  subst hw9
  obtain ⟨hP1, hK1, hD1⟩ := hB
  rw [ht] at hP1
  obtain ⟨hP2, hD2⟩ := va_join hP hD isC isR hC hRr hnd.2.1 hnd.2.2.2 hk1 hF hP1 hD1
  exact kk ls H1 locs1 hl (hP2.sub ps (by
    have h9 := congrArg (List.filterMap id) hps
    simpa [List.filterMap_map, List.map_map] using h9)) (hD2.sub ps hnd.2.2.1 hps) hS1
theorem j_callNi (X : CX p s m args meth c cc nL own ret D (tyl cI cH cO) A) {As : List Value} (hM : MI l z bz nz rz kz D (tyl cI cH cO) As ws r ws') {host : String} (hnw : va_Nw (.methodLinkNest own idx z host) s) (hw : Cond.code z bz nz rz ∈ TT ∧ Cond.static z ∈ TT ∧ Cond.initialized z.cls ∈ TT ∧ (z.cls ≠ "java/lang/invoke/MethodHandle" ∧ z.cls ≠ "java/lang/invoke/VarHandle" ∧ (parseMethodDescriptor z.desc).map (fun d => d.parameters.length) = some n0)) (hR : RM R kz nz kc ks) (hst : st = As.reverse ++ rest) (hn : As.length = n0) (hsum : (rest.map fun v => v.category).sum ≤ 8) (hdg : decode cc pc = .ok (.invokestatic idx, 3)) (hpc : pc + 3 = pc') (kk : J p l e R s m args below meth c nL D A kc ks Kf sp ws' pc' lv (.int r :: rest)) : J p l e R s m args below meth c nL D A kc ks Kf sp ws pc lv st := by
  subst hpc
  subst hst
  intro ls H locs hl hP hD hS
  obtain ⟨⟨hx, hb, hml, hown, hts⟩, hK, hN, hr, hlk, hA⟩ := X
  have hPz := hP
  have hDz := hD
  have hF : ∀ q, va_A ws H.size q → A q := fun q h => by
    rcases h with ⟨k, e9, h⟩ | h
    · exact hDz.2 k (q, e9) h
    · exact hA q (Nat.le_trans hS.1 h)
  refine va_calli (mc := 0) (ms := 0) (va_runSN (As := As) (rest := rest) ⟨hx, hb, hml, hown, hts⟩ (hM H.size) ⟨va_cnB n0 hts (tt_code hw.1) rfl rfl rfl hnw (hts _ hw.2.2.1) hw.2.2.2 ⟨hR.1, hR.2.1⟩, hts _ hw.2.1, trivial⟩ ⟨pw_blind, fun U hU hW => ⟨rfl, by rw [hU], by rw [hU]; exact hPz, va_K.moved hW.alike hK, hDz.weaken (fun _ _ _ _ => trivial), hN.warm hW, trivial⟩⟩ rfl hn hl.1 rfl (lv_room hsum) hdg ⟨hR.2.2.1, hR.2.2.2⟩) hS (fun q _ h => hF q h) hF (fun r9 u t H1 locs1 ht hvm hw9 hB hz1 hk1 hS1 => ?_)
  subst hw9
  obtain ⟨hP1, hK1, hD1⟩ := hB
  rw [ht] at hP1
  exact kk ls H1 locs1 hl hP1 (hD1.weaken (fun k q _ h => hF q.1 h)) hS1
theorem j_callNiF (X : CX p s m args meth c cc nL own ret D (tyl cI cH cO) A) {As : List Value} {wz wz1 wr : va_W} (isC isR ps : List Nat) (hC : isC.map (fun i => ws[i]?) = wz.map some) (hRr : isR.map (fun i => ws[i]?) = wr.map some) (hnd : va_nd isC = true ∧ va_nd isR = true ∧ va_nd ps = true ∧ ∀ i ∈ isR, i ∉ isC) (hps : ps.map (fun i => (wr ++ wz1)[i]?) = ws'.map some) (hM : MI l z bz nz rz kz D (tyl cI cH cO) As wz r wz1) {host : String} (hnw : va_Nw (.methodLinkNest own idx z host) s) (hw : Cond.code z bz nz rz ∈ TT ∧ Cond.static z ∈ TT ∧ Cond.initialized z.cls ∈ TT ∧ (z.cls ≠ "java/lang/invoke/MethodHandle" ∧ z.cls ≠ "java/lang/invoke/VarHandle" ∧ (parseMethodDescriptor z.desc).map (fun d => d.parameters.length) = some n0)) (hR : RM R kz nz kc ks) (hst : st = As.reverse ++ rest) (hn : As.length = n0) (hsum : (rest.map fun v => v.category).sum ≤ 8) (hdg : decode cc pc = .ok (.invokestatic idx, 3)) (hpc : pc + 3 = pc') (kk : J p l e R s m args below meth c nL D A kc ks Kf sp ws' pc' lv (.int r :: rest)) : J p l e R s m args below meth c nL D A kc ks Kf sp ws pc lv st := by
  subst hpc
  subst hst
  intro ls H locs hl hP hD hS
  obtain ⟨⟨hx, hb, hml, hown, hts⟩, hK, hN, hr, hlk, hA⟩ := X
  have hPz : va_P D vwCl wz H := hP.sub isC (by
    have h9 := congrArg (List.filterMap id) hC
    simpa [List.filterMap_map, List.map_map] using h9)
  have hDz : va_D A wz := hD.sub isC hnd.1 hC
  have hF : ∀ q, va_A wz H.size q → A q := fun q h => by
    rcases h with ⟨k, e9, h⟩ | h
    · exact hDz.2 k (q, e9) h
    · exact hA q (Nat.le_trans hS.1 h)
  refine va_calli (mc := 0) (ms := 0) (va_runSN (As := As) (rest := rest) ⟨hx, hb, hml, hown, hts⟩ (hM H.size) ⟨va_cnB n0 hts (tt_code hw.1) rfl rfl rfl hnw (hts _ hw.2.2.1) hw.2.2.2 ⟨hR.1, hR.2.1⟩, hts _ hw.2.1, trivial⟩ ⟨pw_blind, fun U hU hW => ⟨rfl, by rw [hU], by rw [hU]; exact hPz, va_K.moved hW.alike hK, hDz.weaken (fun _ _ _ _ => trivial), hN.warm hW, trivial⟩⟩ rfl hn hl.1 rfl (lv_room hsum) hdg ⟨hR.2.2.1, hR.2.2.2⟩) hS (fun q _ h => hF q h) hF (fun r9 u t H1 locs1 ht hvm hw9 hB hz1 hk1 hS1 => ?_)
  subst hw9
  obtain ⟨hP1, hK1, hD1⟩ := hB
  rw [ht] at hP1
  obtain ⟨hP2, hD2⟩ := va_join hP hD isC isR hC hRr hnd.2.1 hnd.2.2.2 hk1 hF hP1 hD1
  exact kk ls H1 locs1 hl (hP2.sub ps (by
    have h9 := congrArg (List.filterMap id) hps
    simpa [List.filterMap_map, List.map_map] using h9)) (hD2.sub ps hnd.2.2.1 hps) hS1
theorem j_callNv (X : CX p s m args meth c cc nL own ret D (tyl cI cH cO) A) {As : List Value} (hM : MV l z bz nz kz D (tyl cI cH cO) As ws ws') {host : String} (hnw : va_Nw (.methodLinkNest own idx z host) s) (hw : Cond.code z bz nz none ∈ TT ∧ Cond.static z ∈ TT ∧ Cond.initialized z.cls ∈ TT ∧ (z.cls ≠ "java/lang/invoke/MethodHandle" ∧ z.cls ≠ "java/lang/invoke/VarHandle" ∧ (parseMethodDescriptor z.desc).map (fun d => d.parameters.length) = some n0)) (hR : RM R kz nz kc ks) (hst : st = As.reverse ++ rest) (hn : As.length = n0) (hsum : (rest.map fun v => v.category).sum ≤ 8) (hdg : decode cc pc = .ok (.invokestatic idx, 3)) (hpc : pc + 3 = pc') (kk : J p l e R s m args below meth c nL D A kc ks Kf sp ws' pc' lv rest) : J p l e R s m args below meth c nL D A kc ks Kf sp ws pc lv st := by
  subst hpc
  subst hst
  intro ls H locs hl hP hD hS
  obtain ⟨⟨hx, hb, hml, hown, hts⟩, hK, hN, hr, hlk, hA⟩ := X
  have hPz := hP
  have hDz := hD
  have hF : ∀ q, va_A ws H.size q → A q := fun q h => by
    rcases h with ⟨k, e9, h⟩ | h
    · exact hDz.2 k (q, e9) h
    · exact hA q (Nat.le_trans hS.1 h)
  refine va_callv (mc := 0) (ms := 0) (va_runSN (As := As) (rest := rest) ⟨hx, hb, hml, hown, hts⟩ (hM H.size) ⟨va_cnB n0 hts (tt_code hw.1) rfl rfl rfl hnw (hts _ hw.2.2.1) hw.2.2.2 ⟨hR.1, hR.2.1⟩, hts _ hw.2.1, trivial⟩ ⟨pw_blind, fun U hU hW => ⟨rfl, by rw [hU], by rw [hU]; exact hPz, va_K.moved hW.alike hK, hDz.weaken (fun _ _ _ _ => trivial), hN.warm hW, trivial⟩⟩ rfl hn hl.1 rfl (lv_room hsum) hdg ⟨hR.2.2.1, hR.2.2.2⟩) hS (fun q _ h => hF q h) hF (fun u t H1 locs1 ht hvm hw9 hB hz1 hk1 hS1 => ?_)
  obtain ⟨hP1, hK1, hD1⟩ := hB
  rw [ht] at hP1
  exact kk ls H1 locs1 hl hP1 (hD1.weaken (fun k q _ h => hF q.1 h)) hS1
theorem j_callNvF (X : CX p s m args meth c cc nL own ret D (tyl cI cH cO) A) {As : List Value} {wz wz1 wr : va_W} (isC isR ps : List Nat) (hC : isC.map (fun i => ws[i]?) = wz.map some) (hRr : isR.map (fun i => ws[i]?) = wr.map some) (hnd : va_nd isC = true ∧ va_nd isR = true ∧ va_nd ps = true ∧ ∀ i ∈ isR, i ∉ isC) (hps : ps.map (fun i => (wr ++ wz1)[i]?) = ws'.map some) (hM : MV l z bz nz kz D (tyl cI cH cO) As wz wz1) {host : String} (hnw : va_Nw (.methodLinkNest own idx z host) s) (hw : Cond.code z bz nz none ∈ TT ∧ Cond.static z ∈ TT ∧ Cond.initialized z.cls ∈ TT ∧ (z.cls ≠ "java/lang/invoke/MethodHandle" ∧ z.cls ≠ "java/lang/invoke/VarHandle" ∧ (parseMethodDescriptor z.desc).map (fun d => d.parameters.length) = some n0)) (hR : RM R kz nz kc ks) (hst : st = As.reverse ++ rest) (hn : As.length = n0) (hsum : (rest.map fun v => v.category).sum ≤ 8) (hdg : decode cc pc = .ok (.invokestatic idx, 3)) (hpc : pc + 3 = pc') (kk : J p l e R s m args below meth c nL D A kc ks Kf sp ws' pc' lv rest) : J p l e R s m args below meth c nL D A kc ks Kf sp ws pc lv st := by
  subst hpc
  subst hst
  intro ls H locs hl hP hD hS
  obtain ⟨⟨hx, hb, hml, hown, hts⟩, hK, hN, hr, hlk, hA⟩ := X
  have hPz : va_P D vwCl wz H := hP.sub isC (by
    have h9 := congrArg (List.filterMap id) hC
    simpa [List.filterMap_map, List.map_map] using h9)
  have hDz : va_D A wz := hD.sub isC hnd.1 hC
  have hF : ∀ q, va_A wz H.size q → A q := fun q h => by
    rcases h with ⟨k, e9, h⟩ | h
    · exact hDz.2 k (q, e9) h
    · exact hA q (Nat.le_trans hS.1 h)
  refine va_callv (mc := 0) (ms := 0) (va_runSN (As := As) (rest := rest) ⟨hx, hb, hml, hown, hts⟩ (hM H.size) ⟨va_cnB n0 hts (tt_code hw.1) rfl rfl rfl hnw (hts _ hw.2.2.1) hw.2.2.2 ⟨hR.1, hR.2.1⟩, hts _ hw.2.1, trivial⟩ ⟨pw_blind, fun U hU hW => ⟨rfl, by rw [hU], by rw [hU]; exact hPz, va_K.moved hW.alike hK, hDz.weaken (fun _ _ _ _ => trivial), hN.warm hW, trivial⟩⟩ rfl hn hl.1 rfl (lv_room hsum) hdg ⟨hR.2.2.1, hR.2.2.2⟩) hS (fun q _ h => hF q h) hF (fun u t H1 locs1 ht hvm hw9 hB hz1 hk1 hS1 => ?_)
  obtain ⟨hP1, hK1, hD1⟩ := hB
  rw [ht] at hP1
  obtain ⟨hP2, hD2⟩ := va_join hP hD isC isR hC hRr hnd.2.1 hnd.2.2.2 hk1 hF hP1 hD1
  exact kk ls H1 locs1 hl (hP2.sub ps (by
    have h9 := congrArg (List.filterMap id) hps
    simpa [List.filterMap_map, List.map_map] using h9)) (hD2.sub ps hnd.2.2.1 hps) hS1
end JC
end
section
/-! the worlds: an object with its arrays; its state is a function of slot and place -/
def wC (cI : ClassId) (h : Nat) (ar : Nat → Nat) (C : Cst) : va_W := [(h, .inr (0, [.ref (ar 0), .ref (ar 1), .ref (ar 2), .ref (ar 3), .ref (ar 4), .ref (ar 5), .ref (ar 6), .ref (ar 7), .ref (ar 8), .int (C 9 0), .int (C 10 0), .int (C 11 0), .int (C 12 0), .int (C 13 0), .int (C 14 0), .int (C 15 0), .int (C 16 0)])), (ar 0, .inl (cI, 5, .inl (C 0))), (ar 1, .inl (cI, 8, .inl (C 1))), (ar 2, .inl (cI, 8, .inl (C 2))), (ar 3, .inl (cI, 8, .inl (C 3))), (ar 4, .inl (cI, 8, .inl (C 4))), (ar 5, .inl (cI, 8, .inl (C 5))), (ar 6, .inl (cI, 8, .inl (C 6))), (ar 7, .inl (cI, 8, .inl (C 7))), (ar 8, .inl (cI, 30, .inl (C 8)))]
def wM (cI : ClassId) (h : Nat) (ar : Nat → Nat) (C : Cst) : va_W := [(h, .inr (5, [.ref (ar 0), .ref (ar 1), .ref (ar 2), .int (C 3 0), .int (C 4 0), .ref (ar 5), .int (C 6 0), .ref (ar 7), .int (C 8 0), .int (C 9 0), .int (C 10 0), .ref (ar 11), .ref (ar 12)])), (ar 0, .inl (cI, 107, .inl (C 0))), (ar 1, .inl (cI, 428, .inl (C 1))), (ar 2, .inl (cI, 107, .inl (C 2))), (ar 5, .inl (cI, 60, .inl (C 5))), (ar 7, .inl (cI, 8, .inl (C 7))), (ar 11, .inl (cI, 2, .inl (C 11))), (ar 12, .inl (cI, 107, .inl (C 12)))]
def wT (cH : ClassId) (h : Nat) (ar : Nat → Nat) (C : Cst) : va_W := [(h, .inr (3, [.ref (ar 0), .int (C 1 0), .int (C 2 0), .int (C 3 0), .int (C 4 0), .int (C 5 0)])), (ar 0, .inl (cH, 60, .inl (C 0)))]
def wR (h : Nat) (C : Cst) : va_W := [(h, .inr (2, [.int (C 0 0), .int (C 1 0), .int (C 2 0), .int (C 3 0)]))]
section LP
def zp1 {α a : Type} (body : (a → α) → a → α) (dft : a → α) : Nat → a → α
  | 0, x0 => dft x0
  | n + 1, x0 => body (zp1 body dft n) x0
theorem zp1_z {α a : Type} (body : (a → α) → a → α) (dft : a → α) (x0 : a) : zp1 body dft 0 x0 = dft x0 := rfl
theorem zp1_s {α a : Type} (body : (a → α) → a → α) (dft : a → α) (n : Nat) (x0 : a) : zp1 body dft (n + 1) x0 = body (zp1 body dft n) x0 := rfl
theorem zp1_ind {α a : Type} {body : (a → α) → a → α} {dft : a → α} {Q9 : a → α → Prop} (h0 : ∀ x0, Q9 x0 (dft x0)) (hs : ∀ rec, (∀ x0, Q9 x0 (rec x0)) → ∀ x0, Q9 x0 (body rec x0)) : ∀ (n : Nat) (x0 : a), Q9 x0 (zp1 body dft n x0) := by
  intro n
  induction n with
  | zero => exact h0
  | succ n ih => exact hs _ ih
def ltl1 {α a : Type} (body : (a → α) → a → α) (dft : a → α) (F : (Nat → a → α) → α) : α := F (zp1 body dft)
def zp2 {α a b : Type} (body : (a → b → α) → a → b → α) (dft : a → b → α) : Nat → a → b → α
  | 0, x0, x1 => dft x0 x1
  | n + 1, x0, x1 => body (zp2 body dft n) x0 x1
theorem zp2_z {α a b : Type} (body : (a → b → α) → a → b → α) (dft : a → b → α) (x0 : a) (x1 : b) : zp2 body dft 0 x0 x1 = dft x0 x1 := rfl
theorem zp2_s {α a b : Type} (body : (a → b → α) → a → b → α) (dft : a → b → α) (n : Nat) (x0 : a) (x1 : b) : zp2 body dft (n + 1) x0 x1 = body (zp2 body dft n) x0 x1 := rfl
theorem zp2_ind {α a b : Type} {body : (a → b → α) → a → b → α} {dft : a → b → α} {Q9 : a → b → α → Prop} (h0 : ∀ x0 x1, Q9 x0 x1 (dft x0 x1)) (hs : ∀ rec, (∀ x0 x1, Q9 x0 x1 (rec x0 x1)) → ∀ x0 x1, Q9 x0 x1 (body rec x0 x1)) : ∀ (n : Nat) (x0 : a) (x1 : b), Q9 x0 x1 (zp2 body dft n x0 x1) := by
  intro n
  induction n with
  | zero => exact h0
  | succ n ih => exact hs _ ih
def ltl2 {α a b : Type} (body : (a → b → α) → a → b → α) (dft : a → b → α) (F : (Nat → a → b → α) → α) : α := F (zp2 body dft)
def zp3 {α a b c : Type} (body : (a → b → c → α) → a → b → c → α) (dft : a → b → c → α) : Nat → a → b → c → α
  | 0, x0, x1, x2 => dft x0 x1 x2
  | n + 1, x0, x1, x2 => body (zp3 body dft n) x0 x1 x2
theorem zp3_z {α a b c : Type} (body : (a → b → c → α) → a → b → c → α) (dft : a → b → c → α) (x0 : a) (x1 : b) (x2 : c) : zp3 body dft 0 x0 x1 x2 = dft x0 x1 x2 := rfl
theorem zp3_s {α a b c : Type} (body : (a → b → c → α) → a → b → c → α) (dft : a → b → c → α) (n : Nat) (x0 : a) (x1 : b) (x2 : c) : zp3 body dft (n + 1) x0 x1 x2 = body (zp3 body dft n) x0 x1 x2 := rfl
theorem zp3_ind {α a b c : Type} {body : (a → b → c → α) → a → b → c → α} {dft : a → b → c → α} {Q9 : a → b → c → α → Prop} (h0 : ∀ x0 x1 x2, Q9 x0 x1 x2 (dft x0 x1 x2)) (hs : ∀ rec, (∀ x0 x1 x2, Q9 x0 x1 x2 (rec x0 x1 x2)) → ∀ x0 x1 x2, Q9 x0 x1 x2 (body rec x0 x1 x2)) : ∀ (n : Nat) (x0 : a) (x1 : b) (x2 : c), Q9 x0 x1 x2 (zp3 body dft n x0 x1 x2) := by
  intro n
  induction n with
  | zero => exact h0
  | succ n ih => exact hs _ ih
def ltl3 {α a b c : Type} (body : (a → b → c → α) → a → b → c → α) (dft : a → b → c → α) (F : (Nat → a → b → c → α) → α) : α := F (zp3 body dft)
def zp4 {α a b c d : Type} (body : (a → b → c → d → α) → a → b → c → d → α) (dft : a → b → c → d → α) : Nat → a → b → c → d → α
  | 0, x0, x1, x2, x3 => dft x0 x1 x2 x3
  | n + 1, x0, x1, x2, x3 => body (zp4 body dft n) x0 x1 x2 x3
theorem zp4_z {α a b c d : Type} (body : (a → b → c → d → α) → a → b → c → d → α) (dft : a → b → c → d → α) (x0 : a) (x1 : b) (x2 : c) (x3 : d) : zp4 body dft 0 x0 x1 x2 x3 = dft x0 x1 x2 x3 := rfl
theorem zp4_s {α a b c d : Type} (body : (a → b → c → d → α) → a → b → c → d → α) (dft : a → b → c → d → α) (n : Nat) (x0 : a) (x1 : b) (x2 : c) (x3 : d) : zp4 body dft (n + 1) x0 x1 x2 x3 = body (zp4 body dft n) x0 x1 x2 x3 := rfl
theorem zp4_ind {α a b c d : Type} {body : (a → b → c → d → α) → a → b → c → d → α} {dft : a → b → c → d → α} {Q9 : a → b → c → d → α → Prop} (h0 : ∀ x0 x1 x2 x3, Q9 x0 x1 x2 x3 (dft x0 x1 x2 x3)) (hs : ∀ rec, (∀ x0 x1 x2 x3, Q9 x0 x1 x2 x3 (rec x0 x1 x2 x3)) → ∀ x0 x1 x2 x3, Q9 x0 x1 x2 x3 (body rec x0 x1 x2 x3)) : ∀ (n : Nat) (x0 : a) (x1 : b) (x2 : c) (x3 : d), Q9 x0 x1 x2 x3 (zp4 body dft n x0 x1 x2 x3) := by
  intro n
  induction n with
  | zero => exact h0
  | succ n ih => exact hs _ ih
def ltl4 {α a b c d : Type} (body : (a → b → c → d → α) → a → b → c → d → α) (dft : a → b → c → d → α) (F : (Nat → a → b → c → d → α) → α) : α := F (zp4 body dft)
def zp5 {α a b c d e : Type} (body : (a → b → c → d → e → α) → a → b → c → d → e → α) (dft : a → b → c → d → e → α) : Nat → a → b → c → d → e → α
  | 0, x0, x1, x2, x3, x4 => dft x0 x1 x2 x3 x4
  | n + 1, x0, x1, x2, x3, x4 => body (zp5 body dft n) x0 x1 x2 x3 x4
theorem zp5_z {α a b c d e : Type} (body : (a → b → c → d → e → α) → a → b → c → d → e → α) (dft : a → b → c → d → e → α) (x0 : a) (x1 : b) (x2 : c) (x3 : d) (x4 : e) : zp5 body dft 0 x0 x1 x2 x3 x4 = dft x0 x1 x2 x3 x4 := rfl
theorem zp5_s {α a b c d e : Type} (body : (a → b → c → d → e → α) → a → b → c → d → e → α) (dft : a → b → c → d → e → α) (n : Nat) (x0 : a) (x1 : b) (x2 : c) (x3 : d) (x4 : e) : zp5 body dft (n + 1) x0 x1 x2 x3 x4 = body (zp5 body dft n) x0 x1 x2 x3 x4 := rfl
theorem zp5_ind {α a b c d e : Type} {body : (a → b → c → d → e → α) → a → b → c → d → e → α} {dft : a → b → c → d → e → α} {Q9 : a → b → c → d → e → α → Prop} (h0 : ∀ x0 x1 x2 x3 x4, Q9 x0 x1 x2 x3 x4 (dft x0 x1 x2 x3 x4)) (hs : ∀ rec, (∀ x0 x1 x2 x3 x4, Q9 x0 x1 x2 x3 x4 (rec x0 x1 x2 x3 x4)) → ∀ x0 x1 x2 x3 x4, Q9 x0 x1 x2 x3 x4 (body rec x0 x1 x2 x3 x4)) : ∀ (n : Nat) (x0 : a) (x1 : b) (x2 : c) (x3 : d) (x4 : e), Q9 x0 x1 x2 x3 x4 (zp5 body dft n x0 x1 x2 x3 x4) := by
  intro n
  induction n with
  | zero => exact h0
  | succ n ih => exact hs _ ih
def ltl5 {α a b c d e : Type} (body : (a → b → c → d → e → α) → a → b → c → d → e → α) (dft : a → b → c → d → e → α) (F : (Nat → a → b → c → d → e → α) → α) : α := F (zp5 body dft)
def zp6 {α a b c d e f : Type} (body : (a → b → c → d → e → f → α) → a → b → c → d → e → f → α) (dft : a → b → c → d → e → f → α) : Nat → a → b → c → d → e → f → α
  | 0, x0, x1, x2, x3, x4, x5 => dft x0 x1 x2 x3 x4 x5
  | n + 1, x0, x1, x2, x3, x4, x5 => body (zp6 body dft n) x0 x1 x2 x3 x4 x5
theorem zp6_z {α a b c d e f : Type} (body : (a → b → c → d → e → f → α) → a → b → c → d → e → f → α) (dft : a → b → c → d → e → f → α) (x0 : a) (x1 : b) (x2 : c) (x3 : d) (x4 : e) (x5 : f) : zp6 body dft 0 x0 x1 x2 x3 x4 x5 = dft x0 x1 x2 x3 x4 x5 := rfl
theorem zp6_s {α a b c d e f : Type} (body : (a → b → c → d → e → f → α) → a → b → c → d → e → f → α) (dft : a → b → c → d → e → f → α) (n : Nat) (x0 : a) (x1 : b) (x2 : c) (x3 : d) (x4 : e) (x5 : f) : zp6 body dft (n + 1) x0 x1 x2 x3 x4 x5 = body (zp6 body dft n) x0 x1 x2 x3 x4 x5 := rfl
theorem zp6_ind {α a b c d e f : Type} {body : (a → b → c → d → e → f → α) → a → b → c → d → e → f → α} {dft : a → b → c → d → e → f → α} {Q9 : a → b → c → d → e → f → α → Prop} (h0 : ∀ x0 x1 x2 x3 x4 x5, Q9 x0 x1 x2 x3 x4 x5 (dft x0 x1 x2 x3 x4 x5)) (hs : ∀ rec, (∀ x0 x1 x2 x3 x4 x5, Q9 x0 x1 x2 x3 x4 x5 (rec x0 x1 x2 x3 x4 x5)) → ∀ x0 x1 x2 x3 x4 x5, Q9 x0 x1 x2 x3 x4 x5 (body rec x0 x1 x2 x3 x4 x5)) : ∀ (n : Nat) (x0 : a) (x1 : b) (x2 : c) (x3 : d) (x4 : e) (x5 : f), Q9 x0 x1 x2 x3 x4 x5 (zp6 body dft n x0 x1 x2 x3 x4 x5) := by
  intro n
  induction n with
  | zero => exact h0
  | succ n ih => exact hs _ ih
def ltl6 {α a b c d e f : Type} (body : (a → b → c → d → e → f → α) → a → b → c → d → e → f → α) (dft : a → b → c → d → e → f → α) (F : (Nat → a → b → c → d → e → f → α) → α) : α := F (zp6 body dft)
def zp7 {α a b c d e f g : Type} (body : (a → b → c → d → e → f → g → α) → a → b → c → d → e → f → g → α) (dft : a → b → c → d → e → f → g → α) : Nat → a → b → c → d → e → f → g → α
  | 0, x0, x1, x2, x3, x4, x5, x6 => dft x0 x1 x2 x3 x4 x5 x6
  | n + 1, x0, x1, x2, x3, x4, x5, x6 => body (zp7 body dft n) x0 x1 x2 x3 x4 x5 x6
theorem zp7_z {α a b c d e f g : Type} (body : (a → b → c → d → e → f → g → α) → a → b → c → d → e → f → g → α) (dft : a → b → c → d → e → f → g → α) (x0 : a) (x1 : b) (x2 : c) (x3 : d) (x4 : e) (x5 : f) (x6 : g) : zp7 body dft 0 x0 x1 x2 x3 x4 x5 x6 = dft x0 x1 x2 x3 x4 x5 x6 := rfl
theorem zp7_s {α a b c d e f g : Type} (body : (a → b → c → d → e → f → g → α) → a → b → c → d → e → f → g → α) (dft : a → b → c → d → e → f → g → α) (n : Nat) (x0 : a) (x1 : b) (x2 : c) (x3 : d) (x4 : e) (x5 : f) (x6 : g) : zp7 body dft (n + 1) x0 x1 x2 x3 x4 x5 x6 = body (zp7 body dft n) x0 x1 x2 x3 x4 x5 x6 := rfl
theorem zp7_ind {α a b c d e f g : Type} {body : (a → b → c → d → e → f → g → α) → a → b → c → d → e → f → g → α} {dft : a → b → c → d → e → f → g → α} {Q9 : a → b → c → d → e → f → g → α → Prop} (h0 : ∀ x0 x1 x2 x3 x4 x5 x6, Q9 x0 x1 x2 x3 x4 x5 x6 (dft x0 x1 x2 x3 x4 x5 x6)) (hs : ∀ rec, (∀ x0 x1 x2 x3 x4 x5 x6, Q9 x0 x1 x2 x3 x4 x5 x6 (rec x0 x1 x2 x3 x4 x5 x6)) → ∀ x0 x1 x2 x3 x4 x5 x6, Q9 x0 x1 x2 x3 x4 x5 x6 (body rec x0 x1 x2 x3 x4 x5 x6)) : ∀ (n : Nat) (x0 : a) (x1 : b) (x2 : c) (x3 : d) (x4 : e) (x5 : f) (x6 : g), Q9 x0 x1 x2 x3 x4 x5 x6 (zp7 body dft n x0 x1 x2 x3 x4 x5 x6) := by
  intro n
  induction n with
  | zero => exact h0
  | succ n ih => exact hs _ ih
def ltl7 {α a b c d e f g : Type} (body : (a → b → c → d → e → f → g → α) → a → b → c → d → e → f → g → α) (dft : a → b → c → d → e → f → g → α) (F : (Nat → a → b → c → d → e → f → g → α) → α) : α := F (zp7 body dft)
end LP
section J2
variable {α σ : Type} {p : Program} {l : Launch} {e : Env} {R : Room} {s : State} {m : MethodId} {args : Array Value} {below : List Frame} {meth : Method} {c : Code} {nL : Nat} {D : va_G} {A : Nat → Prop} {kc ks : Nat} {Kf : α → State → Prop} {sp : α} {ws : va_W} {pc pc' : Nat} {lv lv' : List (Nat × Value)} {rest st : List Value}
variable {cc : ByteArray} {own : String} {ret : Option FieldType} {cI cH cO : ClassId}
theorem j_ltv {β : Type} {v : β} {f : β → α} (k : ∀ y, y = v → J p l e R s m args below meth c nL D A kc ks Kf (f y) ws pc lv rest) : J p l e R s m args below meth c nL D A kc ks Kf (ltv v f) ws pc lv rest := k v rfl
theorem j_ltl1 {t0 : Type} {body : (t0 → α) → t0 → α} {dft : t0 → α} {F : (Nat → t0 → α) → α} (k : ∀ L : Nat → t0 → α, (∀ (n : Nat) (x0 : t0), L (n + 1) x0 = body (L n) x0) → J p l e R s m args below meth c nL D A kc ks Kf (F L) ws pc lv rest) : J p l e R s m args below meth c nL D A kc ks Kf (ltl1 body dft F) ws pc lv rest := k (zp1 body dft) (fun _ _ => rfl)
theorem j_ltl2 {t0 t1 : Type} {body : (t0 → t1 → α) → t0 → t1 → α} {dft : t0 → t1 → α} {F : (Nat → t0 → t1 → α) → α} (k : ∀ L : Nat → t0 → t1 → α, (∀ (n : Nat) (x0 : t0) (x1 : t1), L (n + 1) x0 x1 = body (L n) x0 x1) → J p l e R s m args below meth c nL D A kc ks Kf (F L) ws pc lv rest) : J p l e R s m args below meth c nL D A kc ks Kf (ltl2 body dft F) ws pc lv rest := k (zp2 body dft) (fun _ _ _ => rfl)
theorem j_ltl3 {t0 t1 t2 : Type} {body : (t0 → t1 → t2 → α) → t0 → t1 → t2 → α} {dft : t0 → t1 → t2 → α} {F : (Nat → t0 → t1 → t2 → α) → α} (k : ∀ L : Nat → t0 → t1 → t2 → α, (∀ (n : Nat) (x0 : t0) (x1 : t1) (x2 : t2), L (n + 1) x0 x1 x2 = body (L n) x0 x1 x2) → J p l e R s m args below meth c nL D A kc ks Kf (F L) ws pc lv rest) : J p l e R s m args below meth c nL D A kc ks Kf (ltl3 body dft F) ws pc lv rest := k (zp3 body dft) (fun _ _ _ _ => rfl)
theorem j_ltl4 {t0 t1 t2 t3 : Type} {body : (t0 → t1 → t2 → t3 → α) → t0 → t1 → t2 → t3 → α} {dft : t0 → t1 → t2 → t3 → α} {F : (Nat → t0 → t1 → t2 → t3 → α) → α} (k : ∀ L : Nat → t0 → t1 → t2 → t3 → α, (∀ (n : Nat) (x0 : t0) (x1 : t1) (x2 : t2) (x3 : t3), L (n + 1) x0 x1 x2 x3 = body (L n) x0 x1 x2 x3) → J p l e R s m args below meth c nL D A kc ks Kf (F L) ws pc lv rest) : J p l e R s m args below meth c nL D A kc ks Kf (ltl4 body dft F) ws pc lv rest := k (zp4 body dft) (fun _ _ _ _ _ => rfl)
theorem j_ltl5 {t0 t1 t2 t3 t4 : Type} {body : (t0 → t1 → t2 → t3 → t4 → α) → t0 → t1 → t2 → t3 → t4 → α} {dft : t0 → t1 → t2 → t3 → t4 → α} {F : (Nat → t0 → t1 → t2 → t3 → t4 → α) → α} (k : ∀ L : Nat → t0 → t1 → t2 → t3 → t4 → α, (∀ (n : Nat) (x0 : t0) (x1 : t1) (x2 : t2) (x3 : t3) (x4 : t4), L (n + 1) x0 x1 x2 x3 x4 = body (L n) x0 x1 x2 x3 x4) → J p l e R s m args below meth c nL D A kc ks Kf (F L) ws pc lv rest) : J p l e R s m args below meth c nL D A kc ks Kf (ltl5 body dft F) ws pc lv rest := k (zp5 body dft) (fun _ _ _ _ _ _ => rfl)
theorem j_ltl6 {t0 t1 t2 t3 t4 t5 : Type} {body : (t0 → t1 → t2 → t3 → t4 → t5 → α) → t0 → t1 → t2 → t3 → t4 → t5 → α} {dft : t0 → t1 → t2 → t3 → t4 → t5 → α} {F : (Nat → t0 → t1 → t2 → t3 → t4 → t5 → α) → α} (k : ∀ L : Nat → t0 → t1 → t2 → t3 → t4 → t5 → α, (∀ (n : Nat) (x0 : t0) (x1 : t1) (x2 : t2) (x3 : t3) (x4 : t4) (x5 : t5), L (n + 1) x0 x1 x2 x3 x4 x5 = body (L n) x0 x1 x2 x3 x4 x5) → J p l e R s m args below meth c nL D A kc ks Kf (F L) ws pc lv rest) : J p l e R s m args below meth c nL D A kc ks Kf (ltl6 body dft F) ws pc lv rest := k (zp6 body dft) (fun _ _ _ _ _ _ _ => rfl)
theorem j_ltl7 {t0 t1 t2 t3 t4 t5 t6 : Type} {body : (t0 → t1 → t2 → t3 → t4 → t5 → t6 → α) → t0 → t1 → t2 → t3 → t4 → t5 → t6 → α} {dft : t0 → t1 → t2 → t3 → t4 → t5 → t6 → α} {F : (Nat → t0 → t1 → t2 → t3 → t4 → t5 → t6 → α) → α} (k : ∀ L : Nat → t0 → t1 → t2 → t3 → t4 → t5 → t6 → α, (∀ (n : Nat) (x0 : t0) (x1 : t1) (x2 : t2) (x3 : t3) (x4 : t4) (x5 : t5) (x6 : t6), L (n + 1) x0 x1 x2 x3 x4 x5 x6 = body (L n) x0 x1 x2 x3 x4 x5 x6) → J p l e R s m args below meth c nL D A kc ks Kf (F L) ws pc lv rest) : J p l e R s m args below meth c nL D A kc ks Kf (ltl7 body dft F) ws pc lv rest := k (zp7 body dft) (fun _ _ _ _ _ _ _ _ => rfl)
theorem j_topL {v : Int32} {f : Int32 → α} (k : ∀ y, y = v → J p l e R s m args below meth c nL D A kc ks Kf (f y) ws pc lv (.int y :: rest)) : J p l e R s m args below meth c nL D A kc ks Kf (ltv v f) ws pc lv (.int v :: rest) := k v rfl
theorem j_stL {S : σ} {f : σ → α} (wf : σ → va_W) (k : ∀ y, y = S → J p l e R s m args below meth c nL D A kc ks Kf (f y) (wf y) pc lv rest) : J p l e R s m args below meth c nL D A kc ks Kf (ltv S f) (wf S) pc lv rest := k S rfl
theorem j_rsL {q : Int32 × σ} {f : Int32 → σ → α} (wf : σ → va_W) (k : ∀ r S, q = (r, S) → J p l e R s m args below meth c nL D A kc ks Kf (f r S) (wf S) pc lv (.int r :: rest)) : J p l e R s m args below meth c nL D A kc ks Kf (bnd q f) (wf q.2) pc lv (.int q.1 :: rest) := k q.1 q.2 rfl
theorem j_ite {P9 : Prop} {dc : Decidable P9} {A1 B1 : α} (k1 : P9 → J p l e R s m args below meth c nL D A kc ks Kf A1 ws pc lv st) (k2 : ¬ P9 → J p l e R s m args below meth c nL D A kc ks Kf B1 ws pc lv st) : J p l e R s m args below meth c nL D A kc ks Kf (if P9 then A1 else B1) ws pc lv st := by
  by_cases h : P9
  · rw [if_pos h]; exact k1 h
  · rw [if_neg h]; exact k2 h
theorem j_wsP {ws' : va_W} (h1 : ∀ H, va_P D vwCl ws H → va_P D vwCl ws' H) (h2 : va_D A ws → va_D A ws') (k : J p l e R s m args below meth c nL D A kc ks Kf sp ws' pc lv st) : J p l e R s m args below meth c nL D A kc ks Kf sp ws pc lv st := fun ls H locs hl hP hD hS => k ls H locs hl (h1 H hP) (h2 hD) hS
theorem j_tsw (X : CX p s m args meth c cc nL own ret D (tyl cI cH cO) A) {dflt lo hi : Int} {offs : Array Int} {len : Nat} {x : Int32} {off : Int} {tgt : Nat} (hdg : decode cc pc = .ok (.tableswitch dflt lo hi offs, len)) (h1 : ¬ x.toInt < lo) (h2 : ¬ hi < x.toInt) (ho : offs[(x.toInt - lo).toNat]? = some off) (ht : (pc : Int) + off = (tgt : Int)) (k : J p l e R s m args below meth c nL D A kc ks Kf sp ws tgt lv rest) : J p l e R s m args below meth c nL D A kc ks Kf sp ws pc lv (.int x :: rest) := by
  intro ls H locs hl hP hD hS
  obtain ⟨⟨hx, hb, hml, hown, hts⟩, hK, hN, hr, hlk, hA⟩ := X
  exact lv_tableIn hx hb hdg h1 h2 ho ht (k ls H locs hl hP hD hS)
theorem j_tswD (X : CX p s m args meth c cc nL own ret D (tyl cI cH cO) A) {dflt lo hi : Int} {offs : Array Int} {len : Nat} {x : Int32} {tgt : Nat} (hdg : decode cc pc = .ok (.tableswitch dflt lo hi offs, len)) (h : x.toInt < lo ∨ hi < x.toInt) (ht : (pc : Int) + dflt = (tgt : Int)) (k : J p l e R s m args below meth c nL D A kc ks Kf sp ws tgt lv rest) : J p l e R s m args below meth c nL D A kc ks Kf sp ws pc lv (.int x :: rest) := by
  intro ls H locs hl hP hD hS
  obtain ⟨⟨hx, hb, hml, hown, hts⟩, hK, hN, hr, hlk, hA⟩ := X
  exact lv_tableOut hx hb hdg h ht (k ls H locs hl hP hD hS)
theorem j_lsw (X : CX p s m args meth c cc nL own ret D (tyl cI cH cO) A) {dflt : Int} {ps : Array (Int × Int)} {len : Nat} {x : Int32} {off : Int} {tgt : Nat} (hdg : decode cc pc = .ok (.lookupswitch dflt ps, len)) (hp : (ps.toList.zip (ps.toList.drop 1)).all (fun (a, next) => a.1 < next.1) = true) (ho : Op.lookupswitch.offset ps.toList dflt x.toInt = off) (ht : (pc : Int) + off = (tgt : Int)) (k : J p l e R s m args below meth c nL D A kc ks Kf sp ws tgt lv rest) : J p l e R s m args below meth c nL D A kc ks Kf sp ws pc lv (.int x :: rest) := by
  intro ls H locs hl hP hD hS
  obtain ⟨⟨hx, hb, hml, hown, hts⟩, hK, hN, hr, hlk, hA⟩ := X
  exact lv_lookup hx hb hdg hp ho ht (k ls H locs hl hP hD hS)
theorem up_k {C : Cst} {k i : Nat} {x : Int32} {k2 : Nat} (h : ¬ k2 = k) : up C k i x k2 = C k2 := by unfold up; rw [if_neg h]
theorem up_n {C : Cst} {k i : Nat} {x : Int32} {j : Nat} (h : ¬ j = i) : up C k i x k j = C k j := by unfold up; rw [if_pos rfl]; unfold upd; rw [if_neg h]
theorem up_s {C : Cst} {k i : Nat} {x : Int32} : up C k i x k i = x := by unfold up; rw [if_pos rfl]; unfold upd; rw [if_pos rfl]
theorem nI_mul (a b : Nat) : nI a * nI b = nI (a * b) := (Int32.ofNat_mul a b).symm
theorem nI_sub {a b : Nat} (h : b ≤ a) : nI a - nI b = nI (a - b) := by
  have h1 : nI a = nI (a - b) + nI b := by rw [nI_add]; congr 1; omega
  rw [h1]; exact Int32.add_sub_cancel _ _
theorem i32_sub1 (x : Int32) : x + Int32.ofInt (-1) = x - 1 := by
  rw [show Int32.ofInt (-1) = -1 from by decide]; rw [Int32.sub_eq_add_neg]
theorem nI_sb {a : Nat} (h : 1 ≤ a) : nI a + Int32.ofInt (-1) = nI (a - 1) := by
  rw [i32_sub1]; exact nI_sub h
theorem j_iaddN (X : CX p s m args meth c cc nL own ret D (tyl cI cH cO) A) {a b : Nat} (hdg : decode cc pc = .ok (.iadd, 1))  (hpc : pc + 1 = pc') (k : J p l e R s m args below meth c nL D A kc ks Kf sp ws pc' lv (.int (nI (a + b)) :: rest)) : J p l e R s m args below meth c nL D A kc ks Kf sp ws pc lv (.int (nI b) :: .int (nI a) :: rest) := j_iadd X hdg hpc (by rw [nI_add a b]; exact k)
theorem j_imulN (X : CX p s m args meth c cc nL own ret D (tyl cI cH cO) A) {a b : Nat} (hdg : decode cc pc = .ok (.imul, 1))  (hpc : pc + 1 = pc') (k : J p l e R s m args below meth c nL D A kc ks Kf sp ws pc' lv (.int (nI (a * b)) :: rest)) : J p l e R s m args below meth c nL D A kc ks Kf sp ws pc lv (.int (nI b) :: .int (nI a) :: rest) := j_imul X hdg hpc (by rw [nI_mul a b]; exact k)
theorem j_isubN (X : CX p s m args meth c cc nL own ret D (tyl cI cH cO) A) {a b : Nat} (hdg : decode cc pc = .ok (.isub, 1)) (h9 : b ≤ a) (hpc : pc + 1 = pc') (k : J p l e R s m args below meth c nL D A kc ks Kf sp ws pc' lv (.int (nI (a - b)) :: rest)) : J p l e R s m args below meth c nL D A kc ks Kf sp ws pc lv (.int (nI b) :: .int (nI a) :: rest) := j_isub X hdg hpc (by rw [nI_sub h9]; exact k)
theorem j_ialdN (X : CX p s m args meth c cc nL own ret D (tyl cI cH cO) A) {a n : Nat} {g : Nat → Int32} {i : Nat} (q0 : Nat) (he : ws[q0]? = some (a, .inl (cI, n, .inl g))) (hin : i < n) (hn : n < 2 ^ 31) (hdg : decode cc pc = .ok (.iaload, 1)) (hpc : pc + 1 = pc') (kk : J p l e R s m args below meth c nL D A kc ks Kf sp ws pc' lv (.int (g i) :: rest)) : J p l e R s m args below meth c nL D A kc ks Kf sp ws pc lv (.int (nI i) :: .ref a :: rest) := j_iald X q0 he (vp_in_nI hin hn) hdg hpc (by rw [nI_clamp (Nat.lt_trans hin hn)]; exact kk)
theorem j_caldN (X : CX p s m args meth c cc nL own ret D (tyl cI cH cO) A) {a n : Nat} {g : Nat → Int32} {i : Nat} (q0 : Nat) (he : ws[q0]? = some (a, .inl (cH, n, .inl g))) (hin : i < n) (hn : n < 2 ^ 31) (hdg : decode cc pc = .ok (.caload, 1)) (hpc : pc + 1 = pc') (kk : J p l e R s m args below meth c nL D A kc ks Kf sp ws pc' lv (.int (g i) :: rest)) : J p l e R s m args below meth c nL D A kc ks Kf sp ws pc lv (.int (nI i) :: .ref a :: rest) := j_cald X q0 he (vp_in_nI hin hn) hdg hpc (by rw [nI_clamp (Nat.lt_trans hin hn)]; exact kk)
theorem j_iastN (X : CX p s m args meth c cc nL own ret D (tyl cI cH cO) A) {a n : Nat} {g : Nat → Int32} {i : Nat} {x : Int32} {S : σ} {f : σ → α} (wf : σ → va_W) (q0 : Nat) (he : ws[q0]? = some (a, .inl (cI, n, .inl g))) (hset : ws.set q0 (a, .inl (cI, n, .inl (upd g i x))) = wf S) (hin : i < n) (hn : n < 2 ^ 31) (hdg : decode cc pc = .ok (.iastore, 1)) (hpc : pc + 1 = pc') (kk : ∀ S', S' = S → J p l e R s m args below meth c nL D A kc ks Kf (f S') (wf S') pc' lv rest) : J p l e R s m args below meth c nL D A kc ks Kf (ltv S f) ws pc lv (.int x :: .int (nI i) :: .ref a :: rest) := j_iast X wf q0 he (by rw [nI_clamp (Nat.lt_trans hin hn)]; exact hset) (vp_in_nI hin hn) hdg hpc kk
theorem j_castN (X : CX p s m args meth c cc nL own ret D (tyl cI cH cO) A) {a n : Nat} {g : Nat → Int32} {i : Nat} {x : Int32} {S : σ} {f : σ → α} (wf : σ → va_W) (q0 : Nat) (he : ws[q0]? = some (a, .inl (cH, n, .inl g))) (hset : ws.set q0 (a, .inl (cH, n, .inl (upd g i (vp_nar .char x)))) = wf S) (hin : i < n) (hn : n < 2 ^ 31) (hdg : decode cc pc = .ok (.castore, 1)) (hpc : pc + 1 = pc') (kk : ∀ S', S' = S → J p l e R s m args below meth c nL D A kc ks Kf (f S') (wf S') pc' lv rest) : J p l e R s m args below meth c nL D A kc ks Kf (ltv S f) ws pc lv (.int x :: .int (nI i) :: .ref a :: rest) := j_cast X wf q0 he (by rw [nI_clamp (Nat.lt_trans hin hn)]; exact hset) (vp_in_nI hin hn) hdg hpc kk
end J2
theorem tsw_out10 {x : Int32} (h0 : ¬ x = 0) (h1 : ¬ x = 1) (h2 : ¬ x = 2) (h3 : ¬ x = 3) (h4 : ¬ x = 4) (h5 : ¬ x = 5) (h6 : ¬ x = 6) (h7 : ¬ x = 7) (h8 : ¬ x = 8) (h9 : ¬ x = 9) : x.toInt < 0 ∨ 9 < x.toInt := by
  have g0 : ¬ x.toInt = 0 := fun q => h0 (Int32.toInt_inj.mp (by rw [q]; decide))
  have g1 : ¬ x.toInt = 1 := fun q => h1 (Int32.toInt_inj.mp (by rw [q]; decide))
  have g2 : ¬ x.toInt = 2 := fun q => h2 (Int32.toInt_inj.mp (by rw [q]; decide))
  have g3 : ¬ x.toInt = 3 := fun q => h3 (Int32.toInt_inj.mp (by rw [q]; decide))
  have g4 : ¬ x.toInt = 4 := fun q => h4 (Int32.toInt_inj.mp (by rw [q]; decide))
  have g5 : ¬ x.toInt = 5 := fun q => h5 (Int32.toInt_inj.mp (by rw [q]; decide))
  have g6 : ¬ x.toInt = 6 := fun q => h6 (Int32.toInt_inj.mp (by rw [q]; decide))
  have g7 : ¬ x.toInt = 7 := fun q => h7 (Int32.toInt_inj.mp (by rw [q]; decide))
  have g8 : ¬ x.toInt = 8 := fun q => h8 (Int32.toInt_inj.mp (by rw [q]; decide))
  have g9 : ¬ x.toInt = 9 := fun q => h9 (Int32.toInt_inj.mp (by rw [q]; decide))
  omega
theorem tsw_out11 {x : Int32} (h0 : ¬ x = 0) (h1 : ¬ x = 1) (h2 : ¬ x = 2) (h3 : ¬ x = 3) (h4 : ¬ x = 4) (h5 : ¬ x = 5) (h6 : ¬ x = 6) (h7 : ¬ x = 7) (h8 : ¬ x = 8) (h9 : ¬ x = 9) (h10 : ¬ x = 10) : x.toInt < 0 ∨ 10 < x.toInt := by
  have g0 : ¬ x.toInt = 0 := fun q => h0 (Int32.toInt_inj.mp (by rw [q]; decide))
  have g1 : ¬ x.toInt = 1 := fun q => h1 (Int32.toInt_inj.mp (by rw [q]; decide))
  have g2 : ¬ x.toInt = 2 := fun q => h2 (Int32.toInt_inj.mp (by rw [q]; decide))
  have g3 : ¬ x.toInt = 3 := fun q => h3 (Int32.toInt_inj.mp (by rw [q]; decide))
  have g4 : ¬ x.toInt = 4 := fun q => h4 (Int32.toInt_inj.mp (by rw [q]; decide))
  have g5 : ¬ x.toInt = 5 := fun q => h5 (Int32.toInt_inj.mp (by rw [q]; decide))
  have g6 : ¬ x.toInt = 6 := fun q => h6 (Int32.toInt_inj.mp (by rw [q]; decide))
  have g7 : ¬ x.toInt = 7 := fun q => h7 (Int32.toInt_inj.mp (by rw [q]; decide))
  have g8 : ¬ x.toInt = 8 := fun q => h8 (Int32.toInt_inj.mp (by rw [q]; decide))
  have g9 : ¬ x.toInt = 9 := fun q => h9 (Int32.toInt_inj.mp (by rw [q]; decide))
  have g10 : ¬ x.toInt = 10 := fun q => h10 (Int32.toInt_inj.mp (by rw [q]; decide))
  omega
theorem tsw_out13 {x : Int32} (h0 : ¬ x = 0) (h1 : ¬ x = 1) (h2 : ¬ x = 2) (h3 : ¬ x = 3) (h4 : ¬ x = 4) (h5 : ¬ x = 5) (h6 : ¬ x = 6) (h7 : ¬ x = 7) (h8 : ¬ x = 8) (h9 : ¬ x = 9) (h10 : ¬ x = 10) (h11 : ¬ x = 11) (h12 : ¬ x = 12) : x.toInt < 0 ∨ 12 < x.toInt := by
  have g0 : ¬ x.toInt = 0 := fun q => h0 (Int32.toInt_inj.mp (by rw [q]; decide))
  have g1 : ¬ x.toInt = 1 := fun q => h1 (Int32.toInt_inj.mp (by rw [q]; decide))
  have g2 : ¬ x.toInt = 2 := fun q => h2 (Int32.toInt_inj.mp (by rw [q]; decide))
  have g3 : ¬ x.toInt = 3 := fun q => h3 (Int32.toInt_inj.mp (by rw [q]; decide))
  have g4 : ¬ x.toInt = 4 := fun q => h4 (Int32.toInt_inj.mp (by rw [q]; decide))
  have g5 : ¬ x.toInt = 5 := fun q => h5 (Int32.toInt_inj.mp (by rw [q]; decide))
  have g6 : ¬ x.toInt = 6 := fun q => h6 (Int32.toInt_inj.mp (by rw [q]; decide))
  have g7 : ¬ x.toInt = 7 := fun q => h7 (Int32.toInt_inj.mp (by rw [q]; decide))
  have g8 : ¬ x.toInt = 8 := fun q => h8 (Int32.toInt_inj.mp (by rw [q]; decide))
  have g9 : ¬ x.toInt = 9 := fun q => h9 (Int32.toInt_inj.mp (by rw [q]; decide))
  have g10 : ¬ x.toInt = 10 := fun q => h10 (Int32.toInt_inj.mp (by rw [q]; decide))
  have g11 : ¬ x.toInt = 11 := fun q => h11 (Int32.toInt_inj.mp (by rw [q]; decide))
  have g12 : ¬ x.toInt = 12 := fun q => h12 (Int32.toInt_inj.mp (by rw [q]; decide))
  omega
theorem tsw_out20 {x : Int32} (h0 : ¬ x = 0) (h1 : ¬ x = 1) (h2 : ¬ x = 2) (h3 : ¬ x = 3) (h4 : ¬ x = 4) (h5 : ¬ x = 5) (h6 : ¬ x = 6) (h7 : ¬ x = 7) (h8 : ¬ x = 8) (h9 : ¬ x = 9) (h10 : ¬ x = 10) (h11 : ¬ x = 11) (h12 : ¬ x = 12) (h13 : ¬ x = 13) (h14 : ¬ x = 14) (h15 : ¬ x = 15) (h16 : ¬ x = 16) (h17 : ¬ x = 17) (h18 : ¬ x = 18) (h19 : ¬ x = 19) : x.toInt < 0 ∨ 19 < x.toInt := by
  have g0 : ¬ x.toInt = 0 := fun q => h0 (Int32.toInt_inj.mp (by rw [q]; decide))
  have g1 : ¬ x.toInt = 1 := fun q => h1 (Int32.toInt_inj.mp (by rw [q]; decide))
  have g2 : ¬ x.toInt = 2 := fun q => h2 (Int32.toInt_inj.mp (by rw [q]; decide))
  have g3 : ¬ x.toInt = 3 := fun q => h3 (Int32.toInt_inj.mp (by rw [q]; decide))
  have g4 : ¬ x.toInt = 4 := fun q => h4 (Int32.toInt_inj.mp (by rw [q]; decide))
  have g5 : ¬ x.toInt = 5 := fun q => h5 (Int32.toInt_inj.mp (by rw [q]; decide))
  have g6 : ¬ x.toInt = 6 := fun q => h6 (Int32.toInt_inj.mp (by rw [q]; decide))
  have g7 : ¬ x.toInt = 7 := fun q => h7 (Int32.toInt_inj.mp (by rw [q]; decide))
  have g8 : ¬ x.toInt = 8 := fun q => h8 (Int32.toInt_inj.mp (by rw [q]; decide))
  have g9 : ¬ x.toInt = 9 := fun q => h9 (Int32.toInt_inj.mp (by rw [q]; decide))
  have g10 : ¬ x.toInt = 10 := fun q => h10 (Int32.toInt_inj.mp (by rw [q]; decide))
  have g11 : ¬ x.toInt = 11 := fun q => h11 (Int32.toInt_inj.mp (by rw [q]; decide))
  have g12 : ¬ x.toInt = 12 := fun q => h12 (Int32.toInt_inj.mp (by rw [q]; decide))
  have g13 : ¬ x.toInt = 13 := fun q => h13 (Int32.toInt_inj.mp (by rw [q]; decide))
  have g14 : ¬ x.toInt = 14 := fun q => h14 (Int32.toInt_inj.mp (by rw [q]; decide))
  have g15 : ¬ x.toInt = 15 := fun q => h15 (Int32.toInt_inj.mp (by rw [q]; decide))
  have g16 : ¬ x.toInt = 16 := fun q => h16 (Int32.toInt_inj.mp (by rw [q]; decide))
  have g17 : ¬ x.toInt = 17 := fun q => h17 (Int32.toInt_inj.mp (by rw [q]; decide))
  have g18 : ¬ x.toInt = 18 := fun q => h18 (Int32.toInt_inj.mp (by rw [q]; decide))
  have g19 : ¬ x.toInt = 19 := fun q => h19 (Int32.toInt_inj.mp (by rw [q]; decide))
  omega
theorem wv_L_13 : WV RL 13 RX4 yX4_member cX4_member 2 (some .int) 1 := ⟨q_code_X4_member, q_ml_L_13, q_ins_X4_member, q_sel_X4_member, q_ini_X4, by decide +kernel⟩
theorem wv_L_17 : WV RL 17 RX5 yX5_member cX5_member 4 (some .int) 1 := ⟨q_code_X5_member, q_ml_L_17, q_ins_X5_member, q_sel_X5_member, q_ini_X5, by decide +kernel⟩
theorem wv_L_18 : WV RL 18 RX4 yX4_use cX4_use 3 (some .int) 2 := ⟨q_code_X4_use, q_ml_L_18, q_ins_X4_use, q_sel_X4_use, q_ini_X4, by decide +kernel⟩
theorem wv_L_22 : WV RL 22 RX5 yX5_use cX5_use 3 (some .int) 2 := ⟨q_code_X5_use, q_ml_L_22, q_ins_X5_use, q_sel_X5_use, q_ini_X5, by decide +kernel⟩
theorem wv_L_23 : WV RL 23 RX4 yX4_close cX4_close 1 (some .int) 0 := ⟨q_code_X4_close, q_ml_L_23, q_ins_X4_close, q_sel_X4_close, q_ini_X4, by decide +kernel⟩
theorem wv_L_27 : WV RL 27 RX5 yX5_close cX5_close 1 (some .int) 0 := ⟨q_code_X5_close, q_ml_L_27, q_ins_X5_close, q_sel_X5_close, q_ini_X5, by decide +kernel⟩
theorem wv_L_28 : WV RL 28 RX4 yX4_pay cX4_pay 3 (some .int) 2 := ⟨q_code_X4_pay, q_ml_L_28, q_ins_X4_pay, q_sel_X4_pay, q_ini_X4, by decide +kernel⟩
theorem wv_L_31 : WV RL 31 RX5 yX5_pay cX5_pay 3 (some .int) 2 := ⟨q_code_X5_pay, q_ml_L_31, q_ins_X5_pay, q_sel_X5_pay, q_ini_X5, by decide +kernel⟩
theorem wv_L_32 : WV RL 32 RX4 yX4_repair cX4_repair 2 (some .int) 1 := ⟨q_code_X4_repair, q_ml_L_32, q_ins_X4_repair, q_sel_X4_repair, q_ini_X4, by decide +kernel⟩
theorem wv_L_35 : WV RL 35 RX5 yX5_repair cX5_repair 8 (some .int) 1 := ⟨q_code_X5_repair, q_ml_L_35, q_ins_X5_repair, q_sel_X5_repair, q_ini_X5, by decide +kernel⟩
theorem wv_L_36 : WV RL 36 RX4 yX4_set cX4_set 3 (some .int) 2 := ⟨q_code_X4_set, q_ml_L_36, q_ins_X4_set, q_sel_X4_set, q_ini_X4, by decide +kernel⟩
theorem wv_L_39 : WV RL 39 RX5 yX5_set cX5_set 6 (some .int) 2 := ⟨q_code_X5_set, q_ml_L_39, q_ins_X5_set, q_sel_X5_set, q_ini_X5, by decide +kernel⟩
theorem wv_L_40 : WV RL 40 RX4 yX4_memberOf cX4_memberOf 3 (some .int) 2 := ⟨q_code_X4_memberOf, q_ml_L_40, q_ins_X4_memberOf, q_sel_X4_memberOf, q_ini_X4, by decide +kernel⟩
theorem wv_L_43 : WV RL 43 RX5 yX5_memberOf cX5_memberOf 3 (some .int) 2 := ⟨q_code_X5_memberOf, q_ml_L_43, q_ins_X5_memberOf, q_sel_X5_memberOf, q_ini_X5, by decide +kernel⟩
theorem wv_L_44 : WV RL 44 RX4 yX4_count cX4_count 2 (some .int) 1 := ⟨q_code_X4_count, q_ml_L_44, q_ins_X4_count, q_sel_X4_count, q_ini_X4, by decide +kernel⟩
theorem wv_L_47 : WV RL 47 RX5 yX5_count cX5_count 2 (some .int) 1 := ⟨q_code_X5_count, q_ml_L_47, q_ins_X5_count, q_sel_X5_count, q_ini_X5, by decide +kernel⟩
theorem wv_L_48 : WV RL 48 RX4 yX4_seasonOf cX4_seasonOf 3 (some .int) 2 := ⟨q_code_X4_seasonOf, q_ml_L_48, q_ins_X4_seasonOf, q_sel_X4_seasonOf, q_ini_X4, by decide +kernel⟩
theorem wv_L_51 : WV RL 51 RX5 yX5_seasonOf cX5_seasonOf 3 (some .int) 2 := ⟨q_code_X5_seasonOf, q_ml_L_51, q_ins_X5_seasonOf, q_sel_X5_seasonOf, q_ini_X5, by decide +kernel⟩
theorem wv_L_52 : WV RL 52 RX4 yX4_gain cX4_gain 3 (some .int) 2 := ⟨q_code_X4_gain, q_ml_L_52, q_ins_X4_gain, q_sel_X4_gain, q_ini_X4, by decide +kernel⟩
theorem wv_L_55 : WV RL 55 RX5 yX5_gain cX5_gain 3 (some .int) 2 := ⟨q_code_X5_gain, q_ml_L_55, q_ins_X5_gain, q_sel_X5_gain, q_ini_X5, by decide +kernel⟩
theorem wv_L_56 : WV RL 56 RX4 yX4_bestUse cX4_bestUse 2 (some .int) 1 := ⟨q_code_X4_bestUse, q_ml_L_56, q_ins_X4_bestUse, q_sel_X4_bestUse, q_ini_X4, by decide +kernel⟩
theorem wv_L_59 : WV RL 59 RX5 yX5_bestUse cX5_bestUse 2 (some .int) 1 := ⟨q_code_X5_bestUse, q_ml_L_59, q_ins_X5_bestUse, q_sel_X5_bestUse, q_ini_X5, by decide +kernel⟩
theorem wv_L_60 : WV RL 60 RX4 yX4_calm cX4_calm 3 (some .int) 1 := ⟨q_code_X4_calm, q_ml_L_60, q_ins_X4_calm, q_sel_X4_calm, q_ini_X4, by decide +kernel⟩
theorem wv_L_63 : WV RL 63 RX5 yX5_calm cX5_calm 5 (some .int) 1 := ⟨q_code_X5_calm, q_ml_L_63, q_ins_X5_calm, q_sel_X5_calm, q_ini_X5, by decide +kernel⟩
theorem wv_L_64 : WV RL 64 RX4 yX4_bestForAll cX4_bestForAll 3 (some .int) 1 := ⟨q_code_X4_bestForAll, q_ml_L_64, q_ins_X4_bestForAll, q_sel_X4_bestForAll, q_ini_X4, by decide +kernel⟩
theorem wv_L_67 : WV RL 67 RX5 yX5_bestForAll cX5_bestForAll 9 (some .int) 1 := ⟨q_code_X5_bestForAll, q_ml_L_67, q_ins_X5_bestForAll, q_sel_X5_bestForAll, q_ini_X5, by decide +kernel⟩
theorem wv_L_68 : WV RL 68 RX4 yX4_wouldExclude cX4_wouldExclude 1 (some .int) 0 := ⟨q_code_X4_wouldExclude, q_ml_L_68, q_ins_X4_wouldExclude, q_sel_X4_wouldExclude, q_ini_X4, by decide +kernel⟩
theorem wv_L_71 : WV RL 71 RX5 yX5_wouldExclude cX5_wouldExclude 2 (some .int) 0 := ⟨q_code_X5_wouldExclude, q_ml_L_71, q_ins_X5_wouldExclude, q_sel_X5_wouldExclude, q_ini_X5, by decide +kernel⟩
theorem wv_L_72 : WV RL 72 RX4 yX4_canRepair cX4_canRepair 1 (some .int) 0 := ⟨q_code_X4_canRepair, q_ml_L_72, q_ins_X4_canRepair, q_sel_X4_canRepair, q_ini_X4, by decide +kernel⟩
theorem wv_L_75 : WV RL 75 RX5 yX5_canRepair cX5_canRepair 2 (some .int) 0 := ⟨q_code_X5_canRepair, q_ml_L_75, q_ins_X5_canRepair, q_sel_X5_canRepair, q_ini_X5, by decide +kernel⟩
theorem wv_L_76 : WV RL 76 RX4 yX4_undo cX4_undo 1 (some .int) 0 := ⟨q_code_X4_undo, q_ml_L_76, q_ins_X4_undo, q_sel_X4_undo, q_ini_X4, by decide +kernel⟩
theorem wv_L_79 : WV RL 79 RX5 yX5_undo cX5_undo 2 (some .int) 0 := ⟨q_code_X5_undo, q_ml_L_79, q_ins_X5_undo, q_sel_X5_undo, q_ini_X5, by decide +kernel⟩
theorem wv_L_80 : WV RL 80 RX4 yX4_type cX4_type 2 (some .int) 1 := ⟨q_code_X4_type, q_ml_L_80, q_ins_X4_type, q_sel_X4_type, q_ini_X4, by decide +kernel⟩
theorem wv_L_83 : WV RL 83 RX5 yX5_type cX5_type 2 (some .int) 1 := ⟨q_code_X5_type, q_ml_L_83, q_ins_X5_type, q_sel_X5_type, q_ini_X5, by decide +kernel⟩
theorem wv_L_84 : WV RL 84 RX4 yX4_clearText cX4_clearText 2 (some .int) 0 := ⟨q_code_X4_clearText, q_ml_L_84, q_ins_X4_clearText, q_sel_X4_clearText, q_ini_X4, by decide +kernel⟩
theorem wv_L_87 : WV RL 87 RX5 yX5_clearText cX5_clearText 2 (some .int) 0 := ⟨q_code_X5_clearText, q_ml_L_87, q_ins_X5_clearText, q_sel_X5_clearText, q_ini_X5, by decide +kernel⟩
theorem wv_L_88 : WV RL 88 RX4 yX4_fault cX4_fault 2 (some .int) 1 := ⟨q_code_X4_fault, q_ml_L_88, q_ins_X4_fault, q_sel_X4_fault, q_ini_X4, by decide +kernel⟩
theorem wv_L_91 : WV RL 91 RX5 yX5_fault cX5_fault 3 (some .int) 1 := ⟨q_code_X5_fault, q_ml_L_91, q_ins_X5_fault, q_sel_X5_fault, q_ini_X5, by decide +kernel⟩
theorem wv_L_92 : WV RL 92 RX4 yX4_play cX4_play 1 (some .int) 0 := ⟨q_code_X4_play, q_ml_L_92, q_ins_X4_play, q_sel_X4_play, q_ini_X4, by decide +kernel⟩
theorem wv_L_95 : WV RL 95 RX5 yX5_play cX5_play 2 (some .int) 0 := ⟨q_code_X5_play, q_ml_L_95, q_ins_X5_play, q_sel_X5_play, q_ini_X5, by decide +kernel⟩
theorem wv_X0_72 : WV RX0 72 RX0 yX0_placeOf cX0_placeOf 3 (some .int) 1 := ⟨q_code_X0_placeOf, q_ml_X0_72, q_ins_X0_placeOf, q_sel_X0_placeOf, q_ini_X0, by decide +kernel⟩
theorem wv_X0_76 : WV RX0 76 RX0 yX0_unitsAhead cX0_unitsAhead 5 (some .int) 1 := ⟨q_code_X0_unitsAhead, q_ml_X0_76, q_ins_X0_unitsAhead, q_sel_X0_unitsAhead, q_ini_X0, by decide +kernel⟩
theorem wv_X0_79 : WV RX0 79 RX0 yX0_damageAdded cX0_damageAdded 3 (some .int) 2 := ⟨q_code_X0_damageAdded, q_ml_X0_79, q_ins_X0_damageAdded, q_sel_X0_damageAdded, q_ini_X0, by decide +kernel⟩
theorem wv_X0_83 : WV RX0 83 RX0 yX0_damageOf cX0_damageOf 3 (some .int) 1 := ⟨q_code_X0_damageOf, q_ml_X0_83, q_ins_X0_damageOf, q_sel_X0_damageOf, q_ini_X0, by decide +kernel⟩
theorem wv_X0_86 : WV RX0 86 RX0 yX0_has cX0_has 2 (some .boolean) 1 := ⟨q_code_X0_has, q_ml_X0_86, q_ins_X0_has, q_sel_X0_has, q_ini_X0, by decide +kernel⟩
theorem wv_X0_93 : WV RX0 93 RX0 yX0_isOut cX0_isOut 2 (some .boolean) 1 := ⟨q_code_X0_isOut, q_ml_X0_93, q_ins_X0_isOut, q_sel_X0_isOut, q_ini_X0, by decide +kernel⟩
theorem wv_X0_96 : WV RX0 96 RX0 yX0_chargeOf cX0_chargeOf 2 (some .int) 1 := ⟨q_code_X0_chargeOf, q_ml_X0_96, q_ins_X0_chargeOf, q_sel_X0_chargeOf, q_ini_X0, by decide +kernel⟩
theorem wv_X0_110 : WV RX0 110 RX0 yX0_oweByUses cX0_oweByUses 6 none 1 := ⟨q_code_X0_oweByUses, q_ml_X0_110, q_ins_X0_oweByUses, q_sel_X0_oweByUses, q_ini_X0, by decide +kernel⟩
theorem wv_X0_117 : WV RX0 117 RX0 yX0_endSeason cX0_endSeason 4 (some .int) 0 := ⟨q_code_X0_endSeason, q_ml_X0_117, q_ins_X0_endSeason, q_sel_X0_endSeason, q_ini_X0, by decide +kernel⟩
theorem wv_X0_121 : WV RX0 121 RX0 yX0_allUnits cX0_allUnits 1 (some .int) 0 := ⟨q_code_X0_allUnits, q_ml_X0_121, q_ins_X0_allUnits, q_sel_X0_allUnits, q_ini_X0, by decide +kernel⟩
theorem wv_X0_124 : WV RX0 124 RX0 yX0_oweCharges cX0_oweCharges 5 none 0 := ⟨q_code_X0_oweCharges, q_ml_X0_124, q_ins_X0_oweCharges, q_sel_X0_oweCharges, q_ini_X0, by decide +kernel⟩
theorem wv_X0_130 : WV RX0 130 RX0 yX0_keepSeason cX0_keepSeason 4 none 2 := ⟨q_code_X0_keepSeason, q_ml_X0_130, q_ins_X0_keepSeason, q_sel_X0_keepSeason, q_ini_X0, by decide +kernel⟩
theorem wv_X0_134 : WV RX0 134 RX0 yX0_bookUses cX0_bookUses 2 none 0 := ⟨q_code_X0_bookUses, q_ml_X0_134, q_ins_X0_bookUses, q_sel_X0_bookUses, q_ini_X0, by decide +kernel⟩
theorem wv_X0_137 : WV RX0 137 RX0 yX0_excludeInTurn cX0_excludeInTurn 5 none 1 := ⟨q_code_X0_excludeInTurn, q_ml_X0_137, q_ins_X0_excludeInTurn, q_sel_X0_excludeInTurn, q_ini_X0, by decide +kernel⟩
theorem wv_X0_140 : WV RX0 140 RX0 yX0_excludeDebtors cX0_excludeDebtors 2 none 0 := ⟨q_code_X0_excludeDebtors, q_ml_X0_140, q_ins_X0_excludeDebtors, q_sel_X0_excludeDebtors, q_ini_X0, by decide +kernel⟩
theorem wv_X0_143 : WV RX0 143 RX0 yX0_noteSeasonsOut cX0_noteSeasonsOut 2 none 0 := ⟨q_code_X0_noteSeasonsOut, q_ml_X0_143, q_ins_X0_noteSeasonsOut, q_sel_X0_noteSeasonsOut, q_ini_X0, by decide +kernel⟩
theorem wv_X0_146 : WV RX0 146 RX0 yX0_turnsNeeded cX0_turnsNeeded 3 (some .int) 0 := ⟨q_code_X0_turnsNeeded, q_ml_X0_146, q_ins_X0_turnsNeeded, q_sel_X0_turnsNeeded, q_ini_X0, by decide +kernel⟩
theorem wv_X0_149 : WV RX0 149 RX0 yX0_heaviestNotIn cX0_heaviestNotIn 5 (some .int) 1 := ⟨q_code_X0_heaviestNotIn, q_ml_X0_149, q_ins_X0_heaviestNotIn, q_sel_X0_heaviestNotIn, q_ini_X0, by decide +kernel⟩
theorem wv_X0_152 : WV RX0 152 RX0 yX0_gainBehind cX0_gainBehind 4 (some .int) 3 := ⟨q_code_X0_gainBehind, q_ml_X0_152, q_ins_X0_gainBehind, q_sel_X0_gainBehind, q_ini_X0, by decide +kernel⟩
theorem wv_X0_156 : WV RX0 156 RX0 yX0_roundChanges cX0_roundChanges 4 (some .boolean) 0 := ⟨q_code_X0_roundChanges, q_ml_X0_156, q_ins_X0_roundChanges, q_sel_X0_roundChanges, q_ini_X0, by decide +kernel⟩
theorem wv_X0_160 : WV RX0 160 RX0 yX0_bestUnits cX0_bestUnits 7 (some .int) 1 := ⟨q_code_X0_bestUnits, q_ml_X0_160, q_ins_X0_bestUnits, q_sel_X0_bestUnits, q_ini_X0, by decide +kernel⟩
theorem wv_X0_163 : WV RX0 163 RX0 yX0_worthiestWithRoom cX0_worthiestWithRoom 4 (some .int) 0 := ⟨q_code_X0_worthiestWithRoom, q_ml_X0_163, q_ins_X0_worthiestWithRoom, q_sel_X0_worthiestWithRoom, q_ini_X0, by decide +kernel⟩
theorem wv_X1_25 : WV RX1 25 RX0 yX0_takeOver cX0_takeOver 2 none 1 := ⟨q_code_X0_takeOver, q_ml_X1_25, q_ins_X0_takeOver, q_sel_X0_takeOver, q_ini_X0, by decide +kernel⟩
theorem wv_X3_19 : WV RX3 19 RX3 yX3_signAhead cX3_signAhead 1 (some .int) 0 := ⟨q_code_X3_signAhead, q_ml_X3_19, q_ins_X3_signAhead, q_sel_X3_signAhead, q_ini_X3, by decide +kernel⟩
theorem wv_X3_35 : WV RX3 35 RX3 yX3_readNumber cX3_readNumber 4 (some .int) 0 := ⟨q_code_X3_readNumber, q_ml_X3_35, q_ins_X3_readNumber, q_sel_X3_readNumber, q_ini_X3, by decide +kernel⟩
theorem wv_X3_38 : WV RX3 38 RX3 yX3_passes cX3_passes 2 (some .boolean) 1 := ⟨q_code_X3_passes, q_ml_X3_38, q_ins_X3_passes, q_sel_X3_passes, q_ini_X3, by decide +kernel⟩
theorem wv_X4_40 : WV RX4 40 RX0 yX0_takeOver cX0_takeOver 2 none 1 := ⟨q_code_X0_takeOver, q_ml_X4_40, q_ins_X0_takeOver, q_sel_X0_takeOver, q_ini_X0, by decide +kernel⟩
theorem wv_X4_44 : WV RX4 44 RX0 yX0_addMember cX0_addMember 2 (some .int) 1 := ⟨q_code_X0_addMember, q_ml_X4_44, q_ins_X0_addMember, q_sel_X0_addMember, q_ini_X0, by decide +kernel⟩
theorem wv_X4_48 : WV RX4 48 RX4 yX4_keptIfDone cX4_keptIfDone 2 (some .int) 1 := ⟨q_code_X4_keptIfDone, q_ml_X4_48, q_ins_X4_keptIfDone, q_sel_X4_keptIfDone, q_ini_X4, by decide +kernel⟩
theorem wv_X4_51 : WV RX4 51 RX0 yX0_declareUse cX0_declareUse 3 (some .int) 2 := ⟨q_code_X0_declareUse, q_ml_X4_51, q_ins_X0_declareUse, q_sel_X0_declareUse, q_ini_X0, by decide +kernel⟩
theorem wv_X4_55 : WV RX4 55 RX0 yX0_closeSeason cX0_closeSeason 1 (some .int) 0 := ⟨q_code_X0_closeSeason, q_ml_X4_55, q_ins_X0_closeSeason, q_sel_X0_closeSeason, q_ini_X0, by decide +kernel⟩
theorem wv_X4_59 : WV RX4 59 RX0 yX0_payCoins cX0_payCoins 3 (some .int) 2 := ⟨q_code_X0_payCoins, q_ml_X4_59, q_ins_X0_payCoins, q_sel_X0_payCoins, q_ini_X0, by decide +kernel⟩
theorem wv_X4_62 : WV RX4 62 RX0 yX0_repairPoints cX0_repairPoints 5 (some .int) 1 := ⟨q_code_X0_repairPoints, q_ml_X4_62, q_ins_X0_repairPoints, q_sel_X0_repairPoints, q_ini_X0, by decide +kernel⟩
theorem wv_X4_65 : WV RX4 65 RX0 yX0_changeSetting cX0_changeSetting 4 (some .int) 2 := ⟨q_code_X0_changeSetting, q_ml_X4_65, q_ins_X0_changeSetting, q_sel_X0_changeSetting, q_ini_X0, by decide +kernel⟩
theorem wv_X4_68 : WV RX4 68 RX0 yX0_numberOfMember cX0_numberOfMember 3 (some .int) 2 := ⟨q_code_X0_numberOfMember, q_ml_X4_68, q_ins_X0_numberOfMember, q_sel_X0_numberOfMember, q_ini_X0, by decide +kernel⟩
theorem wv_X4_76 : WV RX4 76 RX0 yX0_numberOfAll cX0_numberOfAll 2 (some .int) 1 := ⟨q_code_X0_numberOfAll, q_ml_X4_76, q_ins_X0_numberOfAll, q_sel_X0_numberOfAll, q_ini_X0, by decide +kernel⟩
theorem wv_X4_79 : WV RX4 79 RX0 yX0_numberOfSeason cX0_numberOfSeason 3 (some .int) 2 := ⟨q_code_X0_numberOfSeason, q_ml_X4_79, q_ins_X0_numberOfSeason, q_sel_X0_numberOfSeason, q_ini_X0, by decide +kernel⟩
theorem wv_X4_82 : WV RX4 82 RX0 yX0_liftedGain cX0_liftedGain 3 (some .int) 2 := ⟨q_code_X0_liftedGain, q_ml_X4_82, q_ins_X0_liftedGain, q_sel_X0_liftedGain, q_ini_X0, by decide +kernel⟩
theorem wv_X4_85 : WV RX4 85 RX0 yX0_has cX0_has 2 (some .boolean) 1 := ⟨q_code_X0_has, q_ml_X4_85, q_ins_X0_has, q_sel_X0_has, q_ini_X0, by decide +kernel⟩
theorem wv_X4_89 : WV RX4 89 RX0 yX0_bestUnits cX0_bestUnits 7 (some .int) 1 := ⟨q_code_X0_bestUnits, q_ml_X4_89, q_ins_X0_bestUnits, q_sel_X0_bestUnits, q_ini_X0, by decide +kernel⟩
theorem wv_X4_92 : WV RX4 92 RX0 yX0_calmDown cX0_calmDown 2 (some .int) 0 := ⟨q_code_X0_calmDown, q_ml_X4_92, q_ins_X0_calmDown, q_sel_X0_calmDown, q_ini_X0, by decide +kernel⟩
theorem wv_X4_99 : WV RX4 99 RX0 yX0_allUnits cX0_allUnits 1 (some .int) 0 := ⟨q_code_X0_allUnits, q_ml_X4_99, q_ins_X0_allUnits, q_sel_X0_allUnits, q_ini_X0, by decide +kernel⟩
theorem wv_X4_102 : WV RX4 102 RX0 yX0_useBestForAll cX0_useBestForAll 4 (some .int) 0 := ⟨q_code_X0_useBestForAll, q_ml_X4_102, q_ins_X0_useBestForAll, q_sel_X0_useBestForAll, q_ini_X0, by decide +kernel⟩
theorem wv_X4_105 : WV RX4 105 RX0 yX0_endSeason cX0_endSeason 4 (some .int) 0 := ⟨q_code_X0_endSeason, q_ml_X4_105, q_ins_X0_endSeason, q_sel_X0_endSeason, q_ini_X0, by decide +kernel⟩
theorem wv_X4_111 : WV RX4 111 RX0 yX0_pointsFromFund cX0_pointsFromFund 1 (some .int) 0 := ⟨q_code_X0_pointsFromFund, q_ml_X4_111, q_ins_X0_pointsFromFund, q_sel_X0_pointsFromFund, q_ini_X0, by decide +kernel⟩
theorem wv_X4_114 : WV RX4 114 RX1 yX1_restoreLatest cX1_restoreLatest 3 none 1 := ⟨q_code_X1_restoreLatest, q_ml_X4_114, q_ins_X1_restoreLatest, q_sel_X1_restoreLatest, q_ini_X1, by decide +kernel⟩
theorem wv_X4_117 : WV RX4 117 RX3 yX3_append cX3_append 2 (some .int) 1 := ⟨q_code_X3_append, q_ml_X4_117, q_ins_X3_append, q_sel_X3_append, q_ini_X3, by decide +kernel⟩
theorem wv_X4_120 : WV RX4 120 RX4 yX4_rehearse cX4_rehearse 2 none 0 := ⟨q_code_X4_rehearse, q_ml_X4_120, q_ins_X4_rehearse, q_sel_X4_rehearse, q_ini_X4, by decide +kernel⟩
theorem wv_X4_135 : WV RX4 135 RX1 yX1_record cX1_record 3 none 1 := ⟨q_code_X1_record, q_ml_X4_135, q_ins_X1_record, q_sel_X1_record, q_ini_X1, by decide +kernel⟩
theorem wv_X4_138 : WV RX4 138 RX2 yX2_begin cX2_begin 1 none 0 := ⟨q_code_X2_begin, q_ml_X4_138, q_ins_X2_begin, q_sel_X2_begin, q_ini_X2, by decide +kernel⟩
theorem wv_X4_144 : WV RX4 144 RX3 yX3_readCommand cX3_readCommand 1 (some .boolean) 0 := ⟨q_code_X3_readCommand, q_ml_X4_144, q_ins_X3_readCommand, q_sel_X3_readCommand, q_ini_X3, by decide +kernel⟩
theorem wv_X4_148 : WV RX4 148 RX4 yX4_commandOnTrial cX4_commandOnTrial 1 (some .int) 0 := ⟨q_code_X4_commandOnTrial, q_ml_X4_148, q_ins_X4_commandOnTrial, q_sel_X4_commandOnTrial, q_ini_X4, by decide +kernel⟩
theorem wv_X4_151 : WV RX4 151 RX2 yX2_isStoppedBy cX2_isStoppedBy 2 (some .boolean) 1 := ⟨q_code_X2_isStoppedBy, q_ml_X4_151, q_ins_X2_isStoppedBy, q_sel_X2_isStoppedBy, q_ini_X2, by decide +kernel⟩
theorem wv_X5_39 : WV RX5 39 RX5 yX5_of cX5_of 3 (some .int) 2 := ⟨q_code_X5_of, q_ml_X5_39, q_ins_X5_of, q_sel_X5_of, q_ini_X5, by decide +kernel⟩
theorem wv_X5_43 : WV RX5 43 RX5 yX5_placeOf cX5_placeOf 2 (some .int) 1 := ⟨q_code_X5_placeOf, q_ml_X5_43, q_ins_X5_placeOf, q_sel_X5_placeOf, q_ini_X5, by decide +kernel⟩
theorem wv_X5_47 : WV RX5 47 RX5 yX5_ahead cX5_ahead 4 (some .int) 1 := ⟨q_code_X5_ahead, q_ml_X5_47, q_ins_X5_ahead, q_sel_X5_ahead, q_ini_X5, by decide +kernel⟩
theorem wv_X5_50 : WV RX5 50 RX5 yX5_damage cX5_damage 2 (some .int) 1 := ⟨q_code_X5_damage, q_ml_X5_50, q_ins_X5_damage, q_sel_X5_damage, q_ini_X5, by decide +kernel⟩
theorem ws_X5_53 : WS RX5 53 yX5_in cX5_in 3 (some .boolean) 3 := ⟨q_code_X5_in, q_ml_X5_53, q_sta_X5_in, q_ini_X5, by decide +kernel⟩
theorem wv_X5_57 : WV RX5 57 RX5 yX5_changes cX5_changes 2 none 0 := ⟨q_code_X5_changes, q_ml_X5_57, q_ins_X5_changes, q_sel_X5_changes, q_ini_X5, by decide +kernel⟩
theorem wv_X5_60 : WV RX5 60 RX5 yX5_puts cX5_puts 4 none 3 := ⟨q_code_X5_puts, q_ml_X5_60, q_ins_X5_puts, q_sel_X5_puts, q_ini_X5, by decide +kernel⟩
theorem wv_X5_64 : WV RX5 64 RX5 yX5_isMember cX5_isMember 2 (some .boolean) 1 := ⟨q_code_X5_isMember, q_ml_X5_64, q_ins_X5_isMember, q_sel_X5_isMember, q_ini_X5, by decide +kernel⟩
theorem wv_X5_68 : WV RX5 68 RX5 yX5_chargeFor cX5_chargeFor 4 (some .int) 2 := ⟨q_code_X5_chargeFor, q_ml_X5_68, q_ins_X5_chargeFor, q_sel_X5_chargeFor, q_ini_X5, by decide +kernel⟩
theorem wv_X5_71 : WV RX5 71 RX5 yX5_sum cX5_sum 4 (some .int) 1 := ⟨q_code_X5_sum, q_ml_X5_71, q_ins_X5_sum, q_sel_X5_sum, q_ini_X5, by decide +kernel⟩
theorem wv_X5_74 : WV RX5 74 RX5 yX5_outSet cX5_outSet 3 (some .int) 0 := ⟨q_code_X5_outSet, q_ml_X5_74, q_ins_X5_outSet, q_sel_X5_outSet, q_ini_X5, by decide +kernel⟩
theorem wv_X5_78 : WV RX5 78 RX5 yX5_keeps cX5_keeps 6 none 4 := ⟨q_code_X5_keeps, q_ml_X5_78, q_ins_X5_keeps, q_sel_X5_keeps, q_ini_X5, by decide +kernel⟩
theorem wv_X5_82 : WV RX5 82 RX5 yX5_excludes cX5_excludes 8 none 1 := ⟨q_code_X5_excludes, q_ml_X5_82, q_ins_X5_excludes, q_sel_X5_excludes, q_ini_X5, by decide +kernel⟩
theorem wv_X5_86 : WV RX5 86 RX5 yX5_ends cX5_ends 5 (some .int) 0 := ⟨q_code_X5_ends, q_ml_X5_86, q_ins_X5_ends, q_sel_X5_ends, q_ini_X5, by decide +kernel⟩
theorem wv_X5_92 : WV RX5 92 RX5 yX5_gainFor cX5_gainFor 3 (some .int) 2 := ⟨q_code_X5_gainFor, q_ml_X5_92, q_ins_X5_gainFor, q_sel_X5_gainFor, q_ini_X5, by decide +kernel⟩
theorem wv_X5_95 : WV RX5 95 RX5 yX5_best cX5_best 4 (some .int) 1 := ⟨q_code_X5_best, q_ml_X5_95, q_ins_X5_best, q_sel_X5_best, q_ini_X5, by decide +kernel⟩
theorem ws_X5_98 : WS RX5 98 yX5_copies cX5_copies 3 none 2 := ⟨q_code_X5_copies, q_ml_X5_98, q_sta_X5_copies, q_ini_X5, by decide +kernel⟩
theorem wv_X5_102 : WV RX5 102 RX5 yX5_turns cX5_turns 4 (some .boolean) 0 := ⟨q_code_X5_turns, q_ml_X5_102, q_ins_X5_turns, q_sel_X5_turns, q_ini_X5, by decide +kernel⟩
theorem wv_X5_109 : WV RX5 109 RX5 yX5_isAt cX5_isAt 3 (some .boolean) 2 := ⟨q_code_X5_isAt, q_ml_X5_109, q_ins_X5_isAt, q_sel_X5_isAt, q_ini_X5, by decide +kernel⟩
theorem wv_X5_113 : WV RX5 113 RX5 yX5_number cX5_number 5 (some .boolean) 2 := ⟨q_code_X5_number, q_ml_X5_113, q_ins_X5_number, q_sel_X5_number, q_ini_X5, by decide +kernel⟩
theorem wv_X5_116 : WV RX5 116 RX5 yX5_member cX5_member 4 (some .int) 1 := ⟨q_code_X5_member, q_ml_X5_116, q_ins_X5_member, q_sel_X5_member, q_ini_X5, by decide +kernel⟩
theorem wv_X5_119 : WV RX5 119 RX5 yX5_use cX5_use 3 (some .int) 2 := ⟨q_code_X5_use, q_ml_X5_119, q_ins_X5_use, q_sel_X5_use, q_ini_X5, by decide +kernel⟩
theorem wv_X5_122 : WV RX5 122 RX5 yX5_close cX5_close 1 (some .int) 0 := ⟨q_code_X5_close, q_ml_X5_122, q_ins_X5_close, q_sel_X5_close, q_ini_X5, by decide +kernel⟩
theorem wv_X5_125 : WV RX5 125 RX5 yX5_pay cX5_pay 3 (some .int) 2 := ⟨q_code_X5_pay, q_ml_X5_125, q_ins_X5_pay, q_sel_X5_pay, q_ini_X5, by decide +kernel⟩
theorem wv_X5_128 : WV RX5 128 RX5 yX5_repair cX5_repair 8 (some .int) 1 := ⟨q_code_X5_repair, q_ml_X5_128, q_ins_X5_repair, q_sel_X5_repair, q_ini_X5, by decide +kernel⟩
theorem wv_X5_134 : WV RX5 134 RX5 yX5_isForm cX5_isForm 3 (some .boolean) 1 := ⟨q_code_X5_isForm, q_ml_X5_134, q_ins_X5_isForm, q_sel_X5_isForm, q_ini_X5, by decide +kernel⟩
theorem wv_X5_137 : WV RX5 137 RX5 yX5_calls cX5_calls 2 (some .int) 1 := ⟨q_code_X5_calls, q_ml_X5_137, q_ins_X5_calls, q_sel_X5_calls, q_ini_X5, by decide +kernel⟩
theorem wv_X5_143 : WV RX5 143 RX5 yX5_plays cX5_plays 5 (some .int) 0 := ⟨q_code_X5_plays, q_ml_X5_143, q_ins_X5_plays, q_sel_X5_plays, q_ini_X5, by decide +kernel⟩
theorem wn_X0_43 : Cond.code yX4_copyRow cX4_copyRow 2 none ∈ TT ∧ Cond.static yX4_copyRow ∈ TT ∧ Cond.initialized yX4_copyRow.cls ∈ TT ∧ (yX4_copyRow.cls ≠ "java/lang/invoke/MethodHandle" ∧ yX4_copyRow.cls ≠ "java/lang/invoke/VarHandle" ∧ (parseMethodDescriptor yX4_copyRow.desc).map (fun d => d.parameters.length) = some 2) := ⟨q_code_X4_copyRow, q_sta_X4_copyRow, q_ini_X4, by decide +kernel⟩
theorem wn_X0_68 : Cond.code yX4_sumOf cX4_sumOf 3 (some .int) ∈ TT ∧ Cond.static yX4_sumOf ∈ TT ∧ Cond.initialized yX4_sumOf.cls ∈ TT ∧ (yX4_sumOf.cls ≠ "java/lang/invoke/MethodHandle" ∧ yX4_sumOf.cls ≠ "java/lang/invoke/VarHandle" ∧ (parseMethodDescriptor yX4_sumOf.desc).map (fun d => d.parameters.length) = some 1) := ⟨q_code_X4_sumOf, q_sta_X4_sumOf, q_ini_X4, by decide +kernel⟩
theorem wn_X0_90 : Cond.code yX4_isUnits cX4_isUnits 1 (some .boolean) ∈ TT ∧ Cond.static yX4_isUnits ∈ TT ∧ Cond.initialized yX4_isUnits.cls ∈ TT ∧ (yX4_isUnits.cls ≠ "java/lang/invoke/MethodHandle" ∧ yX4_isUnits.cls ≠ "java/lang/invoke/VarHandle" ∧ (parseMethodDescriptor yX4_isUnits.desc).map (fun d => d.parameters.length) = some 1) := ⟨q_code_X4_isUnits, q_sta_X4_isUnits, q_ini_X4, by decide +kernel⟩
theorem wn_X0_114 : Cond.code yX4_quotient cX4_quotient 2 (some .int) ∈ TT ∧ Cond.static yX4_quotient ∈ TT ∧ Cond.initialized yX4_quotient.cls ∈ TT ∧ (yX4_quotient.cls ≠ "java/lang/invoke/MethodHandle" ∧ yX4_quotient.cls ≠ "java/lang/invoke/VarHandle" ∧ (parseMethodDescriptor yX4_quotient.desc).map (fun d => d.parameters.length) = some 2) := ⟨q_code_X4_quotient, q_sta_X4_quotient, q_ini_X4, by decide +kernel⟩
end
section
def sX4_isUnits (x0 : Int32) : Int32 := (if x0 < 0 then 0 else (if 20 < x0 then 0 else 1))
set_option maxHeartbeats 4000000 in
set_option maxRecDepth 100000 in
theorem b_X4_isUnits {p : Program} {l : Launch} {e : Env} {s : State} {m : MethodId} {args : Array Value} {below : List Frame} {meth : Method} {c : Code} {D : va_G} {cI cH cO : ClassId} (x0 : Int32)  (X : CX p s m args meth c cX4_isUnits 1 RX4 (some .boolean) D (tyl cI cH cO) (va_A ([]) s.heap.size)) : J p l e (rml 0) s m args below meth c 1 D (va_A ([]) s.heap.size) 0 0 (KP below args s D (tyl cI cH cO) ([])) (sX4_isUnits x0) ([]) 0 [(0, .int x0)] [] := by
  unfold sX4_isUnits
  refine j_iload_n X (pc' := 1) 0 dX4_isUnits_0 rfl rfl rfl ?_
  refine j_if_lt X (tgt := 14) (pc' := 4) dX4_isUnits_1 (by decide) rfl (fun c_1 => ?_) (fun c_1 => ?_)
  · refine j_iconst X (v := 0) (pc' := 15) dX4_isUnits_14 (by decide) rfl ?_
    exact j_zretP X rfl rfl rfl dX4_isUnits_15
  · refine j_iload_n X (pc' := 5) 0 dX4_isUnits_4 rfl rfl rfl ?_
    refine j_bipush X (v := 20) (pc' := 7) dX4_isUnits_5 (by decide) rfl ?_
    refine j_icmp_gt X (tgt := 14) (pc' := 10) dX4_isUnits_7 (by decide) rfl (fun c_7 => ?_) (fun c_7 => ?_)
    · refine j_iconst X (v := 0) (pc' := 15) dX4_isUnits_14 (by decide) rfl ?_
      exact j_zretP X rfl rfl rfl dX4_isUnits_15
    · refine j_iconst X (v := 1) (pc' := 11) dX4_isUnits_10 (by decide) rfl ?_
      refine j_goto X (pc' := 15) dX4_isUnits_11 (by decide) ?_
      exact j_zretP X rfl rfl rfl dX4_isUnits_15
theorem c_X4_isUnits (l : Launch) (D : va_G) (cI cH cO : ClassId) (x0 : Int32)  : MI l yX4_isUnits cX4_isUnits 1 (some .boolean) 0 D (tyl cI cH cO) [.int x0] ([]) (sX4_isUnits x0) ([]) := fun sz => j_start (fun below s => (KP below [.int x0].toArray s D (tyl cI cH cO) ([]))) (sX4_isUnits x0) (by decide +kernel) rfl (Nat.le_of_ble_eq_true rfl) (fun below s hs _ => by subst hs; rfl) (fun p e s m below meth c _ X => b_X4_isUnits x0  X)
def sX4_quotient (x0 : Int32) (x1 : Int32) : Int32 := (if 1 ≤ x1 then (x0 / x1) else 0)
set_option maxHeartbeats 4000000 in
set_option maxRecDepth 100000 in
theorem b_X4_quotient {p : Program} {l : Launch} {e : Env} {s : State} {m : MethodId} {args : Array Value} {below : List Frame} {meth : Method} {c : Code} {D : va_G} {cI cH cO : ClassId} (x0 : Int32) (x1 : Int32)  (X : CX p s m args meth c cX4_quotient 2 RX4 (some .int) D (tyl cI cH cO) (va_A ([]) s.heap.size)) : J p l e (rml 0) s m args below meth c 2 D (va_A ([]) s.heap.size) 0 0 (KP below args s D (tyl cI cH cO) ([])) (sX4_quotient x0 x1) ([]) 0 [(0, .int x0), (1, .int x1)] [] := by
  unfold sX4_quotient
  refine j_iload_n X (pc' := 1) 1 dX4_quotient_0 rfl rfl rfl ?_
  refine j_iconst X (v := 1) (pc' := 2) dX4_quotient_1 (by decide) rfl ?_
  refine j_icmp_ge X (tgt := 9) (pc' := 5) dX4_quotient_2 (by decide) rfl (fun c_2 => ?_) (fun c_2 => ?_)
  · refine j_iload_n X (pc' := 10) 0 dX4_quotient_9 rfl rfl rfl ?_
    refine j_iload_n X (pc' := 11) 1 dX4_quotient_10 rfl rfl rfl ?_
    refine j_idiv X (pc' := 12) dX4_quotient_11 (by rintro rfl; exact absurd c_2 (by decide)) rfl ?_
    exact j_iretP X rfl rfl dX4_quotient_12
  · refine j_iconst X (v := 0) (pc' := 6) dX4_quotient_5 (by decide) rfl ?_
    refine j_goto X (pc' := 12) dX4_quotient_6 (by decide) ?_
    exact j_iretP X rfl rfl dX4_quotient_12
theorem c_X4_quotient (l : Launch) (D : va_G) (cI cH cO : ClassId) (x0 : Int32) (x1 : Int32)  : MI l yX4_quotient cX4_quotient 2 (some .int) 0 D (tyl cI cH cO) [.int x0, .int x1] ([]) (sX4_quotient x0 x1) ([]) := fun sz => j_start (fun below s => (KP below [.int x0, .int x1].toArray s D (tyl cI cH cO) ([]))) (sX4_quotient x0 x1) (by decide +kernel) rfl (Nat.le_of_ble_eq_true rfl) (fun below s hs _ => by subst hs; rfl) (fun p e s m below meth c _ X => b_X4_quotient x0 x1  X)
def sX4_sumOf_2 (C : Cst) : Int32 := ltl2 (fun R4 (x1 : Int32) (i2 : Nat) => (if 8 ≤ (nI i2) then x1 else ltv (x1 + (C 2 i2)) (fun (v1_15 : Int32) => R4 v1_15 (i2 + 1)))) (fun (x1 : Int32) (i2 : Nat) => 0) (fun L4 => (L4 9 0 0))
set_option maxHeartbeats 4000000 in
set_option maxRecDepth 100000 in
theorem b_X4_sumOf_2 {p : Program} {l : Launch} {e : Env} {s : State} {m : MethodId} {args : Array Value} {below : List Frame} {meth : Method} {c : Code} {D : va_G} {cI cH cO : ClassId} (h : Nat) (ar : Nat → Nat) (C : Cst)  (X : CX p s m args meth c cX4_sumOf 3 RX4 (some .int) D (tyl cI cH cO) (va_A ((wC cI h ar C)) s.heap.size)) : J p l e (rml 0) s m args below meth c 3 D (va_A ((wC cI h ar C)) s.heap.size) 0 0 (KP below args s D (tyl cI cH cO) ((wC cI h ar C))) (sX4_sumOf_2 C) ((wC cI h ar C)) 0 [(0, .ref (ar 2))] [] := by
  unfold sX4_sumOf_2
  refine j_ltl2 (fun L4 eL4 => ?_)
  have hL4 : ∀ (n4 : Nat) (x1 : Int32) (i2 : Nat) (hi : i2 ≤ 8) (hfu : 9 ≤ i2 + n4), J p l e (rml 0) s m args below meth c 3 D (va_A ((wC cI h ar C)) s.heap.size) 0 0 (KP below args s D (tyl cI cH cO) ((wC cI h ar C))) (L4 n4 x1 i2) ((wC cI h ar C)) 4 [(0, .ref (ar 2)), (1, .int x1), (2, .int (nI i2))] [] := by
    intro n4
    induction n4 with
    | zero =>
      intro x1 i2 hi hfu
      exact absurd hfu (by omega)
    | succ n4 ih4 =>
      intro x1 i2 hi hfu
      rw [eL4]
      refine j_iload_n X (pc' := 5) 2 dX4_sumOf_4 rfl rfl rfl ?_
      refine j_aload_n X (pc' := 6) 0 dX4_sumOf_5 rfl rfl rfl ?_
      refine j_alen X (v := 8) (pc' := 7) 3 0 rfl rfl rfl dX4_sumOf_6 rfl ?_
      refine j_icmp_ge X (tgt := 22) (pc' := 10) dX4_sumOf_7 (by decide) rfl (fun c_7 => ?_) (fun c_7 => ?_)
      · have f_7 : 8 ≤ i2 := (nI_leI (a := 8) (b := i2) (by omega) (by omega)).mp c_7
        refine j_iload_n X (pc' := 23) 1 dX4_sumOf_22 rfl rfl rfl ?_
        exact j_iretP X rfl rfl dX4_sumOf_23
      · have f_7 : ¬ (8 ≤ i2) := fun h => c_7 ((nI_leI (a := 8) (b := i2) (by omega) (by omega)).mpr h)
        refine j_iload_n X (pc' := 11) 1 dX4_sumOf_10 rfl rfl rfl ?_
        refine j_aload_n X (pc' := 12) 0 dX4_sumOf_11 rfl rfl rfl ?_
        refine j_iload_n X (pc' := 13) 2 dX4_sumOf_12 rfl rfl rfl ?_
        refine j_ialdN X (i := i2) (pc' := 14) 3 rfl (by omega) (by decide) dX4_sumOf_13 rfl ?_
        refine j_iadd X (pc' := 15) dX4_sumOf_14 rfl ?_
        refine j_istore_nL X (fun v1_15 => [(0, .ref (ar 2)), (1, .int v1_15), (2, .int (nI i2))]) [1, 0, 2] (pc' := 16) dX4_sumOf_15 rfl (by decide) (fun _ => rfl) rfl (fun v1_15 ev1_15 => ?_)
        refine j_iinc X (v := (nI (i2 + 1))) (lv' := [(0, .ref (ar 2)), (1, .int v1_15), (2, .int (nI (i2 + 1)))]) (q := 2) (pc' := 19) [1, 2, 0] dX4_sumOf_16 rfl (nI_1 i2) (by decide) rfl rfl ?_
        refine j_goto X (pc' := 4) dX4_sumOf_19 (by decide) ?_
        refine j_lv [0, 1, 2] (lv' := [(0, .ref (ar 2)), (1, .int v1_15), (2, .int (nI (i2 + 1)))]) rfl ?_
        exact ih4 _ _ (by first | omega | assumption | decide | (subst_vars; first | assumption | omega)) (by first | omega | assumption | decide | (subst_vars; first | assumption | omega))
  refine j_iconst X (v := 0) (pc' := 1) dX4_sumOf_0 (by decide) rfl ?_
  refine j_istore_n X (lv' := [(0, .ref (ar 2)), (1, .int 0)]) (pc' := 2) [1, 0] dX4_sumOf_1 rfl (by decide) rfl rfl ?_
  refine j_iconst X (v := 0) (pc' := 3) dX4_sumOf_2 (by decide) rfl ?_
  refine j_istore_n X (lv' := [(0, .ref (ar 2)), (1, .int 0), (2, .int 0)]) (pc' := 4) [1, 2, 0] dX4_sumOf_3 rfl (by decide) rfl rfl ?_
  refine j_lv [0, 1, 2] (lv' := [(0, .ref (ar 2)), (1, .int 0), (2, .int 0)]) rfl ?_
  exact hL4 _ _ _ (by first | omega | assumption | decide | (subst_vars; first | assumption | omega)) (by first | omega | assumption | decide | (subst_vars; first | assumption | omega))
theorem c_X4_sumOf_2 (l : Launch) (D : va_G) (cI cH cO : ClassId) (h : Nat) (ar : Nat → Nat) (C : Cst)  : MI l yX4_sumOf cX4_sumOf 3 (some .int) 0 D (tyl cI cH cO) [.ref (ar 2)] ((wC cI h ar C)) (sX4_sumOf_2 C) ((wC cI h ar C)) := fun sz => j_start (fun below s => (KP below [.ref (ar 2)].toArray s D (tyl cI cH cO) ((wC cI h ar C)))) (sX4_sumOf_2 C) (by decide +kernel) rfl (Nat.le_of_ble_eq_true rfl) (fun below s hs _ => by subst hs; rfl) (fun p e s m below meth c _ X => b_X4_sumOf_2 h ar C  X)
def sX4_sumOf_3 (C : Cst) : Int32 := ltl2 (fun R4 (x1 : Int32) (i2 : Nat) => (if 8 ≤ (nI i2) then x1 else ltv (x1 + (C 3 i2)) (fun (v1_15 : Int32) => R4 v1_15 (i2 + 1)))) (fun (x1 : Int32) (i2 : Nat) => 0) (fun L4 => (L4 9 0 0))
set_option maxHeartbeats 4000000 in
set_option maxRecDepth 100000 in
theorem b_X4_sumOf_3 {p : Program} {l : Launch} {e : Env} {s : State} {m : MethodId} {args : Array Value} {below : List Frame} {meth : Method} {c : Code} {D : va_G} {cI cH cO : ClassId} (h : Nat) (ar : Nat → Nat) (C : Cst)  (X : CX p s m args meth c cX4_sumOf 3 RX4 (some .int) D (tyl cI cH cO) (va_A ((wC cI h ar C)) s.heap.size)) : J p l e (rml 0) s m args below meth c 3 D (va_A ((wC cI h ar C)) s.heap.size) 0 0 (KP below args s D (tyl cI cH cO) ((wC cI h ar C))) (sX4_sumOf_3 C) ((wC cI h ar C)) 0 [(0, .ref (ar 3))] [] := by
  unfold sX4_sumOf_3
  refine j_ltl2 (fun L4 eL4 => ?_)
  have hL4 : ∀ (n4 : Nat) (x1 : Int32) (i2 : Nat) (hi : i2 ≤ 8) (hfu : 9 ≤ i2 + n4), J p l e (rml 0) s m args below meth c 3 D (va_A ((wC cI h ar C)) s.heap.size) 0 0 (KP below args s D (tyl cI cH cO) ((wC cI h ar C))) (L4 n4 x1 i2) ((wC cI h ar C)) 4 [(0, .ref (ar 3)), (1, .int x1), (2, .int (nI i2))] [] := by
    intro n4
    induction n4 with
    | zero =>
      intro x1 i2 hi hfu
      exact absurd hfu (by omega)
    | succ n4 ih4 =>
      intro x1 i2 hi hfu
      rw [eL4]
      refine j_iload_n X (pc' := 5) 2 dX4_sumOf_4 rfl rfl rfl ?_
      refine j_aload_n X (pc' := 6) 0 dX4_sumOf_5 rfl rfl rfl ?_
      refine j_alen X (v := 8) (pc' := 7) 4 0 rfl rfl rfl dX4_sumOf_6 rfl ?_
      refine j_icmp_ge X (tgt := 22) (pc' := 10) dX4_sumOf_7 (by decide) rfl (fun c_7 => ?_) (fun c_7 => ?_)
      · have f_7 : 8 ≤ i2 := (nI_leI (a := 8) (b := i2) (by omega) (by omega)).mp c_7
        refine j_iload_n X (pc' := 23) 1 dX4_sumOf_22 rfl rfl rfl ?_
        exact j_iretP X rfl rfl dX4_sumOf_23
      · have f_7 : ¬ (8 ≤ i2) := fun h => c_7 ((nI_leI (a := 8) (b := i2) (by omega) (by omega)).mpr h)
        refine j_iload_n X (pc' := 11) 1 dX4_sumOf_10 rfl rfl rfl ?_
        refine j_aload_n X (pc' := 12) 0 dX4_sumOf_11 rfl rfl rfl ?_
        refine j_iload_n X (pc' := 13) 2 dX4_sumOf_12 rfl rfl rfl ?_
        refine j_ialdN X (i := i2) (pc' := 14) 4 rfl (by omega) (by decide) dX4_sumOf_13 rfl ?_
        refine j_iadd X (pc' := 15) dX4_sumOf_14 rfl ?_
        refine j_istore_nL X (fun v1_15 => [(0, .ref (ar 3)), (1, .int v1_15), (2, .int (nI i2))]) [1, 0, 2] (pc' := 16) dX4_sumOf_15 rfl (by decide) (fun _ => rfl) rfl (fun v1_15 ev1_15 => ?_)
        refine j_iinc X (v := (nI (i2 + 1))) (lv' := [(0, .ref (ar 3)), (1, .int v1_15), (2, .int (nI (i2 + 1)))]) (q := 2) (pc' := 19) [1, 2, 0] dX4_sumOf_16 rfl (nI_1 i2) (by decide) rfl rfl ?_
        refine j_goto X (pc' := 4) dX4_sumOf_19 (by decide) ?_
        refine j_lv [0, 1, 2] (lv' := [(0, .ref (ar 3)), (1, .int v1_15), (2, .int (nI (i2 + 1)))]) rfl ?_
        exact ih4 _ _ (by first | omega | assumption | decide | (subst_vars; first | assumption | omega)) (by first | omega | assumption | decide | (subst_vars; first | assumption | omega))
  refine j_iconst X (v := 0) (pc' := 1) dX4_sumOf_0 (by decide) rfl ?_
  refine j_istore_n X (lv' := [(0, .ref (ar 3)), (1, .int 0)]) (pc' := 2) [1, 0] dX4_sumOf_1 rfl (by decide) rfl rfl ?_
  refine j_iconst X (v := 0) (pc' := 3) dX4_sumOf_2 (by decide) rfl ?_
  refine j_istore_n X (lv' := [(0, .ref (ar 3)), (1, .int 0), (2, .int 0)]) (pc' := 4) [1, 2, 0] dX4_sumOf_3 rfl (by decide) rfl rfl ?_
  refine j_lv [0, 1, 2] (lv' := [(0, .ref (ar 3)), (1, .int 0), (2, .int 0)]) rfl ?_
  exact hL4 _ _ _ (by first | omega | assumption | decide | (subst_vars; first | assumption | omega)) (by first | omega | assumption | decide | (subst_vars; first | assumption | omega))
theorem c_X4_sumOf_3 (l : Launch) (D : va_G) (cI cH cO : ClassId) (h : Nat) (ar : Nat → Nat) (C : Cst)  : MI l yX4_sumOf cX4_sumOf 3 (some .int) 0 D (tyl cI cH cO) [.ref (ar 3)] ((wC cI h ar C)) (sX4_sumOf_3 C) ((wC cI h ar C)) := fun sz => j_start (fun below s => (KP below [.ref (ar 3)].toArray s D (tyl cI cH cO) ((wC cI h ar C)))) (sX4_sumOf_3 C) (by decide +kernel) rfl (Nat.le_of_ble_eq_true rfl) (fun below s hs _ => by subst hs; rfl) (fun p e s m below meth c _ X => b_X4_sumOf_3 h ar C  X)
def sX4_sumOf_5 (C : Cst) : Int32 := ltl2 (fun R4 (x1 : Int32) (i2 : Nat) => (if 8 ≤ (nI i2) then x1 else ltv (x1 + (C 5 i2)) (fun (v1_15 : Int32) => R4 v1_15 (i2 + 1)))) (fun (x1 : Int32) (i2 : Nat) => 0) (fun L4 => (L4 9 0 0))
set_option maxHeartbeats 4000000 in
set_option maxRecDepth 100000 in
theorem b_X4_sumOf_5 {p : Program} {l : Launch} {e : Env} {s : State} {m : MethodId} {args : Array Value} {below : List Frame} {meth : Method} {c : Code} {D : va_G} {cI cH cO : ClassId} (h : Nat) (ar : Nat → Nat) (C : Cst)  (X : CX p s m args meth c cX4_sumOf 3 RX4 (some .int) D (tyl cI cH cO) (va_A ((wC cI h ar C)) s.heap.size)) : J p l e (rml 0) s m args below meth c 3 D (va_A ((wC cI h ar C)) s.heap.size) 0 0 (KP below args s D (tyl cI cH cO) ((wC cI h ar C))) (sX4_sumOf_5 C) ((wC cI h ar C)) 0 [(0, .ref (ar 5))] [] := by
  unfold sX4_sumOf_5
  refine j_ltl2 (fun L4 eL4 => ?_)
  have hL4 : ∀ (n4 : Nat) (x1 : Int32) (i2 : Nat) (hi : i2 ≤ 8) (hfu : 9 ≤ i2 + n4), J p l e (rml 0) s m args below meth c 3 D (va_A ((wC cI h ar C)) s.heap.size) 0 0 (KP below args s D (tyl cI cH cO) ((wC cI h ar C))) (L4 n4 x1 i2) ((wC cI h ar C)) 4 [(0, .ref (ar 5)), (1, .int x1), (2, .int (nI i2))] [] := by
    intro n4
    induction n4 with
    | zero =>
      intro x1 i2 hi hfu
      exact absurd hfu (by omega)
    | succ n4 ih4 =>
      intro x1 i2 hi hfu
      rw [eL4]
      refine j_iload_n X (pc' := 5) 2 dX4_sumOf_4 rfl rfl rfl ?_
      refine j_aload_n X (pc' := 6) 0 dX4_sumOf_5 rfl rfl rfl ?_
      refine j_alen X (v := 8) (pc' := 7) 6 0 rfl rfl rfl dX4_sumOf_6 rfl ?_
      refine j_icmp_ge X (tgt := 22) (pc' := 10) dX4_sumOf_7 (by decide) rfl (fun c_7 => ?_) (fun c_7 => ?_)
      · have f_7 : 8 ≤ i2 := (nI_leI (a := 8) (b := i2) (by omega) (by omega)).mp c_7
        refine j_iload_n X (pc' := 23) 1 dX4_sumOf_22 rfl rfl rfl ?_
        exact j_iretP X rfl rfl dX4_sumOf_23
      · have f_7 : ¬ (8 ≤ i2) := fun h => c_7 ((nI_leI (a := 8) (b := i2) (by omega) (by omega)).mpr h)
        refine j_iload_n X (pc' := 11) 1 dX4_sumOf_10 rfl rfl rfl ?_
        refine j_aload_n X (pc' := 12) 0 dX4_sumOf_11 rfl rfl rfl ?_
        refine j_iload_n X (pc' := 13) 2 dX4_sumOf_12 rfl rfl rfl ?_
        refine j_ialdN X (i := i2) (pc' := 14) 6 rfl (by omega) (by decide) dX4_sumOf_13 rfl ?_
        refine j_iadd X (pc' := 15) dX4_sumOf_14 rfl ?_
        refine j_istore_nL X (fun v1_15 => [(0, .ref (ar 5)), (1, .int v1_15), (2, .int (nI i2))]) [1, 0, 2] (pc' := 16) dX4_sumOf_15 rfl (by decide) (fun _ => rfl) rfl (fun v1_15 ev1_15 => ?_)
        refine j_iinc X (v := (nI (i2 + 1))) (lv' := [(0, .ref (ar 5)), (1, .int v1_15), (2, .int (nI (i2 + 1)))]) (q := 2) (pc' := 19) [1, 2, 0] dX4_sumOf_16 rfl (nI_1 i2) (by decide) rfl rfl ?_
        refine j_goto X (pc' := 4) dX4_sumOf_19 (by decide) ?_
        refine j_lv [0, 1, 2] (lv' := [(0, .ref (ar 5)), (1, .int v1_15), (2, .int (nI (i2 + 1)))]) rfl ?_
        exact ih4 _ _ (by first | omega | assumption | decide | (subst_vars; first | assumption | omega)) (by first | omega | assumption | decide | (subst_vars; first | assumption | omega))
  refine j_iconst X (v := 0) (pc' := 1) dX4_sumOf_0 (by decide) rfl ?_
  refine j_istore_n X (lv' := [(0, .ref (ar 5)), (1, .int 0)]) (pc' := 2) [1, 0] dX4_sumOf_1 rfl (by decide) rfl rfl ?_
  refine j_iconst X (v := 0) (pc' := 3) dX4_sumOf_2 (by decide) rfl ?_
  refine j_istore_n X (lv' := [(0, .ref (ar 5)), (1, .int 0), (2, .int 0)]) (pc' := 4) [1, 2, 0] dX4_sumOf_3 rfl (by decide) rfl rfl ?_
  refine j_lv [0, 1, 2] (lv' := [(0, .ref (ar 5)), (1, .int 0), (2, .int 0)]) rfl ?_
  exact hL4 _ _ _ (by first | omega | assumption | decide | (subst_vars; first | assumption | omega)) (by first | omega | assumption | decide | (subst_vars; first | assumption | omega))
theorem c_X4_sumOf_5 (l : Launch) (D : va_G) (cI cH cO : ClassId) (h : Nat) (ar : Nat → Nat) (C : Cst)  : MI l yX4_sumOf cX4_sumOf 3 (some .int) 0 D (tyl cI cH cO) [.ref (ar 5)] ((wC cI h ar C)) (sX4_sumOf_5 C) ((wC cI h ar C)) := fun sz => j_start (fun below s => (KP below [.ref (ar 5)].toArray s D (tyl cI cH cO) ((wC cI h ar C)))) (sX4_sumOf_5 C) (by decide +kernel) rfl (Nat.le_of_ble_eq_true rfl) (fun below s hs _ => by subst hs; rfl) (fun p e s m below meth c _ X => b_X4_sumOf_5 h ar C  X)
def sX0_has (C : Cst) (x1 : Int32) : Int32 := (if x1 < 0 then 0 else (if (C 9 0) ≤ x1 then 0 else (if 8 ≤ x1 then 0 else 1)))
set_option maxHeartbeats 4000000 in
set_option maxRecDepth 100000 in
theorem b_X0_has {p : Program} {l : Launch} {e : Env} {s : State} {m : MethodId} {args : Array Value} {below : List Frame} {meth : Method} {c : Code} {D : va_G} {cI cH cO : ClassId} (h : Nat) (ar : Nat → Nat) (C : Cst) (x1 : Int32)  (X : CX p s m args meth c cX0_has 2 RX0 (some .boolean) D (tyl cI cH cO) (va_A ((wC cI h ar C)) s.heap.size)) : J p l e (rml 0) s m args below meth c 2 D (va_A ((wC cI h ar C)) s.heap.size) 0 0 (KP below args s D (tyl cI cH cO) ((wC cI h ar C))) (sX0_has C x1) ((wC cI h ar C)) 0 [(0, .ref h), (1, .int x1)] [] := by
  unfold sX0_has
  refine j_iload_n X (pc' := 1) 1 dX0_has_0 rfl rfl rfl ?_
  refine j_if_lt X (tgt := 22) (pc' := 4) dX0_has_1 (by decide) rfl (fun c_1 => ?_) (fun c_1 => ?_)
  · refine j_iconst X (v := 0) (pc' := 23) dX0_has_22 (by decide) rfl ?_
    exact j_zretP X rfl rfl rfl dX0_has_23
  · refine j_iload_n X (pc' := 5) 1 dX0_has_4 rfl rfl rfl ?_
    refine j_aload_n X (pc' := 6) 0 dX0_has_5 rfl rfl rfl ?_
    refine j_get X inX0 rfl (pc' := 9) 0 9 q_fl_X0_47 (by decide) rfl rfl dX0_has_6 rfl ?_
    refine j_icmp_ge X (tgt := 22) (pc' := 12) dX0_has_9 (by decide) rfl (fun c_9 => ?_) (fun c_9 => ?_)
    · refine j_iconst X (v := 0) (pc' := 23) dX0_has_22 (by decide) rfl ?_
      exact j_zretP X rfl rfl rfl dX0_has_23
    · refine j_iload_n X (pc' := 13) 1 dX0_has_12 rfl rfl rfl ?_
      refine j_bipush X (v := 8) (pc' := 15) dX0_has_13 (by decide) rfl ?_
      refine j_icmp_ge X (tgt := 22) (pc' := 18) dX0_has_15 (by decide) rfl (fun c_15 => ?_) (fun c_15 => ?_)
      · refine j_iconst X (v := 0) (pc' := 23) dX0_has_22 (by decide) rfl ?_
        exact j_zretP X rfl rfl rfl dX0_has_23
      · refine j_iconst X (v := 1) (pc' := 19) dX0_has_18 (by decide) rfl ?_
        refine j_goto X (pc' := 23) dX0_has_19 (by decide) ?_
        exact j_zretP X rfl rfl rfl dX0_has_23
theorem c_X0_has (l : Launch) (D : va_G) (cI cH cO : ClassId) (h : Nat) (ar : Nat → Nat) (C : Cst) (x1 : Int32)  : MI l yX0_has cX0_has 2 (some .boolean) 0 D (tyl cI cH cO) [.ref h, .int x1] ((wC cI h ar C)) (sX0_has C x1) ((wC cI h ar C)) := fun sz => j_start (fun below s => (KP below [.ref h, .int x1].toArray s D (tyl cI cH cO) ((wC cI h ar C)))) (sX0_has C x1) (by decide +kernel) rfl (Nat.le_of_ble_eq_true rfl) (fun below s hs _ => by subst hs; rfl) (fun p e s m below meth c _ X => b_X0_has h ar C x1  X)
def sX0_isOut (C : Cst) (x1 : Int32) : Int32 := (if ¬ (((C 13 0) >>> (x1 &&& 31)) &&& 1) = 1 then 0 else 1)
set_option maxHeartbeats 4000000 in
set_option maxRecDepth 100000 in
theorem b_X0_isOut {p : Program} {l : Launch} {e : Env} {s : State} {m : MethodId} {args : Array Value} {below : List Frame} {meth : Method} {c : Code} {D : va_G} {cI cH cO : ClassId} (h : Nat) (ar : Nat → Nat) (C : Cst) (x1 : Int32)  (X : CX p s m args meth c cX0_isOut 2 RX0 (some .boolean) D (tyl cI cH cO) (va_A ((wC cI h ar C)) s.heap.size)) : J p l e (rml 0) s m args below meth c 2 D (va_A ((wC cI h ar C)) s.heap.size) 0 0 (KP below args s D (tyl cI cH cO) ((wC cI h ar C))) (sX0_isOut C x1) ((wC cI h ar C)) 0 [(0, .ref h), (1, .int x1)] [] := by
  unfold sX0_isOut
  refine j_aload_n X (pc' := 1) 0 dX0_isOut_0 rfl rfl rfl ?_
  refine j_get X inX0 rfl (pc' := 4) 0 13 q_fl_X0_56 (by decide) rfl rfl dX0_isOut_1 rfl ?_
  refine j_iload_n X (pc' := 5) 1 dX0_isOut_4 rfl rfl rfl ?_
  refine j_ishr X (pc' := 6) dX0_isOut_5 rfl ?_
  refine j_iconst X (v := 1) (pc' := 7) dX0_isOut_6 (by decide) rfl ?_
  refine j_iand X (pc' := 8) dX0_isOut_7 rfl ?_
  refine j_iconst X (v := 1) (pc' := 9) dX0_isOut_8 (by decide) rfl ?_
  refine j_icmp_ne X (tgt := 16) (pc' := 12) dX0_isOut_9 (by decide) rfl (fun c_9 => ?_) (fun c_9 => ?_)
  · refine j_iconst X (v := 0) (pc' := 17) dX0_isOut_16 (by decide) rfl ?_
    exact j_zretP X rfl rfl rfl dX0_isOut_17
  · refine j_iconst X (v := 1) (pc' := 13) dX0_isOut_12 (by decide) rfl ?_
    refine j_goto X (pc' := 17) dX0_isOut_13 (by decide) ?_
    exact j_zretP X rfl rfl rfl dX0_isOut_17
theorem c_X0_isOut (l : Launch) (D : va_G) (cI cH cO : ClassId) (h : Nat) (ar : Nat → Nat) (C : Cst) (x1 : Int32)  : MI l yX0_isOut cX0_isOut 2 (some .boolean) 0 D (tyl cI cH cO) [.ref h, .int x1] ((wC cI h ar C)) (sX0_isOut C x1) ((wC cI h ar C)) := fun sz => j_start (fun below s => (KP below [.ref h, .int x1].toArray s D (tyl cI cH cO) ((wC cI h ar C)))) (sX0_isOut C x1) (by decide +kernel) rfl (Nat.le_of_ble_eq_true rfl) (fun below s hs _ => by subst hs; rfl) (fun p e s m below meth c _ X => b_X0_isOut h ar C x1  X)
def sX0_damageOf (C : Cst) (x1 : Int32) : Int32 := ltv (C 0 0) (fun (v2_6 : Int32) => (if 1 ≤ v2_6 then ((x1 * x1) / v2_6) else 0))
set_option maxHeartbeats 4000000 in
set_option maxRecDepth 100000 in
theorem b_X0_damageOf {p : Program} {l : Launch} {e : Env} {s : State} {m : MethodId} {args : Array Value} {below : List Frame} {meth : Method} {c : Code} {D : va_G} {cI cH cO : ClassId} (h : Nat) (ar : Nat → Nat) (C : Cst) (x1 : Int32)  (X : CX p s m args meth c cX0_damageOf 3 RX0 (some .int) D (tyl cI cH cO) (va_A ((wC cI h ar C)) s.heap.size)) : J p l e (rml 0) s m args below meth c 3 D (va_A ((wC cI h ar C)) s.heap.size) 0 0 (KP below args s D (tyl cI cH cO) ((wC cI h ar C))) (sX0_damageOf C x1) ((wC cI h ar C)) 0 [(0, .ref h), (1, .int x1)] [] := by
  unfold sX0_damageOf
  refine j_aload_n X (pc' := 1) 0 dX0_damageOf_0 rfl rfl rfl ?_
  refine j_get X inX0 rfl (pc' := 4) 0 0 q_fl_X0_9 (by decide) rfl rfl dX0_damageOf_1 rfl ?_
  refine j_iconst X (v := 0) (pc' := 5) dX0_damageOf_4 (by decide) rfl ?_
  refine j_ialdN X (i := 0) (pc' := 6) 1 rfl (by omega) (by decide) dX0_damageOf_5 rfl ?_
  refine j_istore_nL X (fun v2_6 => [(0, .ref h), (1, .int x1), (2, .int v2_6)]) [1, 2, 0] (pc' := 7) dX0_damageOf_6 rfl (by decide) (fun _ => rfl) rfl (fun v2_6 ev2_6 => ?_)
  refine j_iload_n X (pc' := 8) 2 dX0_damageOf_7 rfl rfl rfl ?_
  refine j_iconst X (v := 1) (pc' := 9) dX0_damageOf_8 (by decide) rfl ?_
  refine j_icmp_ge X (tgt := 16) (pc' := 12) dX0_damageOf_9 (by decide) rfl (fun c_9 => ?_) (fun c_9 => ?_)
  · refine j_iload_n X (pc' := 17) 1 dX0_damageOf_16 rfl rfl rfl ?_
    refine j_iload_n X (pc' := 18) 1 dX0_damageOf_17 rfl rfl rfl ?_
    refine j_imul X (pc' := 19) dX0_damageOf_18 rfl ?_
    refine j_iload_n X (pc' := 20) 2 dX0_damageOf_19 rfl rfl rfl ?_
    refine j_idiv X (pc' := 21) dX0_damageOf_20 (by rintro rfl; exact absurd c_9 (by decide)) rfl ?_
    exact j_iretP X rfl rfl dX0_damageOf_21
  · refine j_iconst X (v := 0) (pc' := 13) dX0_damageOf_12 (by decide) rfl ?_
    refine j_goto X (pc' := 21) dX0_damageOf_13 (by decide) ?_
    exact j_iretP X rfl rfl dX0_damageOf_21
theorem c_X0_damageOf (l : Launch) (D : va_G) (cI cH cO : ClassId) (h : Nat) (ar : Nat → Nat) (C : Cst) (x1 : Int32)  : MI l yX0_damageOf cX0_damageOf 3 (some .int) 0 D (tyl cI cH cO) [.ref h, .int x1] ((wC cI h ar C)) (sX0_damageOf C x1) ((wC cI h ar C)) := fun sz => j_start (fun below s => (KP below [.ref h, .int x1].toArray s D (tyl cI cH cO) ((wC cI h ar C)))) (sX0_damageOf C x1) (by decide +kernel) rfl (Nat.le_of_ble_eq_true rfl) (fun below s hs _ => by subst hs; rfl) (fun p e s m below meth c _ X => b_X0_damageOf h ar C x1  X)
def sX0_placeOf (C : Cst) (x1 : Int32) : Int32 := (if 1 ≤ (C 9 0) then ltv ((C 10 0) % (C 9 0)) (fun (v2_19 : Int32) => (if x1 < v2_19 then ((x1 - v2_19) + (C 9 0)) else (x1 - v2_19))) else 0)
set_option maxHeartbeats 4000000 in
set_option maxRecDepth 100000 in
theorem b_X0_placeOf {p : Program} {l : Launch} {e : Env} {s : State} {m : MethodId} {args : Array Value} {below : List Frame} {meth : Method} {c : Code} {D : va_G} {cI cH cO : ClassId} (h : Nat) (ar : Nat → Nat) (C : Cst) (x1 : Int32)  (X : CX p s m args meth c cX0_placeOf 3 RX0 (some .int) D (tyl cI cH cO) (va_A ((wC cI h ar C)) s.heap.size)) : J p l e (rml 0) s m args below meth c 3 D (va_A ((wC cI h ar C)) s.heap.size) 0 0 (KP below args s D (tyl cI cH cO) ((wC cI h ar C))) (sX0_placeOf C x1) ((wC cI h ar C)) 0 [(0, .ref h), (1, .int x1)] [] := by
  unfold sX0_placeOf
  refine j_aload_n X (pc' := 1) 0 dX0_placeOf_0 rfl rfl rfl ?_
  refine j_get X inX0 rfl (pc' := 4) 0 9 q_fl_X0_47 (by decide) rfl rfl dX0_placeOf_1 rfl ?_
  refine j_iconst X (v := 1) (pc' := 5) dX0_placeOf_4 (by decide) rfl ?_
  refine j_icmp_ge X (tgt := 10) (pc' := 8) dX0_placeOf_5 (by decide) rfl (fun c_5 => ?_) (fun c_5 => ?_)
  · refine j_aload_n X (pc' := 11) 0 dX0_placeOf_10 rfl rfl rfl ?_
    refine j_get X inX0 rfl (pc' := 14) 0 10 q_fl_X0_50 (by decide) rfl rfl dX0_placeOf_11 rfl ?_
    refine j_aload_n X (pc' := 15) 0 dX0_placeOf_14 rfl rfl rfl ?_
    refine j_get X inX0 rfl (pc' := 18) 0 9 q_fl_X0_47 (by decide) rfl rfl dX0_placeOf_15 rfl ?_
    refine j_irem X (pc' := 19) dX0_placeOf_18 (by intro h; rw [h] at c_5; exact absurd c_5 (by decide)) rfl ?_
    refine j_istore_nL X (fun v2_19 => [(0, .ref h), (1, .int x1), (2, .int v2_19)]) [1, 2, 0] (pc' := 20) dX0_placeOf_19 rfl (by decide) (fun _ => rfl) rfl (fun v2_19 ev2_19 => ?_)
    refine j_iload_n X (pc' := 21) 1 dX0_placeOf_20 rfl rfl rfl ?_
    refine j_iload_n X (pc' := 22) 2 dX0_placeOf_21 rfl rfl rfl ?_
    refine j_icmp_lt X (tgt := 31) (pc' := 25) dX0_placeOf_22 (by decide) rfl (fun c_22 => ?_) (fun c_22 => ?_)
    · refine j_iload_n X (pc' := 32) 1 dX0_placeOf_31 rfl rfl rfl ?_
      refine j_iload_n X (pc' := 33) 2 dX0_placeOf_32 rfl rfl rfl ?_
      refine j_isub X (pc' := 34) dX0_placeOf_33 rfl ?_
      refine j_aload_n X (pc' := 35) 0 dX0_placeOf_34 rfl rfl rfl ?_
      refine j_get X inX0 rfl (pc' := 38) 0 9 q_fl_X0_47 (by decide) rfl rfl dX0_placeOf_35 rfl ?_
      refine j_iadd X (pc' := 39) dX0_placeOf_38 rfl ?_
      exact j_iretP X rfl rfl dX0_placeOf_39
    · refine j_iload_n X (pc' := 26) 1 dX0_placeOf_25 rfl rfl rfl ?_
      refine j_iload_n X (pc' := 27) 2 dX0_placeOf_26 rfl rfl rfl ?_
      refine j_isub X (pc' := 28) dX0_placeOf_27 rfl ?_
      refine j_goto X (pc' := 39) dX0_placeOf_28 (by decide) ?_
      exact j_iretP X rfl rfl dX0_placeOf_39
  · refine j_iconst X (v := 0) (pc' := 9) dX0_placeOf_8 (by decide) rfl ?_
    exact j_iretP X rfl rfl dX0_placeOf_9
theorem c_X0_placeOf (l : Launch) (D : va_G) (cI cH cO : ClassId) (h : Nat) (ar : Nat → Nat) (C : Cst) (x1 : Int32)  : MI l yX0_placeOf cX0_placeOf 3 (some .int) 0 D (tyl cI cH cO) [.ref h, .int x1] ((wC cI h ar C)) (sX0_placeOf C x1) ((wC cI h ar C)) := fun sz => j_start (fun below s => (KP below [.ref h, .int x1].toArray s D (tyl cI cH cO) ((wC cI h ar C)))) (sX0_placeOf C x1) (by decide +kernel) rfl (Nat.le_of_ble_eq_true rfl) (fun below s hs _ => by subst hs; rfl) (fun p e s m below meth c _ X => b_X0_placeOf h ar C x1  X)
end
section
theorem i32_ltP {x : Int32} {N : Nat} (hN : N < 2 ^ 31) (h : x < nI N) : x.toInt < N := by
  rw [Int32.lt_iff_toInt_lt, nI_toInt hN] at h; exact h
theorem i32_ltN {x : Int32} {N : Nat} (hN : N < 2 ^ 31) (h : ¬ nI N ≤ x) : x.toInt < N := i32_ltP hN (Int32.not_le.mp h)
theorem i32_nn {x : Int32} (h : ¬ x < 0) : 0 ≤ x.toInt := by
  have := Int32.not_lt.mp h; rw [Int32.le_iff_toInt_le] at this; exact this
theorem i32_lt8 {x : Int32} {i : Nat} (h : ¬ x ≤ nI i) (hx : x.toInt ≤ 8) (hi : i < 2 ^ 31) : i < 8 := by
  have h1 := Int32.not_le.mp h; rw [Int32.lt_iff_toInt_lt, nI_toInt hi] at h1; omega
theorem i32_ltT {x : Int32} {i : Nat} (hi : i ≤ x.toNatClampNeg) (h : ¬ x ≤ nI i) : i < x.toNatClampNeg := by
  have hb : x.toInt < 2 ^ 31 := Int32.toInt_lt x
  have hc : x.toNatClampNeg = x.toInt.toNat := rfl
  rw [hc] at hi ⊢
  have h1 := Int32.not_le.mp h; rw [Int32.lt_iff_toInt_lt, nI_toInt (by omega)] at h1; omega
theorem nI_bet {x : Int32} {N : Nat} (h1 : ¬ x < 0) (h2 : x < nI N) (hN : N < 2 ^ 31 := by decide) : ∃ j : Nat, j < N ∧ x = nI j := by
  obtain ⟨j, hj, rfl⟩ := nI_of h1
  exact ⟨j, (nI_ltI hj hN).mp h2, rfl⟩
theorem nI_nneg {x : Int32} (h : 0 ≤ x.toInt) : ∃ j : Nat, j < 2 ^ 31 ∧ x = nI j := nI_of (fun q => by rw [Int32.lt_iff_toInt_lt] at q; exact absurd q (by simpa using h))
theorem nI_mod {a b : Nat} (ha : a < 2 ^ 31) (hb : b < 2 ^ 31) : nI a % nI b = nI (a % b) := by
  apply Int32.toInt_inj.mp
  have h1 : a % b < 2 ^ 31 := Nat.lt_of_le_of_lt (Nat.mod_le a b) ha
  rw [Int32.toInt_mod, nI_toInt ha, nI_toInt hb, nI_toInt h1, Int.tmod_eq_emod_of_nonneg (by omega)]
  rfl
theorem has_in {C : Cst} {x : Int32} (h : ¬ sX0_has C x = 0) : vp_in x 8 := by
  unfold sX0_has at h
  split at h
  · exact absurd rfl h
  · rename_i h1
    split at h
    · exact absurd rfl h
    · split at h
      · exact absurd rfl h
      · rename_i h3
        exact vp_in_iff.mpr ⟨i32_nn h1, i32_ltN (N := 8) (by decide) h3⟩
theorem kS_in {C : Cst} {v : Int32} (hS0 : 0 ≤ (C 10 0).toInt) (hv : v = ((C 10 0) % 6) * 5) (w : Nat) (hw : w < 5) : vp_in (v + nI w) 30 := by
  obtain ⟨t, ht, e⟩ := nI_nneg hS0
  rw [hv, e, show (6 : Int32) = nI 6 from rfl, show (5 : Int32) = nI 5 from rfl, nI_mod ht (by decide), nI_mul, nI_add]
  exact vp_in_nI (by omega) (by decide)
theorem kS_in0 {C : Cst} {v : Int32} (hS0 : 0 ≤ (C 10 0).toInt) (hv : v = ((C 10 0) % 6) * 5) : vp_in v 30 := by
  obtain ⟨t, ht, e⟩ := nI_nneg hS0
  rw [hv, e, show (6 : Int32) = nI 6 from rfl, show (5 : Int32) = nI 5 from rfl, nI_mod ht (by decide), nI_mul]
  exact vp_in_nI (by omega) (by decide)
theorem nS_in {C : Cst} {i1 i2 : Nat} (hS0 : 0 ≤ (C 10 0).toInt) (hi1 : i1 < 6) (hi2 : i2 < 5) (hlt : ¬ (C 10 0) ≤ nI i1) : vp_in ((((((C 10 0) - 1) - (nI i1)) % 6) * 5) + (nI i2)) 30 := by
  obtain ⟨t, ht, e⟩ := nI_nneg hS0
  rw [e] at hlt ⊢
  have h1 : i1 < t := Nat.not_le.mp (fun q => hlt ((nI_leI ht (by omega)).mpr q))
  rw [show (6 : Int32) = nI 6 from rfl, show (5 : Int32) = nI 5 from rfl, show (1 : Int32) = nI 1 from rfl, nI_sub (by omega), nI_sub (by omega), nI_mod (by omega) (by decide), nI_mul, nI_add]
  exact vp_in_nI (by omega) (by decide)
theorem nA_in {x : Int32} (h1 : ¬ x < 20) (h2 : ¬ 25 ≤ x) : vp_in (x - 20) 5 := by
  have h0 : ¬ x < 0 := fun q => h1 (by rw [Int32.lt_iff_toInt_lt] at q ⊢; exact Int.lt_trans q (by decide))
  obtain ⟨j, hj, rfl⟩ := nI_of h0
  have g1 : 20 ≤ j := Nat.not_lt.mp (fun q => h1 ((nI_ltI (b := 20) hj (by decide)).mpr q))
  have g2 : j < 25 := Nat.not_le.mp (fun q => h2 ((nI_leI (a := 25) (by decide) hj).mpr q))
  rw [show (20 : Int32) = nI 20 from rfl, nI_sub g1]
  exact vp_in_nI (by omega) (by decide)
end
section
def sX0_allUnits (C : Cst) : Int32 := ltv (sX4_sumOf_2 C) (fun (r_4 : Int32) => r_4)
set_option maxHeartbeats 4000000 in
set_option maxRecDepth 100000 in
theorem b_X0_allUnits {p : Program} {l : Launch} {e : Env} {s : State} {m : MethodId} {args : Array Value} {below : List Frame} {meth : Method} {c : Code} {D : va_G} {cI cH cO : ClassId} (h : Nat) (ar : Nat → Nat) (C : Cst)  (X : CX p s m args meth c cX0_allUnits 1 RX0 (some .int) D (tyl cI cH cO) (va_A ((wC cI h ar C)) s.heap.size)) : J p l e (rml 1) s m args below meth c 1 D (va_A ((wC cI h ar C)) s.heap.size) 0 0 (KP below args s D (tyl cI cH cO) ((wC cI h ar C))) (sX0_allUnits C) ((wC cI h ar C)) 0 [(0, .ref h)] [] := by
  unfold sX0_allUnits
  refine j_aload_n X (pc' := 1) 0 dX0_allUnits_0 rfl rfl rfl ?_
  refine j_get X inX0 rfl (pc' := 4) 0 2 q_fl_X0_18 (by decide) rfl rfl dX0_allUnits_1 rfl ?_
  refine j_callNi X (pc' := 7) (As := [.ref (ar 2)]) (rest := []) (c_X4_sumOf_2 l D cI cH cO h ar C ) X.2.2.1.2.2.2.2.2.2.1 wn_X0_68 ⟨by decide, by decide, by decide, by decide⟩ rfl rfl (Nat.le_of_ble_eq_true rfl) dX0_allUnits_4 rfl ?_
  refine j_topL (fun r_4 er_4 => ?_)
  exact j_iretP X rfl rfl dX0_allUnits_7
theorem c_X0_allUnits (l : Launch) (D : va_G) (cI cH cO : ClassId) (h : Nat) (ar : Nat → Nat) (C : Cst)  : MI l yX0_allUnits cX0_allUnits 1 (some .int) 1 D (tyl cI cH cO) [.ref h] ((wC cI h ar C)) (sX0_allUnits C) ((wC cI h ar C)) := fun sz => j_start (fun below s => (KP below [.ref h].toArray s D (tyl cI cH cO) ((wC cI h ar C)))) (sX0_allUnits C) (by decide +kernel) rfl (Nat.le_of_ble_eq_true rfl) (fun below s hs _ => by subst hs; rfl) (fun p e s m below meth c _ X => b_X0_allUnits h ar C  X)
def sX0_unitsAhead (C : Cst) (x1 : Int32) : Int32 := ltl3 (fun R11 (x2 : Int32) (x3 : Int32) (i4 : Nat) => ltv (fun (x2 : Int32) (x3 : Int32) (i4 : Nat) => R11 x2 x3 (i4 + 1)) (fun K38 => ((if 8 ≤ (nI i4) then x3 else ltv (sX0_placeOf C (nI i4)) (fun (r_21 : Int32) => (if x2 ≤ r_21 then K38 x2 x3 i4 else ltv (x3 + (C 2 i4)) (fun (v3_37 : Int32) => K38 x2 v3_37 i4))))))) (fun (x2 : Int32) (x3 : Int32) (i4 : Nat) => 0) (fun L11 => (ltv (sX0_placeOf C x1) (fun (r_2 : Int32) => L11 9 r_2 0 0)))
set_option maxHeartbeats 4000000 in
set_option maxRecDepth 100000 in
theorem b_X0_unitsAhead {p : Program} {l : Launch} {e : Env} {s : State} {m : MethodId} {args : Array Value} {below : List Frame} {meth : Method} {c : Code} {D : va_G} {cI cH cO : ClassId} (h : Nat) (ar : Nat → Nat) (C : Cst) (x1 : Int32)  (X : CX p s m args meth c cX0_unitsAhead 5 RX0 (some .int) D (tyl cI cH cO) (va_A ((wC cI h ar C)) s.heap.size)) : J p l e (rml 1) s m args below meth c 5 D (va_A ((wC cI h ar C)) s.heap.size) 0 0 (KP below args s D (tyl cI cH cO) ((wC cI h ar C))) (sX0_unitsAhead C x1) ((wC cI h ar C)) 0 [(0, .ref h), (1, .int x1)] [] := by
  unfold sX0_unitsAhead
  refine j_ltl3 (fun L11 eL11 => ?_)
  have hL11 : ∀ (n11 : Nat) (x2 : Int32) (x3 : Int32) (i4 : Nat) (hi : i4 ≤ 8) (hfu : 9 ≤ i4 + n11), J p l e (rml 1) s m args below meth c 5 D (va_A ((wC cI h ar C)) s.heap.size) 0 0 (KP below args s D (tyl cI cH cO) ((wC cI h ar C))) (L11 n11 x2 x3 i4) ((wC cI h ar C)) 11 [(0, .ref h), (2, .int x2), (3, .int x3), (4, .int (nI i4))] [] := by
    intro n11
    induction n11 with
    | zero =>
      intro x2 x3 i4 hi hfu
      exact absurd hfu (by omega)
    | succ n11 ih11 =>
      intro x2 x3 i4 hi hfu
      rw [eL11]
      refine j_ltv (fun K38 eK38 => ?_)
      have hK38 : ∀ (x2 : Int32) (x3 : Int32) (i4 : Nat) (hi : i4 < 8) (hfu : 9 ≤ i4 + (n11 + 1)), J p l e (rml 1) s m args below meth c 5 D (va_A ((wC cI h ar C)) s.heap.size) 0 0 (KP below args s D (tyl cI cH cO) ((wC cI h ar C))) (K38 x2 x3 i4) ((wC cI h ar C)) 38 [(0, .ref h), (2, .int x2), (3, .int x3), (4, .int (nI i4))] [] := by
        intro x2 x3 i4 hi hfu
        rw [eK38]
        refine j_iinc X (v := (nI (i4 + 1))) (lv' := [(0, .ref h), (2, .int x2), (3, .int x3), (4, .int (nI (i4 + 1)))]) (q := 3) (pc' := 41) [1, 2, 3, 0] dX0_unitsAhead_38 rfl (nI_1 i4) (by decide) rfl rfl ?_
        refine j_goto X (pc' := 11) dX0_unitsAhead_41 (by decide) ?_
        refine j_lv [0, 1, 2, 3] (lv' := [(0, .ref h), (2, .int x2), (3, .int x3), (4, .int (nI (i4 + 1)))]) rfl ?_
        exact ih11 _ _ _ (by first | omega | assumption | decide | (subst_vars; first | assumption | omega)) (by first | omega | assumption | decide | (subst_vars; first | assumption | omega))
      refine j_iload X (pc' := 13) 3 dX0_unitsAhead_11 rfl rfl ?_
      refine j_bipush X (v := 8) (pc' := 15) dX0_unitsAhead_13 (by decide) rfl ?_
      refine j_icmp_ge X (tgt := 44) (pc' := 18) dX0_unitsAhead_15 (by decide) rfl (fun c_15 => ?_) (fun c_15 => ?_)
      · have f_15 : 8 ≤ i4 := (nI_leI (a := 8) (b := i4) (by omega) (by omega)).mp c_15
        refine j_iload_n X (pc' := 45) 2 dX0_unitsAhead_44 rfl rfl rfl ?_
        exact j_iretP X rfl rfl dX0_unitsAhead_45
      · have f_15 : ¬ (8 ≤ i4) := fun h => c_15 ((nI_leI (a := 8) (b := i4) (by omega) (by omega)).mpr h)
        refine j_aload_n X (pc' := 19) 0 dX0_unitsAhead_18 rfl rfl rfl ?_
        refine j_iload X (pc' := 21) 3 dX0_unitsAhead_19 rfl rfl ?_
        refine j_callVi X (pc' := 24) (As := [.int (nI i4)]) (rest := []) (c_X0_placeOf l D cI cH cO h ar C (nI i4) ) wv_X0_72 ⟨0, 0, _, _, rfl, rfl, rfl⟩ ⟨by decide, by decide, by decide, by decide⟩ rfl rfl (Nat.le_of_ble_eq_true rfl) dX0_unitsAhead_21 rfl ?_
        refine j_topL (fun r_21 er_21 => ?_)
        refine j_iload_n X (pc' := 25) 1 dX0_unitsAhead_24 rfl rfl rfl ?_
        refine j_icmp_ge X (tgt := 38) (pc' := 28) dX0_unitsAhead_25 (by decide) rfl (fun c_25 => ?_) (fun c_25 => ?_)
        · refine j_lv [0, 1, 2, 3] (lv' := [(0, .ref h), (2, .int x2), (3, .int x3), (4, .int (nI i4))]) rfl ?_
          exact hK38 _ _ _ (by first | omega | assumption | decide | (subst_vars; first | assumption | omega)) (by first | omega | assumption | decide | (subst_vars; first | assumption | omega))
        · refine j_iload_n X (pc' := 29) 2 dX0_unitsAhead_28 rfl rfl rfl ?_
          refine j_aload_n X (pc' := 30) 0 dX0_unitsAhead_29 rfl rfl rfl ?_
          refine j_get X inX0 rfl (pc' := 33) 0 2 q_fl_X0_18 (by decide) rfl rfl dX0_unitsAhead_30 rfl ?_
          refine j_iload X (pc' := 35) 3 dX0_unitsAhead_33 rfl rfl ?_
          refine j_ialdN X (i := i4) (pc' := 36) 3 rfl (by omega) (by decide) dX0_unitsAhead_35 rfl ?_
          refine j_iadd X (pc' := 37) dX0_unitsAhead_36 rfl ?_
          refine j_istore_nL X (fun v3_37 => [(0, .ref h), (2, .int x2), (3, .int v3_37), (4, .int (nI i4))]) [1, 2, 0, 3] (pc' := 38) dX0_unitsAhead_37 rfl (by decide) (fun _ => rfl) rfl (fun v3_37 ev3_37 => ?_)
          refine j_lv [0, 1, 2, 3] (lv' := [(0, .ref h), (2, .int x2), (3, .int v3_37), (4, .int (nI i4))]) rfl ?_
          exact hK38 _ _ _ (by first | omega | assumption | decide | (subst_vars; first | assumption | omega)) (by first | omega | assumption | decide | (subst_vars; first | assumption | omega))
  refine j_aload_n X (pc' := 1) 0 dX0_unitsAhead_0 rfl rfl rfl ?_
  refine j_iload_n X (pc' := 2) 1 dX0_unitsAhead_1 rfl rfl rfl ?_
  refine j_callVi X (pc' := 5) (As := [.int x1]) (rest := []) (c_X0_placeOf l D cI cH cO h ar C x1 ) wv_X0_72 ⟨0, 0, _, _, rfl, rfl, rfl⟩ ⟨by decide, by decide, by decide, by decide⟩ rfl rfl (Nat.le_of_ble_eq_true rfl) dX0_unitsAhead_2 rfl ?_
  refine j_topL (fun r_2 er_2 => ?_)
  refine j_istore_n X (lv' := [(0, .ref h), (1, .int x1), (2, .int r_2)]) (pc' := 6) [1, 2, 0] dX0_unitsAhead_5 rfl (by decide) rfl rfl ?_
  refine j_iconst X (v := 0) (pc' := 7) dX0_unitsAhead_6 (by decide) rfl ?_
  refine j_istore_n X (lv' := [(0, .ref h), (1, .int x1), (2, .int r_2), (3, .int 0)]) (pc' := 8) [1, 2, 3, 0] dX0_unitsAhead_7 rfl (by decide) rfl rfl ?_
  refine j_iconst X (v := 0) (pc' := 9) dX0_unitsAhead_8 (by decide) rfl ?_
  refine j_istore X (lv' := [(0, .ref h), (1, .int x1), (2, .int r_2), (3, .int 0), (4, .int 0)]) (pc' := 11) [1, 2, 3, 4, 0] dX0_unitsAhead_9 (by decide) rfl rfl ?_
  refine j_lv [0, 2, 3, 4] (lv' := [(0, .ref h), (2, .int r_2), (3, .int 0), (4, .int 0)]) rfl ?_
  exact hL11 _ _ _ _ (by first | omega | assumption | decide | (subst_vars; first | assumption | omega)) (by first | omega | assumption | decide | (subst_vars; first | assumption | omega))
theorem c_X0_unitsAhead (l : Launch) (D : va_G) (cI cH cO : ClassId) (h : Nat) (ar : Nat → Nat) (C : Cst) (x1 : Int32)  : MI l yX0_unitsAhead cX0_unitsAhead 5 (some .int) 1 D (tyl cI cH cO) [.ref h, .int x1] ((wC cI h ar C)) (sX0_unitsAhead C x1) ((wC cI h ar C)) := fun sz => j_start (fun below s => (KP below [.ref h, .int x1].toArray s D (tyl cI cH cO) ((wC cI h ar C)))) (sX0_unitsAhead C x1) (by decide +kernel) rfl (Nat.le_of_ble_eq_true rfl) (fun below s hs _ => by subst hs; rfl) (fun p e s m below meth c _ X => b_X0_unitsAhead h ar C x1  X)
def sX0_damageAdded (C : Cst) (x1 : Int32) (x2 : Int32) : Int32 := ltv (sX0_damageOf C (x1 + x2)) (fun (r_4 : Int32) => ltv (sX0_damageOf C x1) (fun (r_9 : Int32) => (r_4 - r_9)))
set_option maxHeartbeats 4000000 in
set_option maxRecDepth 100000 in
theorem b_X0_damageAdded {p : Program} {l : Launch} {e : Env} {s : State} {m : MethodId} {args : Array Value} {below : List Frame} {meth : Method} {c : Code} {D : va_G} {cI cH cO : ClassId} (h : Nat) (ar : Nat → Nat) (C : Cst) (x1 : Int32) (x2 : Int32)  (X : CX p s m args meth c cX0_damageAdded 3 RX0 (some .int) D (tyl cI cH cO) (va_A ((wC cI h ar C)) s.heap.size)) : J p l e (rml 1) s m args below meth c 3 D (va_A ((wC cI h ar C)) s.heap.size) 0 0 (KP below args s D (tyl cI cH cO) ((wC cI h ar C))) (sX0_damageAdded C x1 x2) ((wC cI h ar C)) 0 [(0, .ref h), (1, .int x1), (2, .int x2)] [] := by
  unfold sX0_damageAdded
  refine j_aload_n X (pc' := 1) 0 dX0_damageAdded_0 rfl rfl rfl ?_
  refine j_iload_n X (pc' := 2) 1 dX0_damageAdded_1 rfl rfl rfl ?_
  refine j_iload_n X (pc' := 3) 2 dX0_damageAdded_2 rfl rfl rfl ?_
  refine j_iadd X (pc' := 4) dX0_damageAdded_3 rfl ?_
  refine j_callVi X (pc' := 7) (As := [.int (x1 + x2)]) (rest := []) (c_X0_damageOf l D cI cH cO h ar C (x1 + x2) ) wv_X0_83 ⟨0, 0, _, _, rfl, rfl, rfl⟩ ⟨by decide, by decide, by decide, by decide⟩ rfl rfl (Nat.le_of_ble_eq_true rfl) dX0_damageAdded_4 rfl ?_
  refine j_topL (fun r_4 er_4 => ?_)
  refine j_aload_n X (pc' := 8) 0 dX0_damageAdded_7 rfl rfl rfl ?_
  refine j_iload_n X (pc' := 9) 1 dX0_damageAdded_8 rfl rfl rfl ?_
  refine j_callVi X (pc' := 12) (As := [.int x1]) (rest := [.int r_4]) (c_X0_damageOf l D cI cH cO h ar C x1 ) wv_X0_83 ⟨0, 0, _, _, rfl, rfl, rfl⟩ ⟨by decide, by decide, by decide, by decide⟩ rfl rfl (Nat.le_of_ble_eq_true rfl) dX0_damageAdded_9 rfl ?_
  refine j_topL (fun r_9 er_9 => ?_)
  refine j_isub X (pc' := 13) dX0_damageAdded_12 rfl ?_
  exact j_iretP X rfl rfl dX0_damageAdded_13
theorem c_X0_damageAdded (l : Launch) (D : va_G) (cI cH cO : ClassId) (h : Nat) (ar : Nat → Nat) (C : Cst) (x1 : Int32) (x2 : Int32)  : MI l yX0_damageAdded cX0_damageAdded 3 (some .int) 1 D (tyl cI cH cO) [.ref h, .int x1, .int x2] ((wC cI h ar C)) (sX0_damageAdded C x1 x2) ((wC cI h ar C)) := fun sz => j_start (fun below s => (KP below [.ref h, .int x1, .int x2].toArray s D (tyl cI cH cO) ((wC cI h ar C)))) (sX0_damageAdded C x1 x2) (by decide +kernel) rfl (Nat.le_of_ble_eq_true rfl) (fun below s hs _ => by subst hs; rfl) (fun p e s m below meth c _ X => b_X0_damageAdded h ar C x1 x2  X)
def sX0_chargeOf (C : Cst) (i1 : Nat) : Int32 := ltv (sX0_unitsAhead C (nI i1)) (fun (r_3 : Int32) => ltv (sX0_damageAdded C r_3 (C 2 i1)) (fun (r_12 : Int32) => r_12))
set_option maxHeartbeats 4000000 in
set_option maxRecDepth 100000 in
theorem b_X0_chargeOf {p : Program} {l : Launch} {e : Env} {s : State} {m : MethodId} {args : Array Value} {below : List Frame} {meth : Method} {c : Code} {D : va_G} {cI cH cO : ClassId} (h : Nat) (ar : Nat → Nat) (C : Cst) (i1 : Nat) (hi1 : i1 < 8) (X : CX p s m args meth c cX0_chargeOf 2 RX0 (some .int) D (tyl cI cH cO) (va_A ((wC cI h ar C)) s.heap.size)) : J p l e (rml 2) s m args below meth c 2 D (va_A ((wC cI h ar C)) s.heap.size) 0 0 (KP below args s D (tyl cI cH cO) ((wC cI h ar C))) (sX0_chargeOf C i1) ((wC cI h ar C)) 0 [(0, .ref h), (1, .int (nI i1))] [] := by
  unfold sX0_chargeOf
  refine j_aload_n X (pc' := 1) 0 dX0_chargeOf_0 rfl rfl rfl ?_
  refine j_aload_n X (pc' := 2) 0 dX0_chargeOf_1 rfl rfl rfl ?_
  refine j_iload_n X (pc' := 3) 1 dX0_chargeOf_2 rfl rfl rfl ?_
  refine j_callVi X (pc' := 6) (As := [.int (nI i1)]) (rest := [.ref h]) (c_X0_unitsAhead l D cI cH cO h ar C (nI i1) ) wv_X0_76 ⟨0, 0, _, _, rfl, rfl, rfl⟩ ⟨by decide, by decide, by decide, by decide⟩ rfl rfl (Nat.le_of_ble_eq_true rfl) dX0_chargeOf_3 rfl ?_
  refine j_topL (fun r_3 er_3 => ?_)
  refine j_aload_n X (pc' := 7) 0 dX0_chargeOf_6 rfl rfl rfl ?_
  refine j_get X inX0 rfl (pc' := 10) 0 2 q_fl_X0_18 (by decide) rfl rfl dX0_chargeOf_7 rfl ?_
  refine j_iload_n X (pc' := 11) 1 dX0_chargeOf_10 rfl rfl rfl ?_
  refine j_ialdN X (i := i1) (pc' := 12) 3 rfl (by omega) (by decide) dX0_chargeOf_11 rfl ?_
  refine j_callVi X (pc' := 15) (As := [.int r_3, .int (C 2 i1)]) (rest := []) (c_X0_damageAdded l D cI cH cO h ar C r_3 (C 2 i1) ) wv_X0_79 ⟨0, 0, _, _, rfl, rfl, rfl⟩ ⟨by decide, by decide, by decide, by decide⟩ rfl rfl (Nat.le_of_ble_eq_true rfl) dX0_chargeOf_12 rfl ?_
  refine j_topL (fun r_12 er_12 => ?_)
  exact j_iretP X rfl rfl dX0_chargeOf_15
theorem c_X0_chargeOf (l : Launch) (D : va_G) (cI cH cO : ClassId) (h : Nat) (ar : Nat → Nat) (C : Cst) (i1 : Nat) (hi1 : i1 < 8) : MI l yX0_chargeOf cX0_chargeOf 2 (some .int) 2 D (tyl cI cH cO) [.ref h, .int (nI i1)] ((wC cI h ar C)) (sX0_chargeOf C i1) ((wC cI h ar C)) := fun sz => j_start (fun below s => (KP below [.ref h, .int (nI i1)].toArray s D (tyl cI cH cO) ((wC cI h ar C)))) (sX0_chargeOf C i1) (by decide +kernel) rfl (Nat.le_of_ble_eq_true rfl) (fun below s hs _ => by subst hs; rfl) (fun p e s m below meth c _ X => b_X0_chargeOf h ar C i1 hi1 X)
def sX0_gainBehind (C : Cst) (x1 : Int32) (x2 : Int32) (x3 : Int32) : Int32 := ltv (sX0_damageAdded C x1 x3) (fun (r_6 : Int32) => ((x2 * x3) - r_6))
set_option maxHeartbeats 4000000 in
set_option maxRecDepth 100000 in
theorem b_X0_gainBehind {p : Program} {l : Launch} {e : Env} {s : State} {m : MethodId} {args : Array Value} {below : List Frame} {meth : Method} {c : Code} {D : va_G} {cI cH cO : ClassId} (h : Nat) (ar : Nat → Nat) (C : Cst) (x1 : Int32) (x2 : Int32) (x3 : Int32)  (X : CX p s m args meth c cX0_gainBehind 4 RX0 (some .int) D (tyl cI cH cO) (va_A ((wC cI h ar C)) s.heap.size)) : J p l e (rml 2) s m args below meth c 4 D (va_A ((wC cI h ar C)) s.heap.size) 0 0 (KP below args s D (tyl cI cH cO) ((wC cI h ar C))) (sX0_gainBehind C x1 x2 x3) ((wC cI h ar C)) 0 [(0, .ref h), (1, .int x1), (2, .int x2), (3, .int x3)] [] := by
  unfold sX0_gainBehind
  refine j_iload_n X (pc' := 1) 2 dX0_gainBehind_0 rfl rfl rfl ?_
  refine j_iload_n X (pc' := 2) 3 dX0_gainBehind_1 rfl rfl rfl ?_
  refine j_imul X (pc' := 3) dX0_gainBehind_2 rfl ?_
  refine j_aload_n X (pc' := 4) 0 dX0_gainBehind_3 rfl rfl rfl ?_
  refine j_iload_n X (pc' := 5) 1 dX0_gainBehind_4 rfl rfl rfl ?_
  refine j_iload_n X (pc' := 6) 3 dX0_gainBehind_5 rfl rfl rfl ?_
  refine j_callVi X (pc' := 9) (As := [.int x1, .int x3]) (rest := [.int (x2 * x3)]) (c_X0_damageAdded l D cI cH cO h ar C x1 x3 ) wv_X0_79 ⟨0, 0, _, _, rfl, rfl, rfl⟩ ⟨by decide, by decide, by decide, by decide⟩ rfl rfl (Nat.le_of_ble_eq_true rfl) dX0_gainBehind_6 rfl ?_
  refine j_topL (fun r_6 er_6 => ?_)
  refine j_isub X (pc' := 10) dX0_gainBehind_9 rfl ?_
  exact j_iretP X rfl rfl dX0_gainBehind_10
theorem c_X0_gainBehind (l : Launch) (D : va_G) (cI cH cO : ClassId) (h : Nat) (ar : Nat → Nat) (C : Cst) (x1 : Int32) (x2 : Int32) (x3 : Int32)  : MI l yX0_gainBehind cX0_gainBehind 4 (some .int) 2 D (tyl cI cH cO) [.ref h, .int x1, .int x2, .int x3] ((wC cI h ar C)) (sX0_gainBehind C x1 x2 x3) ((wC cI h ar C)) := fun sz => j_start (fun below s => (KP below [.ref h, .int x1, .int x2, .int x3].toArray s D (tyl cI cH cO) ((wC cI h ar C)))) (sX0_gainBehind C x1 x2 x3) (by decide +kernel) rfl (Nat.le_of_ble_eq_true rfl) (fun below s hs _ => by subst hs; rfl) (fun p e s m below meth c _ X => b_X0_gainBehind h ar C x1 x2 x3  X)
def sX0_addMember (C : Cst) (x1 : Int32) : Int32 × Cst := (if x1 < 0 then ((-10001), C) else (if x1 ≤ 30 then (if (C 9 0) < 8 then ltv (up C 1 (C 9 0).toNatClampNeg x1) (fun (S_36 : Cst) => ltv (up S_36 9 0 ((S_36 9 0) + 1)) (fun (S_44 : Cst) => (((S_44 9 0) - 1), S_44))) else ((-10003), C)) else ((-10001), C)))
set_option maxHeartbeats 4000000 in
set_option maxRecDepth 100000 in
theorem b_X0_addMember {p : Program} {l : Launch} {e : Env} {s : State} {m : MethodId} {args : Array Value} {below : List Frame} {meth : Method} {c : Code} {D : va_G} {cI cH cO : ClassId} {ws0 : va_W} (h : Nat) (ar : Nat → Nat) (C : Cst) (x1 : Int32) (hM0 : 0 ≤ (C 9 0).toInt) (X : CX p s m args meth c cX0_addMember 2 RX0 (some .int) D (tyl cI cH cO) (va_A ws0 s.heap.size)) : J p l e (rml 0) s m args below meth c 2 D (va_A ws0 s.heap.size) 0 0 (KI below args s D (tyl cI cH cO) ws0 (fun C9 => (wC cI h ar C9))) (sX0_addMember C x1) ((wC cI h ar C)) 0 [(0, .ref h), (1, .int x1)] [] := by
  unfold sX0_addMember
  refine j_iload_n X (pc' := 1) 1 dX0_addMember_0 rfl rfl rfl ?_
  refine j_if_lt X (tgt := 10) (pc' := 4) dX0_addMember_1 (by decide) rfl (fun c_1 => ?_) (fun c_1 => ?_)
  · refine j_sipush X (v := (-10001)) (pc' := 13) dX0_addMember_10 (by decide) rfl ?_
    exact j_iretI X rfl rfl dX0_addMember_13
  · refine j_iload_n X (pc' := 5) 1 dX0_addMember_4 rfl rfl rfl ?_
    refine j_bipush X (v := 30) (pc' := 7) dX0_addMember_5 (by decide) rfl ?_
    refine j_icmp_le X (tgt := 14) (pc' := 10) dX0_addMember_7 (by decide) rfl (fun c_7 => ?_) (fun c_7 => ?_)
    · refine j_aload_n X (pc' := 15) 0 dX0_addMember_14 rfl rfl rfl ?_
      refine j_get X inX0 rfl (pc' := 18) 0 9 q_fl_X0_47 (by decide) rfl rfl dX0_addMember_15 rfl ?_
      refine j_bipush X (v := 8) (pc' := 20) dX0_addMember_18 (by decide) rfl ?_
      refine j_icmp_lt X (tgt := 27) (pc' := 23) dX0_addMember_20 (by decide) rfl (fun c_20 => ?_) (fun c_20 => ?_)
      · refine j_aload_n X (pc' := 28) 0 dX0_addMember_27 rfl rfl rfl ?_
        refine j_get X inX0 rfl (pc' := 31) 0 1 q_fl_X0_15 (by decide) rfl rfl dX0_addMember_28 rfl ?_
        refine j_aload_n X (pc' := 32) 0 dX0_addMember_31 rfl rfl rfl ?_
        refine j_get X inX0 rfl (pc' := 35) 0 9 q_fl_X0_47 (by decide) rfl rfl dX0_addMember_32 rfl ?_
        refine j_iload_n X (pc' := 36) 1 dX0_addMember_35 rfl rfl rfl ?_
        refine j_iast X (pc' := 37) (S := up C 1 (C 9 0).toNatClampNeg x1) (fun S_36 => (wC cI h ar S_36)) 2 rfl rfl (vp_in_iff.mpr ⟨hM0, by have := i32_ltP (N := 8) (by omega) c_20; omega⟩) dX0_addMember_36 rfl (fun S_36 eS_36 => ?_)
        refine j_aload_n X (pc' := 38) 0 dX0_addMember_37 rfl rfl rfl ?_
        refine j_dup X (pc' := 39) dX0_addMember_38 rfl rfl ?_
        refine j_get X inX0 rfl (pc' := 42) 0 9 q_fl_X0_47 (by decide) rfl rfl dX0_addMember_39 rfl ?_
        refine j_iconst X (v := 1) (pc' := 43) dX0_addMember_42 (by decide) rfl ?_
        refine j_iadd X (pc' := 44) dX0_addMember_43 rfl ?_
        refine j_put X inX0 rfl (pc' := 47) tyX0_ok nmX0 (S := up S_36 9 0 ((S_36 9 0) + 1)) (fun S_44 => (wC cI h ar S_44)) 0 9 q_fl_X0_47 (by decide) rfl rfl rfl rfl (Nat.le_of_ble_eq_true rfl) rfl dX0_addMember_44 rfl (fun S_44 eS_44 => ?_)
        refine j_aload_n X (pc' := 48) 0 dX0_addMember_47 rfl rfl rfl ?_
        refine j_get X inX0 rfl (pc' := 51) 0 9 q_fl_X0_47 (by decide) rfl rfl dX0_addMember_48 rfl ?_
        refine j_iconst X (v := 1) (pc' := 52) dX0_addMember_51 (by decide) rfl ?_
        refine j_isub X (pc' := 53) dX0_addMember_52 rfl ?_
        exact j_iretI X rfl rfl dX0_addMember_53
      · refine j_sipush X (v := (-10003)) (pc' := 26) dX0_addMember_23 (by decide) rfl ?_
        exact j_iretI X rfl rfl dX0_addMember_26
    · refine j_sipush X (v := (-10001)) (pc' := 13) dX0_addMember_10 (by decide) rfl ?_
      exact j_iretI X rfl rfl dX0_addMember_13
theorem c_X0_addMember (l : Launch) (D : va_G) (cI cH cO : ClassId) (h : Nat) (ar : Nat → Nat) (C : Cst) (x1 : Int32) (hM0 : 0 ≤ (C 9 0).toInt) : MI l yX0_addMember cX0_addMember 2 (some .int) 0 D (tyl cI cH cO) [.ref h, .int x1] ((wC cI h ar C)) (sX0_addMember C x1).1 ((wC cI h ar ((sX0_addMember C x1).2))) := fun sz => j_start (fun below s => (KI below [.ref h, .int x1].toArray s D (tyl cI cH cO) ((wC cI h ar C)) (fun C9 => (wC cI h ar C9)))) (sX0_addMember C x1) (by decide +kernel) rfl (Nat.le_of_ble_eq_true rfl) (fun below s hs _ => by subst hs; rfl) (fun p e s m below meth c _ X => b_X0_addMember h ar C x1 hM0 X)
def sX0_declareUse (C : Cst) (x1 : Int32) (x2 : Int32) : Int32 × Cst := ltv (fun (C : Cst) (i1 : Nat) (x2 : Int32) => ltv (sX0_isOut C (nI i1)) (fun (r_21 : Int32) => (if r_21 = 0 then ltv (up C 2 i1 x2) (fun (S_37 : Cst) => ltv (sX0_chargeOf S_37 i1) (fun (r_40 : Int32) => (r_40, S_37))) else ((-10002), C)))) (fun K19 => (ltv (sX0_has C x1) (fun (r_2 : Int32) => (if r_2 = 0 then ((-10001), C) else ltv (sX4_isUnits x2) (fun (r_9 : Int32) => (if ¬ r_9 = 0 then K19 C x1.toNatClampNeg x2 else ((-10001), C)))))))
set_option maxHeartbeats 4000000 in
set_option maxRecDepth 100000 in
theorem b_X0_declareUse {p : Program} {l : Launch} {e : Env} {s : State} {m : MethodId} {args : Array Value} {below : List Frame} {meth : Method} {c : Code} {D : va_G} {cI cH cO : ClassId} {ws0 : va_W} (h : Nat) (ar : Nat → Nat) (C : Cst) (x1 : Int32) (x2 : Int32)  (X : CX p s m args meth c cX0_declareUse 3 RX0 (some .int) D (tyl cI cH cO) (va_A ws0 s.heap.size)) : J p l e (rml 3) s m args below meth c 3 D (va_A ws0 s.heap.size) 0 0 (KI below args s D (tyl cI cH cO) ws0 (fun C9 => (wC cI h ar C9))) (sX0_declareUse C x1 x2) ((wC cI h ar C)) 0 [(0, .ref h), (1, .int x1), (2, .int x2)] [] := by
  unfold sX0_declareUse
  refine j_ltv (fun K19 eK19 => ?_)
  have hK19 : ∀ (C : Cst) (i1 : Nat) (x2 : Int32) (hi1 : i1 < 8), J p l e (rml 3) s m args below meth c 3 D (va_A ws0 s.heap.size) 0 0 (KI below args s D (tyl cI cH cO) ws0 (fun C9 => (wC cI h ar C9))) (K19 C i1 x2) ((wC cI h ar C)) 19 [(0, .ref h), (1, .int (nI i1)), (2, .int x2)] [] := by
    intro C i1 x2 hi1
    rw [eK19]
    refine j_aload_n X (pc' := 20) 0 dX0_declareUse_19 rfl rfl rfl ?_
    refine j_iload_n X (pc' := 21) 1 dX0_declareUse_20 rfl rfl rfl ?_
    refine j_callVi X (pc' := 24) (As := [.int (nI i1)]) (rest := []) (c_X0_isOut l D cI cH cO h ar C (nI i1) ) wv_X0_93 ⟨0, 0, _, _, rfl, rfl, rfl⟩ ⟨by decide, by decide, by decide, by decide⟩ rfl rfl (Nat.le_of_ble_eq_true rfl) dX0_declareUse_21 rfl ?_
    refine j_topL (fun r_21 er_21 => ?_)
    refine j_if_eq X (tgt := 31) (pc' := 27) dX0_declareUse_24 (by decide) rfl (fun c_24 => ?_) (fun c_24 => ?_)
    · refine j_aload_n X (pc' := 32) 0 dX0_declareUse_31 rfl rfl rfl ?_
      refine j_get X inX0 rfl (pc' := 35) 0 2 q_fl_X0_18 (by decide) rfl rfl dX0_declareUse_32 rfl ?_
      refine j_iload_n X (pc' := 36) 1 dX0_declareUse_35 rfl rfl rfl ?_
      refine j_iload_n X (pc' := 37) 2 dX0_declareUse_36 rfl rfl rfl ?_
      refine j_iastN X (i := i1) (pc' := 38) (S := up C 2 i1 x2) (fun S_37 => (wC cI h ar S_37)) 3 rfl rfl (by omega) (by decide) dX0_declareUse_37 rfl (fun S_37 eS_37 => ?_)
      refine j_aload_n X (pc' := 39) 0 dX0_declareUse_38 rfl rfl rfl ?_
      refine j_iload_n X (pc' := 40) 1 dX0_declareUse_39 rfl rfl rfl ?_
      refine j_callVi X (pc' := 43) (As := [.int (nI i1)]) (rest := []) (c_X0_chargeOf l D cI cH cO h ar S_37 i1 (by first | omega | assumption | decide | (subst_vars; first | assumption | omega))) wv_X0_96 ⟨0, 0, _, _, rfl, rfl, rfl⟩ ⟨by decide, by decide, by decide, by decide⟩ rfl rfl (Nat.le_of_ble_eq_true rfl) dX0_declareUse_40 rfl ?_
      refine j_topL (fun r_40 er_40 => ?_)
      exact j_iretI X rfl rfl dX0_declareUse_43
    · refine j_sipush X (v := (-10002)) (pc' := 30) dX0_declareUse_27 (by decide) rfl ?_
      exact j_iretI X rfl rfl dX0_declareUse_30
  refine j_aload_n X (pc' := 1) 0 dX0_declareUse_0 rfl rfl rfl ?_
  refine j_iload_n X (pc' := 2) 1 dX0_declareUse_1 rfl rfl rfl ?_
  refine j_callVi X (pc' := 5) (As := [.int x1]) (rest := []) (c_X0_has l D cI cH cO h ar C x1 ) wv_X0_86 ⟨0, 0, _, _, rfl, rfl, rfl⟩ ⟨by decide, by decide, by decide, by decide⟩ rfl rfl (Nat.le_of_ble_eq_true rfl) dX0_declareUse_2 rfl ?_
  refine j_topL (fun r_2 er_2 => ?_)
  refine j_if_eq X (tgt := 15) (pc' := 8) dX0_declareUse_5 (by decide) rfl (fun c_5 => ?_) (fun c_5 => ?_)
  · refine j_sipush X (v := (-10001)) (pc' := 18) dX0_declareUse_15 (by decide) rfl ?_
    exact j_iretI X rfl rfl dX0_declareUse_18
  · refine j_iload_n X (pc' := 9) 2 dX0_declareUse_8 rfl rfl rfl ?_
    refine j_callNiF X (pc' := 12) (As := [.int x2]) (rest := []) (ws' := (wC cI h ar C)) (wr := (wC cI h ar C)) [] [0, 1, 2, 3, 4, 5, 6, 7, 8, 9] [0, 1, 2, 3, 4, 5, 6, 7, 8, 9] rfl rfl ⟨by decide, by decide, by decide, by decide⟩ rfl (c_X4_isUnits l D cI cH cO x2 ) X.2.2.1.2.2.2.2.2.1 wn_X0_90 ⟨by decide, by decide, by decide, by decide⟩ rfl rfl (Nat.le_of_ble_eq_true rfl) dX0_declareUse_9 rfl ?_
    refine j_topL (fun r_9 er_9 => ?_)
    refine j_if_ne X (tgt := 19) (pc' := 15) dX0_declareUse_12 (by decide) rfl (fun c_12 => ?_) (fun c_12 => ?_)
    · obtain ⟨j_12, hj_12, ej_12⟩ : ∃ j : Nat, j < 8 ∧ x1 = nI j := vp_in_of (has_in (by rw [← er_2]; exact c_5)) (by decide)
      subst ej_12
      rw [nI_clamp (show j_12 < 2 ^ 31 by omega)]
      refine j_lv [0, 1, 2] (lv' := _) rfl ?_
      exact hK19 _ _ _ (by first | omega | assumption | decide | (subst_vars; first | assumption | omega))
    · refine j_sipush X (v := (-10001)) (pc' := 18) dX0_declareUse_15 (by decide) rfl ?_
      exact j_iretI X rfl rfl dX0_declareUse_18
theorem c_X0_declareUse (l : Launch) (D : va_G) (cI cH cO : ClassId) (h : Nat) (ar : Nat → Nat) (C : Cst) (x1 : Int32) (x2 : Int32)  : MI l yX0_declareUse cX0_declareUse 3 (some .int) 3 D (tyl cI cH cO) [.ref h, .int x1, .int x2] ((wC cI h ar C)) (sX0_declareUse C x1 x2).1 ((wC cI h ar ((sX0_declareUse C x1 x2).2))) := fun sz => j_start (fun below s => (KI below [.ref h, .int x1, .int x2].toArray s D (tyl cI cH cO) ((wC cI h ar C)) (fun C9 => (wC cI h ar C9)))) (sX0_declareUse C x1 x2) (by decide +kernel) rfl (Nat.le_of_ble_eq_true rfl) (fun below s hs _ => by subst hs; rfl) (fun p e s m below meth c _ X => b_X0_declareUse h ar C x1 x2  X)
def sX0_payCoins (C : Cst) (x1 : Int32) (x2 : Int32) : Int32 × Cst := ltv (fun (C : Cst) (i1 : Nat) (x2 : Int32) => (if x2 ≤ (C 3 i1) then ltv (up C 3 i1 ((C 3 i1) - x2)) (fun (S_47 : Cst) => ltv (up S_47 4 i1 ((S_47 4 i1) + x2)) (fun (S_57 : Cst) => ltv (up S_57 12 0 ((S_57 12 0) + x2)) (fun (S_65 : Cst) => ((S_65 3 i1), S_65)))) else ((-10002), C))) (fun K24 => (ltv (sX0_has C x1) (fun (r_2 : Int32) => (if r_2 = 0 then ((-10001), C) else (if x2 < 1 then ((-10001), C) else (if x2 ≤ 999 then K24 C x1.toNatClampNeg x2 else ((-10001), C)))))))
set_option maxHeartbeats 4000000 in
set_option maxRecDepth 100000 in
theorem b_X0_payCoins {p : Program} {l : Launch} {e : Env} {s : State} {m : MethodId} {args : Array Value} {below : List Frame} {meth : Method} {c : Code} {D : va_G} {cI cH cO : ClassId} {ws0 : va_W} (h : Nat) (ar : Nat → Nat) (C : Cst) (x1 : Int32) (x2 : Int32)  (X : CX p s m args meth c cX0_payCoins 3 RX0 (some .int) D (tyl cI cH cO) (va_A ws0 s.heap.size)) : J p l e (rml 1) s m args below meth c 3 D (va_A ws0 s.heap.size) 0 0 (KI below args s D (tyl cI cH cO) ws0 (fun C9 => (wC cI h ar C9))) (sX0_payCoins C x1 x2) ((wC cI h ar C)) 0 [(0, .ref h), (1, .int x1), (2, .int x2)] [] := by
  unfold sX0_payCoins
  refine j_ltv (fun K24 eK24 => ?_)
  have hK24 : ∀ (C : Cst) (i1 : Nat) (x2 : Int32) (hi1 : i1 < 8), J p l e (rml 1) s m args below meth c 3 D (va_A ws0 s.heap.size) 0 0 (KI below args s D (tyl cI cH cO) ws0 (fun C9 => (wC cI h ar C9))) (K24 C i1 x2) ((wC cI h ar C)) 24 [(0, .ref h), (1, .int (nI i1)), (2, .int x2)] [] := by
    intro C i1 x2 hi1
    rw [eK24]
    refine j_aload_n X (pc' := 25) 0 dX0_payCoins_24 rfl rfl rfl ?_
    refine j_get X inX0 rfl (pc' := 28) 0 3 q_fl_X0_21 (by decide) rfl rfl dX0_payCoins_25 rfl ?_
    refine j_iload_n X (pc' := 29) 1 dX0_payCoins_28 rfl rfl rfl ?_
    refine j_ialdN X (i := i1) (pc' := 30) 4 rfl (by omega) (by decide) dX0_payCoins_29 rfl ?_
    refine j_iload_n X (pc' := 31) 2 dX0_payCoins_30 rfl rfl rfl ?_
    refine j_icmp_ge X (tgt := 38) (pc' := 34) dX0_payCoins_31 (by decide) rfl (fun c_31 => ?_) (fun c_31 => ?_)
    · refine j_aload_n X (pc' := 39) 0 dX0_payCoins_38 rfl rfl rfl ?_
      refine j_get X inX0 rfl (pc' := 42) 0 3 q_fl_X0_21 (by decide) rfl rfl dX0_payCoins_39 rfl ?_
      refine j_iload_n X (pc' := 43) 1 dX0_payCoins_42 rfl rfl rfl ?_
      refine j_dup2 X (pc' := 44) dX0_payCoins_43 rfl rfl rfl ?_
      refine j_ialdN X (i := i1) (pc' := 45) 4 rfl (by omega) (by decide) dX0_payCoins_44 rfl ?_
      refine j_iload_n X (pc' := 46) 2 dX0_payCoins_45 rfl rfl rfl ?_
      refine j_isub X (pc' := 47) dX0_payCoins_46 rfl ?_
      refine j_iastN X (i := i1) (pc' := 48) (S := up C 3 i1 ((C 3 i1) - x2)) (fun S_47 => (wC cI h ar S_47)) 4 rfl rfl (by omega) (by decide) dX0_payCoins_47 rfl (fun S_47 eS_47 => ?_)
      refine j_aload_n X (pc' := 49) 0 dX0_payCoins_48 rfl rfl rfl ?_
      refine j_get X inX0 rfl (pc' := 52) 0 4 q_fl_X0_24 (by decide) rfl rfl dX0_payCoins_49 rfl ?_
      refine j_iload_n X (pc' := 53) 1 dX0_payCoins_52 rfl rfl rfl ?_
      refine j_dup2 X (pc' := 54) dX0_payCoins_53 rfl rfl rfl ?_
      refine j_ialdN X (i := i1) (pc' := 55) 5 rfl (by omega) (by decide) dX0_payCoins_54 rfl ?_
      refine j_iload_n X (pc' := 56) 2 dX0_payCoins_55 rfl rfl rfl ?_
      refine j_iadd X (pc' := 57) dX0_payCoins_56 rfl ?_
      refine j_iastN X (i := i1) (pc' := 58) (S := up S_47 4 i1 ((S_47 4 i1) + x2)) (fun S_57 => (wC cI h ar S_57)) 5 rfl rfl (by omega) (by decide) dX0_payCoins_57 rfl (fun S_57 eS_57 => ?_)
      refine j_aload_n X (pc' := 59) 0 dX0_payCoins_58 rfl rfl rfl ?_
      refine j_dup X (pc' := 60) dX0_payCoins_59 rfl rfl ?_
      refine j_get X inX0 rfl (pc' := 63) 0 12 q_fl_X0_53 (by decide) rfl rfl dX0_payCoins_60 rfl ?_
      refine j_iload_n X (pc' := 64) 2 dX0_payCoins_63 rfl rfl rfl ?_
      refine j_iadd X (pc' := 65) dX0_payCoins_64 rfl ?_
      refine j_put X inX0 rfl (pc' := 68) tyX0_ok nmX0 (S := up S_57 12 0 ((S_57 12 0) + x2)) (fun S_65 => (wC cI h ar S_65)) 0 12 q_fl_X0_53 (by decide) rfl rfl rfl rfl (Nat.le_of_ble_eq_true rfl) rfl dX0_payCoins_65 rfl (fun S_65 eS_65 => ?_)
      refine j_aload_n X (pc' := 69) 0 dX0_payCoins_68 rfl rfl rfl ?_
      refine j_get X inX0 rfl (pc' := 72) 0 3 q_fl_X0_21 (by decide) rfl rfl dX0_payCoins_69 rfl ?_
      refine j_iload_n X (pc' := 73) 1 dX0_payCoins_72 rfl rfl rfl ?_
      refine j_ialdN X (i := i1) (pc' := 74) 4 rfl (by omega) (by decide) dX0_payCoins_73 rfl ?_
      exact j_iretI X rfl rfl dX0_payCoins_74
    · refine j_sipush X (v := (-10002)) (pc' := 37) dX0_payCoins_34 (by decide) rfl ?_
      exact j_iretI X rfl rfl dX0_payCoins_37
  refine j_aload_n X (pc' := 1) 0 dX0_payCoins_0 rfl rfl rfl ?_
  refine j_iload_n X (pc' := 2) 1 dX0_payCoins_1 rfl rfl rfl ?_
  refine j_callVi X (pc' := 5) (As := [.int x1]) (rest := []) (c_X0_has l D cI cH cO h ar C x1 ) wv_X0_86 ⟨0, 0, _, _, rfl, rfl, rfl⟩ ⟨by decide, by decide, by decide, by decide⟩ rfl rfl (Nat.le_of_ble_eq_true rfl) dX0_payCoins_2 rfl ?_
  refine j_topL (fun r_2 er_2 => ?_)
  refine j_if_eq X (tgt := 20) (pc' := 8) dX0_payCoins_5 (by decide) rfl (fun c_5 => ?_) (fun c_5 => ?_)
  · refine j_sipush X (v := (-10001)) (pc' := 23) dX0_payCoins_20 (by decide) rfl ?_
    exact j_iretI X rfl rfl dX0_payCoins_23
  · refine j_iload_n X (pc' := 9) 2 dX0_payCoins_8 rfl rfl rfl ?_
    refine j_iconst X (v := 1) (pc' := 10) dX0_payCoins_9 (by decide) rfl ?_
    refine j_icmp_lt X (tgt := 20) (pc' := 13) dX0_payCoins_10 (by decide) rfl (fun c_10 => ?_) (fun c_10 => ?_)
    · refine j_sipush X (v := (-10001)) (pc' := 23) dX0_payCoins_20 (by decide) rfl ?_
      exact j_iretI X rfl rfl dX0_payCoins_23
    · refine j_iload_n X (pc' := 14) 2 dX0_payCoins_13 rfl rfl rfl ?_
      refine j_sipush X (v := 999) (pc' := 17) dX0_payCoins_14 (by decide) rfl ?_
      refine j_icmp_le X (tgt := 24) (pc' := 20) dX0_payCoins_17 (by decide) rfl (fun c_17 => ?_) (fun c_17 => ?_)
      · obtain ⟨j_17, hj_17, ej_17⟩ : ∃ j : Nat, j < 8 ∧ x1 = nI j := vp_in_of (has_in (by rw [← er_2]; exact c_5)) (by decide)
        subst ej_17
        rw [nI_clamp (show j_17 < 2 ^ 31 by omega)]
        refine j_lv [0, 1, 2] (lv' := _) rfl ?_
        exact hK24 _ _ _ (by first | omega | assumption | decide | (subst_vars; first | assumption | omega))
      · refine j_sipush X (v := (-10001)) (pc' := 23) dX0_payCoins_20 (by decide) rfl ?_
        exact j_iretI X rfl rfl dX0_payCoins_23
theorem c_X0_payCoins (l : Launch) (D : va_G) (cI cH cO : ClassId) (h : Nat) (ar : Nat → Nat) (C : Cst) (x1 : Int32) (x2 : Int32)  : MI l yX0_payCoins cX0_payCoins 3 (some .int) 1 D (tyl cI cH cO) [.ref h, .int x1, .int x2] ((wC cI h ar C)) (sX0_payCoins C x1 x2).1 ((wC cI h ar ((sX0_payCoins C x1 x2).2))) := fun sz => j_start (fun below s => (KI below [.ref h, .int x1, .int x2].toArray s D (tyl cI cH cO) ((wC cI h ar C)) (fun C9 => (wC cI h ar C9)))) (sX0_payCoins C x1 x2) (by decide +kernel) rfl (Nat.le_of_ble_eq_true rfl) (fun below s hs _ => by subst hs; rfl) (fun p e s m below meth c _ X => b_X0_payCoins h ar C x1 x2  X)
def sX0_oweByUses (C : Cst) (x1 : Int32) : Cst := ltl3 (fun R61 (C : Cst) (x3 : Int32) (i4 : Nat) => ltv (fun (C : Cst) (x3 : Int32) (i4 : Nat) => R61 C x3 (i4 + 1)) (fun K96 => ((if 8 ≤ (nI i4) then C else (if (C 5 i4) ≤ 0 then K96 C x3 i4 else (if x3 ≤ 0 then K96 C x3 i4 else ltv (up C 3 i4 ((C 3 i4) + 1)) (fun (S_92 : Cst) => ltv (x3 - 1) (fun (v3_93 : Int32) => K96 S_92 v3_93 i4)))))))) (fun (C : Cst) (x3 : Int32) (i4 : Nat) => C) (fun L61 => (ltv (fun (C : Cst) (x3 : Int32) => L61 9 C x3 0) (fun K58 => (ltl5 (fun R13 (C : Cst) (x1 : Int32) (x2 : Int32) (x3 : Int32) (i4 : Nat) => (if 8 ≤ (nI i4) then K58 C x3 else ltv (sX4_quotient (x1 * (C 5 i4)) x2) (fun (r_30 : Int32) => ltv (up C 3 i4 ((C 3 i4) + r_30)) (fun (S_46 : Cst) => ltv (x3 - r_30) (fun (v3_51 : Int32) => R13 S_46 x1 x2 v3_51 (i4 + 1)))))) (fun (C : Cst) (x1 : Int32) (x2 : Int32) (x3 : Int32) (i4 : Nat) => C) (fun L13 => (ltv (sX4_sumOf_5 C) (fun (r_4 : Int32) => L13 9 C x1 r_4 x1 0)))))))
set_option maxHeartbeats 4000000 in
set_option maxRecDepth 100000 in
theorem b_X0_oweByUses {p : Program} {l : Launch} {e : Env} {s : State} {m : MethodId} {args : Array Value} {below : List Frame} {meth : Method} {c : Code} {D : va_G} {cI cH cO : ClassId} {ws0 : va_W} (h : Nat) (ar : Nat → Nat) (C : Cst) (x1 : Int32)  (X : CX p s m args meth c cX0_oweByUses 6 RX0 none D (tyl cI cH cO) (va_A ws0 s.heap.size)) : J p l e (rml 1) s m args below meth c 6 D (va_A ws0 s.heap.size) 0 0 (KV below args s D (tyl cI cH cO) ws0 (fun C9 => (wC cI h ar C9))) (sX0_oweByUses C x1) ((wC cI h ar C)) 0 [(0, .ref h), (1, .int x1)] [] := by
  unfold sX0_oweByUses
  refine j_ltl3 (fun L61 eL61 => ?_)
  have hL61 : ∀ (n61 : Nat) (C : Cst) (x3 : Int32) (i4 : Nat) (hi : i4 ≤ 8) (hfu : 9 ≤ i4 + n61), J p l e (rml 1) s m args below meth c 6 D (va_A ws0 s.heap.size) 0 0 (KV below args s D (tyl cI cH cO) ws0 (fun C9 => (wC cI h ar C9))) (L61 n61 C x3 i4) ((wC cI h ar C)) 61 [(0, .ref h), (3, .int x3), (4, .int (nI i4))] [] := by
    intro n61
    induction n61 with
    | zero =>
      intro C x3 i4 hi hfu
      exact absurd hfu (by omega)
    | succ n61 ih61 =>
      intro C x3 i4 hi hfu
      rw [eL61]
      refine j_ltv (fun K96 eK96 => ?_)
      have hK96 : ∀ (C : Cst) (x3 : Int32) (i4 : Nat) (hi : i4 < 8) (hfu : 9 ≤ i4 + (n61 + 1)), J p l e (rml 1) s m args below meth c 6 D (va_A ws0 s.heap.size) 0 0 (KV below args s D (tyl cI cH cO) ws0 (fun C9 => (wC cI h ar C9))) (K96 C x3 i4) ((wC cI h ar C)) 96 [(0, .ref h), (3, .int x3), (4, .int (nI i4))] [] := by
        intro C x3 i4 hi hfu
        rw [eK96]
        refine j_iinc X (v := (nI (i4 + 1))) (lv' := [(0, .ref h), (3, .int x3), (4, .int (nI (i4 + 1)))]) (q := 2) (pc' := 99) [1, 2, 0] dX0_oweByUses_96 rfl (nI_1 i4) (by decide) rfl rfl ?_
        refine j_goto X (pc' := 61) dX0_oweByUses_99 (by decide) ?_
        refine j_lv [0, 1, 2] (lv' := [(0, .ref h), (3, .int x3), (4, .int (nI (i4 + 1)))]) rfl ?_
        exact ih61 _ _ _ (by first | omega | assumption | decide | (subst_vars; first | assumption | omega)) (by first | omega | assumption | decide | (subst_vars; first | assumption | omega))
      refine j_iload X (pc' := 63) 2 dX0_oweByUses_61 rfl rfl ?_
      refine j_bipush X (v := 8) (pc' := 65) dX0_oweByUses_63 (by decide) rfl ?_
      refine j_icmp_ge X (tgt := 102) (pc' := 68) dX0_oweByUses_65 (by decide) rfl (fun c_65 => ?_) (fun c_65 => ?_)
      · have f_65 : 8 ≤ i4 := (nI_leI (a := 8) (b := i4) (by omega) (by omega)).mp c_65
        exact j_vret X rfl dX0_oweByUses_102
      · have f_65 : ¬ (8 ≤ i4) := fun h => c_65 ((nI_leI (a := 8) (b := i4) (by omega) (by omega)).mpr h)
        refine j_aload_n X (pc' := 69) 0 dX0_oweByUses_68 rfl rfl rfl ?_
        refine j_get X inX0 rfl (pc' := 72) 0 5 q_fl_X0_27 (by decide) rfl rfl dX0_oweByUses_69 rfl ?_
        refine j_iload X (pc' := 74) 2 dX0_oweByUses_72 rfl rfl ?_
        refine j_ialdN X (i := i4) (pc' := 75) 6 rfl (by omega) (by decide) dX0_oweByUses_74 rfl ?_
        refine j_if_le X (tgt := 96) (pc' := 78) dX0_oweByUses_75 (by decide) rfl (fun c_75 => ?_) (fun c_75 => ?_)
        · refine j_lv [0, 1, 2] (lv' := [(0, .ref h), (3, .int x3), (4, .int (nI i4))]) rfl ?_
          exact hK96 _ _ _ (by first | omega | assumption | decide | (subst_vars; first | assumption | omega)) (by first | omega | assumption | decide | (subst_vars; first | assumption | omega))
        · refine j_iload_n X (pc' := 79) 1 dX0_oweByUses_78 rfl rfl rfl ?_
          refine j_if_le X (tgt := 96) (pc' := 82) dX0_oweByUses_79 (by decide) rfl (fun c_79 => ?_) (fun c_79 => ?_)
          · refine j_lv [0, 1, 2] (lv' := [(0, .ref h), (3, .int x3), (4, .int (nI i4))]) rfl ?_
            exact hK96 _ _ _ (by first | omega | assumption | decide | (subst_vars; first | assumption | omega)) (by first | omega | assumption | decide | (subst_vars; first | assumption | omega))
          · refine j_aload_n X (pc' := 83) 0 dX0_oweByUses_82 rfl rfl rfl ?_
            refine j_get X inX0 rfl (pc' := 86) 0 3 q_fl_X0_21 (by decide) rfl rfl dX0_oweByUses_83 rfl ?_
            refine j_iload X (pc' := 88) 2 dX0_oweByUses_86 rfl rfl ?_
            refine j_dup2 X (pc' := 89) dX0_oweByUses_88 rfl rfl rfl ?_
            refine j_ialdN X (i := i4) (pc' := 90) 4 rfl (by omega) (by decide) dX0_oweByUses_89 rfl ?_
            refine j_iconst X (v := 1) (pc' := 91) dX0_oweByUses_90 (by decide) rfl ?_
            refine j_iadd X (pc' := 92) dX0_oweByUses_91 rfl ?_
            refine j_iastN X (i := i4) (pc' := 93) (S := up C 3 i4 ((C 3 i4) + 1)) (fun S_92 => (wC cI h ar S_92)) 4 rfl rfl (by omega) (by decide) dX0_oweByUses_92 rfl (fun S_92 eS_92 => ?_)
            refine j_iincL X (v := (x3 - 1)) (q := 1) (fun v3_93 => [(0, .ref h), (3, .int v3_93), (4, .int (nI i4))]) [1, 0, 2] (pc' := 96) dX0_oweByUses_93 rfl (i32_sub1 _) (by decide) (fun _ => rfl) rfl (fun v3_93 ev3_93 => ?_)
            refine j_lv [0, 1, 2] (lv' := [(0, .ref h), (3, .int v3_93), (4, .int (nI i4))]) rfl ?_
            exact hK96 _ _ _ (by first | omega | assumption | decide | (subst_vars; first | assumption | omega)) (by first | omega | assumption | decide | (subst_vars; first | assumption | omega))
  refine j_ltv (fun K58 eK58 => ?_)
  have hK58 : ∀ (C : Cst) (x3 : Int32) , J p l e (rml 1) s m args below meth c 6 D (va_A ws0 s.heap.size) 0 0 (KV below args s D (tyl cI cH cO) ws0 (fun C9 => (wC cI h ar C9))) (K58 C x3) ((wC cI h ar C)) 58 [(0, .ref h), (3, .int x3)] [] := by
    intro C x3 
    rw [eK58]
    refine j_iconst X (v := 0) (pc' := 59) dX0_oweByUses_58 (by decide) rfl ?_
    refine j_istore X (lv' := [(0, .ref h), (3, .int x3), (4, .int 0)]) (pc' := 61) [1, 2, 0] dX0_oweByUses_59 (by decide) rfl rfl ?_
    refine j_lv [0, 1, 2] (lv' := [(0, .ref h), (3, .int x3), (4, .int 0)]) rfl ?_
    exact hL61 _ _ _ _ (by first | omega | assumption | decide | (subst_vars; first | assumption | omega)) (by first | omega | assumption | decide | (subst_vars; first | assumption | omega))
  refine j_ltl5 (fun L13 eL13 => ?_)
  have hL13 : ∀ (n13 : Nat) (C : Cst) (x1 : Int32) (x2 : Int32) (x3 : Int32) (i4 : Nat) (hi : i4 ≤ 8) (hfu : 9 ≤ i4 + n13), J p l e (rml 1) s m args below meth c 6 D (va_A ws0 s.heap.size) 0 0 (KV below args s D (tyl cI cH cO) ws0 (fun C9 => (wC cI h ar C9))) (L13 n13 C x1 x2 x3 i4) ((wC cI h ar C)) 13 [(0, .ref h), (1, .int x1), (2, .int x2), (3, .int x3), (4, .int (nI i4))] [] := by
    intro n13
    induction n13 with
    | zero =>
      intro C x1 x2 x3 i4 hi hfu
      exact absurd hfu (by omega)
    | succ n13 ih13 =>
      intro C x1 x2 x3 i4 hi hfu
      rw [eL13]
      refine j_iload X (pc' := 15) 4 dX0_oweByUses_13 rfl rfl ?_
      refine j_bipush X (v := 8) (pc' := 17) dX0_oweByUses_15 (by decide) rfl ?_
      refine j_icmp_ge X (tgt := 58) (pc' := 20) dX0_oweByUses_17 (by decide) rfl (fun c_17 => ?_) (fun c_17 => ?_)
      · have f_17 : 8 ≤ i4 := (nI_leI (a := 8) (b := i4) (by omega) (by omega)).mp c_17
        refine j_lv [0, 3] (lv' := [(0, .ref h), (3, .int x3)]) rfl ?_
        exact hK58 _ _ 
      · have f_17 : ¬ (8 ≤ i4) := fun h => c_17 ((nI_leI (a := 8) (b := i4) (by omega) (by omega)).mpr h)
        refine j_iload_n X (pc' := 21) 1 dX0_oweByUses_20 rfl rfl rfl ?_
        refine j_aload_n X (pc' := 22) 0 dX0_oweByUses_21 rfl rfl rfl ?_
        refine j_get X inX0 rfl (pc' := 25) 0 5 q_fl_X0_27 (by decide) rfl rfl dX0_oweByUses_22 rfl ?_
        refine j_iload X (pc' := 27) 4 dX0_oweByUses_25 rfl rfl ?_
        refine j_ialdN X (i := i4) (pc' := 28) 6 rfl (by omega) (by decide) dX0_oweByUses_27 rfl ?_
        refine j_imul X (pc' := 29) dX0_oweByUses_28 rfl ?_
        refine j_iload_n X (pc' := 30) 2 dX0_oweByUses_29 rfl rfl rfl ?_
        refine j_callNiF X (pc' := 33) (As := [.int (x1 * (C 5 i4)), .int x2]) (rest := []) (ws' := (wC cI h ar C)) (wr := (wC cI h ar C)) [] [0, 1, 2, 3, 4, 5, 6, 7, 8, 9] [0, 1, 2, 3, 4, 5, 6, 7, 8, 9] rfl rfl ⟨by decide, by decide, by decide, by decide⟩ rfl (c_X4_quotient l D cI cH cO (x1 * (C 5 i4)) x2 ) X.2.2.1.2.2.2.2.2.2.2.1 wn_X0_114 ⟨by decide, by decide, by decide, by decide⟩ rfl rfl (Nat.le_of_ble_eq_true rfl) dX0_oweByUses_30 rfl ?_
        refine j_topL (fun r_30 er_30 => ?_)
        refine j_istore X (lv' := [(0, .ref h), (1, .int x1), (2, .int x2), (3, .int x3), (4, .int (nI i4)), (5, .int r_30)]) (pc' := 35) [1, 2, 3, 4, 5, 0] dX0_oweByUses_33 (by decide) rfl rfl ?_
        refine j_aload_n X (pc' := 36) 0 dX0_oweByUses_35 rfl rfl rfl ?_
        refine j_get X inX0 rfl (pc' := 39) 0 3 q_fl_X0_21 (by decide) rfl rfl dX0_oweByUses_36 rfl ?_
        refine j_iload X (pc' := 41) 4 dX0_oweByUses_39 rfl rfl ?_
        refine j_dup2 X (pc' := 42) dX0_oweByUses_41 rfl rfl rfl ?_
        refine j_ialdN X (i := i4) (pc' := 43) 4 rfl (by omega) (by decide) dX0_oweByUses_42 rfl ?_
        refine j_iload X (pc' := 45) 5 dX0_oweByUses_43 rfl rfl ?_
        refine j_iadd X (pc' := 46) dX0_oweByUses_45 rfl ?_
        refine j_iastN X (i := i4) (pc' := 47) (S := up C 3 i4 ((C 3 i4) + r_30)) (fun S_46 => (wC cI h ar S_46)) 4 rfl rfl (by omega) (by decide) dX0_oweByUses_46 rfl (fun S_46 eS_46 => ?_)
        refine j_iload_n X (pc' := 48) 3 dX0_oweByUses_47 rfl rfl rfl ?_
        refine j_iload X (pc' := 50) 5 dX0_oweByUses_48 rfl rfl ?_
        refine j_isub X (pc' := 51) dX0_oweByUses_50 rfl ?_
        refine j_istore_nL X (fun v3_51 => [(0, .ref h), (1, .int x1), (2, .int x2), (3, .int v3_51), (4, .int (nI i4)), (5, .int r_30)]) [1, 2, 3, 0, 4, 5] (pc' := 52) dX0_oweByUses_51 rfl (by decide) (fun _ => rfl) rfl (fun v3_51 ev3_51 => ?_)
        refine j_iinc X (v := (nI (i4 + 1))) (lv' := [(0, .ref h), (1, .int x1), (2, .int x2), (3, .int v3_51), (4, .int (nI (i4 + 1))), (5, .int r_30)]) (q := 4) (pc' := 55) [1, 2, 3, 4, 0, 5] dX0_oweByUses_52 rfl (nI_1 i4) (by decide) rfl rfl ?_
        refine j_goto X (pc' := 13) dX0_oweByUses_55 (by decide) ?_
        refine j_lv [0, 1, 2, 3, 4] (lv' := [(0, .ref h), (1, .int x1), (2, .int x2), (3, .int v3_51), (4, .int (nI (i4 + 1)))]) rfl ?_
        exact ih13 _ _ _ _ _ (by first | omega | assumption | decide | (subst_vars; first | assumption | omega)) (by first | omega | assumption | decide | (subst_vars; first | assumption | omega))
  refine j_aload_n X (pc' := 1) 0 dX0_oweByUses_0 rfl rfl rfl ?_
  refine j_get X inX0 rfl (pc' := 4) 0 5 q_fl_X0_27 (by decide) rfl rfl dX0_oweByUses_1 rfl ?_
  refine j_callNi X (pc' := 7) (As := [.ref (ar 5)]) (rest := []) (c_X4_sumOf_5 l D cI cH cO h ar C ) X.2.2.1.2.2.2.2.2.2.1 wn_X0_68 ⟨by decide, by decide, by decide, by decide⟩ rfl rfl (Nat.le_of_ble_eq_true rfl) dX0_oweByUses_4 rfl ?_
  refine j_topL (fun r_4 er_4 => ?_)
  refine j_istore_n X (lv' := [(0, .ref h), (1, .int x1), (2, .int r_4)]) (pc' := 8) [1, 2, 0] dX0_oweByUses_7 rfl (by decide) rfl rfl ?_
  refine j_iload_n X (pc' := 9) 1 dX0_oweByUses_8 rfl rfl rfl ?_
  refine j_istore_n X (lv' := [(0, .ref h), (1, .int x1), (2, .int r_4), (3, .int x1)]) (pc' := 10) [1, 2, 3, 0] dX0_oweByUses_9 rfl (by decide) rfl rfl ?_
  refine j_iconst X (v := 0) (pc' := 11) dX0_oweByUses_10 (by decide) rfl ?_
  refine j_istore X (lv' := [(0, .ref h), (1, .int x1), (2, .int r_4), (3, .int x1), (4, .int 0)]) (pc' := 13) [1, 2, 3, 4, 0] dX0_oweByUses_11 (by decide) rfl rfl ?_
  refine j_lv [0, 1, 2, 3, 4] (lv' := [(0, .ref h), (1, .int x1), (2, .int r_4), (3, .int x1), (4, .int 0)]) rfl ?_
  exact hL13 _ _ _ _ _ _ (by first | omega | assumption | decide | (subst_vars; first | assumption | omega)) (by first | omega | assumption | decide | (subst_vars; first | assumption | omega))
theorem c_X0_oweByUses (l : Launch) (D : va_G) (cI cH cO : ClassId) (h : Nat) (ar : Nat → Nat) (C : Cst) (x1 : Int32)  : MV l yX0_oweByUses cX0_oweByUses 6 1 D (tyl cI cH cO) [.ref h, .int x1] ((wC cI h ar C)) ((wC cI h ar (sX0_oweByUses C x1))) := fun sz => j_start (fun below s => (KV below [.ref h, .int x1].toArray s D (tyl cI cH cO) ((wC cI h ar C)) (fun C9 => (wC cI h ar C9)))) (sX0_oweByUses C x1) (by decide +kernel) rfl (Nat.le_of_ble_eq_true rfl) (fun below s hs _ => by subst hs; rfl) (fun p e s m below meth c _ X => b_X0_oweByUses h ar C x1  X)
def sX0_repairPoints (C : Cst) (x1 : Int32) : Int32 × Cst := ltv (fun (C : Cst) (x1 : Int32) (x3 : Int32) (x4 : Int32) => ltv (up C 12 0 ((C 12 0) - x3)) (fun (S_75 : Cst) => ltv (up S_75 11 0 ((S_75 11 0) + x1)) (fun (S_85 : Cst) => ltv (up S_85 16 0 ((S_85 16 0) + x1)) (fun (S_95 : Cst) => ltv (sX0_oweByUses S_95 x4) (fun (S_101 : Cst) => (x4, S_101)))))) (fun K68 => ((if x1 < 1 then ((-10001), C) else (if x1 ≤ 100 then ltv (x1 * (C 0 4)) (fun (v2_23 : Int32) => ltv (if (C 12 0) < v2_23 then (C 12 0) else v2_23) (fun (v3_32 : Int32) => ltv (v2_23 - v3_32) (fun (v4_36 : Int32) => (if 100 < ((C 11 0) + x1) then ((-10002), C) else (if v4_36 ≤ 0 then K68 C x1 v3_32 v4_36 else ltv (sX4_sumOf_5 C) (fun (r_58 : Int32) => (if ¬ r_58 = 0 then K68 C x1 v3_32 v4_36 else ((-10002), C)))))))) else ((-10001), C)))))
set_option maxHeartbeats 4000000 in
set_option maxRecDepth 100000 in
theorem b_X0_repairPoints {p : Program} {l : Launch} {e : Env} {s : State} {m : MethodId} {args : Array Value} {below : List Frame} {meth : Method} {c : Code} {D : va_G} {cI cH cO : ClassId} {ws0 : va_W} (h : Nat) (ar : Nat → Nat) (C : Cst) (x1 : Int32)  (X : CX p s m args meth c cX0_repairPoints 5 RX0 (some .int) D (tyl cI cH cO) (va_A ws0 s.heap.size)) : J p l e (rml 2) s m args below meth c 5 D (va_A ws0 s.heap.size) 0 0 (KI below args s D (tyl cI cH cO) ws0 (fun C9 => (wC cI h ar C9))) (sX0_repairPoints C x1) ((wC cI h ar C)) 0 [(0, .ref h), (1, .int x1)] [] := by
  unfold sX0_repairPoints
  refine j_ltv (fun K68 eK68 => ?_)
  have hK68 : ∀ (C : Cst) (x1 : Int32) (x3 : Int32) (x4 : Int32) , J p l e (rml 2) s m args below meth c 5 D (va_A ws0 s.heap.size) 0 0 (KI below args s D (tyl cI cH cO) ws0 (fun C9 => (wC cI h ar C9))) (K68 C x1 x3 x4) ((wC cI h ar C)) 68 [(0, .ref h), (1, .int x1), (3, .int x3), (4, .int x4)] [] := by
    intro C x1 x3 x4 
    rw [eK68]
    refine j_aload_n X (pc' := 69) 0 dX0_repairPoints_68 rfl rfl rfl ?_
    refine j_dup X (pc' := 70) dX0_repairPoints_69 rfl rfl ?_
    refine j_get X inX0 rfl (pc' := 73) 0 12 q_fl_X0_53 (by decide) rfl rfl dX0_repairPoints_70 rfl ?_
    refine j_iload_n X (pc' := 74) 2 dX0_repairPoints_73 rfl rfl rfl ?_
    refine j_isub X (pc' := 75) dX0_repairPoints_74 rfl ?_
    refine j_put X inX0 rfl (pc' := 78) tyX0_ok nmX0 (S := up C 12 0 ((C 12 0) - x3)) (fun S_75 => (wC cI h ar S_75)) 0 12 q_fl_X0_53 (by decide) rfl rfl rfl rfl (Nat.le_of_ble_eq_true rfl) rfl dX0_repairPoints_75 rfl (fun S_75 eS_75 => ?_)
    refine j_aload_n X (pc' := 79) 0 dX0_repairPoints_78 rfl rfl rfl ?_
    refine j_dup X (pc' := 80) dX0_repairPoints_79 rfl rfl ?_
    refine j_get X inX0 rfl (pc' := 83) 0 11 q_fl_X0_39 (by decide) rfl rfl dX0_repairPoints_80 rfl ?_
    refine j_iload_n X (pc' := 84) 1 dX0_repairPoints_83 rfl rfl rfl ?_
    refine j_iadd X (pc' := 85) dX0_repairPoints_84 rfl ?_
    refine j_put X inX0 rfl (pc' := 88) tyX0_ok nmX0 (S := up S_75 11 0 ((S_75 11 0) + x1)) (fun S_85 => (wC cI h ar S_85)) 0 11 q_fl_X0_39 (by decide) rfl rfl rfl rfl (Nat.le_of_ble_eq_true rfl) rfl dX0_repairPoints_85 rfl (fun S_85 eS_85 => ?_)
    refine j_aload_n X (pc' := 89) 0 dX0_repairPoints_88 rfl rfl rfl ?_
    refine j_dup X (pc' := 90) dX0_repairPoints_89 rfl rfl ?_
    refine j_get X inX0 rfl (pc' := 93) 0 16 q_fl_X0_65 (by decide) rfl rfl dX0_repairPoints_90 rfl ?_
    refine j_iload_n X (pc' := 94) 1 dX0_repairPoints_93 rfl rfl rfl ?_
    refine j_iadd X (pc' := 95) dX0_repairPoints_94 rfl ?_
    refine j_put X inX0 rfl (pc' := 98) tyX0_ok nmX0 (S := up S_85 16 0 ((S_85 16 0) + x1)) (fun S_95 => (wC cI h ar S_95)) 0 16 q_fl_X0_65 (by decide) rfl rfl rfl rfl (Nat.le_of_ble_eq_true rfl) rfl dX0_repairPoints_95 rfl (fun S_95 eS_95 => ?_)
    refine j_aload_n X (pc' := 99) 0 dX0_repairPoints_98 rfl rfl rfl ?_
    refine j_iload X (pc' := 101) 3 dX0_repairPoints_99 rfl rfl ?_
    refine j_callVv X (pc' := 104) (As := [.int x4]) (rest := []) (c_X0_oweByUses l D cI cH cO h ar S_95 x4 ) wv_X0_110 ⟨0, 0, _, _, rfl, rfl, rfl⟩ ⟨by decide, by decide, by decide, by decide⟩ rfl rfl (Nat.le_of_ble_eq_true rfl) dX0_repairPoints_101 rfl ?_
    refine j_stL (S := (sX0_oweByUses S_95 x4)) (fun S_101 => (wC cI h ar S_101)) (fun S_101 eS_101 => ?_)
    refine j_iload X (pc' := 106) 3 dX0_repairPoints_104 rfl rfl ?_
    exact j_iretI X rfl rfl dX0_repairPoints_106
  refine j_iload_n X (pc' := 1) 1 dX0_repairPoints_0 rfl rfl rfl ?_
  refine j_iconst X (v := 1) (pc' := 2) dX0_repairPoints_1 (by decide) rfl ?_
  refine j_icmp_lt X (tgt := 11) (pc' := 5) dX0_repairPoints_2 (by decide) rfl (fun c_2 => ?_) (fun c_2 => ?_)
  · refine j_sipush X (v := (-10001)) (pc' := 14) dX0_repairPoints_11 (by decide) rfl ?_
    exact j_iretI X rfl rfl dX0_repairPoints_14
  · refine j_iload_n X (pc' := 6) 1 dX0_repairPoints_5 rfl rfl rfl ?_
    refine j_bipush X (v := 100) (pc' := 8) dX0_repairPoints_6 (by decide) rfl ?_
    refine j_icmp_le X (tgt := 15) (pc' := 11) dX0_repairPoints_8 (by decide) rfl (fun c_8 => ?_) (fun c_8 => ?_)
    · refine j_iload_n X (pc' := 16) 1 dX0_repairPoints_15 rfl rfl rfl ?_
      refine j_aload_n X (pc' := 17) 0 dX0_repairPoints_16 rfl rfl rfl ?_
      refine j_get X inX0 rfl (pc' := 20) 0 0 q_fl_X0_9 (by decide) rfl rfl dX0_repairPoints_17 rfl ?_
      refine j_iconst X (v := 4) (pc' := 21) dX0_repairPoints_20 (by decide) rfl ?_
      refine j_ialdN X (i := 4) (pc' := 22) 1 rfl (by omega) (by decide) dX0_repairPoints_21 rfl ?_
      refine j_imul X (pc' := 23) dX0_repairPoints_22 rfl ?_
      refine j_istore_nL X (fun v2_23 => [(0, .ref h), (1, .int x1), (2, .int v2_23)]) [1, 2, 0] (pc' := 24) dX0_repairPoints_23 rfl (by decide) (fun _ => rfl) rfl (fun v2_23 ev2_23 => ?_)
      refine j_iload_n X (pc' := 25) 2 dX0_repairPoints_24 rfl rfl rfl ?_
      refine j_aload_n X (pc' := 26) 0 dX0_repairPoints_25 rfl rfl rfl ?_
      refine j_get X inX0 rfl (pc' := 29) 0 12 q_fl_X0_53 (by decide) rfl rfl dX0_repairPoints_26 rfl ?_
      refine j_mmin X (pc' := 32) ⟨q_ml_X0_105, q_sta_J9_min, q_ini_J9, q_code_J9_min⟩ ⟨by decide, Nat.le_of_ble_eq_true rfl, by decide, by decide⟩ dX0_repairPoints_29 rfl ?_
      refine j_istore_nL X (fun v3_32 => [(0, .ref h), (1, .int x1), (2, .int v2_23), (3, .int v3_32)]) [1, 2, 3, 0] (pc' := 33) dX0_repairPoints_32 rfl (by decide) (fun _ => rfl) rfl (fun v3_32 ev3_32 => ?_)
      refine j_iload_n X (pc' := 34) 2 dX0_repairPoints_33 rfl rfl rfl ?_
      refine j_iload_n X (pc' := 35) 3 dX0_repairPoints_34 rfl rfl rfl ?_
      refine j_isub X (pc' := 36) dX0_repairPoints_35 rfl ?_
      refine j_istoreL X (fun v4_36 => [(0, .ref h), (1, .int x1), (2, .int v2_23), (3, .int v3_32), (4, .int v4_36)]) [1, 2, 3, 4, 0] (pc' := 38) dX0_repairPoints_36  (by decide) (fun _ => rfl) rfl (fun v4_36 ev4_36 => ?_)
      refine j_aload_n X (pc' := 39) 0 dX0_repairPoints_38 rfl rfl rfl ?_
      refine j_get X inX0 rfl (pc' := 42) 0 11 q_fl_X0_39 (by decide) rfl rfl dX0_repairPoints_39 rfl ?_
      refine j_iload_n X (pc' := 43) 1 dX0_repairPoints_42 rfl rfl rfl ?_
      refine j_iadd X (pc' := 44) dX0_repairPoints_43 rfl ?_
      refine j_bipush X (v := 100) (pc' := 46) dX0_repairPoints_44 (by decide) rfl ?_
      refine j_icmp_gt X (tgt := 64) (pc' := 49) dX0_repairPoints_46 (by decide) rfl (fun c_46 => ?_) (fun c_46 => ?_)
      · refine j_sipush X (v := (-10002)) (pc' := 67) dX0_repairPoints_64 (by decide) rfl ?_
        exact j_iretI X rfl rfl dX0_repairPoints_67
      · refine j_iload X (pc' := 51) 4 dX0_repairPoints_49 rfl rfl ?_
        refine j_if_le X (tgt := 68) (pc' := 54) dX0_repairPoints_51 (by decide) rfl (fun c_51 => ?_) (fun c_51 => ?_)
        · refine j_lv [0, 1, 3, 4] (lv' := [(0, .ref h), (1, .int x1), (3, .int v3_32), (4, .int v4_36)]) rfl ?_
          exact hK68 _ _ _ _ 
        · refine j_aload_n X (pc' := 55) 0 dX0_repairPoints_54 rfl rfl rfl ?_
          refine j_get X inX0 rfl (pc' := 58) 0 5 q_fl_X0_27 (by decide) rfl rfl dX0_repairPoints_55 rfl ?_
          refine j_callNi X (pc' := 61) (As := [.ref (ar 5)]) (rest := []) (c_X4_sumOf_5 l D cI cH cO h ar C ) X.2.2.1.2.2.2.2.2.2.1 wn_X0_68 ⟨by decide, by decide, by decide, by decide⟩ rfl rfl (Nat.le_of_ble_eq_true rfl) dX0_repairPoints_58 rfl ?_
          refine j_topL (fun r_58 er_58 => ?_)
          refine j_if_ne X (tgt := 68) (pc' := 64) dX0_repairPoints_61 (by decide) rfl (fun c_61 => ?_) (fun c_61 => ?_)
          · refine j_lv [0, 1, 3, 4] (lv' := [(0, .ref h), (1, .int x1), (3, .int v3_32), (4, .int v4_36)]) rfl ?_
            exact hK68 _ _ _ _ 
          · refine j_sipush X (v := (-10002)) (pc' := 67) dX0_repairPoints_64 (by decide) rfl ?_
            exact j_iretI X rfl rfl dX0_repairPoints_67
    · refine j_sipush X (v := (-10001)) (pc' := 14) dX0_repairPoints_11 (by decide) rfl ?_
      exact j_iretI X rfl rfl dX0_repairPoints_14
theorem c_X0_repairPoints (l : Launch) (D : va_G) (cI cH cO : ClassId) (h : Nat) (ar : Nat → Nat) (C : Cst) (x1 : Int32)  : MI l yX0_repairPoints cX0_repairPoints 5 (some .int) 2 D (tyl cI cH cO) [.ref h, .int x1] ((wC cI h ar C)) (sX0_repairPoints C x1).1 ((wC cI h ar ((sX0_repairPoints C x1).2))) := fun sz => j_start (fun below s => (KI below [.ref h, .int x1].toArray s D (tyl cI cH cO) ((wC cI h ar C)) (fun C9 => (wC cI h ar C9)))) (sX0_repairPoints C x1) (by decide +kernel) rfl (Nat.le_of_ble_eq_true rfl) (fun below s hs _ => by subst hs; rfl) (fun p e s m below meth c _ X => b_X0_repairPoints h ar C x1  X)
def sX0_pointsFromFund (C : Cst) : Int32 := ltv (sX4_quotient (C 12 0) (C 0 4)) (fun (r_17 : Int32) => (if r_17 < (100 - (C 11 0)) then r_17 else (100 - (C 11 0))))
set_option maxHeartbeats 4000000 in
set_option maxRecDepth 100000 in
theorem b_X0_pointsFromFund {p : Program} {l : Launch} {e : Env} {s : State} {m : MethodId} {args : Array Value} {below : List Frame} {meth : Method} {c : Code} {D : va_G} {cI cH cO : ClassId} (h : Nat) (ar : Nat → Nat) (C : Cst)  (X : CX p s m args meth c cX0_pointsFromFund 1 RX0 (some .int) D (tyl cI cH cO) (va_A ((wC cI h ar C)) s.heap.size)) : J p l e (rml 1) s m args below meth c 1 D (va_A ((wC cI h ar C)) s.heap.size) 0 0 (KP below args s D (tyl cI cH cO) ((wC cI h ar C))) (sX0_pointsFromFund C) ((wC cI h ar C)) 0 [(0, .ref h)] [] := by
  unfold sX0_pointsFromFund
  refine j_bipush X (v := 100) (pc' := 2) dX0_pointsFromFund_0 (by decide) rfl ?_
  refine j_aload_n X (pc' := 3) 0 dX0_pointsFromFund_2 rfl rfl rfl ?_
  refine j_get X inX0 rfl (pc' := 6) 0 11 q_fl_X0_39 (by decide) rfl rfl dX0_pointsFromFund_3 rfl ?_
  refine j_isub X (pc' := 7) dX0_pointsFromFund_6 rfl ?_
  refine j_aload_n X (pc' := 8) 0 dX0_pointsFromFund_7 rfl rfl rfl ?_
  refine j_get X inX0 rfl (pc' := 11) 0 12 q_fl_X0_53 (by decide) rfl rfl dX0_pointsFromFund_8 rfl ?_
  refine j_aload_n X (pc' := 12) 0 dX0_pointsFromFund_11 rfl rfl rfl ?_
  refine j_get X inX0 rfl (pc' := 15) 0 0 q_fl_X0_9 (by decide) rfl rfl dX0_pointsFromFund_12 rfl ?_
  refine j_iconst X (v := 4) (pc' := 16) dX0_pointsFromFund_15 (by decide) rfl ?_
  refine j_ialdN X (i := 4) (pc' := 17) 1 rfl (by omega) (by decide) dX0_pointsFromFund_16 rfl ?_
  refine j_callNiF X (pc' := 20) (As := [.int (C 12 0), .int (C 0 4)]) (rest := [.int (100 - (C 11 0))]) (ws' := (wC cI h ar C)) (wr := (wC cI h ar C)) [] [0, 1, 2, 3, 4, 5, 6, 7, 8, 9] [0, 1, 2, 3, 4, 5, 6, 7, 8, 9] rfl rfl ⟨by decide, by decide, by decide, by decide⟩ rfl (c_X4_quotient l D cI cH cO (C 12 0) (C 0 4) ) X.2.2.1.2.2.2.2.2.2.2.1 wn_X0_114 ⟨by decide, by decide, by decide, by decide⟩ rfl rfl (Nat.le_of_ble_eq_true rfl) dX0_pointsFromFund_17 rfl ?_
  refine j_topL (fun r_17 er_17 => ?_)
  refine j_mmin X (pc' := 23) ⟨q_ml_X0_105, q_sta_J9_min, q_ini_J9, q_code_J9_min⟩ ⟨by decide, Nat.le_of_ble_eq_true rfl, by decide, by decide⟩ dX0_pointsFromFund_20 rfl ?_
  exact j_iretP X rfl rfl dX0_pointsFromFund_23
theorem c_X0_pointsFromFund (l : Launch) (D : va_G) (cI cH cO : ClassId) (h : Nat) (ar : Nat → Nat) (C : Cst)  : MI l yX0_pointsFromFund cX0_pointsFromFund 1 (some .int) 1 D (tyl cI cH cO) [.ref h] ((wC cI h ar C)) (sX0_pointsFromFund C) ((wC cI h ar C)) := fun sz => j_start (fun below s => (KP below [.ref h].toArray s D (tyl cI cH cO) ((wC cI h ar C)))) (sX0_pointsFromFund C) (by decide +kernel) rfl (Nat.le_of_ble_eq_true rfl) (fun below s hs _ => by subst hs; rfl) (fun p e s m below meth c _ X => b_X0_pointsFromFund h ar C  X)
def sX0_oweCharges (C : Cst) : Cst := ltl5 (fun R29 (C : Cst) (x1 : Int32) (x2 : Int32) (x3 : Int32) (i4 : Nat) => ltv (fun (C : Cst) (x1 : Int32) (x2 : Int32) (i4 : Nat) (t0 : Int32) => R29 C x1 x2 t0 (i4 + 1)) (fun K94 => (ltv (fun (C : Cst) (x1 : Int32) (x2 : Int32) (x3 : Int32) (i4 : Nat) => (if (C 9 0) ≤ (x3 + 1) then K94 C x1 x2 i4 0 else K94 C x1 x2 i4 (x3 + 1))) (fun K77 => ((if (C 9 0) ≤ (nI i4) then C else ltv (sX0_has C x3) (fun (r_40 : Int32) => (if r_40 = 0 then K77 C x1 x2 x3 i4 else ltv (x1 + (C 2 x3.toNatClampNeg)) (fun (v1_54 : Int32) => ltv (sX0_damageOf C v1_54) (fun (r_64 : Int32) => ltv (up C 3 x3.toNatClampNeg ((C 3 x3.toNatClampNeg) + (r_64 - x2))) (fun (S_70 : Cst) => ltv (sX0_damageOf S_70 v1_54) (fun (r_73 : Int32) => K77 S_70 v1_54 r_73 x3 i4)))))))))))) (fun (C : Cst) (x1 : Int32) (x2 : Int32) (x3 : Int32) (i4 : Nat) => C) (fun L29 => (ltv (fun (C : Cst) (x1 : Int32) (x2 : Int32) (t0 : Int32) => L29 9 C x1 x2 t0 0) (fun K25 => ((if 1 ≤ (C 9 0) then K25 C 0 0 ((C 10 0) % (C 9 0)) else K25 C 0 0 0)))))
set_option maxHeartbeats 4000000 in
set_option maxRecDepth 100000 in
theorem b_X0_oweCharges {p : Program} {l : Launch} {e : Env} {s : State} {m : MethodId} {args : Array Value} {below : List Frame} {meth : Method} {c : Code} {D : va_G} {cI cH cO : ClassId} {ws0 : va_W} (h : Nat) (ar : Nat → Nat) (C : Cst) (hM : (C 9 0).toInt ≤ 8) (X : CX p s m args meth c cX0_oweCharges 5 RX0 none D (tyl cI cH cO) (va_A ws0 s.heap.size)) : J p l e (rml 1) s m args below meth c 5 D (va_A ws0 s.heap.size) 0 0 (KV below args s D (tyl cI cH cO) ws0 (fun C9 => (wC cI h ar C9))) (sX0_oweCharges C) ((wC cI h ar C)) 0 [(0, .ref h)] [] := by
  unfold sX0_oweCharges
  refine j_ltl5 (fun L29 eL29 => ?_)
  have hL29 : ∀ (n29 : Nat) (C : Cst) (x1 : Int32) (x2 : Int32) (x3 : Int32) (i4 : Nat) (hi : i4 ≤ 8) (hfu : 9 ≤ i4 + n29) (hM : (C 9 0).toInt ≤ 8), J p l e (rml 1) s m args below meth c 5 D (va_A ws0 s.heap.size) 0 0 (KV below args s D (tyl cI cH cO) ws0 (fun C9 => (wC cI h ar C9))) (L29 n29 C x1 x2 x3 i4) ((wC cI h ar C)) 29 [(0, .ref h), (1, .int x1), (2, .int x2), (3, .int x3), (4, .int (nI i4))] [] := by
    intro n29
    induction n29 with
    | zero =>
      intro C x1 x2 x3 i4 hi hfu hM
      exact absurd hfu (by omega)
    | succ n29 ih29 =>
      intro C x1 x2 x3 i4 hi hfu hM
      rw [eL29]
      refine j_ltv (fun K94 eK94 => ?_)
      have hK94 : ∀ (C : Cst) (x1 : Int32) (x2 : Int32) (i4 : Nat) (t0 : Int32) (hi : i4 < 8) (hfu : 9 ≤ i4 + (n29 + 1)) (hM : (C 9 0).toInt ≤ 8), J p l e (rml 1) s m args below meth c 5 D (va_A ws0 s.heap.size) 0 0 (KV below args s D (tyl cI cH cO) ws0 (fun C9 => (wC cI h ar C9))) (K94 C x1 x2 i4 t0) ((wC cI h ar C)) 94 [(0, .ref h), (1, .int x1), (2, .int x2), (4, .int (nI i4))] [.int t0] := by
        intro C x1 x2 i4 t0 hi hfu hM
        rw [eK94]
        refine j_istore_n X (lv' := [(0, .ref h), (1, .int x1), (2, .int x2), (3, .int t0), (4, .int (nI i4))]) (pc' := 95) [1, 2, 3, 0, 4] dX0_oweCharges_94 rfl (by decide) rfl rfl ?_
        refine j_iinc X (v := (nI (i4 + 1))) (lv' := [(0, .ref h), (1, .int x1), (2, .int x2), (3, .int t0), (4, .int (nI (i4 + 1)))]) (q := 4) (pc' := 98) [1, 2, 3, 4, 0] dX0_oweCharges_95 rfl (nI_1 i4) (by decide) rfl rfl ?_
        refine j_goto X (pc' := 29) dX0_oweCharges_98 (by decide) ?_
        refine j_lv [0, 1, 2, 3, 4] (lv' := [(0, .ref h), (1, .int x1), (2, .int x2), (3, .int t0), (4, .int (nI (i4 + 1)))]) rfl ?_
        exact ih29 _ _ _ _ _ (by first | omega | assumption | decide | (subst_vars; first | assumption | omega | exact hM)) (by first | omega | assumption | decide | (subst_vars; first | assumption | omega | exact hM)) (by first | omega | assumption | decide | (subst_vars; first | assumption | omega | exact hM))
      refine j_ltv (fun K77 eK77 => ?_)
      have hK77 : ∀ (C : Cst) (x1 : Int32) (x2 : Int32) (x3 : Int32) (i4 : Nat) (hi : i4 < 8) (hfu : 9 ≤ i4 + (n29 + 1)) (hM : (C 9 0).toInt ≤ 8), J p l e (rml 1) s m args below meth c 5 D (va_A ws0 s.heap.size) 0 0 (KV below args s D (tyl cI cH cO) ws0 (fun C9 => (wC cI h ar C9))) (K77 C x1 x2 x3 i4) ((wC cI h ar C)) 77 [(0, .ref h), (1, .int x1), (2, .int x2), (3, .int x3), (4, .int (nI i4))] [] := by
        intro C x1 x2 x3 i4 hi hfu hM
        rw [eK77]
        refine j_iload_n X (pc' := 78) 3 dX0_oweCharges_77 rfl rfl rfl ?_
        refine j_iconst X (v := 1) (pc' := 79) dX0_oweCharges_78 (by decide) rfl ?_
        refine j_iadd X (pc' := 80) dX0_oweCharges_79 rfl ?_
        refine j_aload_n X (pc' := 81) 0 dX0_oweCharges_80 rfl rfl rfl ?_
        refine j_get X inX0 rfl (pc' := 84) 0 9 q_fl_X0_47 (by decide) rfl rfl dX0_oweCharges_81 rfl ?_
        refine j_icmp_ge X (tgt := 93) (pc' := 87) dX0_oweCharges_84 (by decide) rfl (fun c_84 => ?_) (fun c_84 => ?_)
        · refine j_iconst X (v := 0) (pc' := 94) dX0_oweCharges_93 (by decide) rfl ?_
          refine j_lv [0, 1, 2, 4] (lv' := [(0, .ref h), (1, .int x1), (2, .int x2), (4, .int (nI i4))]) rfl ?_
          exact hK94 _ _ _ _ _ (by first | omega | assumption | decide | (subst_vars; first | assumption | omega | exact hM)) (by first | omega | assumption | decide | (subst_vars; first | assumption | omega | exact hM)) (by first | omega | assumption | decide | (subst_vars; first | assumption | omega | exact hM))
        · refine j_iload_n X (pc' := 88) 3 dX0_oweCharges_87 rfl rfl rfl ?_
          refine j_iconst X (v := 1) (pc' := 89) dX0_oweCharges_88 (by decide) rfl ?_
          refine j_iadd X (pc' := 90) dX0_oweCharges_89 rfl ?_
          refine j_goto X (pc' := 94) dX0_oweCharges_90 (by decide) ?_
          refine j_lv [0, 1, 2, 4] (lv' := [(0, .ref h), (1, .int x1), (2, .int x2), (4, .int (nI i4))]) rfl ?_
          exact hK94 _ _ _ _ _ (by first | omega | assumption | decide | (subst_vars; first | assumption | omega | exact hM)) (by first | omega | assumption | decide | (subst_vars; first | assumption | omega | exact hM)) (by first | omega | assumption | decide | (subst_vars; first | assumption | omega | exact hM))
      refine j_iload X (pc' := 31) 4 dX0_oweCharges_29 rfl rfl ?_
      refine j_aload_n X (pc' := 32) 0 dX0_oweCharges_31 rfl rfl rfl ?_
      refine j_get X inX0 rfl (pc' := 35) 0 9 q_fl_X0_47 (by decide) rfl rfl dX0_oweCharges_32 rfl ?_
      refine j_icmp_ge X (tgt := 101) (pc' := 38) dX0_oweCharges_35 (by decide) rfl (fun c_35 => ?_) (fun c_35 => ?_)
      · exact j_vret X rfl dX0_oweCharges_101
      · have hb4 : i4 < 8 := i32_lt8 c_35 hM (by omega)
        refine j_aload_n X (pc' := 39) 0 dX0_oweCharges_38 rfl rfl rfl ?_
        refine j_iload_n X (pc' := 40) 3 dX0_oweCharges_39 rfl rfl rfl ?_
        refine j_callVi X (pc' := 43) (As := [.int x3]) (rest := []) (c_X0_has l D cI cH cO h ar C x3 ) wv_X0_86 ⟨0, 0, _, _, rfl, rfl, rfl⟩ ⟨by decide, by decide, by decide, by decide⟩ rfl rfl (Nat.le_of_ble_eq_true rfl) dX0_oweCharges_40 rfl ?_
        refine j_topL (fun r_40 er_40 => ?_)
        refine j_if_eq X (tgt := 77) (pc' := 46) dX0_oweCharges_43 (by decide) rfl (fun c_43 => ?_) (fun c_43 => ?_)
        · refine j_lv [0, 1, 2, 3, 4] (lv' := [(0, .ref h), (1, .int x1), (2, .int x2), (3, .int x3), (4, .int (nI i4))]) rfl ?_
          exact hK77 _ _ _ _ _ (by first | omega | assumption | decide | (subst_vars; first | assumption | omega | exact hM)) (by first | omega | assumption | decide | (subst_vars; first | assumption | omega | exact hM)) (by first | omega | assumption | decide | (subst_vars; first | assumption | omega | exact hM))
        · have hv3 := has_in (by rw [← er_40]; exact c_43)
          refine j_iload_n X (pc' := 47) 1 dX0_oweCharges_46 rfl rfl rfl ?_
          refine j_aload_n X (pc' := 48) 0 dX0_oweCharges_47 rfl rfl rfl ?_
          refine j_get X inX0 rfl (pc' := 51) 0 2 q_fl_X0_18 (by decide) rfl rfl dX0_oweCharges_48 rfl ?_
          refine j_iload_n X (pc' := 52) 3 dX0_oweCharges_51 rfl rfl rfl ?_
          refine j_iald X (pc' := 53) 3 rfl hv3 dX0_oweCharges_52 rfl ?_
          refine j_iadd X (pc' := 54) dX0_oweCharges_53 rfl ?_
          refine j_istore_nL X (fun v1_54 => [(0, .ref h), (1, .int v1_54), (2, .int x2), (3, .int x3), (4, .int (nI i4))]) [1, 0, 2, 3, 4] (pc' := 55) dX0_oweCharges_54 rfl (by decide) (fun _ => rfl) rfl (fun v1_54 ev1_54 => ?_)
          refine j_aload_n X (pc' := 56) 0 dX0_oweCharges_55 rfl rfl rfl ?_
          refine j_get X inX0 rfl (pc' := 59) 0 3 q_fl_X0_21 (by decide) rfl rfl dX0_oweCharges_56 rfl ?_
          refine j_iload_n X (pc' := 60) 3 dX0_oweCharges_59 rfl rfl rfl ?_
          refine j_dup2 X (pc' := 61) dX0_oweCharges_60 rfl rfl rfl ?_
          refine j_iald X (pc' := 62) 4 rfl hv3 dX0_oweCharges_61 rfl ?_
          refine j_aload_n X (pc' := 63) 0 dX0_oweCharges_62 rfl rfl rfl ?_
          refine j_iload_n X (pc' := 64) 1 dX0_oweCharges_63 rfl rfl rfl ?_
          refine j_callVi X (pc' := 67) (As := [.int v1_54]) (rest := [.int (C 3 x3.toNatClampNeg), .int x3, .ref (ar 3)]) (c_X0_damageOf l D cI cH cO h ar C v1_54 ) wv_X0_83 ⟨0, 0, _, _, rfl, rfl, rfl⟩ ⟨by decide, by decide, by decide, by decide⟩ rfl rfl (Nat.le_of_ble_eq_true rfl) dX0_oweCharges_64 rfl ?_
          refine j_topL (fun r_64 er_64 => ?_)
          refine j_iload_n X (pc' := 68) 2 dX0_oweCharges_67 rfl rfl rfl ?_
          refine j_isub X (pc' := 69) dX0_oweCharges_68 rfl ?_
          refine j_iadd X (pc' := 70) dX0_oweCharges_69 rfl ?_
          refine j_iast X (pc' := 71) (S := up C 3 x3.toNatClampNeg ((C 3 x3.toNatClampNeg) + (r_64 - x2))) (fun S_70 => (wC cI h ar S_70)) 4 rfl rfl hv3 dX0_oweCharges_70 rfl (fun S_70 eS_70 => ?_)
          refine j_aload_n X (pc' := 72) 0 dX0_oweCharges_71 rfl rfl rfl ?_
          refine j_iload_n X (pc' := 73) 1 dX0_oweCharges_72 rfl rfl rfl ?_
          refine j_callVi X (pc' := 76) (As := [.int v1_54]) (rest := []) (c_X0_damageOf l D cI cH cO h ar S_70 v1_54 ) wv_X0_83 ⟨0, 0, _, _, rfl, rfl, rfl⟩ ⟨by decide, by decide, by decide, by decide⟩ rfl rfl (Nat.le_of_ble_eq_true rfl) dX0_oweCharges_73 rfl ?_
          refine j_topL (fun r_73 er_73 => ?_)
          refine j_istore_n X (lv' := [(0, .ref h), (1, .int v1_54), (2, .int r_73), (3, .int x3), (4, .int (nI i4))]) (pc' := 77) [1, 2, 0, 3, 4] dX0_oweCharges_76 rfl (by decide) rfl rfl ?_
          refine j_lv [0, 1, 2, 3, 4] (lv' := [(0, .ref h), (1, .int v1_54), (2, .int r_73), (3, .int x3), (4, .int (nI i4))]) rfl ?_
          exact hK77 _ _ _ _ _ (by first | omega | assumption | decide | (subst_vars; first | assumption | omega | exact hM)) (by first | omega | assumption | decide | (subst_vars; first | assumption | omega | exact hM)) (by first | omega | assumption | decide | (subst_vars; first | assumption | omega | exact hM))
  refine j_ltv (fun K25 eK25 => ?_)
  have hK25 : ∀ (C : Cst) (x1 : Int32) (x2 : Int32) (t0 : Int32) (hM : (C 9 0).toInt ≤ 8), J p l e (rml 1) s m args below meth c 5 D (va_A ws0 s.heap.size) 0 0 (KV below args s D (tyl cI cH cO) ws0 (fun C9 => (wC cI h ar C9))) (K25 C x1 x2 t0) ((wC cI h ar C)) 25 [(0, .ref h), (1, .int x1), (2, .int x2)] [.int t0] := by
    intro C x1 x2 t0 hM
    rw [eK25]
    refine j_istore_n X (lv' := [(0, .ref h), (1, .int x1), (2, .int x2), (3, .int t0)]) (pc' := 26) [1, 2, 3, 0] dX0_oweCharges_25 rfl (by decide) rfl rfl ?_
    refine j_iconst X (v := 0) (pc' := 27) dX0_oweCharges_26 (by decide) rfl ?_
    refine j_istore X (lv' := [(0, .ref h), (1, .int x1), (2, .int x2), (3, .int t0), (4, .int 0)]) (pc' := 29) [1, 2, 3, 4, 0] dX0_oweCharges_27 (by decide) rfl rfl ?_
    refine j_lv [0, 1, 2, 3, 4] (lv' := [(0, .ref h), (1, .int x1), (2, .int x2), (3, .int t0), (4, .int 0)]) rfl ?_
    exact hL29 _ _ _ _ _ _ (by first | omega | assumption | decide | (subst_vars; first | assumption | omega | exact hM)) (by first | omega | assumption | decide | (subst_vars; first | assumption | omega | exact hM)) (by first | omega | assumption | decide | (subst_vars; first | assumption | omega | exact hM))
  refine j_iconst X (v := 0) (pc' := 1) dX0_oweCharges_0 (by decide) rfl ?_
  refine j_istore_n X (lv' := [(0, .ref h), (1, .int 0)]) (pc' := 2) [1, 0] dX0_oweCharges_1 rfl (by decide) rfl rfl ?_
  refine j_iconst X (v := 0) (pc' := 3) dX0_oweCharges_2 (by decide) rfl ?_
  refine j_istore_n X (lv' := [(0, .ref h), (1, .int 0), (2, .int 0)]) (pc' := 4) [1, 2, 0] dX0_oweCharges_3 rfl (by decide) rfl rfl ?_
  refine j_aload_n X (pc' := 5) 0 dX0_oweCharges_4 rfl rfl rfl ?_
  refine j_get X inX0 rfl (pc' := 8) 0 9 q_fl_X0_47 (by decide) rfl rfl dX0_oweCharges_5 rfl ?_
  refine j_iconst X (v := 1) (pc' := 9) dX0_oweCharges_8 (by decide) rfl ?_
  refine j_icmp_ge X (tgt := 16) (pc' := 12) dX0_oweCharges_9 (by decide) rfl (fun c_9 => ?_) (fun c_9 => ?_)
  · refine j_aload_n X (pc' := 17) 0 dX0_oweCharges_16 rfl rfl rfl ?_
    refine j_get X inX0 rfl (pc' := 20) 0 10 q_fl_X0_50 (by decide) rfl rfl dX0_oweCharges_17 rfl ?_
    refine j_aload_n X (pc' := 21) 0 dX0_oweCharges_20 rfl rfl rfl ?_
    refine j_get X inX0 rfl (pc' := 24) 0 9 q_fl_X0_47 (by decide) rfl rfl dX0_oweCharges_21 rfl ?_
    refine j_irem X (pc' := 25) dX0_oweCharges_24 (by intro h; rw [h] at c_9; exact absurd c_9 (by decide)) rfl ?_
    refine j_lv [0, 1, 2] (lv' := [(0, .ref h), (1, .int 0), (2, .int 0)]) rfl ?_
    exact hK25 _ _ _ _ (by first | omega | assumption | decide | (subst_vars; first | assumption | omega | exact hM))
  · refine j_iconst X (v := 0) (pc' := 13) dX0_oweCharges_12 (by decide) rfl ?_
    refine j_goto X (pc' := 25) dX0_oweCharges_13 (by decide) ?_
    refine j_lv [0, 1, 2] (lv' := [(0, .ref h), (1, .int 0), (2, .int 0)]) rfl ?_
    exact hK25 _ _ _ _ (by first | omega | assumption | decide | (subst_vars; first | assumption | omega | exact hM))
theorem c_X0_oweCharges (l : Launch) (D : va_G) (cI cH cO : ClassId) (h : Nat) (ar : Nat → Nat) (C : Cst) (hM : (C 9 0).toInt ≤ 8) : MV l yX0_oweCharges cX0_oweCharges 5 1 D (tyl cI cH cO) [.ref h] ((wC cI h ar C)) ((wC cI h ar (sX0_oweCharges C))) := fun sz => j_start (fun below s => (KV below [.ref h].toArray s D (tyl cI cH cO) ((wC cI h ar C)) (fun C9 => (wC cI h ar C9)))) (sX0_oweCharges C) (by decide +kernel) rfl (Nat.le_of_ble_eq_true rfl) (fun below s hs _ => by subst hs; rfl) (fun p e s m below meth c _ X => b_X0_oweCharges h ar C hM X)
def sX0_keepSeason (C : Cst) (x1 : Int32) (x2 : Int32) : Cst := ltv (((C 10 0) % 6) * 5) (fun (v3_9 : Int32) => ltv (up C 8 v3_9.toNatClampNeg (C 10 0)) (fun (S_19 : Cst) => ltv (up S_19 8 (v3_9 + 1).toNatClampNeg x1) (fun (S_28 : Cst) => ltv (up S_28 8 (v3_9 + 2).toNatClampNeg x2) (fun (S_37 : Cst) => ltv (up S_37 8 (v3_9 + 3).toNatClampNeg (S_37 11 0)) (fun (S_49 : Cst) => ltv (up S_49 8 (v3_9 + 4).toNatClampNeg (S_49 13 0)) (fun (S_61 : Cst) => S_61))))))
set_option maxHeartbeats 4000000 in
set_option maxRecDepth 100000 in
theorem b_X0_keepSeason {p : Program} {l : Launch} {e : Env} {s : State} {m : MethodId} {args : Array Value} {below : List Frame} {meth : Method} {c : Code} {D : va_G} {cI cH cO : ClassId} {ws0 : va_W} (h : Nat) (ar : Nat → Nat) (C : Cst) (x1 : Int32) (x2 : Int32) (hS0 : 0 ≤ (C 10 0).toInt) (X : CX p s m args meth c cX0_keepSeason 4 RX0 none D (tyl cI cH cO) (va_A ws0 s.heap.size)) : J p l e (rml 0) s m args below meth c 4 D (va_A ws0 s.heap.size) 0 0 (KV below args s D (tyl cI cH cO) ws0 (fun C9 => (wC cI h ar C9))) (sX0_keepSeason C x1 x2) ((wC cI h ar C)) 0 [(0, .ref h), (1, .int x1), (2, .int x2)] [] := by
  unfold sX0_keepSeason
  refine j_aload_n X (pc' := 1) 0 dX0_keepSeason_0 rfl rfl rfl ?_
  refine j_get X inX0 rfl (pc' := 4) 0 10 q_fl_X0_50 (by decide) rfl rfl dX0_keepSeason_1 rfl ?_
  refine j_bipush X (v := 6) (pc' := 6) dX0_keepSeason_4 (by decide) rfl ?_
  refine j_irem X (pc' := 7) dX0_keepSeason_6 (by decide) rfl ?_
  refine j_iconst X (v := 5) (pc' := 8) dX0_keepSeason_7 (by decide) rfl ?_
  refine j_imul X (pc' := 9) dX0_keepSeason_8 rfl ?_
  refine j_istore_nL X (fun v3_9 => [(0, .ref h), (1, .int x1), (2, .int x2), (3, .int v3_9)]) [1, 2, 3, 0] (pc' := 10) dX0_keepSeason_9 rfl (by decide) (fun _ => rfl) rfl (fun v3_9 ev3_9 => ?_)
  refine j_aload_n X (pc' := 11) 0 dX0_keepSeason_10 rfl rfl rfl ?_
  refine j_get X inX0 rfl (pc' := 14) 0 8 q_fl_X0_36 (by decide) rfl rfl dX0_keepSeason_11 rfl ?_
  refine j_iload_n X (pc' := 15) 3 dX0_keepSeason_14 rfl rfl rfl ?_
  refine j_aload_n X (pc' := 16) 0 dX0_keepSeason_15 rfl rfl rfl ?_
  refine j_get X inX0 rfl (pc' := 19) 0 10 q_fl_X0_50 (by decide) rfl rfl dX0_keepSeason_16 rfl ?_
  refine j_iast X (pc' := 20) (S := up C 8 v3_9.toNatClampNeg (C 10 0)) (fun S_19 => (wC cI h ar S_19)) 9 rfl rfl (kS_in0 hS0 ev3_9) dX0_keepSeason_19 rfl (fun S_19 eS_19 => ?_)
  refine j_aload_n X (pc' := 21) 0 dX0_keepSeason_20 rfl rfl rfl ?_
  refine j_get X inX0 rfl (pc' := 24) 0 8 q_fl_X0_36 (by decide) rfl rfl dX0_keepSeason_21 rfl ?_
  refine j_iload_n X (pc' := 25) 3 dX0_keepSeason_24 rfl rfl rfl ?_
  refine j_iconst X (v := 1) (pc' := 26) dX0_keepSeason_25 (by decide) rfl ?_
  refine j_iadd X (pc' := 27) dX0_keepSeason_26 rfl ?_
  refine j_iload_n X (pc' := 28) 1 dX0_keepSeason_27 rfl rfl rfl ?_
  refine j_iast X (pc' := 29) (S := up S_19 8 (v3_9 + 1).toNatClampNeg x1) (fun S_28 => (wC cI h ar S_28)) 9 rfl rfl (kS_in hS0 ev3_9 1 (by decide)) dX0_keepSeason_28 rfl (fun S_28 eS_28 => ?_)
  refine j_aload_n X (pc' := 30) 0 dX0_keepSeason_29 rfl rfl rfl ?_
  refine j_get X inX0 rfl (pc' := 33) 0 8 q_fl_X0_36 (by decide) rfl rfl dX0_keepSeason_30 rfl ?_
  refine j_iload_n X (pc' := 34) 3 dX0_keepSeason_33 rfl rfl rfl ?_
  refine j_iconst X (v := 2) (pc' := 35) dX0_keepSeason_34 (by decide) rfl ?_
  refine j_iadd X (pc' := 36) dX0_keepSeason_35 rfl ?_
  refine j_iload_n X (pc' := 37) 2 dX0_keepSeason_36 rfl rfl rfl ?_
  refine j_iast X (pc' := 38) (S := up S_28 8 (v3_9 + 2).toNatClampNeg x2) (fun S_37 => (wC cI h ar S_37)) 9 rfl rfl (kS_in hS0 ev3_9 2 (by decide)) dX0_keepSeason_37 rfl (fun S_37 eS_37 => ?_)
  refine j_aload_n X (pc' := 39) 0 dX0_keepSeason_38 rfl rfl rfl ?_
  refine j_get X inX0 rfl (pc' := 42) 0 8 q_fl_X0_36 (by decide) rfl rfl dX0_keepSeason_39 rfl ?_
  refine j_iload_n X (pc' := 43) 3 dX0_keepSeason_42 rfl rfl rfl ?_
  refine j_iconst X (v := 3) (pc' := 44) dX0_keepSeason_43 (by decide) rfl ?_
  refine j_iadd X (pc' := 45) dX0_keepSeason_44 rfl ?_
  refine j_aload_n X (pc' := 46) 0 dX0_keepSeason_45 rfl rfl rfl ?_
  refine j_get X inX0 rfl (pc' := 49) 0 11 q_fl_X0_39 (by decide) rfl rfl dX0_keepSeason_46 rfl ?_
  refine j_iast X (pc' := 50) (S := up S_37 8 (v3_9 + 3).toNatClampNeg (S_37 11 0)) (fun S_49 => (wC cI h ar S_49)) 9 rfl rfl (kS_in hS0 ev3_9 3 (by decide)) dX0_keepSeason_49 rfl (fun S_49 eS_49 => ?_)
  refine j_aload_n X (pc' := 51) 0 dX0_keepSeason_50 rfl rfl rfl ?_
  refine j_get X inX0 rfl (pc' := 54) 0 8 q_fl_X0_36 (by decide) rfl rfl dX0_keepSeason_51 rfl ?_
  refine j_iload_n X (pc' := 55) 3 dX0_keepSeason_54 rfl rfl rfl ?_
  refine j_iconst X (v := 4) (pc' := 56) dX0_keepSeason_55 (by decide) rfl ?_
  refine j_iadd X (pc' := 57) dX0_keepSeason_56 rfl ?_
  refine j_aload_n X (pc' := 58) 0 dX0_keepSeason_57 rfl rfl rfl ?_
  refine j_get X inX0 rfl (pc' := 61) 0 13 q_fl_X0_56 (by decide) rfl rfl dX0_keepSeason_58 rfl ?_
  refine j_iast X (pc' := 62) (S := up S_49 8 (v3_9 + 4).toNatClampNeg (S_49 13 0)) (fun S_61 => (wC cI h ar S_61)) 9 rfl rfl (kS_in hS0 ev3_9 4 (by decide)) dX0_keepSeason_61 rfl (fun S_61 eS_61 => ?_)
  exact j_vret X rfl dX0_keepSeason_62
theorem c_X0_keepSeason (l : Launch) (D : va_G) (cI cH cO : ClassId) (h : Nat) (ar : Nat → Nat) (C : Cst) (x1 : Int32) (x2 : Int32) (hS0 : 0 ≤ (C 10 0).toInt) : MV l yX0_keepSeason cX0_keepSeason 4 0 D (tyl cI cH cO) [.ref h, .int x1, .int x2] ((wC cI h ar C)) ((wC cI h ar (sX0_keepSeason C x1 x2))) := fun sz => j_start (fun below s => (KV below [.ref h, .int x1, .int x2].toArray s D (tyl cI cH cO) ((wC cI h ar C)) (fun C9 => (wC cI h ar C9)))) (sX0_keepSeason C x1 x2) (by decide +kernel) rfl (Nat.le_of_ble_eq_true rfl) (fun below s hs _ => by subst hs; rfl) (fun p e s m below meth c _ X => b_X0_keepSeason h ar C x1 x2 hS0 X)
def sX0_bookUses (C : Cst) : Cst := ltl2 (fun R2 (C : Cst) (i1 : Nat) => (if 8 ≤ (nI i1) then C else ltv (up C 5 i1 ((C 5 i1) + (C 2 i1))) (fun (S_22 : Cst) => ltv (up S_22 6 i1 ((S_22 6 i1) + (S_22 2 i1))) (fun (S_37 : Cst) => ltv (up S_37 2 i1 0) (fun (S_44 : Cst) => R2 S_44 (i1 + 1)))))) (fun (C : Cst) (i1 : Nat) => C) (fun L2 => (L2 9 C 0))
set_option maxHeartbeats 4000000 in
set_option maxRecDepth 100000 in
theorem b_X0_bookUses {p : Program} {l : Launch} {e : Env} {s : State} {m : MethodId} {args : Array Value} {below : List Frame} {meth : Method} {c : Code} {D : va_G} {cI cH cO : ClassId} {ws0 : va_W} (h : Nat) (ar : Nat → Nat) (C : Cst)  (X : CX p s m args meth c cX0_bookUses 2 RX0 none D (tyl cI cH cO) (va_A ws0 s.heap.size)) : J p l e (rml 0) s m args below meth c 2 D (va_A ws0 s.heap.size) 0 0 (KV below args s D (tyl cI cH cO) ws0 (fun C9 => (wC cI h ar C9))) (sX0_bookUses C) ((wC cI h ar C)) 0 [(0, .ref h)] [] := by
  unfold sX0_bookUses
  refine j_ltl2 (fun L2 eL2 => ?_)
  have hL2 : ∀ (n2 : Nat) (C : Cst) (i1 : Nat) (hi : i1 ≤ 8) (hfu : 9 ≤ i1 + n2), J p l e (rml 0) s m args below meth c 2 D (va_A ws0 s.heap.size) 0 0 (KV below args s D (tyl cI cH cO) ws0 (fun C9 => (wC cI h ar C9))) (L2 n2 C i1) ((wC cI h ar C)) 2 [(0, .ref h), (1, .int (nI i1))] [] := by
    intro n2
    induction n2 with
    | zero =>
      intro C i1 hi hfu
      exact absurd hfu (by omega)
    | succ n2 ih2 =>
      intro C i1 hi hfu
      rw [eL2]
      refine j_iload_n X (pc' := 3) 1 dX0_bookUses_2 rfl rfl rfl ?_
      refine j_bipush X (v := 8) (pc' := 5) dX0_bookUses_3 (by decide) rfl ?_
      refine j_icmp_ge X (tgt := 51) (pc' := 8) dX0_bookUses_5 (by decide) rfl (fun c_5 => ?_) (fun c_5 => ?_)
      · have f_5 : 8 ≤ i1 := (nI_leI (a := 8) (b := i1) (by omega) (by omega)).mp c_5
        exact j_vret X rfl dX0_bookUses_51
      · have f_5 : ¬ (8 ≤ i1) := fun h => c_5 ((nI_leI (a := 8) (b := i1) (by omega) (by omega)).mpr h)
        refine j_aload_n X (pc' := 9) 0 dX0_bookUses_8 rfl rfl rfl ?_
        refine j_get X inX0 rfl (pc' := 12) 0 5 q_fl_X0_27 (by decide) rfl rfl dX0_bookUses_9 rfl ?_
        refine j_iload_n X (pc' := 13) 1 dX0_bookUses_12 rfl rfl rfl ?_
        refine j_dup2 X (pc' := 14) dX0_bookUses_13 rfl rfl rfl ?_
        refine j_ialdN X (i := i1) (pc' := 15) 6 rfl (by omega) (by decide) dX0_bookUses_14 rfl ?_
        refine j_aload_n X (pc' := 16) 0 dX0_bookUses_15 rfl rfl rfl ?_
        refine j_get X inX0 rfl (pc' := 19) 0 2 q_fl_X0_18 (by decide) rfl rfl dX0_bookUses_16 rfl ?_
        refine j_iload_n X (pc' := 20) 1 dX0_bookUses_19 rfl rfl rfl ?_
        refine j_ialdN X (i := i1) (pc' := 21) 3 rfl (by omega) (by decide) dX0_bookUses_20 rfl ?_
        refine j_iadd X (pc' := 22) dX0_bookUses_21 rfl ?_
        refine j_iastN X (i := i1) (pc' := 23) (S := up C 5 i1 ((C 5 i1) + (C 2 i1))) (fun S_22 => (wC cI h ar S_22)) 6 rfl rfl (by omega) (by decide) dX0_bookUses_22 rfl (fun S_22 eS_22 => ?_)
        refine j_aload_n X (pc' := 24) 0 dX0_bookUses_23 rfl rfl rfl ?_
        refine j_get X inX0 rfl (pc' := 27) 0 6 q_fl_X0_30 (by decide) rfl rfl dX0_bookUses_24 rfl ?_
        refine j_iload_n X (pc' := 28) 1 dX0_bookUses_27 rfl rfl rfl ?_
        refine j_dup2 X (pc' := 29) dX0_bookUses_28 rfl rfl rfl ?_
        refine j_ialdN X (i := i1) (pc' := 30) 7 rfl (by omega) (by decide) dX0_bookUses_29 rfl ?_
        refine j_aload_n X (pc' := 31) 0 dX0_bookUses_30 rfl rfl rfl ?_
        refine j_get X inX0 rfl (pc' := 34) 0 2 q_fl_X0_18 (by decide) rfl rfl dX0_bookUses_31 rfl ?_
        refine j_iload_n X (pc' := 35) 1 dX0_bookUses_34 rfl rfl rfl ?_
        refine j_ialdN X (i := i1) (pc' := 36) 3 rfl (by omega) (by decide) dX0_bookUses_35 rfl ?_
        refine j_iadd X (pc' := 37) dX0_bookUses_36 rfl ?_
        refine j_iastN X (i := i1) (pc' := 38) (S := up S_22 6 i1 ((S_22 6 i1) + (S_22 2 i1))) (fun S_37 => (wC cI h ar S_37)) 7 rfl rfl (by omega) (by decide) dX0_bookUses_37 rfl (fun S_37 eS_37 => ?_)
        refine j_aload_n X (pc' := 39) 0 dX0_bookUses_38 rfl rfl rfl ?_
        refine j_get X inX0 rfl (pc' := 42) 0 2 q_fl_X0_18 (by decide) rfl rfl dX0_bookUses_39 rfl ?_
        refine j_iload_n X (pc' := 43) 1 dX0_bookUses_42 rfl rfl rfl ?_
        refine j_iconst X (v := 0) (pc' := 44) dX0_bookUses_43 (by decide) rfl ?_
        refine j_iastN X (i := i1) (pc' := 45) (S := up S_37 2 i1 0) (fun S_44 => (wC cI h ar S_44)) 3 rfl rfl (by omega) (by decide) dX0_bookUses_44 rfl (fun S_44 eS_44 => ?_)
        refine j_iinc X (v := (nI (i1 + 1))) (lv' := [(0, .ref h), (1, .int (nI (i1 + 1)))]) (q := 1) (pc' := 48) [1, 0] dX0_bookUses_45 rfl (nI_1 i1) (by decide) rfl rfl ?_
        refine j_goto X (pc' := 2) dX0_bookUses_48 (by decide) ?_
        refine j_lv [0, 1] (lv' := [(0, .ref h), (1, .int (nI (i1 + 1)))]) rfl ?_
        exact ih2 _ _ (by first | omega | assumption | decide | (subst_vars; first | assumption | omega)) (by first | omega | assumption | decide | (subst_vars; first | assumption | omega))
  refine j_iconst X (v := 0) (pc' := 1) dX0_bookUses_0 (by decide) rfl ?_
  refine j_istore_n X (lv' := [(0, .ref h), (1, .int 0)]) (pc' := 2) [1, 0] dX0_bookUses_1 rfl (by decide) rfl rfl ?_
  refine j_lv [0, 1] (lv' := [(0, .ref h), (1, .int 0)]) rfl ?_
  exact hL2 _ _ _ (by first | omega | assumption | decide | (subst_vars; first | assumption | omega)) (by first | omega | assumption | decide | (subst_vars; first | assumption | omega))
theorem c_X0_bookUses (l : Launch) (D : va_G) (cI cH cO : ClassId) (h : Nat) (ar : Nat → Nat) (C : Cst)  : MV l yX0_bookUses cX0_bookUses 2 0 D (tyl cI cH cO) [.ref h] ((wC cI h ar C)) ((wC cI h ar (sX0_bookUses C))) := fun sz => j_start (fun below s => (KV below [.ref h].toArray s D (tyl cI cH cO) ((wC cI h ar C)) (fun C9 => (wC cI h ar C9)))) (sX0_bookUses C) (by decide +kernel) rfl (Nat.le_of_ble_eq_true rfl) (fun below s hs _ => by subst hs; rfl) (fun p e s m below meth c _ X => b_X0_bookUses h ar C  X)
def sX0_noteSeasonsOut (C : Cst) : Cst := ltl2 (fun R2 (C : Cst) (i1 : Nat) => ltv (fun (C : Cst) (i1 : Nat) => R2 C (i1 + 1)) (fun K26 => ((if 8 ≤ (nI i1) then C else ltv (sX0_isOut C (nI i1)) (fun (r_10 : Int32) => (if r_10 = 0 then K26 C i1 else ltv (up C 7 i1 ((C 7 i1) + 1)) (fun (S_25 : Cst) => K26 S_25 i1))))))) (fun (C : Cst) (i1 : Nat) => C) (fun L2 => (L2 9 C 0))
set_option maxHeartbeats 4000000 in
set_option maxRecDepth 100000 in
theorem b_X0_noteSeasonsOut {p : Program} {l : Launch} {e : Env} {s : State} {m : MethodId} {args : Array Value} {below : List Frame} {meth : Method} {c : Code} {D : va_G} {cI cH cO : ClassId} {ws0 : va_W} (h : Nat) (ar : Nat → Nat) (C : Cst)  (X : CX p s m args meth c cX0_noteSeasonsOut 2 RX0 none D (tyl cI cH cO) (va_A ws0 s.heap.size)) : J p l e (rml 1) s m args below meth c 2 D (va_A ws0 s.heap.size) 0 0 (KV below args s D (tyl cI cH cO) ws0 (fun C9 => (wC cI h ar C9))) (sX0_noteSeasonsOut C) ((wC cI h ar C)) 0 [(0, .ref h)] [] := by
  unfold sX0_noteSeasonsOut
  refine j_ltl2 (fun L2 eL2 => ?_)
  have hL2 : ∀ (n2 : Nat) (C : Cst) (i1 : Nat) (hi : i1 ≤ 8) (hfu : 9 ≤ i1 + n2), J p l e (rml 1) s m args below meth c 2 D (va_A ws0 s.heap.size) 0 0 (KV below args s D (tyl cI cH cO) ws0 (fun C9 => (wC cI h ar C9))) (L2 n2 C i1) ((wC cI h ar C)) 2 [(0, .ref h), (1, .int (nI i1))] [] := by
    intro n2
    induction n2 with
    | zero =>
      intro C i1 hi hfu
      exact absurd hfu (by omega)
    | succ n2 ih2 =>
      intro C i1 hi hfu
      rw [eL2]
      refine j_ltv (fun K26 eK26 => ?_)
      have hK26 : ∀ (C : Cst) (i1 : Nat) (hi : i1 < 8) (hfu : 9 ≤ i1 + (n2 + 1)), J p l e (rml 1) s m args below meth c 2 D (va_A ws0 s.heap.size) 0 0 (KV below args s D (tyl cI cH cO) ws0 (fun C9 => (wC cI h ar C9))) (K26 C i1) ((wC cI h ar C)) 26 [(0, .ref h), (1, .int (nI i1))] [] := by
        intro C i1 hi hfu
        rw [eK26]
        refine j_iinc X (v := (nI (i1 + 1))) (lv' := [(0, .ref h), (1, .int (nI (i1 + 1)))]) (q := 1) (pc' := 29) [1, 0] dX0_noteSeasonsOut_26 rfl (nI_1 i1) (by decide) rfl rfl ?_
        refine j_goto X (pc' := 2) dX0_noteSeasonsOut_29 (by decide) ?_
        refine j_lv [0, 1] (lv' := [(0, .ref h), (1, .int (nI (i1 + 1)))]) rfl ?_
        exact ih2 _ _ (by first | omega | assumption | decide | (subst_vars; first | assumption | omega)) (by first | omega | assumption | decide | (subst_vars; first | assumption | omega))
      refine j_iload_n X (pc' := 3) 1 dX0_noteSeasonsOut_2 rfl rfl rfl ?_
      refine j_bipush X (v := 8) (pc' := 5) dX0_noteSeasonsOut_3 (by decide) rfl ?_
      refine j_icmp_ge X (tgt := 32) (pc' := 8) dX0_noteSeasonsOut_5 (by decide) rfl (fun c_5 => ?_) (fun c_5 => ?_)
      · have f_5 : 8 ≤ i1 := (nI_leI (a := 8) (b := i1) (by omega) (by omega)).mp c_5
        exact j_vret X rfl dX0_noteSeasonsOut_32
      · have f_5 : ¬ (8 ≤ i1) := fun h => c_5 ((nI_leI (a := 8) (b := i1) (by omega) (by omega)).mpr h)
        refine j_aload_n X (pc' := 9) 0 dX0_noteSeasonsOut_8 rfl rfl rfl ?_
        refine j_iload_n X (pc' := 10) 1 dX0_noteSeasonsOut_9 rfl rfl rfl ?_
        refine j_callVi X (pc' := 13) (As := [.int (nI i1)]) (rest := []) (c_X0_isOut l D cI cH cO h ar C (nI i1) ) wv_X0_93 ⟨0, 0, _, _, rfl, rfl, rfl⟩ ⟨by decide, by decide, by decide, by decide⟩ rfl rfl (Nat.le_of_ble_eq_true rfl) dX0_noteSeasonsOut_10 rfl ?_
        refine j_topL (fun r_10 er_10 => ?_)
        refine j_if_eq X (tgt := 26) (pc' := 16) dX0_noteSeasonsOut_13 (by decide) rfl (fun c_13 => ?_) (fun c_13 => ?_)
        · refine j_lv [0, 1] (lv' := [(0, .ref h), (1, .int (nI i1))]) rfl ?_
          exact hK26 _ _ (by first | omega | assumption | decide | (subst_vars; first | assumption | omega)) (by first | omega | assumption | decide | (subst_vars; first | assumption | omega))
        · refine j_aload_n X (pc' := 17) 0 dX0_noteSeasonsOut_16 rfl rfl rfl ?_
          refine j_get X inX0 rfl (pc' := 20) 0 7 q_fl_X0_33 (by decide) rfl rfl dX0_noteSeasonsOut_17 rfl ?_
          refine j_iload_n X (pc' := 21) 1 dX0_noteSeasonsOut_20 rfl rfl rfl ?_
          refine j_dup2 X (pc' := 22) dX0_noteSeasonsOut_21 rfl rfl rfl ?_
          refine j_ialdN X (i := i1) (pc' := 23) 8 rfl (by omega) (by decide) dX0_noteSeasonsOut_22 rfl ?_
          refine j_iconst X (v := 1) (pc' := 24) dX0_noteSeasonsOut_23 (by decide) rfl ?_
          refine j_iadd X (pc' := 25) dX0_noteSeasonsOut_24 rfl ?_
          refine j_iastN X (i := i1) (pc' := 26) (S := up C 7 i1 ((C 7 i1) + 1)) (fun S_25 => (wC cI h ar S_25)) 8 rfl rfl (by omega) (by decide) dX0_noteSeasonsOut_25 rfl (fun S_25 eS_25 => ?_)
          refine j_lv [0, 1] (lv' := [(0, .ref h), (1, .int (nI i1))]) rfl ?_
          exact hK26 _ _ (by first | omega | assumption | decide | (subst_vars; first | assumption | omega)) (by first | omega | assumption | decide | (subst_vars; first | assumption | omega))
  refine j_iconst X (v := 0) (pc' := 1) dX0_noteSeasonsOut_0 (by decide) rfl ?_
  refine j_istore_n X (lv' := [(0, .ref h), (1, .int 0)]) (pc' := 2) [1, 0] dX0_noteSeasonsOut_1 rfl (by decide) rfl rfl ?_
  refine j_lv [0, 1] (lv' := [(0, .ref h), (1, .int 0)]) rfl ?_
  exact hL2 _ _ _ (by first | omega | assumption | decide | (subst_vars; first | assumption | omega)) (by first | omega | assumption | decide | (subst_vars; first | assumption | omega))
theorem c_X0_noteSeasonsOut (l : Launch) (D : va_G) (cI cH cO : ClassId) (h : Nat) (ar : Nat → Nat) (C : Cst)  : MV l yX0_noteSeasonsOut cX0_noteSeasonsOut 2 1 D (tyl cI cH cO) [.ref h] ((wC cI h ar C)) ((wC cI h ar (sX0_noteSeasonsOut C))) := fun sz => j_start (fun below s => (KV below [.ref h].toArray s D (tyl cI cH cO) ((wC cI h ar C)) (fun C9 => (wC cI h ar C9)))) (sX0_noteSeasonsOut C) (by decide +kernel) rfl (Nat.le_of_ble_eq_true rfl) (fun below s hs _ => by subst hs; rfl) (fun p e s m below meth c _ X => b_X0_noteSeasonsOut h ar C  X)
def sX0_turnsNeeded (C : Cst) : Int32 := ltv ((C 0 1) - (C 11 0)) (fun (v1_11 : Int32) => (if 0 < v1_11 then ltv (((v1_11 + 10) - 1) / 10) (fun (v2_27 : Int32) => (if ((C 9 0) - 1) < v2_27 then ((C 9 0) - 1) else v2_27)) else 0))
set_option maxHeartbeats 4000000 in
set_option maxRecDepth 100000 in
theorem b_X0_turnsNeeded {p : Program} {l : Launch} {e : Env} {s : State} {m : MethodId} {args : Array Value} {below : List Frame} {meth : Method} {c : Code} {D : va_G} {cI cH cO : ClassId} (h : Nat) (ar : Nat → Nat) (C : Cst)  (X : CX p s m args meth c cX0_turnsNeeded 3 RX0 (some .int) D (tyl cI cH cO) (va_A ((wC cI h ar C)) s.heap.size)) : J p l e (rml 1) s m args below meth c 3 D (va_A ((wC cI h ar C)) s.heap.size) 0 0 (KP below args s D (tyl cI cH cO) ((wC cI h ar C))) (sX0_turnsNeeded C) ((wC cI h ar C)) 0 [(0, .ref h)] [] := by
  unfold sX0_turnsNeeded
  refine j_aload_n X (pc' := 1) 0 dX0_turnsNeeded_0 rfl rfl rfl ?_
  refine j_get X inX0 rfl (pc' := 4) 0 0 q_fl_X0_9 (by decide) rfl rfl dX0_turnsNeeded_1 rfl ?_
  refine j_iconst X (v := 1) (pc' := 5) dX0_turnsNeeded_4 (by decide) rfl ?_
  refine j_ialdN X (i := 1) (pc' := 6) 1 rfl (by omega) (by decide) dX0_turnsNeeded_5 rfl ?_
  refine j_aload_n X (pc' := 7) 0 dX0_turnsNeeded_6 rfl rfl rfl ?_
  refine j_get X inX0 rfl (pc' := 10) 0 11 q_fl_X0_39 (by decide) rfl rfl dX0_turnsNeeded_7 rfl ?_
  refine j_isub X (pc' := 11) dX0_turnsNeeded_10 rfl ?_
  refine j_istore_nL X (fun v1_11 => [(0, .ref h), (1, .int v1_11)]) [1, 0] (pc' := 12) dX0_turnsNeeded_11 rfl (by decide) (fun _ => rfl) rfl (fun v1_11 ev1_11 => ?_)
  refine j_iload_n X (pc' := 13) 1 dX0_turnsNeeded_12 rfl rfl rfl ?_
  refine j_if_gt X (tgt := 18) (pc' := 16) dX0_turnsNeeded_13 (by decide) rfl (fun c_13 => ?_) (fun c_13 => ?_)
  · refine j_iload_n X (pc' := 19) 1 dX0_turnsNeeded_18 rfl rfl rfl ?_
    refine j_bipush X (v := 10) (pc' := 21) dX0_turnsNeeded_19 (by decide) rfl ?_
    refine j_iadd X (pc' := 22) dX0_turnsNeeded_21 rfl ?_
    refine j_iconst X (v := 1) (pc' := 23) dX0_turnsNeeded_22 (by decide) rfl ?_
    refine j_isub X (pc' := 24) dX0_turnsNeeded_23 rfl ?_
    refine j_bipush X (v := 10) (pc' := 26) dX0_turnsNeeded_24 (by decide) rfl ?_
    refine j_idiv X (pc' := 27) dX0_turnsNeeded_26 (by decide) rfl ?_
    refine j_istore_nL X (fun v2_27 => [(0, .ref h), (1, .int v1_11), (2, .int v2_27)]) [1, 2, 0] (pc' := 28) dX0_turnsNeeded_27 rfl (by decide) (fun _ => rfl) rfl (fun v2_27 ev2_27 => ?_)
    refine j_iload_n X (pc' := 29) 2 dX0_turnsNeeded_28 rfl rfl rfl ?_
    refine j_aload_n X (pc' := 30) 0 dX0_turnsNeeded_29 rfl rfl rfl ?_
    refine j_get X inX0 rfl (pc' := 33) 0 9 q_fl_X0_47 (by decide) rfl rfl dX0_turnsNeeded_30 rfl ?_
    refine j_iconst X (v := 1) (pc' := 34) dX0_turnsNeeded_33 (by decide) rfl ?_
    refine j_isub X (pc' := 35) dX0_turnsNeeded_34 rfl ?_
    refine j_mmin X (pc' := 38) ⟨q_ml_X0_105, q_sta_J9_min, q_ini_J9, q_code_J9_min⟩ ⟨by decide, Nat.le_of_ble_eq_true rfl, by decide, by decide⟩ dX0_turnsNeeded_35 rfl ?_
    exact j_iretP X rfl rfl dX0_turnsNeeded_38
  · refine j_iconst X (v := 0) (pc' := 17) dX0_turnsNeeded_16 (by decide) rfl ?_
    exact j_iretP X rfl rfl dX0_turnsNeeded_17
theorem c_X0_turnsNeeded (l : Launch) (D : va_G) (cI cH cO : ClassId) (h : Nat) (ar : Nat → Nat) (C : Cst)  : MI l yX0_turnsNeeded cX0_turnsNeeded 3 (some .int) 1 D (tyl cI cH cO) [.ref h] ((wC cI h ar C)) (sX0_turnsNeeded C) ((wC cI h ar C)) := fun sz => j_start (fun below s => (KP below [.ref h].toArray s D (tyl cI cH cO) ((wC cI h ar C)))) (sX0_turnsNeeded C) (by decide +kernel) rfl (Nat.le_of_ble_eq_true rfl) (fun below s hs _ => by subst hs; rfl) (fun p e s m below meth c _ X => b_X0_turnsNeeded h ar C  X)
def sX0_heaviestNotIn (C : Cst) (x1 : Int32) : Int32 := ltl4 (fun R7 (x1 : Int32) (x2 : Int32) (x3 : Int32) (i4 : Nat) => ltv (fun (x1 : Int32) (x2 : Int32) (x3 : Int32) (i4 : Nat) => R7 x1 x2 x3 (i4 + 1)) (fun K54 => ((if 8 ≤ (nI i4) then x2 else (if (C 9 0) ≤ (nI i4) then x2 else (if ¬ ((x1 >>> ((nI i4) &&& 31)) &&& 1) = 0 then K54 x1 x2 x3 i4 else (if (C 6 i4) ≤ x3 then K54 x1 x2 x3 i4 else ltv (C 6 i4) (fun (v3_50 : Int32) => K54 x1 (nI i4) v3_50 i4)))))))) (fun (x1 : Int32) (x2 : Int32) (x3 : Int32) (i4 : Nat) => 0) (fun L7 => (L7 9 x1 (-1) (-1) 0))
set_option maxHeartbeats 4000000 in
set_option maxRecDepth 100000 in
theorem b_X0_heaviestNotIn {p : Program} {l : Launch} {e : Env} {s : State} {m : MethodId} {args : Array Value} {below : List Frame} {meth : Method} {c : Code} {D : va_G} {cI cH cO : ClassId} (h : Nat) (ar : Nat → Nat) (C : Cst) (x1 : Int32)  (X : CX p s m args meth c cX0_heaviestNotIn 5 RX0 (some .int) D (tyl cI cH cO) (va_A ((wC cI h ar C)) s.heap.size)) : J p l e (rml 0) s m args below meth c 5 D (va_A ((wC cI h ar C)) s.heap.size) 0 0 (KP below args s D (tyl cI cH cO) ((wC cI h ar C))) (sX0_heaviestNotIn C x1) ((wC cI h ar C)) 0 [(0, .ref h), (1, .int x1)] [] := by
  unfold sX0_heaviestNotIn
  refine j_ltl4 (fun L7 eL7 => ?_)
  have hL7 : ∀ (n7 : Nat) (x1 : Int32) (x2 : Int32) (x3 : Int32) (i4 : Nat) (hi : i4 ≤ 8) (hfu : 9 ≤ i4 + n7), J p l e (rml 0) s m args below meth c 5 D (va_A ((wC cI h ar C)) s.heap.size) 0 0 (KP below args s D (tyl cI cH cO) ((wC cI h ar C))) (L7 n7 x1 x2 x3 i4) ((wC cI h ar C)) 7 [(0, .ref h), (1, .int x1), (2, .int x2), (3, .int x3), (4, .int (nI i4))] [] := by
    intro n7
    induction n7 with
    | zero =>
      intro x1 x2 x3 i4 hi hfu
      exact absurd hfu (by omega)
    | succ n7 ih7 =>
      intro x1 x2 x3 i4 hi hfu
      rw [eL7]
      refine j_ltv (fun K54 eK54 => ?_)
      have hK54 : ∀ (x1 : Int32) (x2 : Int32) (x3 : Int32) (i4 : Nat) (hi : i4 < 8) (hfu : 9 ≤ i4 + (n7 + 1)), J p l e (rml 0) s m args below meth c 5 D (va_A ((wC cI h ar C)) s.heap.size) 0 0 (KP below args s D (tyl cI cH cO) ((wC cI h ar C))) (K54 x1 x2 x3 i4) ((wC cI h ar C)) 54 [(0, .ref h), (1, .int x1), (2, .int x2), (3, .int x3), (4, .int (nI i4))] [] := by
        intro x1 x2 x3 i4 hi hfu
        rw [eK54]
        refine j_iinc X (v := (nI (i4 + 1))) (lv' := [(0, .ref h), (1, .int x1), (2, .int x2), (3, .int x3), (4, .int (nI (i4 + 1)))]) (q := 4) (pc' := 57) [1, 2, 3, 4, 0] dX0_heaviestNotIn_54 rfl (nI_1 i4) (by decide) rfl rfl ?_
        refine j_goto X (pc' := 7) dX0_heaviestNotIn_57 (by decide) ?_
        refine j_lv [0, 1, 2, 3, 4] (lv' := [(0, .ref h), (1, .int x1), (2, .int x2), (3, .int x3), (4, .int (nI (i4 + 1)))]) rfl ?_
        exact ih7 _ _ _ _ (by first | omega | assumption | decide | (subst_vars; first | assumption | omega)) (by first | omega | assumption | decide | (subst_vars; first | assumption | omega))
      refine j_iload X (pc' := 9) 4 dX0_heaviestNotIn_7 rfl rfl ?_
      refine j_bipush X (v := 8) (pc' := 11) dX0_heaviestNotIn_9 (by decide) rfl ?_
      refine j_icmp_ge X (tgt := 60) (pc' := 14) dX0_heaviestNotIn_11 (by decide) rfl (fun c_11 => ?_) (fun c_11 => ?_)
      · have f_11 : 8 ≤ i4 := (nI_leI (a := 8) (b := i4) (by omega) (by omega)).mp c_11
        refine j_iload_n X (pc' := 61) 2 dX0_heaviestNotIn_60 rfl rfl rfl ?_
        exact j_iretP X rfl rfl dX0_heaviestNotIn_61
      · have f_11 : ¬ (8 ≤ i4) := fun h => c_11 ((nI_leI (a := 8) (b := i4) (by omega) (by omega)).mpr h)
        refine j_iload X (pc' := 16) 4 dX0_heaviestNotIn_14 rfl rfl ?_
        refine j_aload_n X (pc' := 17) 0 dX0_heaviestNotIn_16 rfl rfl rfl ?_
        refine j_get X inX0 rfl (pc' := 20) 0 9 q_fl_X0_47 (by decide) rfl rfl dX0_heaviestNotIn_17 rfl ?_
        refine j_icmp_ge X (tgt := 60) (pc' := 23) dX0_heaviestNotIn_20 (by decide) rfl (fun c_20 => ?_) (fun c_20 => ?_)
        · refine j_iload_n X (pc' := 61) 2 dX0_heaviestNotIn_60 rfl rfl rfl ?_
          exact j_iretP X rfl rfl dX0_heaviestNotIn_61
        · refine j_iload_n X (pc' := 24) 1 dX0_heaviestNotIn_23 rfl rfl rfl ?_
          refine j_iload X (pc' := 26) 4 dX0_heaviestNotIn_24 rfl rfl ?_
          refine j_ishr X (pc' := 27) dX0_heaviestNotIn_26 rfl ?_
          refine j_iconst X (v := 1) (pc' := 28) dX0_heaviestNotIn_27 (by decide) rfl ?_
          refine j_iand X (pc' := 29) dX0_heaviestNotIn_28 rfl ?_
          refine j_if_ne X (tgt := 54) (pc' := 32) dX0_heaviestNotIn_29 (by decide) rfl (fun c_29 => ?_) (fun c_29 => ?_)
          · refine j_lv [0, 1, 2, 3, 4] (lv' := [(0, .ref h), (1, .int x1), (2, .int x2), (3, .int x3), (4, .int (nI i4))]) rfl ?_
            exact hK54 _ _ _ _ (by first | omega | assumption | decide | (subst_vars; first | assumption | omega)) (by first | omega | assumption | decide | (subst_vars; first | assumption | omega))
          · refine j_aload_n X (pc' := 33) 0 dX0_heaviestNotIn_32 rfl rfl rfl ?_
            refine j_get X inX0 rfl (pc' := 36) 0 6 q_fl_X0_30 (by decide) rfl rfl dX0_heaviestNotIn_33 rfl ?_
            refine j_iload X (pc' := 38) 4 dX0_heaviestNotIn_36 rfl rfl ?_
            refine j_ialdN X (i := i4) (pc' := 39) 7 rfl (by omega) (by decide) dX0_heaviestNotIn_38 rfl ?_
            refine j_iload_n X (pc' := 40) 3 dX0_heaviestNotIn_39 rfl rfl rfl ?_
            refine j_icmp_le X (tgt := 54) (pc' := 43) dX0_heaviestNotIn_40 (by decide) rfl (fun c_40 => ?_) (fun c_40 => ?_)
            · refine j_lv [0, 1, 2, 3, 4] (lv' := [(0, .ref h), (1, .int x1), (2, .int x2), (3, .int x3), (4, .int (nI i4))]) rfl ?_
              exact hK54 _ _ _ _ (by first | omega | assumption | decide | (subst_vars; first | assumption | omega)) (by first | omega | assumption | decide | (subst_vars; first | assumption | omega))
            · refine j_aload_n X (pc' := 44) 0 dX0_heaviestNotIn_43 rfl rfl rfl ?_
              refine j_get X inX0 rfl (pc' := 47) 0 6 q_fl_X0_30 (by decide) rfl rfl dX0_heaviestNotIn_44 rfl ?_
              refine j_iload X (pc' := 49) 4 dX0_heaviestNotIn_47 rfl rfl ?_
              refine j_ialdN X (i := i4) (pc' := 50) 7 rfl (by omega) (by decide) dX0_heaviestNotIn_49 rfl ?_
              refine j_istore_nL X (fun v3_50 => [(0, .ref h), (1, .int x1), (2, .int x2), (3, .int v3_50), (4, .int (nI i4))]) [1, 2, 3, 0, 4] (pc' := 51) dX0_heaviestNotIn_50 rfl (by decide) (fun _ => rfl) rfl (fun v3_50 ev3_50 => ?_)
              refine j_iload X (pc' := 53) 4 dX0_heaviestNotIn_51 rfl rfl ?_
              refine j_istore_n X (lv' := [(0, .ref h), (1, .int x1), (2, .int (nI i4)), (3, .int v3_50), (4, .int (nI i4))]) (pc' := 54) [1, 2, 0, 3, 4] dX0_heaviestNotIn_53 rfl (by decide) rfl rfl ?_
              refine j_lv [0, 1, 2, 3, 4] (lv' := [(0, .ref h), (1, .int x1), (2, .int (nI i4)), (3, .int v3_50), (4, .int (nI i4))]) rfl ?_
              exact hK54 _ _ _ _ (by first | omega | assumption | decide | (subst_vars; first | assumption | omega)) (by first | omega | assumption | decide | (subst_vars; first | assumption | omega))
  refine j_iconst X (v := (-1)) (pc' := 1) dX0_heaviestNotIn_0 (by decide) rfl ?_
  refine j_istore_n X (lv' := [(0, .ref h), (1, .int x1), (2, .int (-1))]) (pc' := 2) [1, 2, 0] dX0_heaviestNotIn_1 rfl (by decide) rfl rfl ?_
  refine j_iconst X (v := (-1)) (pc' := 3) dX0_heaviestNotIn_2 (by decide) rfl ?_
  refine j_istore_n X (lv' := [(0, .ref h), (1, .int x1), (2, .int (-1)), (3, .int (-1))]) (pc' := 4) [1, 2, 3, 0] dX0_heaviestNotIn_3 rfl (by decide) rfl rfl ?_
  refine j_iconst X (v := 0) (pc' := 5) dX0_heaviestNotIn_4 (by decide) rfl ?_
  refine j_istore X (lv' := [(0, .ref h), (1, .int x1), (2, .int (-1)), (3, .int (-1)), (4, .int 0)]) (pc' := 7) [1, 2, 3, 4, 0] dX0_heaviestNotIn_5 (by decide) rfl rfl ?_
  refine j_lv [0, 1, 2, 3, 4] (lv' := [(0, .ref h), (1, .int x1), (2, .int (-1)), (3, .int (-1)), (4, .int 0)]) rfl ?_
  exact hL7 _ _ _ _ _ (by first | omega | assumption | decide | (subst_vars; first | assumption | omega)) (by first | omega | assumption | decide | (subst_vars; first | assumption | omega))
theorem c_X0_heaviestNotIn (l : Launch) (D : va_G) (cI cH cO : ClassId) (h : Nat) (ar : Nat → Nat) (C : Cst) (x1 : Int32)  : MI l yX0_heaviestNotIn cX0_heaviestNotIn 5 (some .int) 0 D (tyl cI cH cO) [.ref h, .int x1] ((wC cI h ar C)) (sX0_heaviestNotIn C x1) ((wC cI h ar C)) := fun sz => j_start (fun below s => (KP below [.ref h, .int x1].toArray s D (tyl cI cH cO) ((wC cI h ar C)))) (sX0_heaviestNotIn C x1) (by decide +kernel) rfl (Nat.le_of_ble_eq_true rfl) (fun below s hs _ => by subst hs; rfl) (fun p e s m below meth c _ X => b_X0_heaviestNotIn h ar C x1  X)
def sX0_excludeInTurn (C : Cst) (x1 : Int32) : Cst := ltl4 (fun R7 (C : Cst) (x1 : Int32) (x2 : Int32) (i3 : Nat) => (if x2 ≤ (nI i3) then C else ltv (sX0_heaviestNotIn C (x1 ||| (C 13 0))) (fun (r_19 : Int32) => ltv (sX0_has C r_19) (fun (r_27 : Int32) => (if ¬ r_27 = 0 then ltv (up C 13 0 ((C 13 0) ||| (1 <<< (r_19 &&& 31)))) (fun (S_44 : Cst) => ltv (up S_44 6 r_19.toNatClampNeg 0) (fun (S_54 : Cst) => R7 S_54 x1 x2 (i3 + 1))) else C))))) (fun (C : Cst) (x1 : Int32) (x2 : Int32) (i3 : Nat) => C) (fun L7 => (ltv (sX0_turnsNeeded C) (fun (r_1 : Int32) => L7 (r_1.toNatClampNeg + 1) C x1 r_1 0)))
set_option maxHeartbeats 4000000 in
set_option maxRecDepth 100000 in
theorem b_X0_excludeInTurn {p : Program} {l : Launch} {e : Env} {s : State} {m : MethodId} {args : Array Value} {below : List Frame} {meth : Method} {c : Code} {D : va_G} {cI cH cO : ClassId} {ws0 : va_W} (h : Nat) (ar : Nat → Nat) (C : Cst) (x1 : Int32)  (X : CX p s m args meth c cX0_excludeInTurn 5 RX0 none D (tyl cI cH cO) (va_A ws0 s.heap.size)) : J p l e (rml 2) s m args below meth c 5 D (va_A ws0 s.heap.size) 0 0 (KV below args s D (tyl cI cH cO) ws0 (fun C9 => (wC cI h ar C9))) (sX0_excludeInTurn C x1) ((wC cI h ar C)) 0 [(0, .ref h), (1, .int x1)] [] := by
  unfold sX0_excludeInTurn
  refine j_ltl4 (fun L7 eL7 => ?_)
  have hL7 : ∀ (n7 : Nat) (C : Cst) (x1 : Int32) (x2 : Int32) (i3 : Nat) (hi : i3 ≤ x2.toNatClampNeg) (hfu : x2.toNatClampNeg + 1 ≤ i3 + n7), J p l e (rml 2) s m args below meth c 5 D (va_A ws0 s.heap.size) 0 0 (KV below args s D (tyl cI cH cO) ws0 (fun C9 => (wC cI h ar C9))) (L7 n7 C x1 x2 i3) ((wC cI h ar C)) 7 [(0, .ref h), (1, .int x1), (2, .int x2), (3, .int (nI i3))] [] := by
    intro n7
    induction n7 with
    | zero =>
      intro C x1 x2 i3 hi hfu
      exact absurd hfu (by omega)
    | succ n7 ih7 =>
      intro C x1 x2 i3 hi hfu
      rw [eL7]
      refine j_iload_n X (pc' := 8) 3 dX0_excludeInTurn_7 rfl rfl rfl ?_
      refine j_iload_n X (pc' := 9) 2 dX0_excludeInTurn_8 rfl rfl rfl ?_
      refine j_icmp_ge X (tgt := 61) (pc' := 12) dX0_excludeInTurn_9 (by decide) rfl (fun c_9 => ?_) (fun c_9 => ?_)
      · exact j_vret X rfl dX0_excludeInTurn_61
      · have hb3 : i3 < x2.toNatClampNeg := i32_ltT hi c_9
        refine j_aload_n X (pc' := 13) 0 dX0_excludeInTurn_12 rfl rfl rfl ?_
        refine j_iload_n X (pc' := 14) 1 dX0_excludeInTurn_13 rfl rfl rfl ?_
        refine j_aload_n X (pc' := 15) 0 dX0_excludeInTurn_14 rfl rfl rfl ?_
        refine j_get X inX0 rfl (pc' := 18) 0 13 q_fl_X0_56 (by decide) rfl rfl dX0_excludeInTurn_15 rfl ?_
        refine j_ior X (pc' := 19) dX0_excludeInTurn_18 rfl ?_
        refine j_callVi X (pc' := 22) (As := [.int (x1 ||| (C 13 0))]) (rest := []) (c_X0_heaviestNotIn l D cI cH cO h ar C (x1 ||| (C 13 0)) ) wv_X0_149 ⟨0, 0, _, _, rfl, rfl, rfl⟩ ⟨by decide, by decide, by decide, by decide⟩ rfl rfl (Nat.le_of_ble_eq_true rfl) dX0_excludeInTurn_19 rfl ?_
        refine j_topL (fun r_19 er_19 => ?_)
        refine j_istore X (lv' := [(0, .ref h), (1, .int x1), (2, .int x2), (3, .int (nI i3)), (4, .int r_19)]) (pc' := 24) [1, 2, 3, 4, 0] dX0_excludeInTurn_22 (by decide) rfl rfl ?_
        refine j_aload_n X (pc' := 25) 0 dX0_excludeInTurn_24 rfl rfl rfl ?_
        refine j_iload X (pc' := 27) 4 dX0_excludeInTurn_25 rfl rfl ?_
        refine j_callVi X (pc' := 30) (As := [.int r_19]) (rest := []) (c_X0_has l D cI cH cO h ar C r_19 ) wv_X0_86 ⟨0, 0, _, _, rfl, rfl, rfl⟩ ⟨by decide, by decide, by decide, by decide⟩ rfl rfl (Nat.le_of_ble_eq_true rfl) dX0_excludeInTurn_27 rfl ?_
        refine j_topL (fun r_27 er_27 => ?_)
        refine j_if_ne X (tgt := 34) (pc' := 33) dX0_excludeInTurn_30 (by decide) rfl (fun c_30 => ?_) (fun c_30 => ?_)
        · refine j_aload_n X (pc' := 35) 0 dX0_excludeInTurn_34 rfl rfl rfl ?_
          refine j_dup X (pc' := 36) dX0_excludeInTurn_35 rfl rfl ?_
          refine j_get X inX0 rfl (pc' := 39) 0 13 q_fl_X0_56 (by decide) rfl rfl dX0_excludeInTurn_36 rfl ?_
          refine j_iconst X (v := 1) (pc' := 40) dX0_excludeInTurn_39 (by decide) rfl ?_
          refine j_iload X (pc' := 42) 4 dX0_excludeInTurn_40 rfl rfl ?_
          refine j_ishl X (pc' := 43) dX0_excludeInTurn_42 rfl ?_
          refine j_ior X (pc' := 44) dX0_excludeInTurn_43 rfl ?_
          refine j_put X inX0 rfl (pc' := 47) tyX0_ok nmX0 (S := up C 13 0 ((C 13 0) ||| (1 <<< (r_19 &&& 31)))) (fun S_44 => (wC cI h ar S_44)) 0 13 q_fl_X0_56 (by decide) rfl rfl rfl rfl (Nat.le_of_ble_eq_true rfl) rfl dX0_excludeInTurn_44 rfl (fun S_44 eS_44 => ?_)
          refine j_aload_n X (pc' := 48) 0 dX0_excludeInTurn_47 rfl rfl rfl ?_
          refine j_get X inX0 rfl (pc' := 51) 0 6 q_fl_X0_30 (by decide) rfl rfl dX0_excludeInTurn_48 rfl ?_
          refine j_iload X (pc' := 53) 4 dX0_excludeInTurn_51 rfl rfl ?_
          refine j_iconst X (v := 0) (pc' := 54) dX0_excludeInTurn_53 (by decide) rfl ?_
          refine j_iast X (pc' := 55) (S := up S_44 6 r_19.toNatClampNeg 0) (fun S_54 => (wC cI h ar S_54)) 7 rfl rfl (has_in (by rw [← er_27]; exact c_30)) dX0_excludeInTurn_54 rfl (fun S_54 eS_54 => ?_)
          refine j_iinc X (v := (nI (i3 + 1))) (lv' := [(0, .ref h), (1, .int x1), (2, .int x2), (3, .int (nI (i3 + 1))), (4, .int r_19)]) (q := 3) (pc' := 58) [1, 2, 3, 0, 4] dX0_excludeInTurn_55 rfl (nI_1 i3) (by decide) rfl rfl ?_
          refine j_goto X (pc' := 7) dX0_excludeInTurn_58 (by decide) ?_
          refine j_lv [0, 1, 2, 3] (lv' := [(0, .ref h), (1, .int x1), (2, .int x2), (3, .int (nI (i3 + 1)))]) rfl ?_
          exact ih7 _ _ _ _ (by first | omega | assumption | decide | (subst_vars; first | assumption | omega)) (by first | omega | assumption | decide | (subst_vars; first | assumption | omega))
        · exact j_vret X rfl dX0_excludeInTurn_33
  refine j_aload_n X (pc' := 1) 0 dX0_excludeInTurn_0 rfl rfl rfl ?_
  refine j_callVi X (pc' := 4) (As := []) (rest := []) (c_X0_turnsNeeded l D cI cH cO h ar C ) wv_X0_146 ⟨0, 0, _, _, rfl, rfl, rfl⟩ ⟨by decide, by decide, by decide, by decide⟩ rfl rfl (Nat.le_of_ble_eq_true rfl) dX0_excludeInTurn_1 rfl ?_
  refine j_topL (fun r_1 er_1 => ?_)
  refine j_istore_n X (lv' := [(0, .ref h), (1, .int x1), (2, .int r_1)]) (pc' := 5) [1, 2, 0] dX0_excludeInTurn_4 rfl (by decide) rfl rfl ?_
  refine j_iconst X (v := 0) (pc' := 6) dX0_excludeInTurn_5 (by decide) rfl ?_
  refine j_istore_n X (lv' := [(0, .ref h), (1, .int x1), (2, .int r_1), (3, .int 0)]) (pc' := 7) [1, 2, 3, 0] dX0_excludeInTurn_6 rfl (by decide) rfl rfl ?_
  refine j_lv [0, 1, 2, 3] (lv' := [(0, .ref h), (1, .int x1), (2, .int r_1), (3, .int 0)]) rfl ?_
  exact hL7 _ _ _ _ _ (by first | omega | assumption | decide | (subst_vars; first | assumption | omega)) (by first | omega | assumption | decide | (subst_vars; first | assumption | omega))
theorem c_X0_excludeInTurn (l : Launch) (D : va_G) (cI cH cO : ClassId) (h : Nat) (ar : Nat → Nat) (C : Cst) (x1 : Int32)  : MV l yX0_excludeInTurn cX0_excludeInTurn 5 2 D (tyl cI cH cO) [.ref h, .int x1] ((wC cI h ar C)) ((wC cI h ar (sX0_excludeInTurn C x1))) := fun sz => j_start (fun below s => (KV below [.ref h, .int x1].toArray s D (tyl cI cH cO) ((wC cI h ar C)) (fun C9 => (wC cI h ar C9)))) (sX0_excludeInTurn C x1) (by decide +kernel) rfl (Nat.le_of_ble_eq_true rfl) (fun below s hs _ => by subst hs; rfl) (fun p e s m below meth c _ X => b_X0_excludeInTurn h ar C x1  X)
def sX0_excludeDebtors (C : Cst) : Cst := ltl2 (fun R2 (C : Cst) (i1 : Nat) => ltv (fun (C : Cst) (i1 : Nat) => R2 C (i1 + 1)) (fun K35 => ((if 8 ≤ (nI i1) then C else (if (C 3 i1) ≤ (C 0 3) then K35 C i1 else ltv (up C 13 0 ((C 13 0) ||| (1 <<< ((nI i1) &&& 31)))) (fun (S_32 : Cst) => K35 S_32 i1)))))) (fun (C : Cst) (i1 : Nat) => C) (fun L2 => (L2 9 C 0))
set_option maxHeartbeats 4000000 in
set_option maxRecDepth 100000 in
theorem b_X0_excludeDebtors {p : Program} {l : Launch} {e : Env} {s : State} {m : MethodId} {args : Array Value} {below : List Frame} {meth : Method} {c : Code} {D : va_G} {cI cH cO : ClassId} {ws0 : va_W} (h : Nat) (ar : Nat → Nat) (C : Cst)  (X : CX p s m args meth c cX0_excludeDebtors 2 RX0 none D (tyl cI cH cO) (va_A ws0 s.heap.size)) : J p l e (rml 0) s m args below meth c 2 D (va_A ws0 s.heap.size) 0 0 (KV below args s D (tyl cI cH cO) ws0 (fun C9 => (wC cI h ar C9))) (sX0_excludeDebtors C) ((wC cI h ar C)) 0 [(0, .ref h)] [] := by
  unfold sX0_excludeDebtors
  refine j_ltl2 (fun L2 eL2 => ?_)
  have hL2 : ∀ (n2 : Nat) (C : Cst) (i1 : Nat) (hi : i1 ≤ 8) (hfu : 9 ≤ i1 + n2), J p l e (rml 0) s m args below meth c 2 D (va_A ws0 s.heap.size) 0 0 (KV below args s D (tyl cI cH cO) ws0 (fun C9 => (wC cI h ar C9))) (L2 n2 C i1) ((wC cI h ar C)) 2 [(0, .ref h), (1, .int (nI i1))] [] := by
    intro n2
    induction n2 with
    | zero =>
      intro C i1 hi hfu
      exact absurd hfu (by omega)
    | succ n2 ih2 =>
      intro C i1 hi hfu
      rw [eL2]
      refine j_ltv (fun K35 eK35 => ?_)
      have hK35 : ∀ (C : Cst) (i1 : Nat) (hi : i1 < 8) (hfu : 9 ≤ i1 + (n2 + 1)), J p l e (rml 0) s m args below meth c 2 D (va_A ws0 s.heap.size) 0 0 (KV below args s D (tyl cI cH cO) ws0 (fun C9 => (wC cI h ar C9))) (K35 C i1) ((wC cI h ar C)) 35 [(0, .ref h), (1, .int (nI i1))] [] := by
        intro C i1 hi hfu
        rw [eK35]
        refine j_iinc X (v := (nI (i1 + 1))) (lv' := [(0, .ref h), (1, .int (nI (i1 + 1)))]) (q := 1) (pc' := 38) [1, 0] dX0_excludeDebtors_35 rfl (nI_1 i1) (by decide) rfl rfl ?_
        refine j_goto X (pc' := 2) dX0_excludeDebtors_38 (by decide) ?_
        refine j_lv [0, 1] (lv' := [(0, .ref h), (1, .int (nI (i1 + 1)))]) rfl ?_
        exact ih2 _ _ (by first | omega | assumption | decide | (subst_vars; first | assumption | omega)) (by first | omega | assumption | decide | (subst_vars; first | assumption | omega))
      refine j_iload_n X (pc' := 3) 1 dX0_excludeDebtors_2 rfl rfl rfl ?_
      refine j_bipush X (v := 8) (pc' := 5) dX0_excludeDebtors_3 (by decide) rfl ?_
      refine j_icmp_ge X (tgt := 41) (pc' := 8) dX0_excludeDebtors_5 (by decide) rfl (fun c_5 => ?_) (fun c_5 => ?_)
      · have f_5 : 8 ≤ i1 := (nI_leI (a := 8) (b := i1) (by omega) (by omega)).mp c_5
        exact j_vret X rfl dX0_excludeDebtors_41
      · have f_5 : ¬ (8 ≤ i1) := fun h => c_5 ((nI_leI (a := 8) (b := i1) (by omega) (by omega)).mpr h)
        refine j_aload_n X (pc' := 9) 0 dX0_excludeDebtors_8 rfl rfl rfl ?_
        refine j_get X inX0 rfl (pc' := 12) 0 3 q_fl_X0_21 (by decide) rfl rfl dX0_excludeDebtors_9 rfl ?_
        refine j_iload_n X (pc' := 13) 1 dX0_excludeDebtors_12 rfl rfl rfl ?_
        refine j_ialdN X (i := i1) (pc' := 14) 4 rfl (by omega) (by decide) dX0_excludeDebtors_13 rfl ?_
        refine j_aload_n X (pc' := 15) 0 dX0_excludeDebtors_14 rfl rfl rfl ?_
        refine j_get X inX0 rfl (pc' := 18) 0 0 q_fl_X0_9 (by decide) rfl rfl dX0_excludeDebtors_15 rfl ?_
        refine j_iconst X (v := 3) (pc' := 19) dX0_excludeDebtors_18 (by decide) rfl ?_
        refine j_ialdN X (i := 3) (pc' := 20) 1 rfl (by omega) (by decide) dX0_excludeDebtors_19 rfl ?_
        refine j_icmp_le X (tgt := 35) (pc' := 23) dX0_excludeDebtors_20 (by decide) rfl (fun c_20 => ?_) (fun c_20 => ?_)
        · refine j_lv [0, 1] (lv' := [(0, .ref h), (1, .int (nI i1))]) rfl ?_
          exact hK35 _ _ (by first | omega | assumption | decide | (subst_vars; first | assumption | omega)) (by first | omega | assumption | decide | (subst_vars; first | assumption | omega))
        · refine j_aload_n X (pc' := 24) 0 dX0_excludeDebtors_23 rfl rfl rfl ?_
          refine j_dup X (pc' := 25) dX0_excludeDebtors_24 rfl rfl ?_
          refine j_get X inX0 rfl (pc' := 28) 0 13 q_fl_X0_56 (by decide) rfl rfl dX0_excludeDebtors_25 rfl ?_
          refine j_iconst X (v := 1) (pc' := 29) dX0_excludeDebtors_28 (by decide) rfl ?_
          refine j_iload_n X (pc' := 30) 1 dX0_excludeDebtors_29 rfl rfl rfl ?_
          refine j_ishl X (pc' := 31) dX0_excludeDebtors_30 rfl ?_
          refine j_ior X (pc' := 32) dX0_excludeDebtors_31 rfl ?_
          refine j_put X inX0 rfl (pc' := 35) tyX0_ok nmX0 (S := up C 13 0 ((C 13 0) ||| (1 <<< ((nI i1) &&& 31)))) (fun S_32 => (wC cI h ar S_32)) 0 13 q_fl_X0_56 (by decide) rfl rfl rfl rfl (Nat.le_of_ble_eq_true rfl) rfl dX0_excludeDebtors_32 rfl (fun S_32 eS_32 => ?_)
          refine j_lv [0, 1] (lv' := [(0, .ref h), (1, .int (nI i1))]) rfl ?_
          exact hK35 _ _ (by first | omega | assumption | decide | (subst_vars; first | assumption | omega)) (by first | omega | assumption | decide | (subst_vars; first | assumption | omega))
  refine j_iconst X (v := 0) (pc' := 1) dX0_excludeDebtors_0 (by decide) rfl ?_
  refine j_istore_n X (lv' := [(0, .ref h), (1, .int 0)]) (pc' := 2) [1, 0] dX0_excludeDebtors_1 rfl (by decide) rfl rfl ?_
  refine j_lv [0, 1] (lv' := [(0, .ref h), (1, .int 0)]) rfl ?_
  exact hL2 _ _ _ (by first | omega | assumption | decide | (subst_vars; first | assumption | omega)) (by first | omega | assumption | decide | (subst_vars; first | assumption | omega))
theorem c_X0_excludeDebtors (l : Launch) (D : va_G) (cI cH cO : ClassId) (h : Nat) (ar : Nat → Nat) (C : Cst)  : MV l yX0_excludeDebtors cX0_excludeDebtors 2 0 D (tyl cI cH cO) [.ref h] ((wC cI h ar C)) ((wC cI h ar (sX0_excludeDebtors C))) := fun sz => j_start (fun below s => (KV below [.ref h].toArray s D (tyl cI cH cO) ((wC cI h ar C)) (fun C9 => (wC cI h ar C9)))) (sX0_excludeDebtors C) (by decide +kernel) rfl (Nat.le_of_ble_eq_true rfl) (fun below s hs _ => by subst hs; rfl) (fun p e s m below meth c _ X => b_X0_excludeDebtors h ar C  X)
end
section
theorem oweCharges_fr {C : Cst} {k : Nat} (hk : ¬ k = 3) : sX0_oweCharges C k = C k := by
  unfold sX0_oweCharges
  simp only [ltl5, ltv]
  split <;>
  · refine zp5_ind (Q9 := fun (C1 : Cst) _ _ _ _ (r : Cst) => r k = C1 k) (fun _ _ _ _ _ => rfl) (fun rec ih C1 x1 x2 x3 i4 => ?_) 9 C 0 0 _ 0
    repeat' split
    all_goals first | rfl | (simp only [ih, up_k hk])
end
section
def sX0_endSeason (C : Cst) : Int32 × Cst := ltv (sX0_allUnits C) (fun (r_1 : Int32) => ltv (sX0_damageOf C r_1) (fun (r_7 : Int32) => ltv (C 13 0) (fun (v3_15 : Int32) => ltv (sX0_oweCharges C) (fun (S_17 : Cst) => ltv (up S_17 14 0 ((S_17 14 0) + r_7)) (fun (S_27 : Cst) => ltv (up S_27 15 0 ((S_27 15 0) + (if 0 < (r_7 - (S_27 11 0)) then (r_7 - (S_27 11 0)) else 0))) (fun (S_46 : Cst) => ltv (up S_46 11 0 (if 0 < ((S_46 11 0) - r_7) then ((S_46 11 0) - r_7) else 0)) (fun (S_60 : Cst) => ltv (up S_60 11 0 (if ((S_60 11 0) + (S_60 0 2)) < 100 then ((S_60 11 0) + (S_60 0 2)) else 100)) (fun (S_80 : Cst) => ltv (sX0_keepSeason S_80 r_1 r_7) (fun (S_86 : Cst) => ltv (sX0_bookUses S_86) (fun (S_90 : Cst) => ltv (up S_90 10 0 ((S_90 10 0) + 1)) (fun (S_100 : Cst) => ltv (up S_100 13 0 0) (fun (S_105 : Cst) => ltv (sX0_excludeInTurn S_105 v3_15) (fun (S_110 : Cst) => ltv (sX0_excludeDebtors S_110) (fun (S_114 : Cst) => ltv (sX0_noteSeasonsOut S_114) (fun (S_118 : Cst) => (r_7, S_118))))))))))))))))
set_option maxHeartbeats 4000000 in
set_option maxRecDepth 100000 in
theorem b_X0_endSeason {p : Program} {l : Launch} {e : Env} {s : State} {m : MethodId} {args : Array Value} {below : List Frame} {meth : Method} {c : Code} {D : va_G} {cI cH cO : ClassId} {ws0 : va_W} (h : Nat) (ar : Nat → Nat) (C : Cst) (hM : (C 9 0).toInt ≤ 8) (hS0 : 0 ≤ (C 10 0).toInt) (X : CX p s m args meth c cX0_endSeason 4 RX0 (some .int) D (tyl cI cH cO) (va_A ws0 s.heap.size)) : J p l e (rml 3) s m args below meth c 4 D (va_A ws0 s.heap.size) 0 0 (KI below args s D (tyl cI cH cO) ws0 (fun C9 => (wC cI h ar C9))) (sX0_endSeason C) ((wC cI h ar C)) 0 [(0, .ref h)] [] := by
  unfold sX0_endSeason
  refine j_aload_n X (pc' := 1) 0 dX0_endSeason_0 rfl rfl rfl ?_
  refine j_callVi X (pc' := 4) (As := []) (rest := []) (c_X0_allUnits l D cI cH cO h ar C ) wv_X0_121 ⟨0, 0, _, _, rfl, rfl, rfl⟩ ⟨by decide, by decide, by decide, by decide⟩ rfl rfl (Nat.le_of_ble_eq_true rfl) dX0_endSeason_1 rfl ?_
  refine j_topL (fun r_1 er_1 => ?_)
  refine j_istore_n X (lv' := [(0, .ref h), (1, .int r_1)]) (pc' := 5) [1, 0] dX0_endSeason_4 rfl (by decide) rfl rfl ?_
  refine j_aload_n X (pc' := 6) 0 dX0_endSeason_5 rfl rfl rfl ?_
  refine j_iload_n X (pc' := 7) 1 dX0_endSeason_6 rfl rfl rfl ?_
  refine j_callVi X (pc' := 10) (As := [.int r_1]) (rest := []) (c_X0_damageOf l D cI cH cO h ar C r_1 ) wv_X0_83 ⟨0, 0, _, _, rfl, rfl, rfl⟩ ⟨by decide, by decide, by decide, by decide⟩ rfl rfl (Nat.le_of_ble_eq_true rfl) dX0_endSeason_7 rfl ?_
  refine j_topL (fun r_7 er_7 => ?_)
  refine j_istore_n X (lv' := [(0, .ref h), (1, .int r_1), (2, .int r_7)]) (pc' := 11) [1, 2, 0] dX0_endSeason_10 rfl (by decide) rfl rfl ?_
  refine j_aload_n X (pc' := 12) 0 dX0_endSeason_11 rfl rfl rfl ?_
  refine j_get X inX0 rfl (pc' := 15) 0 13 q_fl_X0_56 (by decide) rfl rfl dX0_endSeason_12 rfl ?_
  refine j_istore_nL X (fun v3_15 => [(0, .ref h), (1, .int r_1), (2, .int r_7), (3, .int v3_15)]) [1, 2, 3, 0] (pc' := 16) dX0_endSeason_15 rfl (by decide) (fun _ => rfl) rfl (fun v3_15 ev3_15 => ?_)
  refine j_aload_n X (pc' := 17) 0 dX0_endSeason_16 rfl rfl rfl ?_
  refine j_callVv X (pc' := 20) (As := []) (rest := []) (c_X0_oweCharges l D cI cH cO h ar C (by first | omega | assumption | decide | (subst_vars; first | assumption | omega))) wv_X0_124 ⟨0, 0, _, _, rfl, rfl, rfl⟩ ⟨by decide, by decide, by decide, by decide⟩ rfl rfl (Nat.le_of_ble_eq_true rfl) dX0_endSeason_17 rfl ?_
  refine j_stL (S := (sX0_oweCharges C)) (fun S_17 => (wC cI h ar S_17)) (fun S_17 eS_17 => ?_)
  refine j_aload_n X (pc' := 21) 0 dX0_endSeason_20 rfl rfl rfl ?_
  refine j_dup X (pc' := 22) dX0_endSeason_21 rfl rfl ?_
  refine j_get X inX0 rfl (pc' := 25) 0 14 q_fl_X0_59 (by decide) rfl rfl dX0_endSeason_22 rfl ?_
  refine j_iload_n X (pc' := 26) 2 dX0_endSeason_25 rfl rfl rfl ?_
  refine j_iadd X (pc' := 27) dX0_endSeason_26 rfl ?_
  refine j_put X inX0 rfl (pc' := 30) tyX0_ok nmX0 (S := up S_17 14 0 ((S_17 14 0) + r_7)) (fun S_27 => (wC cI h ar S_27)) 0 14 q_fl_X0_59 (by decide) rfl rfl rfl rfl (Nat.le_of_ble_eq_true rfl) rfl dX0_endSeason_27 rfl (fun S_27 eS_27 => ?_)
  refine j_aload_n X (pc' := 31) 0 dX0_endSeason_30 rfl rfl rfl ?_
  refine j_dup X (pc' := 32) dX0_endSeason_31 rfl rfl ?_
  refine j_get X inX0 rfl (pc' := 35) 0 15 q_fl_X0_62 (by decide) rfl rfl dX0_endSeason_32 rfl ?_
  refine j_iconst X (v := 0) (pc' := 36) dX0_endSeason_35 (by decide) rfl ?_
  refine j_iload_n X (pc' := 37) 2 dX0_endSeason_36 rfl rfl rfl ?_
  refine j_aload_n X (pc' := 38) 0 dX0_endSeason_37 rfl rfl rfl ?_
  refine j_get X inX0 rfl (pc' := 41) 0 11 q_fl_X0_39 (by decide) rfl rfl dX0_endSeason_38 rfl ?_
  refine j_isub X (pc' := 42) dX0_endSeason_41 rfl ?_
  refine j_mmax X (pc' := 45) ⟨q_ml_X0_127, q_sta_J9_max, q_ini_J9, q_code_J9_max⟩ ⟨by decide, Nat.le_of_ble_eq_true rfl, by decide, by decide⟩ dX0_endSeason_42 rfl ?_
  refine j_iadd X (pc' := 46) dX0_endSeason_45 rfl ?_
  refine j_put X inX0 rfl (pc' := 49) tyX0_ok nmX0 (S := up S_27 15 0 ((S_27 15 0) + (if 0 < (r_7 - (S_27 11 0)) then (r_7 - (S_27 11 0)) else 0))) (fun S_46 => (wC cI h ar S_46)) 0 15 q_fl_X0_62 (by decide) rfl rfl rfl rfl (Nat.le_of_ble_eq_true rfl) rfl dX0_endSeason_46 rfl (fun S_46 eS_46 => ?_)
  refine j_aload_n X (pc' := 50) 0 dX0_endSeason_49 rfl rfl rfl ?_
  refine j_iconst X (v := 0) (pc' := 51) dX0_endSeason_50 (by decide) rfl ?_
  refine j_aload_n X (pc' := 52) 0 dX0_endSeason_51 rfl rfl rfl ?_
  refine j_get X inX0 rfl (pc' := 55) 0 11 q_fl_X0_39 (by decide) rfl rfl dX0_endSeason_52 rfl ?_
  refine j_iload_n X (pc' := 56) 2 dX0_endSeason_55 rfl rfl rfl ?_
  refine j_isub X (pc' := 57) dX0_endSeason_56 rfl ?_
  refine j_mmax X (pc' := 60) ⟨q_ml_X0_127, q_sta_J9_max, q_ini_J9, q_code_J9_max⟩ ⟨by decide, Nat.le_of_ble_eq_true rfl, by decide, by decide⟩ dX0_endSeason_57 rfl ?_
  refine j_put X inX0 rfl (pc' := 63) tyX0_ok nmX0 (S := up S_46 11 0 (if 0 < ((S_46 11 0) - r_7) then ((S_46 11 0) - r_7) else 0)) (fun S_60 => (wC cI h ar S_60)) 0 11 q_fl_X0_39 (by decide) rfl rfl rfl rfl (Nat.le_of_ble_eq_true rfl) rfl dX0_endSeason_60 rfl (fun S_60 eS_60 => ?_)
  refine j_aload_n X (pc' := 64) 0 dX0_endSeason_63 rfl rfl rfl ?_
  refine j_bipush X (v := 100) (pc' := 66) dX0_endSeason_64 (by decide) rfl ?_
  refine j_aload_n X (pc' := 67) 0 dX0_endSeason_66 rfl rfl rfl ?_
  refine j_get X inX0 rfl (pc' := 70) 0 11 q_fl_X0_39 (by decide) rfl rfl dX0_endSeason_67 rfl ?_
  refine j_aload_n X (pc' := 71) 0 dX0_endSeason_70 rfl rfl rfl ?_
  refine j_get X inX0 rfl (pc' := 74) 0 0 q_fl_X0_9 (by decide) rfl rfl dX0_endSeason_71 rfl ?_
  refine j_iconst X (v := 2) (pc' := 75) dX0_endSeason_74 (by decide) rfl ?_
  refine j_ialdN X (i := 2) (pc' := 76) 1 rfl (by omega) (by decide) dX0_endSeason_75 rfl ?_
  refine j_iadd X (pc' := 77) dX0_endSeason_76 rfl ?_
  refine j_mmin X (pc' := 80) ⟨q_ml_X0_105, q_sta_J9_min, q_ini_J9, q_code_J9_min⟩ ⟨by decide, Nat.le_of_ble_eq_true rfl, by decide, by decide⟩ dX0_endSeason_77 rfl ?_
  refine j_put X inX0 rfl (pc' := 83) tyX0_ok nmX0 (S := up S_60 11 0 (if ((S_60 11 0) + (S_60 0 2)) < 100 then ((S_60 11 0) + (S_60 0 2)) else 100)) (fun S_80 => (wC cI h ar S_80)) 0 11 q_fl_X0_39 (by decide) rfl rfl rfl rfl (Nat.le_of_ble_eq_true rfl) rfl dX0_endSeason_80 rfl (fun S_80 eS_80 => ?_)
  refine j_aload_n X (pc' := 84) 0 dX0_endSeason_83 rfl rfl rfl ?_
  refine j_iload_n X (pc' := 85) 1 dX0_endSeason_84 rfl rfl rfl ?_
  refine j_iload_n X (pc' := 86) 2 dX0_endSeason_85 rfl rfl rfl ?_
  refine j_callVv X (pc' := 89) (As := [.int r_1, .int r_7]) (rest := []) (c_X0_keepSeason l D cI cH cO h ar S_80 r_1 r_7 (by subst_vars; show 0 ≤ (sX0_oweCharges C 10 0).toInt; rw [oweCharges_fr (by decide)]; exact hS0)) wv_X0_130 ⟨0, 0, _, _, rfl, rfl, rfl⟩ ⟨by decide, by decide, by decide, by decide⟩ rfl rfl (Nat.le_of_ble_eq_true rfl) dX0_endSeason_86 rfl ?_
  refine j_stL (S := (sX0_keepSeason S_80 r_1 r_7)) (fun S_86 => (wC cI h ar S_86)) (fun S_86 eS_86 => ?_)
  refine j_aload_n X (pc' := 90) 0 dX0_endSeason_89 rfl rfl rfl ?_
  refine j_callVv X (pc' := 93) (As := []) (rest := []) (c_X0_bookUses l D cI cH cO h ar S_86 ) wv_X0_134 ⟨0, 0, _, _, rfl, rfl, rfl⟩ ⟨by decide, by decide, by decide, by decide⟩ rfl rfl (Nat.le_of_ble_eq_true rfl) dX0_endSeason_90 rfl ?_
  refine j_stL (S := (sX0_bookUses S_86)) (fun S_90 => (wC cI h ar S_90)) (fun S_90 eS_90 => ?_)
  refine j_aload_n X (pc' := 94) 0 dX0_endSeason_93 rfl rfl rfl ?_
  refine j_dup X (pc' := 95) dX0_endSeason_94 rfl rfl ?_
  refine j_get X inX0 rfl (pc' := 98) 0 10 q_fl_X0_50 (by decide) rfl rfl dX0_endSeason_95 rfl ?_
  refine j_iconst X (v := 1) (pc' := 99) dX0_endSeason_98 (by decide) rfl ?_
  refine j_iadd X (pc' := 100) dX0_endSeason_99 rfl ?_
  refine j_put X inX0 rfl (pc' := 103) tyX0_ok nmX0 (S := up S_90 10 0 ((S_90 10 0) + 1)) (fun S_100 => (wC cI h ar S_100)) 0 10 q_fl_X0_50 (by decide) rfl rfl rfl rfl (Nat.le_of_ble_eq_true rfl) rfl dX0_endSeason_100 rfl (fun S_100 eS_100 => ?_)
  refine j_aload_n X (pc' := 104) 0 dX0_endSeason_103 rfl rfl rfl ?_
  refine j_iconst X (v := 0) (pc' := 105) dX0_endSeason_104 (by decide) rfl ?_
  refine j_put X inX0 rfl (pc' := 108) tyX0_ok nmX0 (S := up S_100 13 0 0) (fun S_105 => (wC cI h ar S_105)) 0 13 q_fl_X0_56 (by decide) rfl rfl rfl rfl (Nat.le_of_ble_eq_true rfl) rfl dX0_endSeason_105 rfl (fun S_105 eS_105 => ?_)
  refine j_aload_n X (pc' := 109) 0 dX0_endSeason_108 rfl rfl rfl ?_
  refine j_iload_n X (pc' := 110) 3 dX0_endSeason_109 rfl rfl rfl ?_
  refine j_callVv X (pc' := 113) (As := [.int v3_15]) (rest := []) (c_X0_excludeInTurn l D cI cH cO h ar S_105 v3_15 ) wv_X0_137 ⟨0, 0, _, _, rfl, rfl, rfl⟩ ⟨by decide, by decide, by decide, by decide⟩ rfl rfl (Nat.le_of_ble_eq_true rfl) dX0_endSeason_110 rfl ?_
  refine j_stL (S := (sX0_excludeInTurn S_105 v3_15)) (fun S_110 => (wC cI h ar S_110)) (fun S_110 eS_110 => ?_)
  refine j_aload_n X (pc' := 114) 0 dX0_endSeason_113 rfl rfl rfl ?_
  refine j_callVv X (pc' := 117) (As := []) (rest := []) (c_X0_excludeDebtors l D cI cH cO h ar S_110 ) wv_X0_140 ⟨0, 0, _, _, rfl, rfl, rfl⟩ ⟨by decide, by decide, by decide, by decide⟩ rfl rfl (Nat.le_of_ble_eq_true rfl) dX0_endSeason_114 rfl ?_
  refine j_stL (S := (sX0_excludeDebtors S_110)) (fun S_114 => (wC cI h ar S_114)) (fun S_114 eS_114 => ?_)
  refine j_aload_n X (pc' := 118) 0 dX0_endSeason_117 rfl rfl rfl ?_
  refine j_callVv X (pc' := 121) (As := []) (rest := []) (c_X0_noteSeasonsOut l D cI cH cO h ar S_114 ) wv_X0_143 ⟨0, 0, _, _, rfl, rfl, rfl⟩ ⟨by decide, by decide, by decide, by decide⟩ rfl rfl (Nat.le_of_ble_eq_true rfl) dX0_endSeason_118 rfl ?_
  refine j_stL (S := (sX0_noteSeasonsOut S_114)) (fun S_118 => (wC cI h ar S_118)) (fun S_118 eS_118 => ?_)
  refine j_iload_n X (pc' := 122) 2 dX0_endSeason_121 rfl rfl rfl ?_
  exact j_iretI X rfl rfl dX0_endSeason_122
theorem c_X0_endSeason (l : Launch) (D : va_G) (cI cH cO : ClassId) (h : Nat) (ar : Nat → Nat) (C : Cst) (hM : (C 9 0).toInt ≤ 8) (hS0 : 0 ≤ (C 10 0).toInt) : MI l yX0_endSeason cX0_endSeason 4 (some .int) 3 D (tyl cI cH cO) [.ref h] ((wC cI h ar C)) (sX0_endSeason C).1 ((wC cI h ar ((sX0_endSeason C).2))) := fun sz => j_start (fun below s => (KI below [.ref h].toArray s D (tyl cI cH cO) ((wC cI h ar C)) (fun C9 => (wC cI h ar C9)))) (sX0_endSeason C) (by decide +kernel) rfl (Nat.le_of_ble_eq_true rfl) (fun below s hs _ => by subst hs; rfl) (fun p e s m below meth c _ X => b_X0_endSeason h ar C hM hS0 X)
def sX0_closeSeason (C : Cst) : Int32 × Cst := (if ¬ (C 9 0) = 0 then (if (C 10 0) < 999 then bnd (sX0_endSeason C) (fun (r_26 : Int32) (S_26 : Cst) => (r_26, S_26)) else ((-10003), C)) else ((-10002), C))
set_option maxHeartbeats 4000000 in
set_option maxRecDepth 100000 in
theorem b_X0_closeSeason {p : Program} {l : Launch} {e : Env} {s : State} {m : MethodId} {args : Array Value} {below : List Frame} {meth : Method} {c : Code} {D : va_G} {cI cH cO : ClassId} {ws0 : va_W} (h : Nat) (ar : Nat → Nat) (C : Cst) (hM : (C 9 0).toInt ≤ 8) (hS0 : 0 ≤ (C 10 0).toInt) (X : CX p s m args meth c cX0_closeSeason 1 RX0 (some .int) D (tyl cI cH cO) (va_A ws0 s.heap.size)) : J p l e (rml 4) s m args below meth c 1 D (va_A ws0 s.heap.size) 0 0 (KI below args s D (tyl cI cH cO) ws0 (fun C9 => (wC cI h ar C9))) (sX0_closeSeason C) ((wC cI h ar C)) 0 [(0, .ref h)] [] := by
  unfold sX0_closeSeason
  refine j_aload_n X (pc' := 1) 0 dX0_closeSeason_0 rfl rfl rfl ?_
  refine j_get X inX0 rfl (pc' := 4) 0 9 q_fl_X0_47 (by decide) rfl rfl dX0_closeSeason_1 rfl ?_
  refine j_if_ne X (tgt := 11) (pc' := 7) dX0_closeSeason_4 (by decide) rfl (fun c_4 => ?_) (fun c_4 => ?_)
  · refine j_aload_n X (pc' := 12) 0 dX0_closeSeason_11 rfl rfl rfl ?_
    refine j_get X inX0 rfl (pc' := 15) 0 10 q_fl_X0_50 (by decide) rfl rfl dX0_closeSeason_12 rfl ?_
    refine j_sipush X (v := 999) (pc' := 18) dX0_closeSeason_15 (by decide) rfl ?_
    refine j_icmp_lt X (tgt := 25) (pc' := 21) dX0_closeSeason_18 (by decide) rfl (fun c_18 => ?_) (fun c_18 => ?_)
    · refine j_aload_n X (pc' := 26) 0 dX0_closeSeason_25 rfl rfl rfl ?_
      refine j_callVi X (pc' := 29) (As := []) (rest := []) (c_X0_endSeason l D cI cH cO h ar C (by first | omega | assumption | decide | (subst_vars; first | assumption | omega)) (by first | omega | assumption | decide | (subst_vars; first | assumption | omega))) wv_X0_117 ⟨0, 0, _, _, rfl, rfl, rfl⟩ ⟨by decide, by decide, by decide, by decide⟩ rfl rfl (Nat.le_of_ble_eq_true rfl) dX0_closeSeason_26 rfl ?_
      refine j_rsL (q := (sX0_endSeason C)) (fun S_26 => (wC cI h ar S_26)) (fun r_26 S_26 er_26 => ?_)
      exact j_iretI X rfl rfl dX0_closeSeason_29
    · refine j_sipush X (v := (-10003)) (pc' := 24) dX0_closeSeason_21 (by decide) rfl ?_
      exact j_iretI X rfl rfl dX0_closeSeason_24
  · refine j_sipush X (v := (-10002)) (pc' := 10) dX0_closeSeason_7 (by decide) rfl ?_
    exact j_iretI X rfl rfl dX0_closeSeason_10
theorem c_X0_closeSeason (l : Launch) (D : va_G) (cI cH cO : ClassId) (h : Nat) (ar : Nat → Nat) (C : Cst) (hM : (C 9 0).toInt ≤ 8) (hS0 : 0 ≤ (C 10 0).toInt) : MI l yX0_closeSeason cX0_closeSeason 1 (some .int) 4 D (tyl cI cH cO) [.ref h] ((wC cI h ar C)) (sX0_closeSeason C).1 ((wC cI h ar ((sX0_closeSeason C).2))) := fun sz => j_start (fun below s => (KI below [.ref h].toArray s D (tyl cI cH cO) ((wC cI h ar C)) (fun C9 => (wC cI h ar C9)))) (sX0_closeSeason C) (by decide +kernel) rfl (Nat.le_of_ble_eq_true rfl) (fun below s hs _ => by subst hs; rfl) (fun p e s m below meth c _ X => b_X0_closeSeason h ar C hM hS0 X)
def sX0_liftedGain (C : Cst) (x1 : Int32) (x2 : Int32) : Int32 := ltv (fun (i1 : Nat) (x2 : Int32) => ltv (sX0_unitsAhead C (nI i1)) (fun (r_38 : Int32) => ltv (sX0_gainBehind C r_38 (C 1 i1) x2) (fun (r_48 : Int32) => (r_48 + 10000)))) (fun K35 => (ltv (fun (i1 : Nat) (x2 : Int32) => ltv (sX0_isOut C (nI i1)) (fun (r_21 : Int32) => (if r_21 = 0 then K35 i1 x2 else (if x2 = 0 then K35 i1 x2 else (-10002))))) (fun K19 => (ltv (sX0_has C x1) (fun (r_2 : Int32) => (if r_2 = 0 then (-10001) else ltv (sX4_isUnits x2) (fun (r_9 : Int32) => (if ¬ r_9 = 0 then K19 x1.toNatClampNeg x2 else (-10001)))))))))
set_option maxHeartbeats 4000000 in
set_option maxRecDepth 100000 in
theorem b_X0_liftedGain {p : Program} {l : Launch} {e : Env} {s : State} {m : MethodId} {args : Array Value} {below : List Frame} {meth : Method} {c : Code} {D : va_G} {cI cH cO : ClassId} (h : Nat) (ar : Nat → Nat) (C : Cst) (x1 : Int32) (x2 : Int32)  (X : CX p s m args meth c cX0_liftedGain 3 RX0 (some .int) D (tyl cI cH cO) (va_A ((wC cI h ar C)) s.heap.size)) : J p l e (rml 3) s m args below meth c 3 D (va_A ((wC cI h ar C)) s.heap.size) 0 0 (KP below args s D (tyl cI cH cO) ((wC cI h ar C))) (sX0_liftedGain C x1 x2) ((wC cI h ar C)) 0 [(0, .ref h), (1, .int x1), (2, .int x2)] [] := by
  unfold sX0_liftedGain
  refine j_ltv (fun K35 eK35 => ?_)
  have hK35 : ∀ (i1 : Nat) (x2 : Int32) (hi1 : i1 < 8), J p l e (rml 3) s m args below meth c 3 D (va_A ((wC cI h ar C)) s.heap.size) 0 0 (KP below args s D (tyl cI cH cO) ((wC cI h ar C))) (K35 i1 x2) ((wC cI h ar C)) 35 [(0, .ref h), (1, .int (nI i1)), (2, .int x2)] [] := by
    intro i1 x2 hi1
    rw [eK35]
    refine j_aload_n X (pc' := 36) 0 dX0_liftedGain_35 rfl rfl rfl ?_
    refine j_aload_n X (pc' := 37) 0 dX0_liftedGain_36 rfl rfl rfl ?_
    refine j_iload_n X (pc' := 38) 1 dX0_liftedGain_37 rfl rfl rfl ?_
    refine j_callVi X (pc' := 41) (As := [.int (nI i1)]) (rest := [.ref h]) (c_X0_unitsAhead l D cI cH cO h ar C (nI i1) ) wv_X0_76 ⟨0, 0, _, _, rfl, rfl, rfl⟩ ⟨by decide, by decide, by decide, by decide⟩ rfl rfl (Nat.le_of_ble_eq_true rfl) dX0_liftedGain_38 rfl ?_
    refine j_topL (fun r_38 er_38 => ?_)
    refine j_aload_n X (pc' := 42) 0 dX0_liftedGain_41 rfl rfl rfl ?_
    refine j_get X inX0 rfl (pc' := 45) 0 1 q_fl_X0_15 (by decide) rfl rfl dX0_liftedGain_42 rfl ?_
    refine j_iload_n X (pc' := 46) 1 dX0_liftedGain_45 rfl rfl rfl ?_
    refine j_ialdN X (i := i1) (pc' := 47) 2 rfl (by omega) (by decide) dX0_liftedGain_46 rfl ?_
    refine j_iload_n X (pc' := 48) 2 dX0_liftedGain_47 rfl rfl rfl ?_
    refine j_callVi X (pc' := 51) (As := [.int r_38, .int (C 1 i1), .int x2]) (rest := []) (c_X0_gainBehind l D cI cH cO h ar C r_38 (C 1 i1) x2 ) wv_X0_152 ⟨0, 0, _, _, rfl, rfl, rfl⟩ ⟨by decide, by decide, by decide, by decide⟩ rfl rfl (Nat.le_of_ble_eq_true rfl) dX0_liftedGain_48 rfl ?_
    refine j_topL (fun r_48 er_48 => ?_)
    refine j_sipush X (v := 10000) (pc' := 54) dX0_liftedGain_51 (by decide) rfl ?_
    refine j_iadd X (pc' := 55) dX0_liftedGain_54 rfl ?_
    exact j_iretP X rfl rfl dX0_liftedGain_55
  refine j_ltv (fun K19 eK19 => ?_)
  have hK19 : ∀ (i1 : Nat) (x2 : Int32) (hi1 : i1 < 8), J p l e (rml 3) s m args below meth c 3 D (va_A ((wC cI h ar C)) s.heap.size) 0 0 (KP below args s D (tyl cI cH cO) ((wC cI h ar C))) (K19 i1 x2) ((wC cI h ar C)) 19 [(0, .ref h), (1, .int (nI i1)), (2, .int x2)] [] := by
    intro i1 x2 hi1
    rw [eK19]
    refine j_aload_n X (pc' := 20) 0 dX0_liftedGain_19 rfl rfl rfl ?_
    refine j_iload_n X (pc' := 21) 1 dX0_liftedGain_20 rfl rfl rfl ?_
    refine j_callVi X (pc' := 24) (As := [.int (nI i1)]) (rest := []) (c_X0_isOut l D cI cH cO h ar C (nI i1) ) wv_X0_93 ⟨0, 0, _, _, rfl, rfl, rfl⟩ ⟨by decide, by decide, by decide, by decide⟩ rfl rfl (Nat.le_of_ble_eq_true rfl) dX0_liftedGain_21 rfl ?_
    refine j_topL (fun r_21 er_21 => ?_)
    refine j_if_eq X (tgt := 35) (pc' := 27) dX0_liftedGain_24 (by decide) rfl (fun c_24 => ?_) (fun c_24 => ?_)
    · refine j_lv [0, 1, 2] (lv' := [(0, .ref h), (1, .int (nI i1)), (2, .int x2)]) rfl ?_
      exact hK35 _ _ (by first | omega | assumption | decide | (subst_vars; first | assumption | omega))
    · refine j_iload_n X (pc' := 28) 2 dX0_liftedGain_27 rfl rfl rfl ?_
      refine j_if_eq X (tgt := 35) (pc' := 31) dX0_liftedGain_28 (by decide) rfl (fun c_28 => ?_) (fun c_28 => ?_)
      · refine j_lv [0, 1, 2] (lv' := [(0, .ref h), (1, .int (nI i1)), (2, .int x2)]) rfl ?_
        exact hK35 _ _ (by first | omega | assumption | decide | (subst_vars; first | assumption | omega))
      · refine j_sipush X (v := (-10002)) (pc' := 34) dX0_liftedGain_31 (by decide) rfl ?_
        exact j_iretP X rfl rfl dX0_liftedGain_34
  refine j_aload_n X (pc' := 1) 0 dX0_liftedGain_0 rfl rfl rfl ?_
  refine j_iload_n X (pc' := 2) 1 dX0_liftedGain_1 rfl rfl rfl ?_
  refine j_callVi X (pc' := 5) (As := [.int x1]) (rest := []) (c_X0_has l D cI cH cO h ar C x1 ) wv_X0_86 ⟨0, 0, _, _, rfl, rfl, rfl⟩ ⟨by decide, by decide, by decide, by decide⟩ rfl rfl (Nat.le_of_ble_eq_true rfl) dX0_liftedGain_2 rfl ?_
  refine j_topL (fun r_2 er_2 => ?_)
  refine j_if_eq X (tgt := 15) (pc' := 8) dX0_liftedGain_5 (by decide) rfl (fun c_5 => ?_) (fun c_5 => ?_)
  · refine j_sipush X (v := (-10001)) (pc' := 18) dX0_liftedGain_15 (by decide) rfl ?_
    exact j_iretP X rfl rfl dX0_liftedGain_18
  · refine j_iload_n X (pc' := 9) 2 dX0_liftedGain_8 rfl rfl rfl ?_
    refine j_callNiF X (pc' := 12) (As := [.int x2]) (rest := []) (ws' := (wC cI h ar C)) (wr := (wC cI h ar C)) [] [0, 1, 2, 3, 4, 5, 6, 7, 8, 9] [0, 1, 2, 3, 4, 5, 6, 7, 8, 9] rfl rfl ⟨by decide, by decide, by decide, by decide⟩ rfl (c_X4_isUnits l D cI cH cO x2 ) X.2.2.1.2.2.2.2.2.1 wn_X0_90 ⟨by decide, by decide, by decide, by decide⟩ rfl rfl (Nat.le_of_ble_eq_true rfl) dX0_liftedGain_9 rfl ?_
    refine j_topL (fun r_9 er_9 => ?_)
    refine j_if_ne X (tgt := 19) (pc' := 15) dX0_liftedGain_12 (by decide) rfl (fun c_12 => ?_) (fun c_12 => ?_)
    · obtain ⟨j_12, hj_12, ej_12⟩ : ∃ j : Nat, j < 8 ∧ x1 = nI j := vp_in_of (has_in (by rw [← er_2]; exact c_5)) (by decide)
      subst ej_12
      rw [nI_clamp (show j_12 < 2 ^ 31 by omega)]
      refine j_lv [0, 1, 2] (lv' := _) rfl ?_
      exact hK19 _ _ (by first | omega | assumption | decide | (subst_vars; first | assumption | omega))
    · refine j_sipush X (v := (-10001)) (pc' := 18) dX0_liftedGain_15 (by decide) rfl ?_
      exact j_iretP X rfl rfl dX0_liftedGain_18
theorem c_X0_liftedGain (l : Launch) (D : va_G) (cI cH cO : ClassId) (h : Nat) (ar : Nat → Nat) (C : Cst) (x1 : Int32) (x2 : Int32)  : MI l yX0_liftedGain cX0_liftedGain 3 (some .int) 3 D (tyl cI cH cO) [.ref h, .int x1, .int x2] ((wC cI h ar C)) (sX0_liftedGain C x1 x2) ((wC cI h ar C)) := fun sz => j_start (fun below s => (KP below [.ref h, .int x1, .int x2].toArray s D (tyl cI cH cO) ((wC cI h ar C)))) (sX0_liftedGain C x1 x2) (by decide +kernel) rfl (Nat.le_of_ble_eq_true rfl) (fun below s hs _ => by subst hs; rfl) (fun p e s m below meth c _ X => b_X0_liftedGain h ar C x1 x2  X)
def sX0_bestUnits (C : Cst) (i1 : Nat) : Int32 := ltl5 (fun R32 (i1 : Nat) (x2 : Int32) (x3 : Int32) (x4 : Int32) (i5 : Nat) => ltv (fun (i1 : Nat) (x2 : Int32) (x3 : Int32) (x4 : Int32) (i5 : Nat) => R32 i1 x2 x3 x4 (i5 + 1)) (fun K68 => ((if 20 < (nI i5) then x3 else ltv (sX0_gainBehind C x2 (C 1 i1) (nI i5)) (fun (r_49 : Int32) => (if r_49 ≤ x4 then K68 i1 x2 x3 x4 i5 else K68 i1 x2 (nI i5) r_49 i5)))))) (fun (i1 : Nat) (x2 : Int32) (x3 : Int32) (x4 : Int32) (i5 : Nat) => 0) (fun L32 => (ltv (sX0_has C (nI i1)) (fun (r_2 : Int32) => (if r_2 = 0 then 0 else ltv (sX0_isOut C (nI i1)) (fun (r_10 : Int32) => (if r_10 = 0 then ltv (sX0_unitsAhead C (nI i1)) (fun (r_20 : Int32) => L32 22 i1 r_20 0 0 1) else 0))))))
set_option maxHeartbeats 4000000 in
set_option maxRecDepth 100000 in
theorem b_X0_bestUnits {p : Program} {l : Launch} {e : Env} {s : State} {m : MethodId} {args : Array Value} {below : List Frame} {meth : Method} {c : Code} {D : va_G} {cI cH cO : ClassId} (h : Nat) (ar : Nat → Nat) (C : Cst) (i1 : Nat) (hi1 : i1 < 8) (X : CX p s m args meth c cX0_bestUnits 7 RX0 (some .int) D (tyl cI cH cO) (va_A ((wC cI h ar C)) s.heap.size)) : J p l e (rml 3) s m args below meth c 7 D (va_A ((wC cI h ar C)) s.heap.size) 0 0 (KP below args s D (tyl cI cH cO) ((wC cI h ar C))) (sX0_bestUnits C i1) ((wC cI h ar C)) 0 [(0, .ref h), (1, .int (nI i1))] [] := by
  unfold sX0_bestUnits
  refine j_ltl5 (fun L32 eL32 => ?_)
  have hL32 : ∀ (n32 : Nat) (i1 : Nat) (x2 : Int32) (x3 : Int32) (x4 : Int32) (i5 : Nat) (hi : i5 ≤ 21) (hfu : 22 ≤ i5 + n32) (hi1 : i1 < 8), J p l e (rml 3) s m args below meth c 7 D (va_A ((wC cI h ar C)) s.heap.size) 0 0 (KP below args s D (tyl cI cH cO) ((wC cI h ar C))) (L32 n32 i1 x2 x3 x4 i5) ((wC cI h ar C)) 32 [(0, .ref h), (1, .int (nI i1)), (2, .int x2), (3, .int x3), (4, .int x4), (5, .int (nI i5))] [] := by
    intro n32
    induction n32 with
    | zero =>
      intro i1 x2 x3 x4 i5 hi hfu hi1
      exact absurd hfu (by omega)
    | succ n32 ih32 =>
      intro i1 x2 x3 x4 i5 hi hfu hi1
      rw [eL32]
      refine j_ltv (fun K68 eK68 => ?_)
      have hK68 : ∀ (i1 : Nat) (x2 : Int32) (x3 : Int32) (x4 : Int32) (i5 : Nat) (hi : i5 < 21) (hfu : 22 ≤ i5 + (n32 + 1)) (hi1 : i1 < 8), J p l e (rml 3) s m args below meth c 7 D (va_A ((wC cI h ar C)) s.heap.size) 0 0 (KP below args s D (tyl cI cH cO) ((wC cI h ar C))) (K68 i1 x2 x3 x4 i5) ((wC cI h ar C)) 68 [(0, .ref h), (1, .int (nI i1)), (2, .int x2), (3, .int x3), (4, .int x4), (5, .int (nI i5))] [] := by
        intro i1 x2 x3 x4 i5 hi hfu hi1
        rw [eK68]
        refine j_iinc X (v := (nI (i5 + 1))) (lv' := [(0, .ref h), (1, .int (nI i1)), (2, .int x2), (3, .int x3), (4, .int x4), (5, .int (nI (i5 + 1)))]) (q := 5) (pc' := 71) [1, 2, 3, 4, 5, 0] dX0_bestUnits_68 rfl (nI_1 i5) (by decide) rfl rfl ?_
        refine j_goto X (pc' := 32) dX0_bestUnits_71 (by decide) ?_
        refine j_lv [0, 1, 2, 3, 4, 5] (lv' := [(0, .ref h), (1, .int (nI i1)), (2, .int x2), (3, .int x3), (4, .int x4), (5, .int (nI (i5 + 1)))]) rfl ?_
        exact ih32 _ _ _ _ _ (by first | omega | assumption | decide | (subst_vars; first | assumption | omega)) (by first | omega | assumption | decide | (subst_vars; first | assumption | omega)) (by first | omega | assumption | decide | (subst_vars; first | assumption | omega))
      refine j_iload X (pc' := 34) 5 dX0_bestUnits_32 rfl rfl ?_
      refine j_bipush X (v := 20) (pc' := 36) dX0_bestUnits_34 (by decide) rfl ?_
      refine j_icmp_gt X (tgt := 74) (pc' := 39) dX0_bestUnits_36 (by decide) rfl (fun c_36 => ?_) (fun c_36 => ?_)
      · have f_36 : 20 < i5 := (nI_ltI (a := 20) (b := i5) (by omega) (by omega)).mp c_36
        refine j_iload_n X (pc' := 75) 3 dX0_bestUnits_74 rfl rfl rfl ?_
        exact j_iretP X rfl rfl dX0_bestUnits_75
      · have f_36 : ¬ (20 < i5) := fun h => c_36 ((nI_ltI (a := 20) (b := i5) (by omega) (by omega)).mpr h)
        refine j_aload_n X (pc' := 40) 0 dX0_bestUnits_39 rfl rfl rfl ?_
        refine j_iload_n X (pc' := 41) 2 dX0_bestUnits_40 rfl rfl rfl ?_
        refine j_aload_n X (pc' := 42) 0 dX0_bestUnits_41 rfl rfl rfl ?_
        refine j_get X inX0 rfl (pc' := 45) 0 1 q_fl_X0_15 (by decide) rfl rfl dX0_bestUnits_42 rfl ?_
        refine j_iload_n X (pc' := 46) 1 dX0_bestUnits_45 rfl rfl rfl ?_
        refine j_ialdN X (i := i1) (pc' := 47) 2 rfl (by omega) (by decide) dX0_bestUnits_46 rfl ?_
        refine j_iload X (pc' := 49) 5 dX0_bestUnits_47 rfl rfl ?_
        refine j_callVi X (pc' := 52) (As := [.int x2, .int (C 1 i1), .int (nI i5)]) (rest := []) (c_X0_gainBehind l D cI cH cO h ar C x2 (C 1 i1) (nI i5) ) wv_X0_152 ⟨0, 0, _, _, rfl, rfl, rfl⟩ ⟨by decide, by decide, by decide, by decide⟩ rfl rfl (Nat.le_of_ble_eq_true rfl) dX0_bestUnits_49 rfl ?_
        refine j_topL (fun r_49 er_49 => ?_)
        refine j_istore X (lv' := [(0, .ref h), (1, .int (nI i1)), (2, .int x2), (3, .int x3), (4, .int x4), (5, .int (nI i5)), (6, .int r_49)]) (pc' := 54) [1, 2, 3, 4, 5, 6, 0] dX0_bestUnits_52 (by decide) rfl rfl ?_
        refine j_iload X (pc' := 56) 6 dX0_bestUnits_54 rfl rfl ?_
        refine j_iload X (pc' := 58) 4 dX0_bestUnits_56 rfl rfl ?_
        refine j_icmp_le X (tgt := 68) (pc' := 61) dX0_bestUnits_58 (by decide) rfl (fun c_58 => ?_) (fun c_58 => ?_)
        · refine j_lv [0, 1, 2, 3, 4, 5] (lv' := [(0, .ref h), (1, .int (nI i1)), (2, .int x2), (3, .int x3), (4, .int x4), (5, .int (nI i5))]) rfl ?_
          exact hK68 _ _ _ _ _ (by first | omega | assumption | decide | (subst_vars; first | assumption | omega)) (by first | omega | assumption | decide | (subst_vars; first | assumption | omega)) (by first | omega | assumption | decide | (subst_vars; first | assumption | omega))
        · refine j_iload X (pc' := 63) 6 dX0_bestUnits_61 rfl rfl ?_
          refine j_istore X (lv' := [(0, .ref h), (1, .int (nI i1)), (2, .int x2), (3, .int x3), (4, .int r_49), (5, .int (nI i5)), (6, .int r_49)]) (pc' := 65) [1, 2, 3, 4, 0, 5, 6] dX0_bestUnits_63 (by decide) rfl rfl ?_
          refine j_iload X (pc' := 67) 5 dX0_bestUnits_65 rfl rfl ?_
          refine j_istore_n X (lv' := [(0, .ref h), (1, .int (nI i1)), (2, .int x2), (3, .int (nI i5)), (4, .int r_49), (5, .int (nI i5)), (6, .int r_49)]) (pc' := 68) [1, 2, 3, 0, 4, 5, 6] dX0_bestUnits_67 rfl (by decide) rfl rfl ?_
          refine j_lv [0, 1, 2, 3, 4, 5] (lv' := [(0, .ref h), (1, .int (nI i1)), (2, .int x2), (3, .int (nI i5)), (4, .int r_49), (5, .int (nI i5))]) rfl ?_
          exact hK68 _ _ _ _ _ (by first | omega | assumption | decide | (subst_vars; first | assumption | omega)) (by first | omega | assumption | decide | (subst_vars; first | assumption | omega)) (by first | omega | assumption | decide | (subst_vars; first | assumption | omega))
  refine j_aload_n X (pc' := 1) 0 dX0_bestUnits_0 rfl rfl rfl ?_
  refine j_iload_n X (pc' := 2) 1 dX0_bestUnits_1 rfl rfl rfl ?_
  refine j_callVi X (pc' := 5) (As := [.int (nI i1)]) (rest := []) (c_X0_has l D cI cH cO h ar C (nI i1) ) wv_X0_86 ⟨0, 0, _, _, rfl, rfl, rfl⟩ ⟨by decide, by decide, by decide, by decide⟩ rfl rfl (Nat.le_of_ble_eq_true rfl) dX0_bestUnits_2 rfl ?_
  refine j_topL (fun r_2 er_2 => ?_)
  refine j_if_eq X (tgt := 16) (pc' := 8) dX0_bestUnits_5 (by decide) rfl (fun c_5 => ?_) (fun c_5 => ?_)
  · refine j_iconst X (v := 0) (pc' := 17) dX0_bestUnits_16 (by decide) rfl ?_
    exact j_iretP X rfl rfl dX0_bestUnits_17
  · refine j_aload_n X (pc' := 9) 0 dX0_bestUnits_8 rfl rfl rfl ?_
    refine j_iload_n X (pc' := 10) 1 dX0_bestUnits_9 rfl rfl rfl ?_
    refine j_callVi X (pc' := 13) (As := [.int (nI i1)]) (rest := []) (c_X0_isOut l D cI cH cO h ar C (nI i1) ) wv_X0_93 ⟨0, 0, _, _, rfl, rfl, rfl⟩ ⟨by decide, by decide, by decide, by decide⟩ rfl rfl (Nat.le_of_ble_eq_true rfl) dX0_bestUnits_10 rfl ?_
    refine j_topL (fun r_10 er_10 => ?_)
    refine j_if_eq X (tgt := 18) (pc' := 16) dX0_bestUnits_13 (by decide) rfl (fun c_13 => ?_) (fun c_13 => ?_)
    · refine j_aload_n X (pc' := 19) 0 dX0_bestUnits_18 rfl rfl rfl ?_
      refine j_iload_n X (pc' := 20) 1 dX0_bestUnits_19 rfl rfl rfl ?_
      refine j_callVi X (pc' := 23) (As := [.int (nI i1)]) (rest := []) (c_X0_unitsAhead l D cI cH cO h ar C (nI i1) ) wv_X0_76 ⟨0, 0, _, _, rfl, rfl, rfl⟩ ⟨by decide, by decide, by decide, by decide⟩ rfl rfl (Nat.le_of_ble_eq_true rfl) dX0_bestUnits_20 rfl ?_
      refine j_topL (fun r_20 er_20 => ?_)
      refine j_istore_n X (lv' := [(0, .ref h), (1, .int (nI i1)), (2, .int r_20)]) (pc' := 24) [1, 2, 0] dX0_bestUnits_23 rfl (by decide) rfl rfl ?_
      refine j_iconst X (v := 0) (pc' := 25) dX0_bestUnits_24 (by decide) rfl ?_
      refine j_istore_n X (lv' := [(0, .ref h), (1, .int (nI i1)), (2, .int r_20), (3, .int 0)]) (pc' := 26) [1, 2, 3, 0] dX0_bestUnits_25 rfl (by decide) rfl rfl ?_
      refine j_iconst X (v := 0) (pc' := 27) dX0_bestUnits_26 (by decide) rfl ?_
      refine j_istore X (lv' := [(0, .ref h), (1, .int (nI i1)), (2, .int r_20), (3, .int 0), (4, .int 0)]) (pc' := 29) [1, 2, 3, 4, 0] dX0_bestUnits_27 (by decide) rfl rfl ?_
      refine j_iconst X (v := 1) (pc' := 30) dX0_bestUnits_29 (by decide) rfl ?_
      refine j_istore X (lv' := [(0, .ref h), (1, .int (nI i1)), (2, .int r_20), (3, .int 0), (4, .int 0), (5, .int 1)]) (pc' := 32) [1, 2, 3, 4, 5, 0] dX0_bestUnits_30 (by decide) rfl rfl ?_
      refine j_lv [0, 1, 2, 3, 4, 5] (lv' := [(0, .ref h), (1, .int (nI i1)), (2, .int r_20), (3, .int 0), (4, .int 0), (5, .int 1)]) rfl ?_
      exact hL32 _ _ _ _ _ _ (by first | omega | assumption | decide | (subst_vars; first | assumption | omega)) (by first | omega | assumption | decide | (subst_vars; first | assumption | omega)) (by first | omega | assumption | decide | (subst_vars; first | assumption | omega))
    · refine j_iconst X (v := 0) (pc' := 17) dX0_bestUnits_16 (by decide) rfl ?_
      exact j_iretP X rfl rfl dX0_bestUnits_17
theorem c_X0_bestUnits (l : Launch) (D : va_G) (cI cH cO : ClassId) (h : Nat) (ar : Nat → Nat) (C : Cst) (i1 : Nat) (hi1 : i1 < 8) : MI l yX0_bestUnits cX0_bestUnits 7 (some .int) 3 D (tyl cI cH cO) [.ref h, .int (nI i1)] ((wC cI h ar C)) (sX0_bestUnits C i1) ((wC cI h ar C)) := fun sz => j_start (fun below s => (KP below [.ref h, .int (nI i1)].toArray s D (tyl cI cH cO) ((wC cI h ar C)))) (sX0_bestUnits C i1) (by decide +kernel) rfl (Nat.le_of_ble_eq_true rfl) (fun below s hs _ => by subst hs; rfl) (fun p e s m below meth c _ X => b_X0_bestUnits h ar C i1 hi1 X)
def sX0_roundChanges (C : Cst) : Int32 × Cst := ltl3 (fun R4 (C : Cst) (x1 : Int32) (i2 : Nat) => ltv (fun (C : Cst) (i2 : Nat) (x3 : Int32) (t0 : Int32) => ltv (up C 2 i2 x3) (fun (S_42 : Cst) => R4 S_42 t0 (i2 + 1))) (fun K35 => (ltv (fun (C : Cst) (i2 : Nat) (x3 : Int32) => K35 C i2 x3 1) (fun K30 => ((if 8 ≤ (nI i2) then (x1, C) else ltv (sX0_bestUnits C i2) (fun (r_12 : Int32) => (if ¬ x1 = 0 then K30 C i2 r_12 else (if r_12 = (C 2 i2) then K35 C i2 r_12 0 else K30 C i2 r_12))))))))) (fun (C : Cst) (x1 : Int32) (i2 : Nat) => (0, C)) (fun L4 => (L4 9 C 0 0))
set_option maxHeartbeats 4000000 in
set_option maxRecDepth 100000 in
theorem b_X0_roundChanges {p : Program} {l : Launch} {e : Env} {s : State} {m : MethodId} {args : Array Value} {below : List Frame} {meth : Method} {c : Code} {D : va_G} {cI cH cO : ClassId} {ws0 : va_W} (h : Nat) (ar : Nat → Nat) (C : Cst)  (X : CX p s m args meth c cX0_roundChanges 4 RX0 (some .boolean) D (tyl cI cH cO) (va_A ws0 s.heap.size)) : J p l e (rml 4) s m args below meth c 4 D (va_A ws0 s.heap.size) 0 0 (KI below args s D (tyl cI cH cO) ws0 (fun C9 => (wC cI h ar C9))) (sX0_roundChanges C) ((wC cI h ar C)) 0 [(0, .ref h)] [] := by
  unfold sX0_roundChanges
  refine j_ltl3 (fun L4 eL4 => ?_)
  have hL4 : ∀ (n4 : Nat) (C : Cst) (x1 : Int32) (i2 : Nat) (hi : i2 ≤ 8) (hfu : 9 ≤ i2 + n4) (hb : x1 = 0 ∨ x1 = 1), J p l e (rml 4) s m args below meth c 4 D (va_A ws0 s.heap.size) 0 0 (KI below args s D (tyl cI cH cO) ws0 (fun C9 => (wC cI h ar C9))) (L4 n4 C x1 i2) ((wC cI h ar C)) 4 [(0, .ref h), (1, .int x1), (2, .int (nI i2))] [] := by
    intro n4
    induction n4 with
    | zero =>
      intro C x1 i2 hi hfu hb
      exact absurd hfu (by omega)
    | succ n4 ih4 =>
      intro C x1 i2 hi hfu hb
      rw [eL4]
      refine j_ltv (fun K35 eK35 => ?_)
      have hK35 : ∀ (C : Cst) (i2 : Nat) (x3 : Int32) (t0 : Int32) (hi : i2 < 8) (hfu : 9 ≤ i2 + (n4 + 1)) (hb0 : t0 = 0 ∨ t0 = 1), J p l e (rml 4) s m args below meth c 4 D (va_A ws0 s.heap.size) 0 0 (KI below args s D (tyl cI cH cO) ws0 (fun C9 => (wC cI h ar C9))) (K35 C i2 x3 t0) ((wC cI h ar C)) 35 [(0, .ref h), (2, .int (nI i2)), (3, .int x3)] [.int t0] := by
        intro C i2 x3 t0 hi hfu hb0
        rw [eK35]
        refine j_istore_n X (lv' := [(0, .ref h), (1, .int t0), (2, .int (nI i2)), (3, .int x3)]) (pc' := 36) [1, 0, 2, 3] dX0_roundChanges_35 rfl (by decide) rfl rfl ?_
        refine j_aload_n X (pc' := 37) 0 dX0_roundChanges_36 rfl rfl rfl ?_
        refine j_get X inX0 rfl (pc' := 40) 0 2 q_fl_X0_18 (by decide) rfl rfl dX0_roundChanges_37 rfl ?_
        refine j_iload_n X (pc' := 41) 2 dX0_roundChanges_40 rfl rfl rfl ?_
        refine j_iload_n X (pc' := 42) 3 dX0_roundChanges_41 rfl rfl rfl ?_
        refine j_iastN X (i := i2) (pc' := 43) (S := up C 2 i2 x3) (fun S_42 => (wC cI h ar S_42)) 3 rfl rfl (by omega) (by decide) dX0_roundChanges_42 rfl (fun S_42 eS_42 => ?_)
        refine j_iinc X (v := (nI (i2 + 1))) (lv' := [(0, .ref h), (1, .int t0), (2, .int (nI (i2 + 1))), (3, .int x3)]) (q := 2) (pc' := 46) [1, 2, 0, 3] dX0_roundChanges_43 rfl (nI_1 i2) (by decide) rfl rfl ?_
        refine j_goto X (pc' := 4) dX0_roundChanges_46 (by decide) ?_
        refine j_lv [0, 1, 2] (lv' := [(0, .ref h), (1, .int t0), (2, .int (nI (i2 + 1)))]) rfl ?_
        exact ih4 _ _ _ (by first | omega | assumption | decide | (subst_vars; first | assumption | omega)) (by first | omega | assumption | decide | (subst_vars; first | assumption | omega)) (by first | omega | assumption | decide | (subst_vars; first | assumption | omega))
      refine j_ltv (fun K30 eK30 => ?_)
      have hK30 : ∀ (C : Cst) (i2 : Nat) (x3 : Int32) (hi : i2 < 8) (hfu : 9 ≤ i2 + (n4 + 1)), J p l e (rml 4) s m args below meth c 4 D (va_A ws0 s.heap.size) 0 0 (KI below args s D (tyl cI cH cO) ws0 (fun C9 => (wC cI h ar C9))) (K30 C i2 x3) ((wC cI h ar C)) 30 [(0, .ref h), (2, .int (nI i2)), (3, .int x3)] [] := by
        intro C i2 x3 hi hfu
        rw [eK30]
        refine j_iconst X (v := 1) (pc' := 31) dX0_roundChanges_30 (by decide) rfl ?_
        refine j_goto X (pc' := 35) dX0_roundChanges_31 (by decide) ?_
        refine j_lv [0, 1, 2] (lv' := [(0, .ref h), (2, .int (nI i2)), (3, .int x3)]) rfl ?_
        exact hK35 _ _ _ _ (by first | omega | assumption | decide | (subst_vars; first | assumption | omega)) (by first | omega | assumption | decide | (subst_vars; first | assumption | omega)) (by first | omega | assumption | decide | (subst_vars; first | assumption | omega))
      refine j_iload_n X (pc' := 5) 2 dX0_roundChanges_4 rfl rfl rfl ?_
      refine j_bipush X (v := 8) (pc' := 7) dX0_roundChanges_5 (by decide) rfl ?_
      refine j_icmp_ge X (tgt := 49) (pc' := 10) dX0_roundChanges_7 (by decide) rfl (fun c_7 => ?_) (fun c_7 => ?_)
      · have f_7 : 8 ≤ i2 := (nI_leI (a := 8) (b := i2) (by omega) (by omega)).mp c_7
        refine j_iload_n X (pc' := 50) 1 dX0_roundChanges_49 rfl rfl rfl ?_
        exact j_zretI X (by rcases hb with rfl | rfl <;> rfl) rfl rfl dX0_roundChanges_50
      · have f_7 : ¬ (8 ≤ i2) := fun h => c_7 ((nI_leI (a := 8) (b := i2) (by omega) (by omega)).mpr h)
        refine j_aload_n X (pc' := 11) 0 dX0_roundChanges_10 rfl rfl rfl ?_
        refine j_iload_n X (pc' := 12) 2 dX0_roundChanges_11 rfl rfl rfl ?_
        refine j_callVi X (pc' := 15) (As := [.int (nI i2)]) (rest := []) (c_X0_bestUnits l D cI cH cO h ar C i2 (by first | omega | assumption | decide | (subst_vars; first | assumption | omega))) wv_X0_160 ⟨0, 0, _, _, rfl, rfl, rfl⟩ ⟨by decide, by decide, by decide, by decide⟩ rfl rfl (Nat.le_of_ble_eq_true rfl) dX0_roundChanges_12 rfl ?_
        refine j_topL (fun r_12 er_12 => ?_)
        refine j_istore_n X (lv' := [(0, .ref h), (1, .int x1), (2, .int (nI i2)), (3, .int r_12)]) (pc' := 16) [1, 2, 3, 0] dX0_roundChanges_15 rfl (by decide) rfl rfl ?_
        refine j_iload_n X (pc' := 17) 1 dX0_roundChanges_16 rfl rfl rfl ?_
        refine j_if_ne X (tgt := 30) (pc' := 20) dX0_roundChanges_17 (by decide) rfl (fun c_17 => ?_) (fun c_17 => ?_)
        · refine j_lv [0, 2, 3] (lv' := [(0, .ref h), (2, .int (nI i2)), (3, .int r_12)]) rfl ?_
          exact hK30 _ _ _ (by first | omega | assumption | decide | (subst_vars; first | assumption | omega)) (by first | omega | assumption | decide | (subst_vars; first | assumption | omega))
        · refine j_iload_n X (pc' := 21) 3 dX0_roundChanges_20 rfl rfl rfl ?_
          refine j_aload_n X (pc' := 22) 0 dX0_roundChanges_21 rfl rfl rfl ?_
          refine j_get X inX0 rfl (pc' := 25) 0 2 q_fl_X0_18 (by decide) rfl rfl dX0_roundChanges_22 rfl ?_
          refine j_iload_n X (pc' := 26) 2 dX0_roundChanges_25 rfl rfl rfl ?_
          refine j_ialdN X (i := i2) (pc' := 27) 3 rfl (by omega) (by decide) dX0_roundChanges_26 rfl ?_
          refine j_icmp_eq X (tgt := 34) (pc' := 30) dX0_roundChanges_27 (by decide) rfl (fun c_27 => ?_) (fun c_27 => ?_)
          · refine j_iconst X (v := 0) (pc' := 35) dX0_roundChanges_34 (by decide) rfl ?_
            refine j_lv [0, 2, 3] (lv' := [(0, .ref h), (2, .int (nI i2)), (3, .int r_12)]) rfl ?_
            exact hK35 _ _ _ _ (by first | omega | assumption | decide | (subst_vars; first | assumption | omega)) (by first | omega | assumption | decide | (subst_vars; first | assumption | omega)) (by first | omega | assumption | decide | (subst_vars; first | assumption | omega))
          · refine j_lv [0, 2, 3] (lv' := [(0, .ref h), (2, .int (nI i2)), (3, .int r_12)]) rfl ?_
            exact hK30 _ _ _ (by first | omega | assumption | decide | (subst_vars; first | assumption | omega)) (by first | omega | assumption | decide | (subst_vars; first | assumption | omega))
  refine j_iconst X (v := 0) (pc' := 1) dX0_roundChanges_0 (by decide) rfl ?_
  refine j_istore_n X (lv' := [(0, .ref h), (1, .int 0)]) (pc' := 2) [1, 0] dX0_roundChanges_1 rfl (by decide) rfl rfl ?_
  refine j_iconst X (v := 0) (pc' := 3) dX0_roundChanges_2 (by decide) rfl ?_
  refine j_istore_n X (lv' := [(0, .ref h), (1, .int 0), (2, .int 0)]) (pc' := 4) [1, 2, 0] dX0_roundChanges_3 rfl (by decide) rfl rfl ?_
  refine j_lv [0, 1, 2] (lv' := [(0, .ref h), (1, .int 0), (2, .int 0)]) rfl ?_
  exact hL4 _ _ _ _ (by first | omega | assumption | decide | (subst_vars; first | assumption | omega)) (by first | omega | assumption | decide | (subst_vars; first | assumption | omega)) (by first | omega | assumption | decide | (subst_vars; first | assumption | omega))
theorem c_X0_roundChanges (l : Launch) (D : va_G) (cI cH cO : ClassId) (h : Nat) (ar : Nat → Nat) (C : Cst)  : MI l yX0_roundChanges cX0_roundChanges 4 (some .boolean) 4 D (tyl cI cH cO) [.ref h] ((wC cI h ar C)) (sX0_roundChanges C).1 ((wC cI h ar ((sX0_roundChanges C).2))) := fun sz => j_start (fun below s => (KI below [.ref h].toArray s D (tyl cI cH cO) ((wC cI h ar C)) (fun C9 => (wC cI h ar C9)))) (sX0_roundChanges C) (by decide +kernel) rfl (Nat.le_of_ble_eq_true rfl) (fun below s hs _ => by subst hs; rfl) (fun p e s m below meth c _ X => b_X0_roundChanges h ar C  X)
def sX0_calmDown (C : Cst) : Int32 × Cst := ltl2 (fun R2 (C : Cst) (i1 : Nat) => (if 40 < (nI i1) then ((-10004), C) else bnd (sX0_roundChanges C) (fun (r_9 : Int32) (S_9 : Cst) => (if ¬ r_9 = 0 then R2 S_9 (i1 + 1) else ((nI i1), S_9))))) (fun (C : Cst) (i1 : Nat) => (0, C)) (fun L2 => (L2 42 C 1))
set_option maxHeartbeats 4000000 in
set_option maxRecDepth 100000 in
theorem b_X0_calmDown {p : Program} {l : Launch} {e : Env} {s : State} {m : MethodId} {args : Array Value} {below : List Frame} {meth : Method} {c : Code} {D : va_G} {cI cH cO : ClassId} {ws0 : va_W} (h : Nat) (ar : Nat → Nat) (C : Cst)  (X : CX p s m args meth c cX0_calmDown 2 RX0 (some .int) D (tyl cI cH cO) (va_A ws0 s.heap.size)) : J p l e (rml 5) s m args below meth c 2 D (va_A ws0 s.heap.size) 0 0 (KI below args s D (tyl cI cH cO) ws0 (fun C9 => (wC cI h ar C9))) (sX0_calmDown C) ((wC cI h ar C)) 0 [(0, .ref h)] [] := by
  unfold sX0_calmDown
  refine j_ltl2 (fun L2 eL2 => ?_)
  have hL2 : ∀ (n2 : Nat) (C : Cst) (i1 : Nat) (hi : i1 ≤ 41) (hfu : 42 ≤ i1 + n2), J p l e (rml 5) s m args below meth c 2 D (va_A ws0 s.heap.size) 0 0 (KI below args s D (tyl cI cH cO) ws0 (fun C9 => (wC cI h ar C9))) (L2 n2 C i1) ((wC cI h ar C)) 2 [(0, .ref h), (1, .int (nI i1))] [] := by
    intro n2
    induction n2 with
    | zero =>
      intro C i1 hi hfu
      exact absurd hfu (by omega)
    | succ n2 ih2 =>
      intro C i1 hi hfu
      rw [eL2]
      refine j_iload_n X (pc' := 3) 1 dX0_calmDown_2 rfl rfl rfl ?_
      refine j_bipush X (v := 40) (pc' := 5) dX0_calmDown_3 (by decide) rfl ?_
      refine j_icmp_gt X (tgt := 23) (pc' := 8) dX0_calmDown_5 (by decide) rfl (fun c_5 => ?_) (fun c_5 => ?_)
      · have f_5 : 40 < i1 := (nI_ltI (a := 40) (b := i1) (by omega) (by omega)).mp c_5
        refine j_sipush X (v := (-10004)) (pc' := 26) dX0_calmDown_23 (by decide) rfl ?_
        exact j_iretI X rfl rfl dX0_calmDown_26
      · have f_5 : ¬ (40 < i1) := fun h => c_5 ((nI_ltI (a := 40) (b := i1) (by omega) (by omega)).mpr h)
        refine j_aload_n X (pc' := 9) 0 dX0_calmDown_8 rfl rfl rfl ?_
        refine j_callVi X (pc' := 12) (As := []) (rest := []) (c_X0_roundChanges l D cI cH cO h ar C ) wv_X0_156 ⟨0, 0, _, _, rfl, rfl, rfl⟩ ⟨by decide, by decide, by decide, by decide⟩ rfl rfl (Nat.le_of_ble_eq_true rfl) dX0_calmDown_9 rfl ?_
        refine j_rsL (q := (sX0_roundChanges C)) (fun S_9 => (wC cI h ar S_9)) (fun r_9 S_9 er_9 => ?_)
        refine j_if_ne X (tgt := 17) (pc' := 15) dX0_calmDown_12 (by decide) rfl (fun c_12 => ?_) (fun c_12 => ?_)
        · refine j_iinc X (v := (nI (i1 + 1))) (lv' := [(0, .ref h), (1, .int (nI (i1 + 1)))]) (q := 1) (pc' := 20) [1, 0] dX0_calmDown_17 rfl (nI_1 i1) (by decide) rfl rfl ?_
          refine j_goto X (pc' := 2) dX0_calmDown_20 (by decide) ?_
          refine j_lv [0, 1] (lv' := [(0, .ref h), (1, .int (nI (i1 + 1)))]) rfl ?_
          exact ih2 _ _ (by first | omega | assumption | decide | (subst_vars; first | assumption | omega)) (by first | omega | assumption | decide | (subst_vars; first | assumption | omega))
        · refine j_iload_n X (pc' := 16) 1 dX0_calmDown_15 rfl rfl rfl ?_
          exact j_iretI X rfl rfl dX0_calmDown_16
  refine j_iconst X (v := 1) (pc' := 1) dX0_calmDown_0 (by decide) rfl ?_
  refine j_istore_n X (lv' := [(0, .ref h), (1, .int 1)]) (pc' := 2) [1, 0] dX0_calmDown_1 rfl (by decide) rfl rfl ?_
  refine j_lv [0, 1] (lv' := [(0, .ref h), (1, .int 1)]) rfl ?_
  exact hL2 _ _ _ (by first | omega | assumption | decide | (subst_vars; first | assumption | omega)) (by first | omega | assumption | decide | (subst_vars; first | assumption | omega))
theorem c_X0_calmDown (l : Launch) (D : va_G) (cI cH cO : ClassId) (h : Nat) (ar : Nat → Nat) (C : Cst)  : MI l yX0_calmDown cX0_calmDown 2 (some .int) 5 D (tyl cI cH cO) [.ref h] ((wC cI h ar C)) (sX0_calmDown C).1 ((wC cI h ar ((sX0_calmDown C).2))) := fun sz => j_start (fun below s => (KI below [.ref h].toArray s D (tyl cI cH cO) ((wC cI h ar C)) (fun C9 => (wC cI h ar C9)))) (sX0_calmDown C) (by decide +kernel) rfl (Nat.le_of_ble_eq_true rfl) (fun below s hs _ => by subst hs; rfl) (fun p e s m below meth c _ X => b_X0_calmDown h ar C  X)
def sX0_worthiestWithRoom (C : Cst) : Int32 := ltl3 (fun R6 (x1 : Int32) (x2 : Int32) (i3 : Nat) => ltv (fun (x1 : Int32) (x2 : Int32) (i3 : Nat) => R6 x1 x2 (i3 + 1)) (fun K58 => ((if 8 ≤ (nI i3) then x1 else (if (C 9 0) ≤ (nI i3) then x1 else (if 20 ≤ (C 2 i3) then K58 x1 x2 i3 else ltv (sX0_isOut C (nI i3)) (fun (r_33 : Int32) => (if ¬ r_33 = 0 then K58 x1 x2 i3 else (if (C 1 i3) ≤ x2 then K58 x1 x2 i3 else ltv (C 1 i3) (fun (v2_55 : Int32) => K58 (nI i3) v2_55 i3)))))))))) (fun (x1 : Int32) (x2 : Int32) (i3 : Nat) => 0) (fun L6 => (L6 9 (-1) (-1) 0))
set_option maxHeartbeats 4000000 in
set_option maxRecDepth 100000 in
theorem b_X0_worthiestWithRoom {p : Program} {l : Launch} {e : Env} {s : State} {m : MethodId} {args : Array Value} {below : List Frame} {meth : Method} {c : Code} {D : va_G} {cI cH cO : ClassId} (h : Nat) (ar : Nat → Nat) (C : Cst)  (X : CX p s m args meth c cX0_worthiestWithRoom 4 RX0 (some .int) D (tyl cI cH cO) (va_A ((wC cI h ar C)) s.heap.size)) : J p l e (rml 1) s m args below meth c 4 D (va_A ((wC cI h ar C)) s.heap.size) 0 0 (KP below args s D (tyl cI cH cO) ((wC cI h ar C))) (sX0_worthiestWithRoom C) ((wC cI h ar C)) 0 [(0, .ref h)] [] := by
  unfold sX0_worthiestWithRoom
  refine j_ltl3 (fun L6 eL6 => ?_)
  have hL6 : ∀ (n6 : Nat) (x1 : Int32) (x2 : Int32) (i3 : Nat) (hi : i3 ≤ 8) (hfu : 9 ≤ i3 + n6), J p l e (rml 1) s m args below meth c 4 D (va_A ((wC cI h ar C)) s.heap.size) 0 0 (KP below args s D (tyl cI cH cO) ((wC cI h ar C))) (L6 n6 x1 x2 i3) ((wC cI h ar C)) 6 [(0, .ref h), (1, .int x1), (2, .int x2), (3, .int (nI i3))] [] := by
    intro n6
    induction n6 with
    | zero =>
      intro x1 x2 i3 hi hfu
      exact absurd hfu (by omega)
    | succ n6 ih6 =>
      intro x1 x2 i3 hi hfu
      rw [eL6]
      refine j_ltv (fun K58 eK58 => ?_)
      have hK58 : ∀ (x1 : Int32) (x2 : Int32) (i3 : Nat) (hi : i3 < 8) (hfu : 9 ≤ i3 + (n6 + 1)), J p l e (rml 1) s m args below meth c 4 D (va_A ((wC cI h ar C)) s.heap.size) 0 0 (KP below args s D (tyl cI cH cO) ((wC cI h ar C))) (K58 x1 x2 i3) ((wC cI h ar C)) 58 [(0, .ref h), (1, .int x1), (2, .int x2), (3, .int (nI i3))] [] := by
        intro x1 x2 i3 hi hfu
        rw [eK58]
        refine j_iinc X (v := (nI (i3 + 1))) (lv' := [(0, .ref h), (1, .int x1), (2, .int x2), (3, .int (nI (i3 + 1)))]) (q := 3) (pc' := 61) [1, 2, 3, 0] dX0_worthiestWithRoom_58 rfl (nI_1 i3) (by decide) rfl rfl ?_
        refine j_goto X (pc' := 6) dX0_worthiestWithRoom_61 (by decide) ?_
        refine j_lv [0, 1, 2, 3] (lv' := [(0, .ref h), (1, .int x1), (2, .int x2), (3, .int (nI (i3 + 1)))]) rfl ?_
        exact ih6 _ _ _ (by first | omega | assumption | decide | (subst_vars; first | assumption | omega)) (by first | omega | assumption | decide | (subst_vars; first | assumption | omega))
      refine j_iload_n X (pc' := 7) 3 dX0_worthiestWithRoom_6 rfl rfl rfl ?_
      refine j_bipush X (v := 8) (pc' := 9) dX0_worthiestWithRoom_7 (by decide) rfl ?_
      refine j_icmp_ge X (tgt := 64) (pc' := 12) dX0_worthiestWithRoom_9 (by decide) rfl (fun c_9 => ?_) (fun c_9 => ?_)
      · have f_9 : 8 ≤ i3 := (nI_leI (a := 8) (b := i3) (by omega) (by omega)).mp c_9
        refine j_iload_n X (pc' := 65) 1 dX0_worthiestWithRoom_64 rfl rfl rfl ?_
        exact j_iretP X rfl rfl dX0_worthiestWithRoom_65
      · have f_9 : ¬ (8 ≤ i3) := fun h => c_9 ((nI_leI (a := 8) (b := i3) (by omega) (by omega)).mpr h)
        refine j_iload_n X (pc' := 13) 3 dX0_worthiestWithRoom_12 rfl rfl rfl ?_
        refine j_aload_n X (pc' := 14) 0 dX0_worthiestWithRoom_13 rfl rfl rfl ?_
        refine j_get X inX0 rfl (pc' := 17) 0 9 q_fl_X0_47 (by decide) rfl rfl dX0_worthiestWithRoom_14 rfl ?_
        refine j_icmp_ge X (tgt := 64) (pc' := 20) dX0_worthiestWithRoom_17 (by decide) rfl (fun c_17 => ?_) (fun c_17 => ?_)
        · refine j_iload_n X (pc' := 65) 1 dX0_worthiestWithRoom_64 rfl rfl rfl ?_
          exact j_iretP X rfl rfl dX0_worthiestWithRoom_65
        · refine j_aload_n X (pc' := 21) 0 dX0_worthiestWithRoom_20 rfl rfl rfl ?_
          refine j_get X inX0 rfl (pc' := 24) 0 2 q_fl_X0_18 (by decide) rfl rfl dX0_worthiestWithRoom_21 rfl ?_
          refine j_iload_n X (pc' := 25) 3 dX0_worthiestWithRoom_24 rfl rfl rfl ?_
          refine j_ialdN X (i := i3) (pc' := 26) 3 rfl (by omega) (by decide) dX0_worthiestWithRoom_25 rfl ?_
          refine j_bipush X (v := 20) (pc' := 28) dX0_worthiestWithRoom_26 (by decide) rfl ?_
          refine j_icmp_ge X (tgt := 58) (pc' := 31) dX0_worthiestWithRoom_28 (by decide) rfl (fun c_28 => ?_) (fun c_28 => ?_)
          · refine j_lv [0, 1, 2, 3] (lv' := [(0, .ref h), (1, .int x1), (2, .int x2), (3, .int (nI i3))]) rfl ?_
            exact hK58 _ _ _ (by first | omega | assumption | decide | (subst_vars; first | assumption | omega)) (by first | omega | assumption | decide | (subst_vars; first | assumption | omega))
          · refine j_aload_n X (pc' := 32) 0 dX0_worthiestWithRoom_31 rfl rfl rfl ?_
            refine j_iload_n X (pc' := 33) 3 dX0_worthiestWithRoom_32 rfl rfl rfl ?_
            refine j_callVi X (pc' := 36) (As := [.int (nI i3)]) (rest := []) (c_X0_isOut l D cI cH cO h ar C (nI i3) ) wv_X0_93 ⟨0, 0, _, _, rfl, rfl, rfl⟩ ⟨by decide, by decide, by decide, by decide⟩ rfl rfl (Nat.le_of_ble_eq_true rfl) dX0_worthiestWithRoom_33 rfl ?_
            refine j_topL (fun r_33 er_33 => ?_)
            refine j_if_ne X (tgt := 58) (pc' := 39) dX0_worthiestWithRoom_36 (by decide) rfl (fun c_36 => ?_) (fun c_36 => ?_)
            · refine j_lv [0, 1, 2, 3] (lv' := [(0, .ref h), (1, .int x1), (2, .int x2), (3, .int (nI i3))]) rfl ?_
              exact hK58 _ _ _ (by first | omega | assumption | decide | (subst_vars; first | assumption | omega)) (by first | omega | assumption | decide | (subst_vars; first | assumption | omega))
            · refine j_aload_n X (pc' := 40) 0 dX0_worthiestWithRoom_39 rfl rfl rfl ?_
              refine j_get X inX0 rfl (pc' := 43) 0 1 q_fl_X0_15 (by decide) rfl rfl dX0_worthiestWithRoom_40 rfl ?_
              refine j_iload_n X (pc' := 44) 3 dX0_worthiestWithRoom_43 rfl rfl rfl ?_
              refine j_ialdN X (i := i3) (pc' := 45) 2 rfl (by omega) (by decide) dX0_worthiestWithRoom_44 rfl ?_
              refine j_iload_n X (pc' := 46) 2 dX0_worthiestWithRoom_45 rfl rfl rfl ?_
              refine j_icmp_le X (tgt := 58) (pc' := 49) dX0_worthiestWithRoom_46 (by decide) rfl (fun c_46 => ?_) (fun c_46 => ?_)
              · refine j_lv [0, 1, 2, 3] (lv' := [(0, .ref h), (1, .int x1), (2, .int x2), (3, .int (nI i3))]) rfl ?_
                exact hK58 _ _ _ (by first | omega | assumption | decide | (subst_vars; first | assumption | omega)) (by first | omega | assumption | decide | (subst_vars; first | assumption | omega))
              · refine j_aload_n X (pc' := 50) 0 dX0_worthiestWithRoom_49 rfl rfl rfl ?_
                refine j_get X inX0 rfl (pc' := 53) 0 1 q_fl_X0_15 (by decide) rfl rfl dX0_worthiestWithRoom_50 rfl ?_
                refine j_iload_n X (pc' := 54) 3 dX0_worthiestWithRoom_53 rfl rfl rfl ?_
                refine j_ialdN X (i := i3) (pc' := 55) 2 rfl (by omega) (by decide) dX0_worthiestWithRoom_54 rfl ?_
                refine j_istore_nL X (fun v2_55 => [(0, .ref h), (1, .int x1), (2, .int v2_55), (3, .int (nI i3))]) [1, 2, 0, 3] (pc' := 56) dX0_worthiestWithRoom_55 rfl (by decide) (fun _ => rfl) rfl (fun v2_55 ev2_55 => ?_)
                refine j_iload_n X (pc' := 57) 3 dX0_worthiestWithRoom_56 rfl rfl rfl ?_
                refine j_istore_n X (lv' := [(0, .ref h), (1, .int (nI i3)), (2, .int v2_55), (3, .int (nI i3))]) (pc' := 58) [1, 0, 2, 3] dX0_worthiestWithRoom_57 rfl (by decide) rfl rfl ?_
                refine j_lv [0, 1, 2, 3] (lv' := [(0, .ref h), (1, .int (nI i3)), (2, .int v2_55), (3, .int (nI i3))]) rfl ?_
                exact hK58 _ _ _ (by first | omega | assumption | decide | (subst_vars; first | assumption | omega)) (by first | omega | assumption | decide | (subst_vars; first | assumption | omega))
  refine j_iconst X (v := (-1)) (pc' := 1) dX0_worthiestWithRoom_0 (by decide) rfl ?_
  refine j_istore_n X (lv' := [(0, .ref h), (1, .int (-1))]) (pc' := 2) [1, 0] dX0_worthiestWithRoom_1 rfl (by decide) rfl rfl ?_
  refine j_iconst X (v := (-1)) (pc' := 3) dX0_worthiestWithRoom_2 (by decide) rfl ?_
  refine j_istore_n X (lv' := [(0, .ref h), (1, .int (-1)), (2, .int (-1))]) (pc' := 4) [1, 2, 0] dX0_worthiestWithRoom_3 rfl (by decide) rfl rfl ?_
  refine j_iconst X (v := 0) (pc' := 5) dX0_worthiestWithRoom_4 (by decide) rfl ?_
  refine j_istore_n X (lv' := [(0, .ref h), (1, .int (-1)), (2, .int (-1)), (3, .int 0)]) (pc' := 6) [1, 2, 3, 0] dX0_worthiestWithRoom_5 rfl (by decide) rfl rfl ?_
  refine j_lv [0, 1, 2, 3] (lv' := [(0, .ref h), (1, .int (-1)), (2, .int (-1)), (3, .int 0)]) rfl ?_
  exact hL6 _ _ _ _ (by first | omega | assumption | decide | (subst_vars; first | assumption | omega)) (by first | omega | assumption | decide | (subst_vars; first | assumption | omega))
theorem c_X0_worthiestWithRoom (l : Launch) (D : va_G) (cI cH cO : ClassId) (h : Nat) (ar : Nat → Nat) (C : Cst)  : MI l yX0_worthiestWithRoom cX0_worthiestWithRoom 4 (some .int) 1 D (tyl cI cH cO) [.ref h] ((wC cI h ar C)) (sX0_worthiestWithRoom C) ((wC cI h ar C)) := fun sz => j_start (fun below s => (KP below [.ref h].toArray s D (tyl cI cH cO) ((wC cI h ar C)))) (sX0_worthiestWithRoom C) (by decide +kernel) rfl (Nat.le_of_ble_eq_true rfl) (fun below s hs _ => by subst hs; rfl) (fun p e s m below meth c _ X => b_X0_worthiestWithRoom h ar C  X)
def sX0_useBestForAll (C : Cst) : Int32 × Cst := ltv (fun (C : Cst) (x1 : Int32) => ltv (sX0_damageOf C 160) (fun (r_98 : Int32) => ((x1 - r_98), C))) (fun K93 => (ltv (fun (C : Cst) (x1 : Int32) (x2 : Int32) => ltv (sX0_damageOf C x2) (fun (r_63 : Int32) => ((x1 - r_63), C))) (fun K60 => (ltl3 (fun R25 (C : Cst) (x1 : Int32) (i2 : Nat) => (if 160 ≤ (nI i2) then K93 C x1 else ltv (sX0_worthiestWithRoom C) (fun (r_33 : Int32) => ltv (sX0_has C r_33) (fun (r_39 : Int32) => (if r_39 = 0 then K60 C x1 (nI i2) else ltv (sX0_damageAdded C (nI i2) 1) (fun (r_54 : Int32) => (if r_54 < (C 1 r_33.toNatClampNeg) then ltv (up C 2 r_33.toNatClampNeg ((C 2 r_33.toNatClampNeg) + 1)) (fun (S_77 : Cst) => ltv (x1 + (S_77 1 r_33.toNatClampNeg)) (fun (v1_86 : Int32) => R25 S_77 v1_86 (i2 + 1))) else K60 C x1 (nI i2)))))))) (fun (C : Cst) (x1 : Int32) (i2 : Nat) => (0, C)) (fun L25 => (ltv (fun (C : Cst) => L25 161 C 0 0) (fun K21 => (ltl2 (fun R2 (C : Cst) (i1 : Nat) => (if 8 ≤ (nI i1) then K21 C else ltv (up C 2 i1 0) (fun (S_14 : Cst) => R2 S_14 (i1 + 1)))) (fun (C : Cst) (i1 : Nat) => (0, C)) (fun L2 => (L2 9 C 0))))))))))
set_option maxHeartbeats 4000000 in
set_option maxRecDepth 100000 in
theorem b_X0_useBestForAll {p : Program} {l : Launch} {e : Env} {s : State} {m : MethodId} {args : Array Value} {below : List Frame} {meth : Method} {c : Code} {D : va_G} {cI cH cO : ClassId} {ws0 : va_W} (h : Nat) (ar : Nat → Nat) (C : Cst)  (X : CX p s m args meth c cX0_useBestForAll 4 RX0 (some .int) D (tyl cI cH cO) (va_A ws0 s.heap.size)) : J p l e (rml 2) s m args below meth c 4 D (va_A ws0 s.heap.size) 0 0 (KI below args s D (tyl cI cH cO) ws0 (fun C9 => (wC cI h ar C9))) (sX0_useBestForAll C) ((wC cI h ar C)) 0 [(0, .ref h)] [] := by
  unfold sX0_useBestForAll
  refine j_ltv (fun K93 eK93 => ?_)
  have hK93 : ∀ (C : Cst) (x1 : Int32) , J p l e (rml 2) s m args below meth c 4 D (va_A ws0 s.heap.size) 0 0 (KI below args s D (tyl cI cH cO) ws0 (fun C9 => (wC cI h ar C9))) (K93 C x1) ((wC cI h ar C)) 93 [(0, .ref h), (1, .int x1)] [] := by
    intro C x1 
    rw [eK93]
    refine j_iload_n X (pc' := 94) 1 dX0_useBestForAll_93 rfl rfl rfl ?_
    refine j_aload_n X (pc' := 95) 0 dX0_useBestForAll_94 rfl rfl rfl ?_
    refine j_sipush X (v := 160) (pc' := 98) dX0_useBestForAll_95 (by decide) rfl ?_
    refine j_callVi X (pc' := 101) (As := [.int 160]) (rest := [.int x1]) (c_X0_damageOf l D cI cH cO h ar C 160 ) wv_X0_83 ⟨0, 0, _, _, rfl, rfl, rfl⟩ ⟨by decide, by decide, by decide, by decide⟩ rfl rfl (Nat.le_of_ble_eq_true rfl) dX0_useBestForAll_98 rfl ?_
    refine j_topL (fun r_98 er_98 => ?_)
    refine j_isub X (pc' := 102) dX0_useBestForAll_101 rfl ?_
    exact j_iretI X rfl rfl dX0_useBestForAll_102
  refine j_ltv (fun K60 eK60 => ?_)
  have hK60 : ∀ (C : Cst) (x1 : Int32) (x2 : Int32) , J p l e (rml 2) s m args below meth c 4 D (va_A ws0 s.heap.size) 0 0 (KI below args s D (tyl cI cH cO) ws0 (fun C9 => (wC cI h ar C9))) (K60 C x1 x2) ((wC cI h ar C)) 60 [(0, .ref h), (1, .int x1), (2, .int x2)] [] := by
    intro C x1 x2 
    rw [eK60]
    refine j_iload_n X (pc' := 61) 1 dX0_useBestForAll_60 rfl rfl rfl ?_
    refine j_aload_n X (pc' := 62) 0 dX0_useBestForAll_61 rfl rfl rfl ?_
    refine j_iload_n X (pc' := 63) 2 dX0_useBestForAll_62 rfl rfl rfl ?_
    refine j_callVi X (pc' := 66) (As := [.int x2]) (rest := [.int x1]) (c_X0_damageOf l D cI cH cO h ar C x2 ) wv_X0_83 ⟨0, 0, _, _, rfl, rfl, rfl⟩ ⟨by decide, by decide, by decide, by decide⟩ rfl rfl (Nat.le_of_ble_eq_true rfl) dX0_useBestForAll_63 rfl ?_
    refine j_topL (fun r_63 er_63 => ?_)
    refine j_isub X (pc' := 67) dX0_useBestForAll_66 rfl ?_
    exact j_iretI X rfl rfl dX0_useBestForAll_67
  refine j_ltl3 (fun L25 eL25 => ?_)
  have hL25 : ∀ (n25 : Nat) (C : Cst) (x1 : Int32) (i2 : Nat) (hi : i2 ≤ 160) (hfu : 161 ≤ i2 + n25), J p l e (rml 2) s m args below meth c 4 D (va_A ws0 s.heap.size) 0 0 (KI below args s D (tyl cI cH cO) ws0 (fun C9 => (wC cI h ar C9))) (L25 n25 C x1 i2) ((wC cI h ar C)) 25 [(0, .ref h), (1, .int x1), (2, .int (nI i2))] [] := by
    intro n25
    induction n25 with
    | zero =>
      intro C x1 i2 hi hfu
      exact absurd hfu (by omega)
    | succ n25 ih25 =>
      intro C x1 i2 hi hfu
      rw [eL25]
      refine j_iload_n X (pc' := 26) 2 dX0_useBestForAll_25 rfl rfl rfl ?_
      refine j_sipush X (v := 160) (pc' := 29) dX0_useBestForAll_26 (by decide) rfl ?_
      refine j_icmp_ge X (tgt := 93) (pc' := 32) dX0_useBestForAll_29 (by decide) rfl (fun c_29 => ?_) (fun c_29 => ?_)
      · have f_29 : 160 ≤ i2 := (nI_leI (a := 160) (b := i2) (by omega) (by omega)).mp c_29
        refine j_lv [0, 1] (lv' := [(0, .ref h), (1, .int x1)]) rfl ?_
        exact hK93 _ _ 
      · have f_29 : ¬ (160 ≤ i2) := fun h => c_29 ((nI_leI (a := 160) (b := i2) (by omega) (by omega)).mpr h)
        refine j_aload_n X (pc' := 33) 0 dX0_useBestForAll_32 rfl rfl rfl ?_
        refine j_callVi X (pc' := 36) (As := []) (rest := []) (c_X0_worthiestWithRoom l D cI cH cO h ar C ) wv_X0_163 ⟨0, 0, _, _, rfl, rfl, rfl⟩ ⟨by decide, by decide, by decide, by decide⟩ rfl rfl (Nat.le_of_ble_eq_true rfl) dX0_useBestForAll_33 rfl ?_
        refine j_topL (fun r_33 er_33 => ?_)
        refine j_istore_n X (lv' := [(0, .ref h), (1, .int x1), (2, .int (nI i2)), (3, .int r_33)]) (pc' := 37) [1, 2, 3, 0] dX0_useBestForAll_36 rfl (by decide) rfl rfl ?_
        refine j_aload_n X (pc' := 38) 0 dX0_useBestForAll_37 rfl rfl rfl ?_
        refine j_iload_n X (pc' := 39) 3 dX0_useBestForAll_38 rfl rfl rfl ?_
        refine j_callVi X (pc' := 42) (As := [.int r_33]) (rest := []) (c_X0_has l D cI cH cO h ar C r_33 ) wv_X0_86 ⟨0, 0, _, _, rfl, rfl, rfl⟩ ⟨by decide, by decide, by decide, by decide⟩ rfl rfl (Nat.le_of_ble_eq_true rfl) dX0_useBestForAll_39 rfl ?_
        refine j_topL (fun r_39 er_39 => ?_)
        refine j_if_eq X (tgt := 60) (pc' := 45) dX0_useBestForAll_42 (by decide) rfl (fun c_42 => ?_) (fun c_42 => ?_)
        · refine j_lv [0, 1, 2] (lv' := [(0, .ref h), (1, .int x1), (2, .int (nI i2))]) rfl ?_
          exact hK60 _ _ _ 
        · have hv3 := has_in (by rw [← er_39]; exact c_42)
          refine j_aload_n X (pc' := 46) 0 dX0_useBestForAll_45 rfl rfl rfl ?_
          refine j_get X inX0 rfl (pc' := 49) 0 1 q_fl_X0_15 (by decide) rfl rfl dX0_useBestForAll_46 rfl ?_
          refine j_iload_n X (pc' := 50) 3 dX0_useBestForAll_49 rfl rfl rfl ?_
          refine j_iald X (pc' := 51) 2 rfl hv3 dX0_useBestForAll_50 rfl ?_
          refine j_aload_n X (pc' := 52) 0 dX0_useBestForAll_51 rfl rfl rfl ?_
          refine j_iload_n X (pc' := 53) 2 dX0_useBestForAll_52 rfl rfl rfl ?_
          refine j_iconst X (v := 1) (pc' := 54) dX0_useBestForAll_53 (by decide) rfl ?_
          refine j_callVi X (pc' := 57) (As := [.int (nI i2), .int 1]) (rest := [.int (C 1 r_33.toNatClampNeg)]) (c_X0_damageAdded l D cI cH cO h ar C (nI i2) 1 ) wv_X0_79 ⟨0, 0, _, _, rfl, rfl, rfl⟩ ⟨by decide, by decide, by decide, by decide⟩ rfl rfl (Nat.le_of_ble_eq_true rfl) dX0_useBestForAll_54 rfl ?_
          refine j_topL (fun r_54 er_54 => ?_)
          refine j_icmp_gt X (tgt := 68) (pc' := 60) dX0_useBestForAll_57 (by decide) rfl (fun c_57 => ?_) (fun c_57 => ?_)
          · refine j_aload_n X (pc' := 69) 0 dX0_useBestForAll_68 rfl rfl rfl ?_
            refine j_get X inX0 rfl (pc' := 72) 0 2 q_fl_X0_18 (by decide) rfl rfl dX0_useBestForAll_69 rfl ?_
            refine j_iload_n X (pc' := 73) 3 dX0_useBestForAll_72 rfl rfl rfl ?_
            refine j_dup2 X (pc' := 74) dX0_useBestForAll_73 rfl rfl rfl ?_
            refine j_iald X (pc' := 75) 3 rfl hv3 dX0_useBestForAll_74 rfl ?_
            refine j_iconst X (v := 1) (pc' := 76) dX0_useBestForAll_75 (by decide) rfl ?_
            refine j_iadd X (pc' := 77) dX0_useBestForAll_76 rfl ?_
            refine j_iast X (pc' := 78) (S := up C 2 r_33.toNatClampNeg ((C 2 r_33.toNatClampNeg) + 1)) (fun S_77 => (wC cI h ar S_77)) 3 rfl rfl hv3 dX0_useBestForAll_77 rfl (fun S_77 eS_77 => ?_)
            refine j_iload_n X (pc' := 79) 1 dX0_useBestForAll_78 rfl rfl rfl ?_
            refine j_aload_n X (pc' := 80) 0 dX0_useBestForAll_79 rfl rfl rfl ?_
            refine j_get X inX0 rfl (pc' := 83) 0 1 q_fl_X0_15 (by decide) rfl rfl dX0_useBestForAll_80 rfl ?_
            refine j_iload_n X (pc' := 84) 3 dX0_useBestForAll_83 rfl rfl rfl ?_
            refine j_iald X (pc' := 85) 2 rfl hv3 dX0_useBestForAll_84 rfl ?_
            refine j_iadd X (pc' := 86) dX0_useBestForAll_85 rfl ?_
            refine j_istore_nL X (fun v1_86 => [(0, .ref h), (1, .int v1_86), (2, .int (nI i2)), (3, .int r_33)]) [1, 0, 2, 3] (pc' := 87) dX0_useBestForAll_86 rfl (by decide) (fun _ => rfl) rfl (fun v1_86 ev1_86 => ?_)
            refine j_iinc X (v := (nI (i2 + 1))) (lv' := [(0, .ref h), (1, .int v1_86), (2, .int (nI (i2 + 1))), (3, .int r_33)]) (q := 2) (pc' := 90) [1, 2, 0, 3] dX0_useBestForAll_87 rfl (nI_1 i2) (by decide) rfl rfl ?_
            refine j_goto X (pc' := 25) dX0_useBestForAll_90 (by decide) ?_
            refine j_lv [0, 1, 2] (lv' := [(0, .ref h), (1, .int v1_86), (2, .int (nI (i2 + 1)))]) rfl ?_
            exact ih25 _ _ _ (by first | omega | assumption | decide | (subst_vars; first | assumption | omega)) (by first | omega | assumption | decide | (subst_vars; first | assumption | omega))
          · refine j_lv [0, 1, 2] (lv' := [(0, .ref h), (1, .int x1), (2, .int (nI i2))]) rfl ?_
            exact hK60 _ _ _ 
  refine j_ltv (fun K21 eK21 => ?_)
  have hK21 : ∀ (C : Cst) , J p l e (rml 2) s m args below meth c 4 D (va_A ws0 s.heap.size) 0 0 (KI below args s D (tyl cI cH cO) ws0 (fun C9 => (wC cI h ar C9))) (K21 C) ((wC cI h ar C)) 21 [(0, .ref h)] [] := by
    intro C 
    rw [eK21]
    refine j_iconst X (v := 0) (pc' := 22) dX0_useBestForAll_21 (by decide) rfl ?_
    refine j_istore_n X (lv' := [(0, .ref h), (1, .int 0)]) (pc' := 23) [1, 0] dX0_useBestForAll_22 rfl (by decide) rfl rfl ?_
    refine j_iconst X (v := 0) (pc' := 24) dX0_useBestForAll_23 (by decide) rfl ?_
    refine j_istore_n X (lv' := [(0, .ref h), (1, .int 0), (2, .int 0)]) (pc' := 25) [1, 2, 0] dX0_useBestForAll_24 rfl (by decide) rfl rfl ?_
    refine j_lv [0, 1, 2] (lv' := [(0, .ref h), (1, .int 0), (2, .int 0)]) rfl ?_
    exact hL25 _ _ _ _ (by first | omega | assumption | decide | (subst_vars; first | assumption | omega)) (by first | omega | assumption | decide | (subst_vars; first | assumption | omega))
  refine j_ltl2 (fun L2 eL2 => ?_)
  have hL2 : ∀ (n2 : Nat) (C : Cst) (i1 : Nat) (hi : i1 ≤ 8) (hfu : 9 ≤ i1 + n2), J p l e (rml 2) s m args below meth c 4 D (va_A ws0 s.heap.size) 0 0 (KI below args s D (tyl cI cH cO) ws0 (fun C9 => (wC cI h ar C9))) (L2 n2 C i1) ((wC cI h ar C)) 2 [(0, .ref h), (1, .int (nI i1))] [] := by
    intro n2
    induction n2 with
    | zero =>
      intro C i1 hi hfu
      exact absurd hfu (by omega)
    | succ n2 ih2 =>
      intro C i1 hi hfu
      rw [eL2]
      refine j_iload_n X (pc' := 3) 1 dX0_useBestForAll_2 rfl rfl rfl ?_
      refine j_bipush X (v := 8) (pc' := 5) dX0_useBestForAll_3 (by decide) rfl ?_
      refine j_icmp_ge X (tgt := 21) (pc' := 8) dX0_useBestForAll_5 (by decide) rfl (fun c_5 => ?_) (fun c_5 => ?_)
      · have f_5 : 8 ≤ i1 := (nI_leI (a := 8) (b := i1) (by omega) (by omega)).mp c_5
        refine j_lv [0] (lv' := [(0, .ref h)]) rfl ?_
        exact hK21 _ 
      · have f_5 : ¬ (8 ≤ i1) := fun h => c_5 ((nI_leI (a := 8) (b := i1) (by omega) (by omega)).mpr h)
        refine j_aload_n X (pc' := 9) 0 dX0_useBestForAll_8 rfl rfl rfl ?_
        refine j_get X inX0 rfl (pc' := 12) 0 2 q_fl_X0_18 (by decide) rfl rfl dX0_useBestForAll_9 rfl ?_
        refine j_iload_n X (pc' := 13) 1 dX0_useBestForAll_12 rfl rfl rfl ?_
        refine j_iconst X (v := 0) (pc' := 14) dX0_useBestForAll_13 (by decide) rfl ?_
        refine j_iastN X (i := i1) (pc' := 15) (S := up C 2 i1 0) (fun S_14 => (wC cI h ar S_14)) 3 rfl rfl (by omega) (by decide) dX0_useBestForAll_14 rfl (fun S_14 eS_14 => ?_)
        refine j_iinc X (v := (nI (i1 + 1))) (lv' := [(0, .ref h), (1, .int (nI (i1 + 1)))]) (q := 1) (pc' := 18) [1, 0] dX0_useBestForAll_15 rfl (nI_1 i1) (by decide) rfl rfl ?_
        refine j_goto X (pc' := 2) dX0_useBestForAll_18 (by decide) ?_
        refine j_lv [0, 1] (lv' := [(0, .ref h), (1, .int (nI (i1 + 1)))]) rfl ?_
        exact ih2 _ _ (by first | omega | assumption | decide | (subst_vars; first | assumption | omega)) (by first | omega | assumption | decide | (subst_vars; first | assumption | omega))
  refine j_iconst X (v := 0) (pc' := 1) dX0_useBestForAll_0 (by decide) rfl ?_
  refine j_istore_n X (lv' := [(0, .ref h), (1, .int 0)]) (pc' := 2) [1, 0] dX0_useBestForAll_1 rfl (by decide) rfl rfl ?_
  refine j_lv [0, 1] (lv' := [(0, .ref h), (1, .int 0)]) rfl ?_
  exact hL2 _ _ _ (by first | omega | assumption | decide | (subst_vars; first | assumption | omega)) (by first | omega | assumption | decide | (subst_vars; first | assumption | omega))
theorem c_X0_useBestForAll (l : Launch) (D : va_G) (cI cH cO : ClassId) (h : Nat) (ar : Nat → Nat) (C : Cst)  : MI l yX0_useBestForAll cX0_useBestForAll 4 (some .int) 2 D (tyl cI cH cO) [.ref h] ((wC cI h ar C)) (sX0_useBestForAll C).1 ((wC cI h ar ((sX0_useBestForAll C).2))) := fun sz => j_start (fun below s => (KI below [.ref h].toArray s D (tyl cI cH cO) ((wC cI h ar C)) (fun C9 => (wC cI h ar C9)))) (sX0_useBestForAll C) (by decide +kernel) rfl (Nat.le_of_ble_eq_true rfl) (fun below s hs _ => by subst hs; rfl) (fun p e s m below meth c _ X => b_X0_useBestForAll h ar C  X)
def sX0_numberOfMember (C : Cst) (x1 : Int32) (x2 : Int32) : Int32 := ltv (fun (i1 : Nat) (x2 : Int32) => (if x2 = 0 then (C 1 i1) else (if x2 = 1 then (C 2 i1) else (if x2 = 2 then ltv (sX0_chargeOf C i1) (fun (r_84 : Int32) => r_84) else (if x2 = 3 then (C 3 i1) else (if x2 = 4 then (C 4 i1) else (if x2 = 5 then (C 5 i1) else (if x2 = 6 then (C 6 i1) else (if x2 = 7 then ltv (sX0_isOut C (nI i1)) (fun (r_118 : Int32) => (if r_118 = 0 then 0 else 1)) else (if x2 = 8 then (C 7 i1) else (if x2 = 9 then ltv (sX0_placeOf C (nI i1)) (fun (r_139 : Int32) => r_139) else (-10001)))))))))))) (fun K12 => (ltv (sX0_has C x1) (fun (r_2 : Int32) => (if ¬ r_2 = 0 then K12 x1.toNatClampNeg x2 else (-10001)))))
set_option maxHeartbeats 4000000 in
set_option maxRecDepth 100000 in
theorem b_X0_numberOfMember {p : Program} {l : Launch} {e : Env} {s : State} {m : MethodId} {args : Array Value} {below : List Frame} {meth : Method} {c : Code} {D : va_G} {cI cH cO : ClassId} (h : Nat) (ar : Nat → Nat) (C : Cst) (x1 : Int32) (x2 : Int32)  (X : CX p s m args meth c cX0_numberOfMember 3 RX0 (some .int) D (tyl cI cH cO) (va_A ((wC cI h ar C)) s.heap.size)) : J p l e (rml 3) s m args below meth c 3 D (va_A ((wC cI h ar C)) s.heap.size) 0 0 (KP below args s D (tyl cI cH cO) ((wC cI h ar C))) (sX0_numberOfMember C x1 x2) ((wC cI h ar C)) 0 [(0, .ref h), (1, .int x1), (2, .int x2)] [] := by
  unfold sX0_numberOfMember
  refine j_ltv (fun K12 eK12 => ?_)
  have hK12 : ∀ (i1 : Nat) (x2 : Int32) (hi1 : i1 < 8), J p l e (rml 3) s m args below meth c 3 D (va_A ((wC cI h ar C)) s.heap.size) 0 0 (KP below args s D (tyl cI cH cO) ((wC cI h ar C))) (K12 i1 x2) ((wC cI h ar C)) 12 [(0, .ref h), (1, .int (nI i1)), (2, .int x2)] [] := by
    intro i1 x2 hi1
    rw [eK12]
    refine j_iload_n X (pc' := 13) 2 dX0_numberOfMember_12 rfl rfl rfl ?_
    refine j_ite (P9 := x2 = 0) (fun c_13_0 => ?_) (fun c_13_0 => ?_)
    · refine j_tsw X (tgt := 68) dX0_numberOfMember_13 (by rw [c_13_0]; decide) (by rw [c_13_0]; decide) (off := 55) (by rw [c_13_0]; decide) (by decide) ?_
      refine j_aload_n X (pc' := 69) 0 dX0_numberOfMember_68 rfl rfl rfl ?_
      refine j_get X inX0 rfl (pc' := 72) 0 1 q_fl_X0_15 (by decide) rfl rfl dX0_numberOfMember_69 rfl ?_
      refine j_iload_n X (pc' := 73) 1 dX0_numberOfMember_72 rfl rfl rfl ?_
      refine j_ialdN X (i := i1) (pc' := 74) 2 rfl (by omega) (by decide) dX0_numberOfMember_73 rfl ?_
      exact j_iretP X rfl rfl dX0_numberOfMember_74
    refine j_ite (P9 := x2 = 1) (fun c_13_1 => ?_) (fun c_13_1 => ?_)
    · refine j_tsw X (tgt := 75) dX0_numberOfMember_13 (by rw [c_13_1]; decide) (by rw [c_13_1]; decide) (off := 62) (by rw [c_13_1]; decide) (by decide) ?_
      refine j_aload_n X (pc' := 76) 0 dX0_numberOfMember_75 rfl rfl rfl ?_
      refine j_get X inX0 rfl (pc' := 79) 0 2 q_fl_X0_18 (by decide) rfl rfl dX0_numberOfMember_76 rfl ?_
      refine j_iload_n X (pc' := 80) 1 dX0_numberOfMember_79 rfl rfl rfl ?_
      refine j_ialdN X (i := i1) (pc' := 81) 3 rfl (by omega) (by decide) dX0_numberOfMember_80 rfl ?_
      exact j_iretP X rfl rfl dX0_numberOfMember_81
    refine j_ite (P9 := x2 = 2) (fun c_13_2 => ?_) (fun c_13_2 => ?_)
    · refine j_tsw X (tgt := 82) dX0_numberOfMember_13 (by rw [c_13_2]; decide) (by rw [c_13_2]; decide) (off := 69) (by rw [c_13_2]; decide) (by decide) ?_
      refine j_aload_n X (pc' := 83) 0 dX0_numberOfMember_82 rfl rfl rfl ?_
      refine j_iload_n X (pc' := 84) 1 dX0_numberOfMember_83 rfl rfl rfl ?_
      refine j_callVi X (pc' := 87) (As := [.int (nI i1)]) (rest := []) (c_X0_chargeOf l D cI cH cO h ar C i1 (by first | omega | assumption | decide | (subst_vars; first | assumption | omega))) wv_X0_96 ⟨0, 0, _, _, rfl, rfl, rfl⟩ ⟨by decide, by decide, by decide, by decide⟩ rfl rfl (Nat.le_of_ble_eq_true rfl) dX0_numberOfMember_84 rfl ?_
      refine j_topL (fun r_84 er_84 => ?_)
      exact j_iretP X rfl rfl dX0_numberOfMember_87
    refine j_ite (P9 := x2 = 3) (fun c_13_3 => ?_) (fun c_13_3 => ?_)
    · refine j_tsw X (tgt := 88) dX0_numberOfMember_13 (by rw [c_13_3]; decide) (by rw [c_13_3]; decide) (off := 75) (by rw [c_13_3]; decide) (by decide) ?_
      refine j_aload_n X (pc' := 89) 0 dX0_numberOfMember_88 rfl rfl rfl ?_
      refine j_get X inX0 rfl (pc' := 92) 0 3 q_fl_X0_21 (by decide) rfl rfl dX0_numberOfMember_89 rfl ?_
      refine j_iload_n X (pc' := 93) 1 dX0_numberOfMember_92 rfl rfl rfl ?_
      refine j_ialdN X (i := i1) (pc' := 94) 4 rfl (by omega) (by decide) dX0_numberOfMember_93 rfl ?_
      exact j_iretP X rfl rfl dX0_numberOfMember_94
    refine j_ite (P9 := x2 = 4) (fun c_13_4 => ?_) (fun c_13_4 => ?_)
    · refine j_tsw X (tgt := 95) dX0_numberOfMember_13 (by rw [c_13_4]; decide) (by rw [c_13_4]; decide) (off := 82) (by rw [c_13_4]; decide) (by decide) ?_
      refine j_aload_n X (pc' := 96) 0 dX0_numberOfMember_95 rfl rfl rfl ?_
      refine j_get X inX0 rfl (pc' := 99) 0 4 q_fl_X0_24 (by decide) rfl rfl dX0_numberOfMember_96 rfl ?_
      refine j_iload_n X (pc' := 100) 1 dX0_numberOfMember_99 rfl rfl rfl ?_
      refine j_ialdN X (i := i1) (pc' := 101) 5 rfl (by omega) (by decide) dX0_numberOfMember_100 rfl ?_
      exact j_iretP X rfl rfl dX0_numberOfMember_101
    refine j_ite (P9 := x2 = 5) (fun c_13_5 => ?_) (fun c_13_5 => ?_)
    · refine j_tsw X (tgt := 102) dX0_numberOfMember_13 (by rw [c_13_5]; decide) (by rw [c_13_5]; decide) (off := 89) (by rw [c_13_5]; decide) (by decide) ?_
      refine j_aload_n X (pc' := 103) 0 dX0_numberOfMember_102 rfl rfl rfl ?_
      refine j_get X inX0 rfl (pc' := 106) 0 5 q_fl_X0_27 (by decide) rfl rfl dX0_numberOfMember_103 rfl ?_
      refine j_iload_n X (pc' := 107) 1 dX0_numberOfMember_106 rfl rfl rfl ?_
      refine j_ialdN X (i := i1) (pc' := 108) 6 rfl (by omega) (by decide) dX0_numberOfMember_107 rfl ?_
      exact j_iretP X rfl rfl dX0_numberOfMember_108
    refine j_ite (P9 := x2 = 6) (fun c_13_6 => ?_) (fun c_13_6 => ?_)
    · refine j_tsw X (tgt := 109) dX0_numberOfMember_13 (by rw [c_13_6]; decide) (by rw [c_13_6]; decide) (off := 96) (by rw [c_13_6]; decide) (by decide) ?_
      refine j_aload_n X (pc' := 110) 0 dX0_numberOfMember_109 rfl rfl rfl ?_
      refine j_get X inX0 rfl (pc' := 113) 0 6 q_fl_X0_30 (by decide) rfl rfl dX0_numberOfMember_110 rfl ?_
      refine j_iload_n X (pc' := 114) 1 dX0_numberOfMember_113 rfl rfl rfl ?_
      refine j_ialdN X (i := i1) (pc' := 115) 7 rfl (by omega) (by decide) dX0_numberOfMember_114 rfl ?_
      exact j_iretP X rfl rfl dX0_numberOfMember_115
    refine j_ite (P9 := x2 = 7) (fun c_13_7 => ?_) (fun c_13_7 => ?_)
    · refine j_tsw X (tgt := 116) dX0_numberOfMember_13 (by rw [c_13_7]; decide) (by rw [c_13_7]; decide) (off := 103) (by rw [c_13_7]; decide) (by decide) ?_
      refine j_aload_n X (pc' := 117) 0 dX0_numberOfMember_116 rfl rfl rfl ?_
      refine j_iload_n X (pc' := 118) 1 dX0_numberOfMember_117 rfl rfl rfl ?_
      refine j_callVi X (pc' := 121) (As := [.int (nI i1)]) (rest := []) (c_X0_isOut l D cI cH cO h ar C (nI i1) ) wv_X0_93 ⟨0, 0, _, _, rfl, rfl, rfl⟩ ⟨by decide, by decide, by decide, by decide⟩ rfl rfl (Nat.le_of_ble_eq_true rfl) dX0_numberOfMember_118 rfl ?_
      refine j_topL (fun r_118 er_118 => ?_)
      refine j_if_eq X (tgt := 128) (pc' := 124) dX0_numberOfMember_121 (by decide) rfl (fun c_121 => ?_) (fun c_121 => ?_)
      · refine j_iconst X (v := 0) (pc' := 129) dX0_numberOfMember_128 (by decide) rfl ?_
        exact j_iretP X rfl rfl dX0_numberOfMember_129
      · refine j_iconst X (v := 1) (pc' := 125) dX0_numberOfMember_124 (by decide) rfl ?_
        refine j_goto X (pc' := 129) dX0_numberOfMember_125 (by decide) ?_
        exact j_iretP X rfl rfl dX0_numberOfMember_129
    refine j_ite (P9 := x2 = 8) (fun c_13_8 => ?_) (fun c_13_8 => ?_)
    · refine j_tsw X (tgt := 130) dX0_numberOfMember_13 (by rw [c_13_8]; decide) (by rw [c_13_8]; decide) (off := 117) (by rw [c_13_8]; decide) (by decide) ?_
      refine j_aload_n X (pc' := 131) 0 dX0_numberOfMember_130 rfl rfl rfl ?_
      refine j_get X inX0 rfl (pc' := 134) 0 7 q_fl_X0_33 (by decide) rfl rfl dX0_numberOfMember_131 rfl ?_
      refine j_iload_n X (pc' := 135) 1 dX0_numberOfMember_134 rfl rfl rfl ?_
      refine j_ialdN X (i := i1) (pc' := 136) 8 rfl (by omega) (by decide) dX0_numberOfMember_135 rfl ?_
      exact j_iretP X rfl rfl dX0_numberOfMember_136
    refine j_ite (P9 := x2 = 9) (fun c_13_9 => ?_) (fun c_13_9 => ?_)
    · refine j_tsw X (tgt := 137) dX0_numberOfMember_13 (by rw [c_13_9]; decide) (by rw [c_13_9]; decide) (off := 124) (by rw [c_13_9]; decide) (by decide) ?_
      refine j_aload_n X (pc' := 138) 0 dX0_numberOfMember_137 rfl rfl rfl ?_
      refine j_iload_n X (pc' := 139) 1 dX0_numberOfMember_138 rfl rfl rfl ?_
      refine j_callVi X (pc' := 142) (As := [.int (nI i1)]) (rest := []) (c_X0_placeOf l D cI cH cO h ar C (nI i1) ) wv_X0_72 ⟨0, 0, _, _, rfl, rfl, rfl⟩ ⟨by decide, by decide, by decide, by decide⟩ rfl rfl (Nat.le_of_ble_eq_true rfl) dX0_numberOfMember_139 rfl ?_
      refine j_topL (fun r_139 er_139 => ?_)
      exact j_iretP X rfl rfl dX0_numberOfMember_142
    refine j_tswD X (tgt := 143) dX0_numberOfMember_13 (tsw_out10 c_13_0 c_13_1 c_13_2 c_13_3 c_13_4 c_13_5 c_13_6 c_13_7 c_13_8 c_13_9) (by decide) ?_
    refine j_sipush X (v := (-10001)) (pc' := 146) dX0_numberOfMember_143 (by decide) rfl ?_
    exact j_iretP X rfl rfl dX0_numberOfMember_146
  refine j_aload_n X (pc' := 1) 0 dX0_numberOfMember_0 rfl rfl rfl ?_
  refine j_iload_n X (pc' := 2) 1 dX0_numberOfMember_1 rfl rfl rfl ?_
  refine j_callVi X (pc' := 5) (As := [.int x1]) (rest := []) (c_X0_has l D cI cH cO h ar C x1 ) wv_X0_86 ⟨0, 0, _, _, rfl, rfl, rfl⟩ ⟨by decide, by decide, by decide, by decide⟩ rfl rfl (Nat.le_of_ble_eq_true rfl) dX0_numberOfMember_2 rfl ?_
  refine j_topL (fun r_2 er_2 => ?_)
  refine j_if_ne X (tgt := 12) (pc' := 8) dX0_numberOfMember_5 (by decide) rfl (fun c_5 => ?_) (fun c_5 => ?_)
  · obtain ⟨j_5, hj_5, ej_5⟩ : ∃ j : Nat, j < 8 ∧ x1 = nI j := vp_in_of (has_in (by rw [← er_2]; exact c_5)) (by decide)
    subst ej_5
    rw [nI_clamp (show j_5 < 2 ^ 31 by omega)]
    refine j_lv [0, 1, 2] (lv' := _) rfl ?_
    exact hK12 _ _ (by first | omega | assumption | decide | (subst_vars; first | assumption | omega))
  · refine j_sipush X (v := (-10001)) (pc' := 11) dX0_numberOfMember_8 (by decide) rfl ?_
    exact j_iretP X rfl rfl dX0_numberOfMember_11
theorem c_X0_numberOfMember (l : Launch) (D : va_G) (cI cH cO : ClassId) (h : Nat) (ar : Nat → Nat) (C : Cst) (x1 : Int32) (x2 : Int32)  : MI l yX0_numberOfMember cX0_numberOfMember 3 (some .int) 3 D (tyl cI cH cO) [.ref h, .int x1, .int x2] ((wC cI h ar C)) (sX0_numberOfMember C x1 x2) ((wC cI h ar C)) := fun sz => j_start (fun below s => (KP below [.ref h, .int x1, .int x2].toArray s D (tyl cI cH cO) ((wC cI h ar C)))) (sX0_numberOfMember C x1 x2) (by decide +kernel) rfl (Nat.le_of_ble_eq_true rfl) (fun below s hs _ => by subst hs; rfl) (fun p e s m below meth c _ X => b_X0_numberOfMember h ar C x1 x2  X)
def sX0_numberOfAll (C : Cst) (x1 : Int32) : Int32 := (if x1 = 0 then (C 9 0) else (if x1 = 1 then (C 10 0) else (if x1 = 2 then (C 11 0) else (if x1 = 3 then ltv (sX0_allUnits C) (fun (r_76 : Int32) => r_76) else (if x1 = 4 then ltv (sX0_allUnits C) (fun (r_82 : Int32) => ltv (sX0_damageOf C r_82) (fun (r_85 : Int32) => r_85)) else (if x1 = 5 then (C 12 0) else (if x1 = 6 then ltv (sX4_sumOf_3 C) (fun (r_98 : Int32) => r_98) else (if x1 = 7 then (C 13 0) else (if x1 = 8 then (C 14 0) else (if x1 = 9 then (C 15 0) else (if x1 = 10 then (C 16 0) else (if x1 < 20 then (-10001) else (if 25 ≤ x1 then (-10001) else (C 0 (x1 - 20).toNatClampNeg))))))))))))))
set_option maxHeartbeats 4000000 in
set_option maxRecDepth 100000 in
theorem b_X0_numberOfAll {p : Program} {l : Launch} {e : Env} {s : State} {m : MethodId} {args : Array Value} {below : List Frame} {meth : Method} {c : Code} {D : va_G} {cI cH cO : ClassId} (h : Nat) (ar : Nat → Nat) (C : Cst) (x1 : Int32)  (X : CX p s m args meth c cX0_numberOfAll 2 RX0 (some .int) D (tyl cI cH cO) (va_A ((wC cI h ar C)) s.heap.size)) : J p l e (rml 2) s m args below meth c 2 D (va_A ((wC cI h ar C)) s.heap.size) 0 0 (KP below args s D (tyl cI cH cO) ((wC cI h ar C))) (sX0_numberOfAll C x1) ((wC cI h ar C)) 0 [(0, .ref h), (1, .int x1)] [] := by
  unfold sX0_numberOfAll
  refine j_iload_n X (pc' := 1) 1 dX0_numberOfAll_0 rfl rfl rfl ?_
  refine j_ite (P9 := x1 = 0) (fun c_1_0 => ?_) (fun c_1_0 => ?_)
  · refine j_tsw X (tgt := 60) dX0_numberOfAll_1 (by rw [c_1_0]; decide) (by rw [c_1_0]; decide) (off := 59) (by rw [c_1_0]; decide) (by decide) ?_
    refine j_aload_n X (pc' := 61) 0 dX0_numberOfAll_60 rfl rfl rfl ?_
    refine j_get X inX0 rfl (pc' := 64) 0 9 q_fl_X0_47 (by decide) rfl rfl dX0_numberOfAll_61 rfl ?_
    exact j_iretP X rfl rfl dX0_numberOfAll_64
  refine j_ite (P9 := x1 = 1) (fun c_1_1 => ?_) (fun c_1_1 => ?_)
  · refine j_tsw X (tgt := 65) dX0_numberOfAll_1 (by rw [c_1_1]; decide) (by rw [c_1_1]; decide) (off := 64) (by rw [c_1_1]; decide) (by decide) ?_
    refine j_aload_n X (pc' := 66) 0 dX0_numberOfAll_65 rfl rfl rfl ?_
    refine j_get X inX0 rfl (pc' := 69) 0 10 q_fl_X0_50 (by decide) rfl rfl dX0_numberOfAll_66 rfl ?_
    exact j_iretP X rfl rfl dX0_numberOfAll_69
  refine j_ite (P9 := x1 = 2) (fun c_1_2 => ?_) (fun c_1_2 => ?_)
  · refine j_tsw X (tgt := 70) dX0_numberOfAll_1 (by rw [c_1_2]; decide) (by rw [c_1_2]; decide) (off := 69) (by rw [c_1_2]; decide) (by decide) ?_
    refine j_aload_n X (pc' := 71) 0 dX0_numberOfAll_70 rfl rfl rfl ?_
    refine j_get X inX0 rfl (pc' := 74) 0 11 q_fl_X0_39 (by decide) rfl rfl dX0_numberOfAll_71 rfl ?_
    exact j_iretP X rfl rfl dX0_numberOfAll_74
  refine j_ite (P9 := x1 = 3) (fun c_1_3 => ?_) (fun c_1_3 => ?_)
  · refine j_tsw X (tgt := 75) dX0_numberOfAll_1 (by rw [c_1_3]; decide) (by rw [c_1_3]; decide) (off := 74) (by rw [c_1_3]; decide) (by decide) ?_
    refine j_aload_n X (pc' := 76) 0 dX0_numberOfAll_75 rfl rfl rfl ?_
    refine j_callVi X (pc' := 79) (As := []) (rest := []) (c_X0_allUnits l D cI cH cO h ar C ) wv_X0_121 ⟨0, 0, _, _, rfl, rfl, rfl⟩ ⟨by decide, by decide, by decide, by decide⟩ rfl rfl (Nat.le_of_ble_eq_true rfl) dX0_numberOfAll_76 rfl ?_
    refine j_topL (fun r_76 er_76 => ?_)
    exact j_iretP X rfl rfl dX0_numberOfAll_79
  refine j_ite (P9 := x1 = 4) (fun c_1_4 => ?_) (fun c_1_4 => ?_)
  · refine j_tsw X (tgt := 80) dX0_numberOfAll_1 (by rw [c_1_4]; decide) (by rw [c_1_4]; decide) (off := 79) (by rw [c_1_4]; decide) (by decide) ?_
    refine j_aload_n X (pc' := 81) 0 dX0_numberOfAll_80 rfl rfl rfl ?_
    refine j_aload_n X (pc' := 82) 0 dX0_numberOfAll_81 rfl rfl rfl ?_
    refine j_callVi X (pc' := 85) (As := []) (rest := [.ref h]) (c_X0_allUnits l D cI cH cO h ar C ) wv_X0_121 ⟨0, 0, _, _, rfl, rfl, rfl⟩ ⟨by decide, by decide, by decide, by decide⟩ rfl rfl (Nat.le_of_ble_eq_true rfl) dX0_numberOfAll_82 rfl ?_
    refine j_topL (fun r_82 er_82 => ?_)
    refine j_callVi X (pc' := 88) (As := [.int r_82]) (rest := []) (c_X0_damageOf l D cI cH cO h ar C r_82 ) wv_X0_83 ⟨0, 0, _, _, rfl, rfl, rfl⟩ ⟨by decide, by decide, by decide, by decide⟩ rfl rfl (Nat.le_of_ble_eq_true rfl) dX0_numberOfAll_85 rfl ?_
    refine j_topL (fun r_85 er_85 => ?_)
    exact j_iretP X rfl rfl dX0_numberOfAll_88
  refine j_ite (P9 := x1 = 5) (fun c_1_5 => ?_) (fun c_1_5 => ?_)
  · refine j_tsw X (tgt := 89) dX0_numberOfAll_1 (by rw [c_1_5]; decide) (by rw [c_1_5]; decide) (off := 88) (by rw [c_1_5]; decide) (by decide) ?_
    refine j_aload_n X (pc' := 90) 0 dX0_numberOfAll_89 rfl rfl rfl ?_
    refine j_get X inX0 rfl (pc' := 93) 0 12 q_fl_X0_53 (by decide) rfl rfl dX0_numberOfAll_90 rfl ?_
    exact j_iretP X rfl rfl dX0_numberOfAll_93
  refine j_ite (P9 := x1 = 6) (fun c_1_6 => ?_) (fun c_1_6 => ?_)
  · refine j_tsw X (tgt := 94) dX0_numberOfAll_1 (by rw [c_1_6]; decide) (by rw [c_1_6]; decide) (off := 93) (by rw [c_1_6]; decide) (by decide) ?_
    refine j_aload_n X (pc' := 95) 0 dX0_numberOfAll_94 rfl rfl rfl ?_
    refine j_get X inX0 rfl (pc' := 98) 0 3 q_fl_X0_21 (by decide) rfl rfl dX0_numberOfAll_95 rfl ?_
    refine j_callNi X (pc' := 101) (As := [.ref (ar 3)]) (rest := []) (c_X4_sumOf_3 l D cI cH cO h ar C ) X.2.2.1.2.2.2.2.2.2.1 wn_X0_68 ⟨by decide, by decide, by decide, by decide⟩ rfl rfl (Nat.le_of_ble_eq_true rfl) dX0_numberOfAll_98 rfl ?_
    refine j_topL (fun r_98 er_98 => ?_)
    exact j_iretP X rfl rfl dX0_numberOfAll_101
  refine j_ite (P9 := x1 = 7) (fun c_1_7 => ?_) (fun c_1_7 => ?_)
  · refine j_tsw X (tgt := 102) dX0_numberOfAll_1 (by rw [c_1_7]; decide) (by rw [c_1_7]; decide) (off := 101) (by rw [c_1_7]; decide) (by decide) ?_
    refine j_aload_n X (pc' := 103) 0 dX0_numberOfAll_102 rfl rfl rfl ?_
    refine j_get X inX0 rfl (pc' := 106) 0 13 q_fl_X0_56 (by decide) rfl rfl dX0_numberOfAll_103 rfl ?_
    exact j_iretP X rfl rfl dX0_numberOfAll_106
  refine j_ite (P9 := x1 = 8) (fun c_1_8 => ?_) (fun c_1_8 => ?_)
  · refine j_tsw X (tgt := 107) dX0_numberOfAll_1 (by rw [c_1_8]; decide) (by rw [c_1_8]; decide) (off := 106) (by rw [c_1_8]; decide) (by decide) ?_
    refine j_aload_n X (pc' := 108) 0 dX0_numberOfAll_107 rfl rfl rfl ?_
    refine j_get X inX0 rfl (pc' := 111) 0 14 q_fl_X0_59 (by decide) rfl rfl dX0_numberOfAll_108 rfl ?_
    exact j_iretP X rfl rfl dX0_numberOfAll_111
  refine j_ite (P9 := x1 = 9) (fun c_1_9 => ?_) (fun c_1_9 => ?_)
  · refine j_tsw X (tgt := 112) dX0_numberOfAll_1 (by rw [c_1_9]; decide) (by rw [c_1_9]; decide) (off := 111) (by rw [c_1_9]; decide) (by decide) ?_
    refine j_aload_n X (pc' := 113) 0 dX0_numberOfAll_112 rfl rfl rfl ?_
    refine j_get X inX0 rfl (pc' := 116) 0 15 q_fl_X0_62 (by decide) rfl rfl dX0_numberOfAll_113 rfl ?_
    exact j_iretP X rfl rfl dX0_numberOfAll_116
  refine j_ite (P9 := x1 = 10) (fun c_1_10 => ?_) (fun c_1_10 => ?_)
  · refine j_tsw X (tgt := 117) dX0_numberOfAll_1 (by rw [c_1_10]; decide) (by rw [c_1_10]; decide) (off := 116) (by rw [c_1_10]; decide) (by decide) ?_
    refine j_aload_n X (pc' := 118) 0 dX0_numberOfAll_117 rfl rfl rfl ?_
    refine j_get X inX0 rfl (pc' := 121) 0 16 q_fl_X0_65 (by decide) rfl rfl dX0_numberOfAll_118 rfl ?_
    exact j_iretP X rfl rfl dX0_numberOfAll_121
  refine j_tswD X (tgt := 122) dX0_numberOfAll_1 (tsw_out11 c_1_0 c_1_1 c_1_2 c_1_3 c_1_4 c_1_5 c_1_6 c_1_7 c_1_8 c_1_9 c_1_10) (by decide) ?_
  refine j_iload_n X (pc' := 123) 1 dX0_numberOfAll_122 rfl rfl rfl ?_
  refine j_bipush X (v := 20) (pc' := 125) dX0_numberOfAll_123 (by decide) rfl ?_
  refine j_icmp_lt X (tgt := 146) (pc' := 128) dX0_numberOfAll_125 (by decide) rfl (fun c_125 => ?_) (fun c_125 => ?_)
  · refine j_sipush X (v := (-10001)) (pc' := 149) dX0_numberOfAll_146 (by decide) rfl ?_
    exact j_iretP X rfl rfl dX0_numberOfAll_149
  · refine j_iload_n X (pc' := 129) 1 dX0_numberOfAll_128 rfl rfl rfl ?_
    refine j_bipush X (v := 25) (pc' := 131) dX0_numberOfAll_129 (by decide) rfl ?_
    refine j_icmp_ge X (tgt := 146) (pc' := 134) dX0_numberOfAll_131 (by decide) rfl (fun c_131 => ?_) (fun c_131 => ?_)
    · refine j_sipush X (v := (-10001)) (pc' := 149) dX0_numberOfAll_146 (by decide) rfl ?_
      exact j_iretP X rfl rfl dX0_numberOfAll_149
    · refine j_aload_n X (pc' := 135) 0 dX0_numberOfAll_134 rfl rfl rfl ?_
      refine j_get X inX0 rfl (pc' := 138) 0 0 q_fl_X0_9 (by decide) rfl rfl dX0_numberOfAll_135 rfl ?_
      refine j_iload_n X (pc' := 139) 1 dX0_numberOfAll_138 rfl rfl rfl ?_
      refine j_bipush X (v := 20) (pc' := 141) dX0_numberOfAll_139 (by decide) rfl ?_
      refine j_isub X (pc' := 142) dX0_numberOfAll_141 rfl ?_
      refine j_iald X (pc' := 143) 1 rfl (nA_in c_125 c_131) dX0_numberOfAll_142 rfl ?_
      refine j_goto X (pc' := 149) dX0_numberOfAll_143 (by decide) ?_
      exact j_iretP X rfl rfl dX0_numberOfAll_149
theorem c_X0_numberOfAll (l : Launch) (D : va_G) (cI cH cO : ClassId) (h : Nat) (ar : Nat → Nat) (C : Cst) (x1 : Int32)  : MI l yX0_numberOfAll cX0_numberOfAll 2 (some .int) 2 D (tyl cI cH cO) [.ref h, .int x1] ((wC cI h ar C)) (sX0_numberOfAll C x1) ((wC cI h ar C)) := fun sz => j_start (fun below s => (KP below [.ref h, .int x1].toArray s D (tyl cI cH cO) ((wC cI h ar C)))) (sX0_numberOfAll C x1) (by decide +kernel) rfl (Nat.le_of_ble_eq_true rfl) (fun below s hs _ => by subst hs; rfl) (fun p e s m below meth c _ X => b_X0_numberOfAll h ar C x1  X)
def sX0_numberOfSeason (C : Cst) (x1 : Int32) (x2 : Int32) : Int32 := ltv (fun (i1 : Nat) (i2 : Nat) => (C 8 ((((((C 10 0) - 1) - (nI i1)) % 6) * 5) + (nI i2)).toNatClampNeg)) (fun K35 => ((if x1 < 0 then (-10001) else (if x2 < 0 then (-10001) else (if x2 < 5 then (if (C 10 0) ≤ x1 then (-10004) else (if x1 < 6 then K35 x1.toNatClampNeg x2.toNatClampNeg else (-10004))) else (-10001))))))
set_option maxHeartbeats 4000000 in
set_option maxRecDepth 100000 in
theorem b_X0_numberOfSeason {p : Program} {l : Launch} {e : Env} {s : State} {m : MethodId} {args : Array Value} {below : List Frame} {meth : Method} {c : Code} {D : va_G} {cI cH cO : ClassId} (h : Nat) (ar : Nat → Nat) (C : Cst) (x1 : Int32) (x2 : Int32) (hS0 : 0 ≤ (C 10 0).toInt) (X : CX p s m args meth c cX0_numberOfSeason 3 RX0 (some .int) D (tyl cI cH cO) (va_A ((wC cI h ar C)) s.heap.size)) : J p l e (rml 0) s m args below meth c 3 D (va_A ((wC cI h ar C)) s.heap.size) 0 0 (KP below args s D (tyl cI cH cO) ((wC cI h ar C))) (sX0_numberOfSeason C x1 x2) ((wC cI h ar C)) 0 [(0, .ref h), (1, .int x1), (2, .int x2)] [] := by
  unfold sX0_numberOfSeason
  refine j_ltv (fun K35 eK35 => ?_)
  have hK35 : ∀ (i1 : Nat) (i2 : Nat) (hi1 : i1 < 6) (hi2 : i2 < 5) (hlt : ¬ (C 10 0) ≤ nI i1), J p l e (rml 0) s m args below meth c 3 D (va_A ((wC cI h ar C)) s.heap.size) 0 0 (KP below args s D (tyl cI cH cO) ((wC cI h ar C))) (K35 i1 i2) ((wC cI h ar C)) 35 [(0, .ref h), (1, .int (nI i1)), (2, .int (nI i2))] [] := by
    intro i1 i2 hi1 hi2 hlt
    rw [eK35]
    refine j_aload_n X (pc' := 36) 0 dX0_numberOfSeason_35 rfl rfl rfl ?_
    refine j_get X inX0 rfl (pc' := 39) 0 8 q_fl_X0_36 (by decide) rfl rfl dX0_numberOfSeason_36 rfl ?_
    refine j_aload_n X (pc' := 40) 0 dX0_numberOfSeason_39 rfl rfl rfl ?_
    refine j_get X inX0 rfl (pc' := 43) 0 10 q_fl_X0_50 (by decide) rfl rfl dX0_numberOfSeason_40 rfl ?_
    refine j_iconst X (v := 1) (pc' := 44) dX0_numberOfSeason_43 (by decide) rfl ?_
    refine j_isub X (pc' := 45) dX0_numberOfSeason_44 rfl ?_
    refine j_iload_n X (pc' := 46) 1 dX0_numberOfSeason_45 rfl rfl rfl ?_
    refine j_isub X (pc' := 47) dX0_numberOfSeason_46 rfl ?_
    refine j_bipush X (v := 6) (pc' := 49) dX0_numberOfSeason_47 (by decide) rfl ?_
    refine j_irem X (pc' := 50) dX0_numberOfSeason_49 (by decide) rfl ?_
    refine j_iconst X (v := 5) (pc' := 51) dX0_numberOfSeason_50 (by decide) rfl ?_
    refine j_imul X (pc' := 52) dX0_numberOfSeason_51 rfl ?_
    refine j_iload_n X (pc' := 53) 2 dX0_numberOfSeason_52 rfl rfl rfl ?_
    refine j_iadd X (pc' := 54) dX0_numberOfSeason_53 rfl ?_
    refine j_iald X (pc' := 55) 9 rfl (nS_in hS0 hi1 hi2 hlt) dX0_numberOfSeason_54 rfl ?_
    exact j_iretP X rfl rfl dX0_numberOfSeason_55
  refine j_iload_n X (pc' := 1) 1 dX0_numberOfSeason_0 rfl rfl rfl ?_
  refine j_if_lt X (tgt := 13) (pc' := 4) dX0_numberOfSeason_1 (by decide) rfl (fun c_1 => ?_) (fun c_1 => ?_)
  · refine j_sipush X (v := (-10001)) (pc' := 16) dX0_numberOfSeason_13 (by decide) rfl ?_
    exact j_iretP X rfl rfl dX0_numberOfSeason_16
  · refine j_iload_n X (pc' := 5) 2 dX0_numberOfSeason_4 rfl rfl rfl ?_
    refine j_if_lt X (tgt := 13) (pc' := 8) dX0_numberOfSeason_5 (by decide) rfl (fun c_5 => ?_) (fun c_5 => ?_)
    · refine j_sipush X (v := (-10001)) (pc' := 16) dX0_numberOfSeason_13 (by decide) rfl ?_
      exact j_iretP X rfl rfl dX0_numberOfSeason_16
    · refine j_iload_n X (pc' := 9) 2 dX0_numberOfSeason_8 rfl rfl rfl ?_
      refine j_iconst X (v := 5) (pc' := 10) dX0_numberOfSeason_9 (by decide) rfl ?_
      refine j_icmp_lt X (tgt := 17) (pc' := 13) dX0_numberOfSeason_10 (by decide) rfl (fun c_10 => ?_) (fun c_10 => ?_)
      · refine j_iload_n X (pc' := 18) 1 dX0_numberOfSeason_17 rfl rfl rfl ?_
        refine j_aload_n X (pc' := 19) 0 dX0_numberOfSeason_18 rfl rfl rfl ?_
        refine j_get X inX0 rfl (pc' := 22) 0 10 q_fl_X0_50 (by decide) rfl rfl dX0_numberOfSeason_19 rfl ?_
        refine j_icmp_ge X (tgt := 31) (pc' := 25) dX0_numberOfSeason_22 (by decide) rfl (fun c_22 => ?_) (fun c_22 => ?_)
        · refine j_sipush X (v := (-10004)) (pc' := 34) dX0_numberOfSeason_31 (by decide) rfl ?_
          exact j_iretP X rfl rfl dX0_numberOfSeason_34
        · refine j_iload_n X (pc' := 26) 1 dX0_numberOfSeason_25 rfl rfl rfl ?_
          refine j_bipush X (v := 6) (pc' := 28) dX0_numberOfSeason_26 (by decide) rfl ?_
          refine j_icmp_lt X (tgt := 35) (pc' := 31) dX0_numberOfSeason_28 (by decide) rfl (fun c_28 => ?_) (fun c_28 => ?_)
          · obtain ⟨j_28, hj_28, ej_28⟩ : ∃ j : Nat, j < 6 ∧ x1 = nI j := nI_bet c_1 c_28
            subst ej_28
            rw [nI_clamp (show j_28 < 2 ^ 31 by omega)]
            obtain ⟨j_28, hj_28, ej_28⟩ : ∃ j : Nat, j < 5 ∧ x2 = nI j := nI_bet c_5 c_10
            subst ej_28
            rw [nI_clamp (show j_28 < 2 ^ 31 by omega)]
            refine j_lv [0, 1, 2] (lv' := _) rfl ?_
            exact hK35 _ _ (by first | omega | assumption | decide | (subst_vars; first | assumption | omega)) (by first | omega | assumption | decide | (subst_vars; first | assumption | omega)) (by first | omega | assumption | decide | (subst_vars; first | assumption | omega))
          · refine j_sipush X (v := (-10004)) (pc' := 34) dX0_numberOfSeason_31 (by decide) rfl ?_
            exact j_iretP X rfl rfl dX0_numberOfSeason_34
      · refine j_sipush X (v := (-10001)) (pc' := 16) dX0_numberOfSeason_13 (by decide) rfl ?_
        exact j_iretP X rfl rfl dX0_numberOfSeason_16
theorem c_X0_numberOfSeason (l : Launch) (D : va_G) (cI cH cO : ClassId) (h : Nat) (ar : Nat → Nat) (C : Cst) (x1 : Int32) (x2 : Int32) (hS0 : 0 ≤ (C 10 0).toInt) : MI l yX0_numberOfSeason cX0_numberOfSeason 3 (some .int) 0 D (tyl cI cH cO) [.ref h, .int x1, .int x2] ((wC cI h ar C)) (sX0_numberOfSeason C x1 x2) ((wC cI h ar C)) := fun sz => j_start (fun below s => (KP below [.ref h, .int x1, .int x2].toArray s D (tyl cI cH cO) ((wC cI h ar C)))) (sX0_numberOfSeason C x1 x2) (by decide +kernel) rfl (Nat.le_of_ble_eq_true rfl) (fun below s hs _ => by subst hs; rfl) (fun p e s m below meth c _ X => b_X0_numberOfSeason h ar C x1 x2 hS0 X)
end
section
/-- the reference's own bounds -/
def IM (C : Cst) : Prop := 0 ≤ (C 0 5).toInt ∧ (C 0 5).toInt ≤ 8 ∧ ¬ C 0 0 = 0 ∧ ¬ C 0 4 = 0 ∧ 0 ≤ (C 0 12).toInt ∧ (C 0 12).toInt ≤ 6 ∧ 0 ≤ (C 3 0).toInt ∧ (C 3 0).toInt ≤ 4 ∧ 0 ≤ (C 6 0).toInt ∧ (C 6 0).toInt ≤ 60
theorem IM_eq {C B : Cst} (h0 : B 0 5 = C 0 5) (h1 : B 0 0 = C 0 0) (h2 : B 0 4 = C 0 4) (h3 : B 0 12 = C 0 12) (h4 : B 3 0 = C 3 0) (h5 : B 6 0 = C 6 0) (h : IM C) : IM B := by
  unfold IM at h ⊢; rw [h0, h1, h2, h3, h4, h5]; exact h
theorem IM_k {C : Cst} {k i : Nat} {x : Int32} (h0 : ¬ 0 = k) (h3 : ¬ 3 = k) (h6 : ¬ 6 = k) (h : IM C) : IM (up C k i x) := IM_eq (by rw [up_k h0]) (by rw [up_k h0]) (by rw [up_k h0]) (by rw [up_k h0]) (by rw [up_k h3]) (by rw [up_k h6]) h
theorem IM_0 {C : Cst} {i : Nat} {x : Int32} (h0 : ¬ 0 = i) (h4 : ¬ 4 = i) (h5 : ¬ 5 = i) (h12 : ¬ 12 = i) (h : IM C) : IM (up C 0 i x) := IM_eq (up_n h5) (up_n h0) (up_n h4) (up_n h12) rfl rfl h
theorem i32_ne4 {x : Int32} (h : x.toInt ≤ 4) (hn : ¬ x = 4) : x.toInt ≤ 3 := by
  have h1 : ¬ x.toInt = 4 := fun q => hn (Int32.toInt_inj.mp (by rw [q]; decide))
  omega
theorem dec3_le {C : Cst} (h : C 3 0 = 4) : (up C 3 0 ((C 3 0) - 1) 3 0).toInt ≤ 3 := by
  rw [up_s, h]; decide
theorem IM_dec3 {C : Cst} (h4 : C 3 0 = 4) (h : IM C) : IM (up C 3 0 ((C 3 0) - 1)) := by
  obtain ⟨a1, a2, a3, a4, a5, a6, a7, a8, a9, a10⟩ := h
  refine ⟨a1, a2, a3, a4, a5, a6, ?_, ?_, a9, a10⟩ <;> (rw [up_s, h4]; decide)
theorem i32_inc {x : Int32} {a b : Int} (h0 : a ≤ x.toInt) (h1 : x.toInt ≤ b) (ha : -2 ^ 31 ≤ a := by decide) (hb : b < 2 ^ 31 - 1 := by decide) : (x + 1).toInt = x.toInt + 1 := by
  rw [Int32.toInt_add, show (1 : Int32).toInt = 1 from by decide]
  exact zbmod (by omega) (by omega)
theorem IM_inc3 {C : Cst} (h4 : (C 3 0).toInt ≤ 3) (h : IM C) : IM (up C 3 0 ((C 3 0) + 1)) := by
  obtain ⟨a1, a2, a3, a4, a5, a6, a7, a8, a9, a10⟩ := h
  have e := i32_inc a7 h4
  refine ⟨a1, a2, a3, a4, a5, a6, ?_, ?_, a9, a10⟩ <;> (rw [up_s, e]; omega)
theorem ch_in {x : Int32} {i : Nat} (h4 : x.toInt ≤ 3) (h0 : 0 ≤ x.toInt) (hi : ¬ 107 ≤ i) : vp_in ((107 * x) + nI i) 428 := by
  obtain ⟨j, hj, rfl⟩ := nI_nneg h0
  rw [nI_toInt hj] at h4
  rw [show (107 : Int32) = nI 107 from rfl, nI_mul, nI_add]
  exact vp_in_nI (by omega) (by decide)
theorem nz_of {x : Int32} {i : Nat} (h : ¬ x ≤ nI i) (hi : i < 2 ^ 31 := by omega) : ¬ x = 0 := by
  rintro rfl; exact h (nI_pos' hi)
end
section
def sX5_in (x0 : Int32) (x1 : Int32) (x2 : Int32) : Int32 := (if x0 < x1 then 0 else (if x2 < x0 then 0 else 1))
set_option maxHeartbeats 4000000 in
set_option maxRecDepth 100000 in
theorem b_X5_in {p : Program} {l : Launch} {e : Env} {s : State} {m : MethodId} {args : Array Value} {below : List Frame} {meth : Method} {c : Code} {D : va_G} {cI cH cO : ClassId} (x0 : Int32) (x1 : Int32) (x2 : Int32)  (X : CX p s m args meth c cX5_in 3 RX5 (some .boolean) D (tyl cI cH cO) (va_A ([]) s.heap.size)) : J p l e (rml 0) s m args below meth c 3 D (va_A ([]) s.heap.size) 0 0 (KP below args s D (tyl cI cH cO) ([])) (sX5_in x0 x1 x2) ([]) 0 [(0, .int x0), (1, .int x1), (2, .int x2)] [] := by
  unfold sX5_in
  refine j_iload_n X (pc' := 1) 0 dX5_in_0 rfl rfl rfl ?_
  refine j_iload_n X (pc' := 2) 1 dX5_in_1 rfl rfl rfl ?_
  refine j_icmp_lt X (tgt := 14) (pc' := 5) dX5_in_2 (by decide) rfl (fun c_2 => ?_) (fun c_2 => ?_)
  · refine j_iconst X (v := 0) (pc' := 15) dX5_in_14 (by decide) rfl ?_
    exact j_zretP X rfl rfl rfl dX5_in_15
  · refine j_iload_n X (pc' := 6) 0 dX5_in_5 rfl rfl rfl ?_
    refine j_iload_n X (pc' := 7) 2 dX5_in_6 rfl rfl rfl ?_
    refine j_icmp_gt X (tgt := 14) (pc' := 10) dX5_in_7 (by decide) rfl (fun c_7 => ?_) (fun c_7 => ?_)
    · refine j_iconst X (v := 0) (pc' := 15) dX5_in_14 (by decide) rfl ?_
      exact j_zretP X rfl rfl rfl dX5_in_15
    · refine j_iconst X (v := 1) (pc' := 11) dX5_in_10 (by decide) rfl ?_
      refine j_goto X (pc' := 15) dX5_in_11 (by decide) ?_
      exact j_zretP X rfl rfl rfl dX5_in_15
theorem c_X5_in (l : Launch) (D : va_G) (cI cH cO : ClassId) (x0 : Int32) (x1 : Int32) (x2 : Int32)  : MI l yX5_in cX5_in 3 (some .boolean) 0 D (tyl cI cH cO) [.int x0, .int x1, .int x2] ([]) (sX5_in x0 x1 x2) ([]) := fun sz => j_start (fun below s => (KP below [.int x0, .int x1, .int x2].toArray s D (tyl cI cH cO) ([]))) (sX5_in x0 x1 x2) (by decide +kernel) rfl (Nat.le_of_ble_eq_true rfl) (fun below s hs _ => by subst hs; rfl) (fun p e s m below meth c _ X => b_X5_in x0 x1 x2  X)
def sX5_copies_0_2 (C : Cst) : Cst := ltl2 (fun R2 (C : Cst) (i2 : Nat) => (if 107 ≤ (nI i2) then C else ltv (up C 2 i2 (C 0 i2)) (fun (S_13 : Cst) => R2 S_13 (i2 + 1)))) (fun (C : Cst) (i2 : Nat) => C) (fun L2 => (L2 108 C 0))
set_option maxHeartbeats 4000000 in
set_option maxRecDepth 100000 in
theorem b_X5_copies_0_2 {p : Program} {l : Launch} {e : Env} {s : State} {m : MethodId} {args : Array Value} {below : List Frame} {meth : Method} {c : Code} {D : va_G} {cI cH cO : ClassId} {ws0 : va_W} (h : Nat) (ar : Nat → Nat) (C : Cst)  (X : CX p s m args meth c cX5_copies 3 RX5 none D (tyl cI cH cO) (va_A ws0 s.heap.size)) : J p l e (rml 0) s m args below meth c 3 D (va_A ws0 s.heap.size) 0 0 (KV below args s D (tyl cI cH cO) ws0 (fun C9 => (wM cI h ar C9))) (sX5_copies_0_2 C) ((wM cI h ar C)) 0 [(0, .ref (ar 0)), (1, .ref (ar 2))] [] := by
  unfold sX5_copies_0_2
  refine j_ltl2 (fun L2 eL2 => ?_)
  have hL2 : ∀ (n2 : Nat) (C : Cst) (i2 : Nat) (hi : i2 ≤ 107) (hfu : 108 ≤ i2 + n2), J p l e (rml 0) s m args below meth c 3 D (va_A ws0 s.heap.size) 0 0 (KV below args s D (tyl cI cH cO) ws0 (fun C9 => (wM cI h ar C9))) (L2 n2 C i2) ((wM cI h ar C)) 2 [(0, .ref (ar 0)), (1, .ref (ar 2)), (2, .int (nI i2))] [] := by
    intro n2
    induction n2 with
    | zero =>
      intro C i2 hi hfu
      exact absurd hfu (by omega)
    | succ n2 ih2 =>
      intro C i2 hi hfu
      rw [eL2]
      refine j_iload_n X (pc' := 3) 2 dX5_copies_2 rfl rfl rfl ?_
      refine j_bipush X (v := 107) (pc' := 5) dX5_copies_3 (by decide) rfl ?_
      refine j_icmp_ge X (tgt := 20) (pc' := 8) dX5_copies_5 (by decide) rfl (fun c_5 => ?_) (fun c_5 => ?_)
      · have f_5 : 107 ≤ i2 := (nI_leI (a := 107) (b := i2) (by omega) (by omega)).mp c_5
        exact j_vret X rfl dX5_copies_20
      · have f_5 : ¬ (107 ≤ i2) := fun h => c_5 ((nI_leI (a := 107) (b := i2) (by omega) (by omega)).mpr h)
        refine j_aload_n X (pc' := 9) 1 dX5_copies_8 rfl rfl rfl ?_
        refine j_iload_n X (pc' := 10) 2 dX5_copies_9 rfl rfl rfl ?_
        refine j_aload_n X (pc' := 11) 0 dX5_copies_10 rfl rfl rfl ?_
        refine j_iload_n X (pc' := 12) 2 dX5_copies_11 rfl rfl rfl ?_
        refine j_ialdN X (i := i2) (pc' := 13) 1 rfl (by omega) (by decide) dX5_copies_12 rfl ?_
        refine j_iastN X (i := i2) (pc' := 14) (S := up C 2 i2 (C 0 i2)) (fun S_13 => (wM cI h ar S_13)) 3 rfl rfl (by omega) (by decide) dX5_copies_13 rfl (fun S_13 eS_13 => ?_)
        refine j_iinc X (v := (nI (i2 + 1))) (lv' := [(0, .ref (ar 0)), (1, .ref (ar 2)), (2, .int (nI (i2 + 1)))]) (q := 2) (pc' := 17) [1, 2, 0] dX5_copies_14 rfl (nI_1 i2) (by decide) rfl rfl ?_
        refine j_goto X (pc' := 2) dX5_copies_17 (by decide) ?_
        refine j_lv [0, 1, 2] (lv' := [(0, .ref (ar 0)), (1, .ref (ar 2)), (2, .int (nI (i2 + 1)))]) rfl ?_
        exact ih2 _ _ (by first | omega | assumption | decide | (subst_vars; first | assumption | omega)) (by first | omega | assumption | decide | (subst_vars; first | assumption | omega))
  refine j_iconst X (v := 0) (pc' := 1) dX5_copies_0 (by decide) rfl ?_
  refine j_istore_n X (lv' := [(0, .ref (ar 0)), (1, .ref (ar 2)), (2, .int 0)]) (pc' := 2) [1, 2, 0] dX5_copies_1 rfl (by decide) rfl rfl ?_
  refine j_lv [0, 1, 2] (lv' := [(0, .ref (ar 0)), (1, .ref (ar 2)), (2, .int 0)]) rfl ?_
  exact hL2 _ _ _ (by first | omega | assumption | decide | (subst_vars; first | assumption | omega)) (by first | omega | assumption | decide | (subst_vars; first | assumption | omega))
theorem c_X5_copies_0_2 (l : Launch) (D : va_G) (cI cH cO : ClassId) (h : Nat) (ar : Nat → Nat) (C : Cst)  : MV l yX5_copies cX5_copies 3 0 D (tyl cI cH cO) [.ref (ar 0), .ref (ar 2)] ((wM cI h ar C)) ((wM cI h ar (sX5_copies_0_2 C))) := fun sz => j_start (fun below s => (KV below [.ref (ar 0), .ref (ar 2)].toArray s D (tyl cI cH cO) ((wM cI h ar C)) (fun C9 => (wM cI h ar C9)))) (sX5_copies_0_2 C) (by decide +kernel) rfl (Nat.le_of_ble_eq_true rfl) (fun below s hs _ => by subst hs; rfl) (fun p e s m below meth c _ X => b_X5_copies_0_2 h ar C  X)
def sX5_copies_2_0 (C : Cst) : Cst := ltl2 (fun R2 (C : Cst) (i2 : Nat) => (if 107 ≤ (nI i2) then C else ltv (up C 0 i2 (C 2 i2)) (fun (S_13 : Cst) => R2 S_13 (i2 + 1)))) (fun (C : Cst) (i2 : Nat) => C) (fun L2 => (L2 108 C 0))
set_option maxHeartbeats 4000000 in
set_option maxRecDepth 100000 in
theorem b_X5_copies_2_0 {p : Program} {l : Launch} {e : Env} {s : State} {m : MethodId} {args : Array Value} {below : List Frame} {meth : Method} {c : Code} {D : va_G} {cI cH cO : ClassId} {ws0 : va_W} (h : Nat) (ar : Nat → Nat) (C : Cst)  (X : CX p s m args meth c cX5_copies 3 RX5 none D (tyl cI cH cO) (va_A ws0 s.heap.size)) : J p l e (rml 0) s m args below meth c 3 D (va_A ws0 s.heap.size) 0 0 (KV below args s D (tyl cI cH cO) ws0 (fun C9 => (wM cI h ar C9))) (sX5_copies_2_0 C) ((wM cI h ar C)) 0 [(0, .ref (ar 2)), (1, .ref (ar 0))] [] := by
  unfold sX5_copies_2_0
  refine j_ltl2 (fun L2 eL2 => ?_)
  have hL2 : ∀ (n2 : Nat) (C : Cst) (i2 : Nat) (hi : i2 ≤ 107) (hfu : 108 ≤ i2 + n2), J p l e (rml 0) s m args below meth c 3 D (va_A ws0 s.heap.size) 0 0 (KV below args s D (tyl cI cH cO) ws0 (fun C9 => (wM cI h ar C9))) (L2 n2 C i2) ((wM cI h ar C)) 2 [(0, .ref (ar 2)), (1, .ref (ar 0)), (2, .int (nI i2))] [] := by
    intro n2
    induction n2 with
    | zero =>
      intro C i2 hi hfu
      exact absurd hfu (by omega)
    | succ n2 ih2 =>
      intro C i2 hi hfu
      rw [eL2]
      refine j_iload_n X (pc' := 3) 2 dX5_copies_2 rfl rfl rfl ?_
      refine j_bipush X (v := 107) (pc' := 5) dX5_copies_3 (by decide) rfl ?_
      refine j_icmp_ge X (tgt := 20) (pc' := 8) dX5_copies_5 (by decide) rfl (fun c_5 => ?_) (fun c_5 => ?_)
      · have f_5 : 107 ≤ i2 := (nI_leI (a := 107) (b := i2) (by omega) (by omega)).mp c_5
        exact j_vret X rfl dX5_copies_20
      · have f_5 : ¬ (107 ≤ i2) := fun h => c_5 ((nI_leI (a := 107) (b := i2) (by omega) (by omega)).mpr h)
        refine j_aload_n X (pc' := 9) 1 dX5_copies_8 rfl rfl rfl ?_
        refine j_iload_n X (pc' := 10) 2 dX5_copies_9 rfl rfl rfl ?_
        refine j_aload_n X (pc' := 11) 0 dX5_copies_10 rfl rfl rfl ?_
        refine j_iload_n X (pc' := 12) 2 dX5_copies_11 rfl rfl rfl ?_
        refine j_ialdN X (i := i2) (pc' := 13) 3 rfl (by omega) (by decide) dX5_copies_12 rfl ?_
        refine j_iastN X (i := i2) (pc' := 14) (S := up C 0 i2 (C 2 i2)) (fun S_13 => (wM cI h ar S_13)) 1 rfl rfl (by omega) (by decide) dX5_copies_13 rfl (fun S_13 eS_13 => ?_)
        refine j_iinc X (v := (nI (i2 + 1))) (lv' := [(0, .ref (ar 2)), (1, .ref (ar 0)), (2, .int (nI (i2 + 1)))]) (q := 2) (pc' := 17) [1, 2, 0] dX5_copies_14 rfl (nI_1 i2) (by decide) rfl rfl ?_
        refine j_goto X (pc' := 2) dX5_copies_17 (by decide) ?_
        refine j_lv [0, 1, 2] (lv' := [(0, .ref (ar 2)), (1, .ref (ar 0)), (2, .int (nI (i2 + 1)))]) rfl ?_
        exact ih2 _ _ (by first | omega | assumption | decide | (subst_vars; first | assumption | omega)) (by first | omega | assumption | decide | (subst_vars; first | assumption | omega))
  refine j_iconst X (v := 0) (pc' := 1) dX5_copies_0 (by decide) rfl ?_
  refine j_istore_n X (lv' := [(0, .ref (ar 2)), (1, .ref (ar 0)), (2, .int 0)]) (pc' := 2) [1, 2, 0] dX5_copies_1 rfl (by decide) rfl rfl ?_
  refine j_lv [0, 1, 2] (lv' := [(0, .ref (ar 2)), (1, .ref (ar 0)), (2, .int 0)]) rfl ?_
  exact hL2 _ _ _ (by first | omega | assumption | decide | (subst_vars; first | assumption | omega)) (by first | omega | assumption | decide | (subst_vars; first | assumption | omega))
theorem c_X5_copies_2_0 (l : Launch) (D : va_G) (cI cH cO : ClassId) (h : Nat) (ar : Nat → Nat) (C : Cst)  : MV l yX5_copies cX5_copies 3 0 D (tyl cI cH cO) [.ref (ar 2), .ref (ar 0)] ((wM cI h ar C)) ((wM cI h ar (sX5_copies_2_0 C))) := fun sz => j_start (fun below s => (KV below [.ref (ar 2), .ref (ar 0)].toArray s D (tyl cI cH cO) ((wM cI h ar C)) (fun C9 => (wM cI h ar C9)))) (sX5_copies_2_0 C) (by decide +kernel) rfl (Nat.le_of_ble_eq_true rfl) (fun below s hs _ => by subst hs; rfl) (fun p e s m below meth c _ X => b_X5_copies_2_0 h ar C  X)
def sX5_copies_0_12 (C : Cst) : Cst := ltl2 (fun R2 (C : Cst) (i2 : Nat) => (if 107 ≤ (nI i2) then C else ltv (up C 12 i2 (C 0 i2)) (fun (S_13 : Cst) => R2 S_13 (i2 + 1)))) (fun (C : Cst) (i2 : Nat) => C) (fun L2 => (L2 108 C 0))
set_option maxHeartbeats 4000000 in
set_option maxRecDepth 100000 in
theorem b_X5_copies_0_12 {p : Program} {l : Launch} {e : Env} {s : State} {m : MethodId} {args : Array Value} {below : List Frame} {meth : Method} {c : Code} {D : va_G} {cI cH cO : ClassId} {ws0 : va_W} (h : Nat) (ar : Nat → Nat) (C : Cst)  (X : CX p s m args meth c cX5_copies 3 RX5 none D (tyl cI cH cO) (va_A ws0 s.heap.size)) : J p l e (rml 0) s m args below meth c 3 D (va_A ws0 s.heap.size) 0 0 (KV below args s D (tyl cI cH cO) ws0 (fun C9 => (wM cI h ar C9))) (sX5_copies_0_12 C) ((wM cI h ar C)) 0 [(0, .ref (ar 0)), (1, .ref (ar 12))] [] := by
  unfold sX5_copies_0_12
  refine j_ltl2 (fun L2 eL2 => ?_)
  have hL2 : ∀ (n2 : Nat) (C : Cst) (i2 : Nat) (hi : i2 ≤ 107) (hfu : 108 ≤ i2 + n2), J p l e (rml 0) s m args below meth c 3 D (va_A ws0 s.heap.size) 0 0 (KV below args s D (tyl cI cH cO) ws0 (fun C9 => (wM cI h ar C9))) (L2 n2 C i2) ((wM cI h ar C)) 2 [(0, .ref (ar 0)), (1, .ref (ar 12)), (2, .int (nI i2))] [] := by
    intro n2
    induction n2 with
    | zero =>
      intro C i2 hi hfu
      exact absurd hfu (by omega)
    | succ n2 ih2 =>
      intro C i2 hi hfu
      rw [eL2]
      refine j_iload_n X (pc' := 3) 2 dX5_copies_2 rfl rfl rfl ?_
      refine j_bipush X (v := 107) (pc' := 5) dX5_copies_3 (by decide) rfl ?_
      refine j_icmp_ge X (tgt := 20) (pc' := 8) dX5_copies_5 (by decide) rfl (fun c_5 => ?_) (fun c_5 => ?_)
      · have f_5 : 107 ≤ i2 := (nI_leI (a := 107) (b := i2) (by omega) (by omega)).mp c_5
        exact j_vret X rfl dX5_copies_20
      · have f_5 : ¬ (107 ≤ i2) := fun h => c_5 ((nI_leI (a := 107) (b := i2) (by omega) (by omega)).mpr h)
        refine j_aload_n X (pc' := 9) 1 dX5_copies_8 rfl rfl rfl ?_
        refine j_iload_n X (pc' := 10) 2 dX5_copies_9 rfl rfl rfl ?_
        refine j_aload_n X (pc' := 11) 0 dX5_copies_10 rfl rfl rfl ?_
        refine j_iload_n X (pc' := 12) 2 dX5_copies_11 rfl rfl rfl ?_
        refine j_ialdN X (i := i2) (pc' := 13) 1 rfl (by omega) (by decide) dX5_copies_12 rfl ?_
        refine j_iastN X (i := i2) (pc' := 14) (S := up C 12 i2 (C 0 i2)) (fun S_13 => (wM cI h ar S_13)) 7 rfl rfl (by omega) (by decide) dX5_copies_13 rfl (fun S_13 eS_13 => ?_)
        refine j_iinc X (v := (nI (i2 + 1))) (lv' := [(0, .ref (ar 0)), (1, .ref (ar 12)), (2, .int (nI (i2 + 1)))]) (q := 2) (pc' := 17) [1, 2, 0] dX5_copies_14 rfl (nI_1 i2) (by decide) rfl rfl ?_
        refine j_goto X (pc' := 2) dX5_copies_17 (by decide) ?_
        refine j_lv [0, 1, 2] (lv' := [(0, .ref (ar 0)), (1, .ref (ar 12)), (2, .int (nI (i2 + 1)))]) rfl ?_
        exact ih2 _ _ (by first | omega | assumption | decide | (subst_vars; first | assumption | omega)) (by first | omega | assumption | decide | (subst_vars; first | assumption | omega))
  refine j_iconst X (v := 0) (pc' := 1) dX5_copies_0 (by decide) rfl ?_
  refine j_istore_n X (lv' := [(0, .ref (ar 0)), (1, .ref (ar 12)), (2, .int 0)]) (pc' := 2) [1, 2, 0] dX5_copies_1 rfl (by decide) rfl rfl ?_
  refine j_lv [0, 1, 2] (lv' := [(0, .ref (ar 0)), (1, .ref (ar 12)), (2, .int 0)]) rfl ?_
  exact hL2 _ _ _ (by first | omega | assumption | decide | (subst_vars; first | assumption | omega)) (by first | omega | assumption | decide | (subst_vars; first | assumption | omega))
theorem c_X5_copies_0_12 (l : Launch) (D : va_G) (cI cH cO : ClassId) (h : Nat) (ar : Nat → Nat) (C : Cst)  : MV l yX5_copies cX5_copies 3 0 D (tyl cI cH cO) [.ref (ar 0), .ref (ar 12)] ((wM cI h ar C)) ((wM cI h ar (sX5_copies_0_12 C))) := fun sz => j_start (fun below s => (KV below [.ref (ar 0), .ref (ar 12)].toArray s D (tyl cI cH cO) ((wM cI h ar C)) (fun C9 => (wM cI h ar C9)))) (sX5_copies_0_12 C) (by decide +kernel) rfl (Nat.le_of_ble_eq_true rfl) (fun below s hs _ => by subst hs; rfl) (fun p e s m below meth c _ X => b_X5_copies_0_12 h ar C  X)
def sX5_copies_12_0 (C : Cst) : Cst := ltl2 (fun R2 (C : Cst) (i2 : Nat) => (if 107 ≤ (nI i2) then C else ltv (up C 0 i2 (C 12 i2)) (fun (S_13 : Cst) => R2 S_13 (i2 + 1)))) (fun (C : Cst) (i2 : Nat) => C) (fun L2 => (L2 108 C 0))
set_option maxHeartbeats 4000000 in
set_option maxRecDepth 100000 in
theorem b_X5_copies_12_0 {p : Program} {l : Launch} {e : Env} {s : State} {m : MethodId} {args : Array Value} {below : List Frame} {meth : Method} {c : Code} {D : va_G} {cI cH cO : ClassId} {ws0 : va_W} (h : Nat) (ar : Nat → Nat) (C : Cst)  (X : CX p s m args meth c cX5_copies 3 RX5 none D (tyl cI cH cO) (va_A ws0 s.heap.size)) : J p l e (rml 0) s m args below meth c 3 D (va_A ws0 s.heap.size) 0 0 (KV below args s D (tyl cI cH cO) ws0 (fun C9 => (wM cI h ar C9))) (sX5_copies_12_0 C) ((wM cI h ar C)) 0 [(0, .ref (ar 12)), (1, .ref (ar 0))] [] := by
  unfold sX5_copies_12_0
  refine j_ltl2 (fun L2 eL2 => ?_)
  have hL2 : ∀ (n2 : Nat) (C : Cst) (i2 : Nat) (hi : i2 ≤ 107) (hfu : 108 ≤ i2 + n2), J p l e (rml 0) s m args below meth c 3 D (va_A ws0 s.heap.size) 0 0 (KV below args s D (tyl cI cH cO) ws0 (fun C9 => (wM cI h ar C9))) (L2 n2 C i2) ((wM cI h ar C)) 2 [(0, .ref (ar 12)), (1, .ref (ar 0)), (2, .int (nI i2))] [] := by
    intro n2
    induction n2 with
    | zero =>
      intro C i2 hi hfu
      exact absurd hfu (by omega)
    | succ n2 ih2 =>
      intro C i2 hi hfu
      rw [eL2]
      refine j_iload_n X (pc' := 3) 2 dX5_copies_2 rfl rfl rfl ?_
      refine j_bipush X (v := 107) (pc' := 5) dX5_copies_3 (by decide) rfl ?_
      refine j_icmp_ge X (tgt := 20) (pc' := 8) dX5_copies_5 (by decide) rfl (fun c_5 => ?_) (fun c_5 => ?_)
      · have f_5 : 107 ≤ i2 := (nI_leI (a := 107) (b := i2) (by omega) (by omega)).mp c_5
        exact j_vret X rfl dX5_copies_20
      · have f_5 : ¬ (107 ≤ i2) := fun h => c_5 ((nI_leI (a := 107) (b := i2) (by omega) (by omega)).mpr h)
        refine j_aload_n X (pc' := 9) 1 dX5_copies_8 rfl rfl rfl ?_
        refine j_iload_n X (pc' := 10) 2 dX5_copies_9 rfl rfl rfl ?_
        refine j_aload_n X (pc' := 11) 0 dX5_copies_10 rfl rfl rfl ?_
        refine j_iload_n X (pc' := 12) 2 dX5_copies_11 rfl rfl rfl ?_
        refine j_ialdN X (i := i2) (pc' := 13) 7 rfl (by omega) (by decide) dX5_copies_12 rfl ?_
        refine j_iastN X (i := i2) (pc' := 14) (S := up C 0 i2 (C 12 i2)) (fun S_13 => (wM cI h ar S_13)) 1 rfl rfl (by omega) (by decide) dX5_copies_13 rfl (fun S_13 eS_13 => ?_)
        refine j_iinc X (v := (nI (i2 + 1))) (lv' := [(0, .ref (ar 12)), (1, .ref (ar 0)), (2, .int (nI (i2 + 1)))]) (q := 2) (pc' := 17) [1, 2, 0] dX5_copies_14 rfl (nI_1 i2) (by decide) rfl rfl ?_
        refine j_goto X (pc' := 2) dX5_copies_17 (by decide) ?_
        refine j_lv [0, 1, 2] (lv' := [(0, .ref (ar 12)), (1, .ref (ar 0)), (2, .int (nI (i2 + 1)))]) rfl ?_
        exact ih2 _ _ (by first | omega | assumption | decide | (subst_vars; first | assumption | omega)) (by first | omega | assumption | decide | (subst_vars; first | assumption | omega))
  refine j_iconst X (v := 0) (pc' := 1) dX5_copies_0 (by decide) rfl ?_
  refine j_istore_n X (lv' := [(0, .ref (ar 12)), (1, .ref (ar 0)), (2, .int 0)]) (pc' := 2) [1, 2, 0] dX5_copies_1 rfl (by decide) rfl rfl ?_
  refine j_lv [0, 1, 2] (lv' := [(0, .ref (ar 12)), (1, .ref (ar 0)), (2, .int 0)]) rfl ?_
  exact hL2 _ _ _ (by first | omega | assumption | decide | (subst_vars; first | assumption | omega)) (by first | omega | assumption | decide | (subst_vars; first | assumption | omega))
theorem c_X5_copies_12_0 (l : Launch) (D : va_G) (cI cH cO : ClassId) (h : Nat) (ar : Nat → Nat) (C : Cst)  : MV l yX5_copies cX5_copies 3 0 D (tyl cI cH cO) [.ref (ar 12), .ref (ar 0)] ((wM cI h ar C)) ((wM cI h ar (sX5_copies_12_0 C))) := fun sz => j_start (fun below s => (KV below [.ref (ar 12), .ref (ar 0)].toArray s D (tyl cI cH cO) ((wM cI h ar C)) (fun C9 => (wM cI h ar C9)))) (sX5_copies_12_0 C) (by decide +kernel) rfl (Nat.le_of_ble_eq_true rfl) (fun below s hs _ => by subst hs; rfl) (fun p e s m below meth c _ X => b_X5_copies_12_0 h ar C  X)
def sX5_isMember (C : Cst) (x1 : Int32) : Int32 := (if x1 < 0 then 0 else (if (C 0 5) ≤ x1 then 0 else 1))
set_option maxHeartbeats 4000000 in
set_option maxRecDepth 100000 in
theorem b_X5_isMember {p : Program} {l : Launch} {e : Env} {s : State} {m : MethodId} {args : Array Value} {below : List Frame} {meth : Method} {c : Code} {D : va_G} {cI cH cO : ClassId} (h : Nat) (ar : Nat → Nat) (C : Cst) (x1 : Int32)  (X : CX p s m args meth c cX5_isMember 2 RX5 (some .boolean) D (tyl cI cH cO) (va_A ((wM cI h ar C)) s.heap.size)) : J p l e (rml 0) s m args below meth c 2 D (va_A ((wM cI h ar C)) s.heap.size) 0 0 (KP below args s D (tyl cI cH cO) ((wM cI h ar C))) (sX5_isMember C x1) ((wM cI h ar C)) 0 [(0, .ref h), (1, .int x1)] [] := by
  unfold sX5_isMember
  refine j_iload_n X (pc' := 1) 1 dX5_isMember_0 rfl rfl rfl ?_
  refine j_if_lt X (tgt := 18) (pc' := 4) dX5_isMember_1 (by decide) rfl (fun c_1 => ?_) (fun c_1 => ?_)
  · refine j_iconst X (v := 0) (pc' := 19) dX5_isMember_18 (by decide) rfl ?_
    exact j_zretP X rfl rfl rfl dX5_isMember_19
  · refine j_iload_n X (pc' := 5) 1 dX5_isMember_4 rfl rfl rfl ?_
    refine j_aload_n X (pc' := 6) 0 dX5_isMember_5 rfl rfl rfl ?_
    refine j_get X inX5 rfl (pc' := 9) 0 0 q_fl_X5_7 (by decide) rfl rfl dX5_isMember_6 rfl ?_
    refine j_iconst X (v := 5) (pc' := 10) dX5_isMember_9 (by decide) rfl ?_
    refine j_ialdN X (i := 5) (pc' := 11) 1 rfl (by omega) (by decide) dX5_isMember_10 rfl ?_
    refine j_icmp_ge X (tgt := 18) (pc' := 14) dX5_isMember_11 (by decide) rfl (fun c_11 => ?_) (fun c_11 => ?_)
    · refine j_iconst X (v := 0) (pc' := 19) dX5_isMember_18 (by decide) rfl ?_
      exact j_zretP X rfl rfl rfl dX5_isMember_19
    · refine j_iconst X (v := 1) (pc' := 15) dX5_isMember_14 (by decide) rfl ?_
      refine j_goto X (pc' := 19) dX5_isMember_15 (by decide) ?_
      exact j_zretP X rfl rfl rfl dX5_isMember_19
theorem c_X5_isMember (l : Launch) (D : va_G) (cI cH cO : ClassId) (h : Nat) (ar : Nat → Nat) (C : Cst) (x1 : Int32)  : MI l yX5_isMember cX5_isMember 2 (some .boolean) 0 D (tyl cI cH cO) [.ref h, .int x1] ((wM cI h ar C)) (sX5_isMember C x1) ((wM cI h ar C)) := fun sz => j_start (fun below s => (KP below [.ref h, .int x1].toArray s D (tyl cI cH cO) ((wM cI h ar C)))) (sX5_isMember C x1) (by decide +kernel) rfl (Nat.le_of_ble_eq_true rfl) (fun below s hs _ => by subst hs; rfl) (fun p e s m below meth c _ X => b_X5_isMember h ar C x1  X)
def sX5_of (C : Cst) (i1 : Nat) (i2 : Nat) : Int32 := (C 0 ((13 + (8 * i1)) + i2))
set_option maxHeartbeats 4000000 in
set_option maxRecDepth 100000 in
theorem b_X5_of {p : Program} {l : Launch} {e : Env} {s : State} {m : MethodId} {args : Array Value} {below : List Frame} {meth : Method} {c : Code} {D : va_G} {cI cH cO : ClassId} (h : Nat) (ar : Nat → Nat) (C : Cst) (i1 : Nat) (i2 : Nat) (hi1 : i1 < 8) (hi2 : i2 < 8) (X : CX p s m args meth c cX5_of 3 RX5 (some .int) D (tyl cI cH cO) (va_A ((wM cI h ar C)) s.heap.size)) : J p l e (rml 0) s m args below meth c 3 D (va_A ((wM cI h ar C)) s.heap.size) 0 0 (KP below args s D (tyl cI cH cO) ((wM cI h ar C))) (sX5_of C i1 i2) ((wM cI h ar C)) 0 [(0, .ref h), (1, .int (nI i1)), (2, .int (nI i2))] [] := by
  unfold sX5_of
  refine j_aload_n X (pc' := 1) 0 dX5_of_0 rfl rfl rfl ?_
  refine j_get X inX5 rfl (pc' := 4) 0 0 q_fl_X5_7 (by decide) rfl rfl dX5_of_1 rfl ?_
  refine j_bipush X (v := 13) (pc' := 6) dX5_of_4 (by decide) rfl ?_
  refine j_bipush X (v := 8) (pc' := 8) dX5_of_6 (by decide) rfl ?_
  refine j_iload_n X (pc' := 9) 1 dX5_of_8 rfl rfl rfl ?_
  refine j_imulN X (a := 8) (b := i1) (pc' := 10) dX5_of_9 rfl ?_
  refine j_iaddN X (a := 13) (b := (8 * i1)) (pc' := 11) dX5_of_10 rfl ?_
  refine j_iload_n X (pc' := 12) 2 dX5_of_11 rfl rfl rfl ?_
  refine j_iaddN X (a := (13 + (8 * i1))) (b := i2) (pc' := 13) dX5_of_12 rfl ?_
  refine j_ialdN X (i := ((13 + (8 * i1)) + i2)) (pc' := 14) 1 rfl (by omega) (by decide) dX5_of_13 rfl ?_
  exact j_iretP X rfl rfl dX5_of_14
theorem c_X5_of (l : Launch) (D : va_G) (cI cH cO : ClassId) (h : Nat) (ar : Nat → Nat) (C : Cst) (i1 : Nat) (i2 : Nat) (hi1 : i1 < 8) (hi2 : i2 < 8) : MI l yX5_of cX5_of 3 (some .int) 0 D (tyl cI cH cO) [.ref h, .int (nI i1), .int (nI i2)] ((wM cI h ar C)) (sX5_of C i1 i2) ((wM cI h ar C)) := fun sz => j_start (fun below s => (KP below [.ref h, .int (nI i1), .int (nI i2)].toArray s D (tyl cI cH cO) ((wM cI h ar C)))) (sX5_of C i1 i2) (by decide +kernel) rfl (Nat.le_of_ble_eq_true rfl) (fun below s hs _ => by subst hs; rfl) (fun p e s m below meth c _ X => b_X5_of h ar C i1 i2 hi1 hi2 X)
def sX5_puts (C : Cst) (i1 : Nat) (i2 : Nat) (x3 : Int32) : Cst := ltv (up C 0 ((13 + (8 * i1)) + i2) x3) (fun (S_14 : Cst) => S_14)
set_option maxHeartbeats 4000000 in
set_option maxRecDepth 100000 in
theorem b_X5_puts {p : Program} {l : Launch} {e : Env} {s : State} {m : MethodId} {args : Array Value} {below : List Frame} {meth : Method} {c : Code} {D : va_G} {cI cH cO : ClassId} {ws0 : va_W} (h : Nat) (ar : Nat → Nat) (C : Cst) (i1 : Nat) (i2 : Nat) (x3 : Int32) (hi1 : i1 < 8) (hi2 : i2 < 8) (X : CX p s m args meth c cX5_puts 4 RX5 none D (tyl cI cH cO) (va_A ws0 s.heap.size)) : J p l e (rml 0) s m args below meth c 4 D (va_A ws0 s.heap.size) 0 0 (KV below args s D (tyl cI cH cO) ws0 (fun C9 => (wM cI h ar C9))) (sX5_puts C i1 i2 x3) ((wM cI h ar C)) 0 [(0, .ref h), (1, .int (nI i1)), (2, .int (nI i2)), (3, .int x3)] [] := by
  unfold sX5_puts
  refine j_aload_n X (pc' := 1) 0 dX5_puts_0 rfl rfl rfl ?_
  refine j_get X inX5 rfl (pc' := 4) 0 0 q_fl_X5_7 (by decide) rfl rfl dX5_puts_1 rfl ?_
  refine j_bipush X (v := 13) (pc' := 6) dX5_puts_4 (by decide) rfl ?_
  refine j_bipush X (v := 8) (pc' := 8) dX5_puts_6 (by decide) rfl ?_
  refine j_iload_n X (pc' := 9) 1 dX5_puts_8 rfl rfl rfl ?_
  refine j_imulN X (a := 8) (b := i1) (pc' := 10) dX5_puts_9 rfl ?_
  refine j_iaddN X (a := 13) (b := (8 * i1)) (pc' := 11) dX5_puts_10 rfl ?_
  refine j_iload_n X (pc' := 12) 2 dX5_puts_11 rfl rfl rfl ?_
  refine j_iaddN X (a := (13 + (8 * i1))) (b := i2) (pc' := 13) dX5_puts_12 rfl ?_
  refine j_iload_n X (pc' := 14) 3 dX5_puts_13 rfl rfl rfl ?_
  refine j_iastN X (i := ((13 + (8 * i1)) + i2)) (pc' := 15) (S := up C 0 ((13 + (8 * i1)) + i2) x3) (fun S_14 => (wM cI h ar S_14)) 1 rfl rfl (by omega) (by decide) dX5_puts_14 rfl (fun S_14 eS_14 => ?_)
  exact j_vret X rfl dX5_puts_15
theorem c_X5_puts (l : Launch) (D : va_G) (cI cH cO : ClassId) (h : Nat) (ar : Nat → Nat) (C : Cst) (i1 : Nat) (i2 : Nat) (x3 : Int32) (hi1 : i1 < 8) (hi2 : i2 < 8) : MV l yX5_puts cX5_puts 4 0 D (tyl cI cH cO) [.ref h, .int (nI i1), .int (nI i2), .int x3] ((wM cI h ar C)) ((wM cI h ar (sX5_puts C i1 i2 x3))) := fun sz => j_start (fun below s => (KV below [.ref h, .int (nI i1), .int (nI i2), .int x3].toArray s D (tyl cI cH cO) ((wM cI h ar C)) (fun C9 => (wM cI h ar C9)))) (sX5_puts C i1 i2 x3) (by decide +kernel) rfl (Nat.le_of_ble_eq_true rfl) (fun below s hs _ => by subst hs; rfl) (fun p e s m below meth c _ X => b_X5_puts h ar C i1 i2 x3 hi1 hi2 X)
def sX5_damage (C : Cst) (x1 : Int32) : Int32 := ((x1 * x1) / (C 0 0))
set_option maxHeartbeats 4000000 in
set_option maxRecDepth 100000 in
theorem b_X5_damage {p : Program} {l : Launch} {e : Env} {s : State} {m : MethodId} {args : Array Value} {below : List Frame} {meth : Method} {c : Code} {D : va_G} {cI cH cO : ClassId} (h : Nat) (ar : Nat → Nat) (C : Cst) (x1 : Int32) (hd : ¬ C 0 0 = 0) (X : CX p s m args meth c cX5_damage 2 RX5 (some .int) D (tyl cI cH cO) (va_A ((wM cI h ar C)) s.heap.size)) : J p l e (rml 0) s m args below meth c 2 D (va_A ((wM cI h ar C)) s.heap.size) 0 0 (KP below args s D (tyl cI cH cO) ((wM cI h ar C))) (sX5_damage C x1) ((wM cI h ar C)) 0 [(0, .ref h), (1, .int x1)] [] := by
  unfold sX5_damage
  refine j_iload_n X (pc' := 1) 1 dX5_damage_0 rfl rfl rfl ?_
  refine j_iload_n X (pc' := 2) 1 dX5_damage_1 rfl rfl rfl ?_
  refine j_imul X (pc' := 3) dX5_damage_2 rfl ?_
  refine j_aload_n X (pc' := 4) 0 dX5_damage_3 rfl rfl rfl ?_
  refine j_get X inX5 rfl (pc' := 7) 0 0 q_fl_X5_7 (by decide) rfl rfl dX5_damage_4 rfl ?_
  refine j_iconst X (v := 0) (pc' := 8) dX5_damage_7 (by decide) rfl ?_
  refine j_ialdN X (i := 0) (pc' := 9) 1 rfl (by omega) (by decide) dX5_damage_8 rfl ?_
  refine j_idiv X (pc' := 10) dX5_damage_9 hd rfl ?_
  exact j_iretP X rfl rfl dX5_damage_10
theorem c_X5_damage (l : Launch) (D : va_G) (cI cH cO : ClassId) (h : Nat) (ar : Nat → Nat) (C : Cst) (x1 : Int32) (hd : ¬ C 0 0 = 0) : MI l yX5_damage cX5_damage 2 (some .int) 0 D (tyl cI cH cO) [.ref h, .int x1] ((wM cI h ar C)) (sX5_damage C x1) ((wM cI h ar C)) := fun sz => j_start (fun below s => (KP below [.ref h, .int x1].toArray s D (tyl cI cH cO) ((wM cI h ar C)))) (sX5_damage C x1) (by decide +kernel) rfl (Nat.le_of_ble_eq_true rfl) (fun below s hs _ => by subst hs; rfl) (fun p e s m below meth c _ X => b_X5_damage h ar C x1 hd X)
def sX5_placeOf (C : Cst) (x1 : Int32) : Int32 := (((x1 - ((C 0 6) % (C 0 5))) + (C 0 5)) % (C 0 5))
set_option maxHeartbeats 4000000 in
set_option maxRecDepth 100000 in
theorem b_X5_placeOf {p : Program} {l : Launch} {e : Env} {s : State} {m : MethodId} {args : Array Value} {below : List Frame} {meth : Method} {c : Code} {D : va_G} {cI cH cO : ClassId} (h : Nat) (ar : Nat → Nat) (C : Cst) (x1 : Int32) (hn : ¬ C 0 5 = 0) (X : CX p s m args meth c cX5_placeOf 2 RX5 (some .int) D (tyl cI cH cO) (va_A ((wM cI h ar C)) s.heap.size)) : J p l e (rml 0) s m args below meth c 2 D (va_A ((wM cI h ar C)) s.heap.size) 0 0 (KP below args s D (tyl cI cH cO) ((wM cI h ar C))) (sX5_placeOf C x1) ((wM cI h ar C)) 0 [(0, .ref h), (1, .int x1)] [] := by
  unfold sX5_placeOf
  refine j_iload_n X (pc' := 1) 1 dX5_placeOf_0 rfl rfl rfl ?_
  refine j_aload_n X (pc' := 2) 0 dX5_placeOf_1 rfl rfl rfl ?_
  refine j_get X inX5 rfl (pc' := 5) 0 0 q_fl_X5_7 (by decide) rfl rfl dX5_placeOf_2 rfl ?_
  refine j_bipush X (v := 6) (pc' := 7) dX5_placeOf_5 (by decide) rfl ?_
  refine j_ialdN X (i := 6) (pc' := 8) 1 rfl (by omega) (by decide) dX5_placeOf_7 rfl ?_
  refine j_aload_n X (pc' := 9) 0 dX5_placeOf_8 rfl rfl rfl ?_
  refine j_get X inX5 rfl (pc' := 12) 0 0 q_fl_X5_7 (by decide) rfl rfl dX5_placeOf_9 rfl ?_
  refine j_iconst X (v := 5) (pc' := 13) dX5_placeOf_12 (by decide) rfl ?_
  refine j_ialdN X (i := 5) (pc' := 14) 1 rfl (by omega) (by decide) dX5_placeOf_13 rfl ?_
  refine j_irem X (pc' := 15) dX5_placeOf_14 hn rfl ?_
  refine j_isub X (pc' := 16) dX5_placeOf_15 rfl ?_
  refine j_aload_n X (pc' := 17) 0 dX5_placeOf_16 rfl rfl rfl ?_
  refine j_get X inX5 rfl (pc' := 20) 0 0 q_fl_X5_7 (by decide) rfl rfl dX5_placeOf_17 rfl ?_
  refine j_iconst X (v := 5) (pc' := 21) dX5_placeOf_20 (by decide) rfl ?_
  refine j_ialdN X (i := 5) (pc' := 22) 1 rfl (by omega) (by decide) dX5_placeOf_21 rfl ?_
  refine j_iadd X (pc' := 23) dX5_placeOf_22 rfl ?_
  refine j_aload_n X (pc' := 24) 0 dX5_placeOf_23 rfl rfl rfl ?_
  refine j_get X inX5 rfl (pc' := 27) 0 0 q_fl_X5_7 (by decide) rfl rfl dX5_placeOf_24 rfl ?_
  refine j_iconst X (v := 5) (pc' := 28) dX5_placeOf_27 (by decide) rfl ?_
  refine j_ialdN X (i := 5) (pc' := 29) 1 rfl (by omega) (by decide) dX5_placeOf_28 rfl ?_
  refine j_irem X (pc' := 30) dX5_placeOf_29 hn rfl ?_
  exact j_iretP X rfl rfl dX5_placeOf_30
theorem c_X5_placeOf (l : Launch) (D : va_G) (cI cH cO : ClassId) (h : Nat) (ar : Nat → Nat) (C : Cst) (x1 : Int32) (hn : ¬ C 0 5 = 0) : MI l yX5_placeOf cX5_placeOf 2 (some .int) 0 D (tyl cI cH cO) [.ref h, .int x1] ((wM cI h ar C)) (sX5_placeOf C x1) ((wM cI h ar C)) := fun sz => j_start (fun below s => (KP below [.ref h, .int x1].toArray s D (tyl cI cH cO) ((wM cI h ar C)))) (sX5_placeOf C x1) (by decide +kernel) rfl (Nat.le_of_ble_eq_true rfl) (fun below s hs _ => by subst hs; rfl) (fun p e s m below meth c _ X => b_X5_placeOf h ar C x1 hn X)
def sX5_keeps (C : Cst) (x1 : Int32) (x2 : Int32) (x3 : Int32) (x4 : Int32) : Cst := ltv (fun (C : Cst) (t0 : Int32) => ltv (up C 0 12 t0) (fun (S_117 : Cst) => S_117)) (fun K117 => (ltv (fun (C : Cst) (x1 : Int32) (x2 : Int32) (x3 : Int32) (x4 : Int32) => ltv (up C 0 77 x1) (fun (S_45 : Cst) => ltv (up S_45 0 78 x2) (fun (S_53 : Cst) => ltv (up S_53 0 79 x3) (fun (S_61 : Cst) => ltv (up S_61 0 80 (S_61 0 7)) (fun (S_75 : Cst) => ltv (up S_75 0 81 x4) (fun (S_84 : Cst) => (if ¬ (S_84 0 12) = 6 then K117 S_84 ((S_84 0 12) + 1) else K117 S_84 6))))))) (fun K38 => (ltl6 (fun R4 (C : Cst) (x1 : Int32) (x2 : Int32) (x3 : Int32) (x4 : Int32) (i5 : Nat) => (if (nI i5) ≤ 4 then K38 C x1 x2 x3 x4 else ltv (up C 0 (77 + i5) (C 0 ((77 + i5) - 5))) (fun (S_31 : Cst) => R4 S_31 x1 x2 x3 x4 (i5 - 1)))) (fun (C : Cst) (x1 : Int32) (x2 : Int32) (x3 : Int32) (x4 : Int32) (i5 : Nat) => C) (fun L4 => (L4 26 C x1 x2 x3 x4 29))))))
set_option maxHeartbeats 4000000 in
set_option maxRecDepth 100000 in
theorem b_X5_keeps {p : Program} {l : Launch} {e : Env} {s : State} {m : MethodId} {args : Array Value} {below : List Frame} {meth : Method} {c : Code} {D : va_G} {cI cH cO : ClassId} {ws0 : va_W} (h : Nat) (ar : Nat → Nat) (C : Cst) (x1 : Int32) (x2 : Int32) (x3 : Int32) (x4 : Int32)  (X : CX p s m args meth c cX5_keeps 6 RX5 none D (tyl cI cH cO) (va_A ws0 s.heap.size)) : J p l e (rml 0) s m args below meth c 6 D (va_A ws0 s.heap.size) 0 0 (KV below args s D (tyl cI cH cO) ws0 (fun C9 => (wM cI h ar C9))) (sX5_keeps C x1 x2 x3 x4) ((wM cI h ar C)) 0 [(0, .ref h), (1, .int x1), (2, .int x2), (3, .int x3), (4, .int x4)] [] := by
  unfold sX5_keeps
  refine j_ltv (fun K117 eK117 => ?_)
  have hK117 : ∀ (C : Cst) (t0 : Int32) , J p l e (rml 0) s m args below meth c 6 D (va_A ws0 s.heap.size) 0 0 (KV below args s D (tyl cI cH cO) ws0 (fun C9 => (wM cI h ar C9))) (K117 C t0) ((wM cI h ar C)) 117 [] [.int t0, .int 12, .ref (ar 0)] := by
    intro C t0 
    rw [eK117]
    refine j_iastN X (i := 12) (pc' := 118) (S := up C 0 12 t0) (fun S_117 => (wM cI h ar S_117)) 1 rfl rfl (by omega) (by decide) dX5_keeps_117 rfl (fun S_117 eS_117 => ?_)
    exact j_vret X rfl dX5_keeps_118
  refine j_ltv (fun K38 eK38 => ?_)
  have hK38 : ∀ (C : Cst) (x1 : Int32) (x2 : Int32) (x3 : Int32) (x4 : Int32) , J p l e (rml 0) s m args below meth c 6 D (va_A ws0 s.heap.size) 0 0 (KV below args s D (tyl cI cH cO) ws0 (fun C9 => (wM cI h ar C9))) (K38 C x1 x2 x3 x4) ((wM cI h ar C)) 38 [(0, .ref h), (1, .int x1), (2, .int x2), (3, .int x3), (4, .int x4)] [] := by
    intro C x1 x2 x3 x4 
    rw [eK38]
    refine j_aload_n X (pc' := 39) 0 dX5_keeps_38 rfl rfl rfl ?_
    refine j_get X inX5 rfl (pc' := 42) 0 0 q_fl_X5_7 (by decide) rfl rfl dX5_keeps_39 rfl ?_
    refine j_bipush X (v := 77) (pc' := 44) dX5_keeps_42 (by decide) rfl ?_
    refine j_iload_n X (pc' := 45) 1 dX5_keeps_44 rfl rfl rfl ?_
    refine j_iastN X (i := 77) (pc' := 46) (S := up C 0 77 x1) (fun S_45 => (wM cI h ar S_45)) 1 rfl rfl (by omega) (by decide) dX5_keeps_45 rfl (fun S_45 eS_45 => ?_)
    refine j_aload_n X (pc' := 47) 0 dX5_keeps_46 rfl rfl rfl ?_
    refine j_get X inX5 rfl (pc' := 50) 0 0 q_fl_X5_7 (by decide) rfl rfl dX5_keeps_47 rfl ?_
    refine j_bipush X (v := 78) (pc' := 52) dX5_keeps_50 (by decide) rfl ?_
    refine j_iload_n X (pc' := 53) 2 dX5_keeps_52 rfl rfl rfl ?_
    refine j_iastN X (i := 78) (pc' := 54) (S := up S_45 0 78 x2) (fun S_53 => (wM cI h ar S_53)) 1 rfl rfl (by omega) (by decide) dX5_keeps_53 rfl (fun S_53 eS_53 => ?_)
    refine j_aload_n X (pc' := 55) 0 dX5_keeps_54 rfl rfl rfl ?_
    refine j_get X inX5 rfl (pc' := 58) 0 0 q_fl_X5_7 (by decide) rfl rfl dX5_keeps_55 rfl ?_
    refine j_bipush X (v := 79) (pc' := 60) dX5_keeps_58 (by decide) rfl ?_
    refine j_iload_n X (pc' := 61) 3 dX5_keeps_60 rfl rfl rfl ?_
    refine j_iastN X (i := 79) (pc' := 62) (S := up S_53 0 79 x3) (fun S_61 => (wM cI h ar S_61)) 1 rfl rfl (by omega) (by decide) dX5_keeps_61 rfl (fun S_61 eS_61 => ?_)
    refine j_aload_n X (pc' := 63) 0 dX5_keeps_62 rfl rfl rfl ?_
    refine j_get X inX5 rfl (pc' := 66) 0 0 q_fl_X5_7 (by decide) rfl rfl dX5_keeps_63 rfl ?_
    refine j_bipush X (v := 80) (pc' := 68) dX5_keeps_66 (by decide) rfl ?_
    refine j_aload_n X (pc' := 69) 0 dX5_keeps_68 rfl rfl rfl ?_
    refine j_get X inX5 rfl (pc' := 72) 0 0 q_fl_X5_7 (by decide) rfl rfl dX5_keeps_69 rfl ?_
    refine j_bipush X (v := 7) (pc' := 74) dX5_keeps_72 (by decide) rfl ?_
    refine j_ialdN X (i := 7) (pc' := 75) 1 rfl (by omega) (by decide) dX5_keeps_74 rfl ?_
    refine j_iastN X (i := 80) (pc' := 76) (S := up S_61 0 80 (S_61 0 7)) (fun S_75 => (wM cI h ar S_75)) 1 rfl rfl (by omega) (by decide) dX5_keeps_75 rfl (fun S_75 eS_75 => ?_)
    refine j_aload_n X (pc' := 77) 0 dX5_keeps_76 rfl rfl rfl ?_
    refine j_get X inX5 rfl (pc' := 80) 0 0 q_fl_X5_7 (by decide) rfl rfl dX5_keeps_77 rfl ?_
    refine j_bipush X (v := 81) (pc' := 82) dX5_keeps_80 (by decide) rfl ?_
    refine j_iload X (pc' := 84) 4 dX5_keeps_82 rfl rfl ?_
    refine j_iastN X (i := 81) (pc' := 85) (S := up S_75 0 81 x4) (fun S_84 => (wM cI h ar S_84)) 1 rfl rfl (by omega) (by decide) dX5_keeps_84 rfl (fun S_84 eS_84 => ?_)
    refine j_aload_n X (pc' := 86) 0 dX5_keeps_85 rfl rfl rfl ?_
    refine j_get X inX5 rfl (pc' := 89) 0 0 q_fl_X5_7 (by decide) rfl rfl dX5_keeps_86 rfl ?_
    refine j_bipush X (v := 12) (pc' := 91) dX5_keeps_89 (by decide) rfl ?_
    refine j_aload_n X (pc' := 92) 0 dX5_keeps_91 rfl rfl rfl ?_
    refine j_get X inX5 rfl (pc' := 95) 0 0 q_fl_X5_7 (by decide) rfl rfl dX5_keeps_92 rfl ?_
    refine j_bipush X (v := 12) (pc' := 97) dX5_keeps_95 (by decide) rfl ?_
    refine j_ialdN X (i := 12) (pc' := 98) 1 rfl (by omega) (by decide) dX5_keeps_97 rfl ?_
    refine j_bipush X (v := 6) (pc' := 100) dX5_keeps_98 (by decide) rfl ?_
    refine j_icmp_ne X (tgt := 108) (pc' := 103) dX5_keeps_100 (by decide) rfl (fun c_100 => ?_) (fun c_100 => ?_)
    · refine j_aload_n X (pc' := 109) 0 dX5_keeps_108 rfl rfl rfl ?_
      refine j_get X inX5 rfl (pc' := 112) 0 0 q_fl_X5_7 (by decide) rfl rfl dX5_keeps_109 rfl ?_
      refine j_bipush X (v := 12) (pc' := 114) dX5_keeps_112 (by decide) rfl ?_
      refine j_ialdN X (i := 12) (pc' := 115) 1 rfl (by omega) (by decide) dX5_keeps_114 rfl ?_
      refine j_iconst X (v := 1) (pc' := 116) dX5_keeps_115 (by decide) rfl ?_
      refine j_iadd X (pc' := 117) dX5_keeps_116 rfl ?_
      refine j_lv [] (lv' := []) rfl ?_
      exact hK117 _ _ 
    · refine j_bipush X (v := 6) (pc' := 105) dX5_keeps_103 (by decide) rfl ?_
      refine j_goto X (pc' := 117) dX5_keeps_105 (by decide) ?_
      refine j_lv [] (lv' := []) rfl ?_
      exact hK117 _ _ 
  refine j_ltl6 (fun L4 eL4 => ?_)
  have hL4 : ∀ (n4 : Nat) (C : Cst) (x1 : Int32) (x2 : Int32) (x3 : Int32) (x4 : Int32) (i5 : Nat) (hi : i5 ≤ 29) (hge : 4 ≤ i5) (hfu : i5 < 4 + n4), J p l e (rml 0) s m args below meth c 6 D (va_A ws0 s.heap.size) 0 0 (KV below args s D (tyl cI cH cO) ws0 (fun C9 => (wM cI h ar C9))) (L4 n4 C x1 x2 x3 x4 i5) ((wM cI h ar C)) 4 [(0, .ref h), (1, .int x1), (2, .int x2), (3, .int x3), (4, .int x4), (5, .int (nI i5))] [] := by
    intro n4
    induction n4 with
    | zero =>
      intro C x1 x2 x3 x4 i5 hi hge hfu
      exact absurd hfu (by omega)
    | succ n4 ih4 =>
      intro C x1 x2 x3 x4 i5 hi hge hfu
      rw [eL4]
      refine j_iload X (pc' := 6) 5 dX5_keeps_4 rfl rfl ?_
      refine j_iconst X (v := 4) (pc' := 7) dX5_keeps_6 (by decide) rfl ?_
      refine j_icmp_le X (tgt := 38) (pc' := 10) dX5_keeps_7 (by decide) rfl (fun c_7 => ?_) (fun c_7 => ?_)
      · have f_7 : i5 ≤ 4 := (nI_leI (a := i5) (b := 4) (by omega) (by omega)).mp c_7
        refine j_lv [0, 1, 2, 3, 4] (lv' := [(0, .ref h), (1, .int x1), (2, .int x2), (3, .int x3), (4, .int x4)]) rfl ?_
        exact hK38 _ _ _ _ _ 
      · have f_7 : ¬ (i5 ≤ 4) := fun h => c_7 ((nI_leI (a := i5) (b := 4) (by omega) (by omega)).mpr h)
        refine j_aload_n X (pc' := 11) 0 dX5_keeps_10 rfl rfl rfl ?_
        refine j_get X inX5 rfl (pc' := 14) 0 0 q_fl_X5_7 (by decide) rfl rfl dX5_keeps_11 rfl ?_
        refine j_bipush X (v := 77) (pc' := 16) dX5_keeps_14 (by decide) rfl ?_
        refine j_iload X (pc' := 18) 5 dX5_keeps_16 rfl rfl ?_
        refine j_iaddN X (a := 77) (b := i5) (pc' := 19) dX5_keeps_18 rfl ?_
        refine j_aload_n X (pc' := 20) 0 dX5_keeps_19 rfl rfl rfl ?_
        refine j_get X inX5 rfl (pc' := 23) 0 0 q_fl_X5_7 (by decide) rfl rfl dX5_keeps_20 rfl ?_
        refine j_bipush X (v := 77) (pc' := 25) dX5_keeps_23 (by decide) rfl ?_
        refine j_iload X (pc' := 27) 5 dX5_keeps_25 rfl rfl ?_
        refine j_iaddN X (a := 77) (b := i5) (pc' := 28) dX5_keeps_27 rfl ?_
        refine j_iconst X (v := 5) (pc' := 29) dX5_keeps_28 (by decide) rfl ?_
        refine j_isubN X (a := (77 + i5)) (b := 5) (pc' := 30) dX5_keeps_29 (by omega) rfl ?_
        refine j_ialdN X (i := ((77 + i5) - 5)) (pc' := 31) 1 rfl (by omega) (by decide) dX5_keeps_30 rfl ?_
        refine j_iastN X (i := (77 + i5)) (pc' := 32) (S := up C 0 (77 + i5) (C 0 ((77 + i5) - 5))) (fun S_31 => (wM cI h ar S_31)) 1 rfl rfl (by omega) (by decide) dX5_keeps_31 rfl (fun S_31 eS_31 => ?_)
        refine j_iinc X (v := (nI (i5 - 1))) (lv' := [(0, .ref h), (1, .int x1), (2, .int x2), (3, .int x3), (4, .int x4), (5, .int (nI (i5 - 1)))]) (q := 5) (pc' := 35) [1, 2, 3, 4, 5, 0] dX5_keeps_32 rfl (nI_sb (by omega)) (by decide) rfl rfl ?_
        refine j_goto X (pc' := 4) dX5_keeps_35 (by decide) ?_
        refine j_lv [0, 1, 2, 3, 4, 5] (lv' := [(0, .ref h), (1, .int x1), (2, .int x2), (3, .int x3), (4, .int x4), (5, .int (nI (i5 - 1)))]) rfl ?_
        exact ih4 _ _ _ _ _ _ (by first | omega | assumption | decide | (subst_vars; first | assumption | omega)) (by first | omega | assumption | decide | (subst_vars; first | assumption | omega)) (by first | omega | assumption | decide | (subst_vars; first | assumption | omega))
  refine j_bipush X (v := 29) (pc' := 2) dX5_keeps_0 (by decide) rfl ?_
  refine j_istore X (lv' := [(0, .ref h), (1, .int x1), (2, .int x2), (3, .int x3), (4, .int x4), (5, .int 29)]) (pc' := 4) [1, 2, 3, 4, 5, 0] dX5_keeps_2 (by decide) rfl rfl ?_
  refine j_lv [0, 1, 2, 3, 4, 5] (lv' := [(0, .ref h), (1, .int x1), (2, .int x2), (3, .int x3), (4, .int x4), (5, .int 29)]) rfl ?_
  exact hL4 _ _ _ _ _ _ _ (by first | omega | assumption | decide | (subst_vars; first | assumption | omega)) (by first | omega | assumption | decide | (subst_vars; first | assumption | omega)) (by first | omega | assumption | decide | (subst_vars; first | assumption | omega))
theorem c_X5_keeps (l : Launch) (D : va_G) (cI cH cO : ClassId) (h : Nat) (ar : Nat → Nat) (C : Cst) (x1 : Int32) (x2 : Int32) (x3 : Int32) (x4 : Int32)  : MV l yX5_keeps cX5_keeps 6 0 D (tyl cI cH cO) [.ref h, .int x1, .int x2, .int x3, .int x4] ((wM cI h ar C)) ((wM cI h ar (sX5_keeps C x1 x2 x3 x4))) := fun sz => j_start (fun below s => (KV below [.ref h, .int x1, .int x2, .int x3, .int x4].toArray s D (tyl cI cH cO) ((wM cI h ar C)) (fun C9 => (wM cI h ar C9)))) (sX5_keeps C x1 x2 x3 x4) (by decide +kernel) rfl (Nat.le_of_ble_eq_true rfl) (fun below s hs _ => by subst hs; rfl) (fun p e s m below meth c _ X => b_X5_keeps h ar C x1 x2 x3 x4  X)
def sX5_changes (C : Cst) : Cst := ltv (fun (C : Cst) => ltv (up C 3 0 ((C 3 0) + 1)) (fun (S_97 : Cst) => S_97)) (fun K90 => (ltl2 (fun R58 (C : Cst) (i1 : Nat) => (if 107 ≤ (nI i1) then K90 C else ltv (up C 1 ((107 * (C 3 0)) + (nI i1)).toNatClampNeg (C 0 i1)) (fun (S_83 : Cst) => R58 S_83 (i1 + 1)))) (fun (C : Cst) (i1 : Nat) => C) (fun L58 => (ltv (fun (C : Cst) => L58 108 C 0) (fun K56 => (ltv (fun (C : Cst) => ltv (up C 3 0 ((C 3 0) - 1)) (fun (S_53 : Cst) => K56 S_53)) (fun K46 => (ltl2 (fun R18 (C : Cst) (i1 : Nat) => (if 321 ≤ (nI i1) then K46 C else ltv (up C 1 i1 (C 1 (i1 + 107))) (fun (S_39 : Cst) => R18 S_39 (i1 + 1)))) (fun (C : Cst) (i1 : Nat) => C) (fun L18 => ((if (C 4 0) = 0 then (if ¬ (C 3 0) = 4 then K56 C else L18 322 C 0) else C)))))))))))
set_option maxHeartbeats 4000000 in
set_option maxRecDepth 100000 in
theorem b_X5_changes {p : Program} {l : Launch} {e : Env} {s : State} {m : MethodId} {args : Array Value} {below : List Frame} {meth : Method} {c : Code} {D : va_G} {cI cH cO : ClassId} {ws0 : va_W} (h : Nat) (ar : Nat → Nat) (C : Cst) (hIC : IM C) (X : CX p s m args meth c cX5_changes 2 RX5 none D (tyl cI cH cO) (va_A ws0 s.heap.size)) : J p l e (rml 0) s m args below meth c 2 D (va_A ws0 s.heap.size) 0 0 (KV below args s D (tyl cI cH cO) ws0 (fun C9 => (wM cI h ar C9))) (sX5_changes C) ((wM cI h ar C)) 0 [(0, .ref h)] [] := by
  unfold sX5_changes
  refine j_ltv (fun K90 eK90 => ?_)
  have hK90 : ∀ (C : Cst) (hIC : IM C) (h4 : (C 3 0).toInt ≤ 3), J p l e (rml 0) s m args below meth c 2 D (va_A ws0 s.heap.size) 0 0 (KV below args s D (tyl cI cH cO) ws0 (fun C9 => (wM cI h ar C9))) (K90 C) ((wM cI h ar C)) 90 [(0, .ref h)] [] := by
    intro C hIC h4
    rw [eK90]
    refine j_aload_n X (pc' := 91) 0 dX5_changes_90 rfl rfl rfl ?_
    refine j_dup X (pc' := 92) dX5_changes_91 rfl rfl ?_
    refine j_get X inX5 rfl (pc' := 95) 0 3 q_fl_X5_35 (by decide) rfl rfl dX5_changes_92 rfl ?_
    refine j_iconst X (v := 1) (pc' := 96) dX5_changes_95 (by decide) rfl ?_
    refine j_iadd X (pc' := 97) dX5_changes_96 rfl ?_
    refine j_put X inX5 rfl (pc' := 100) tyX5_ok nmX5 (S := up C 3 0 ((C 3 0) + 1)) (fun S_97 => (wM cI h ar S_97)) 0 3 q_fl_X5_35 (by decide) rfl rfl rfl rfl (Nat.le_of_ble_eq_true rfl) rfl dX5_changes_97 rfl (fun S_97 eS_97 => ?_)
    have hIS_97 : IM S_97 := by rw [eS_97]; exact IM_inc3 h4 hIC
    exact j_vret X rfl dX5_changes_100
  refine j_ltl2 (fun L58 eL58 => ?_)
  have hL58 : ∀ (n58 : Nat) (C : Cst) (i1 : Nat) (hIC : IM C) (hi : i1 ≤ 107) (hfu : 108 ≤ i1 + n58) (h4 : (C 3 0).toInt ≤ 3), J p l e (rml 0) s m args below meth c 2 D (va_A ws0 s.heap.size) 0 0 (KV below args s D (tyl cI cH cO) ws0 (fun C9 => (wM cI h ar C9))) (L58 n58 C i1) ((wM cI h ar C)) 58 [(0, .ref h), (1, .int (nI i1))] [] := by
    intro n58
    induction n58 with
    | zero =>
      intro C i1 hIC hi hfu h4
      exact absurd hfu (by omega)
    | succ n58 ih58 =>
      intro C i1 hIC hi hfu h4
      rw [eL58]
      refine j_iload_n X (pc' := 59) 1 dX5_changes_58 rfl rfl rfl ?_
      refine j_bipush X (v := 107) (pc' := 61) dX5_changes_59 (by decide) rfl ?_
      refine j_icmp_ge X (tgt := 90) (pc' := 64) dX5_changes_61 (by decide) rfl (fun c_61 => ?_) (fun c_61 => ?_)
      · have f_61 : 107 ≤ i1 := (nI_leI (a := 107) (b := i1) (by omega) (by omega)).mp c_61
        refine j_lv [0] (lv' := [(0, .ref h)]) rfl ?_
        exact hK90 _ hIC (by first | omega | assumption | decide | exact Decidable.byContradiction c_13 | (subst_vars; first | assumption | omega))
      · have f_61 : ¬ (107 ≤ i1) := fun h => c_61 ((nI_leI (a := 107) (b := i1) (by omega) (by omega)).mpr h)
        refine j_aload_n X (pc' := 65) 0 dX5_changes_64 rfl rfl rfl ?_
        refine j_get X inX5 rfl (pc' := 68) 0 1 q_fl_X5_13 (by decide) rfl rfl dX5_changes_65 rfl ?_
        refine j_bipush X (v := 107) (pc' := 70) dX5_changes_68 (by decide) rfl ?_
        refine j_aload_n X (pc' := 71) 0 dX5_changes_70 rfl rfl rfl ?_
        refine j_get X inX5 rfl (pc' := 74) 0 3 q_fl_X5_35 (by decide) rfl rfl dX5_changes_71 rfl ?_
        refine j_imul X (pc' := 75) dX5_changes_74 rfl ?_
        refine j_iload_n X (pc' := 76) 1 dX5_changes_75 rfl rfl rfl ?_
        refine j_iadd X (pc' := 77) dX5_changes_76 rfl ?_
        refine j_aload_n X (pc' := 78) 0 dX5_changes_77 rfl rfl rfl ?_
        refine j_get X inX5 rfl (pc' := 81) 0 0 q_fl_X5_7 (by decide) rfl rfl dX5_changes_78 rfl ?_
        refine j_iload_n X (pc' := 82) 1 dX5_changes_81 rfl rfl rfl ?_
        refine j_ialdN X (i := i1) (pc' := 83) 1 rfl (by omega) (by decide) dX5_changes_82 rfl ?_
        refine j_iast X (pc' := 84) (S := up C 1 ((107 * (C 3 0)) + (nI i1)).toNatClampNeg (C 0 i1)) (fun S_83 => (wM cI h ar S_83)) 2 rfl rfl (ch_in h4 hIC.2.2.2.2.2.2.1 f_61) dX5_changes_83 rfl (fun S_83 eS_83 => ?_)
        have hIS_83 : IM S_83 := by rw [eS_83]; exact IM_k (by decide) (by decide) (by decide) hIC
        refine j_iinc X (v := (nI (i1 + 1))) (lv' := [(0, .ref h), (1, .int (nI (i1 + 1)))]) (q := 1) (pc' := 87) [1, 0] dX5_changes_84 rfl (nI_1 i1) (by decide) rfl rfl ?_
        refine j_goto X (pc' := 58) dX5_changes_87 (by decide) ?_
        refine j_lv [0, 1] (lv' := [(0, .ref h), (1, .int (nI (i1 + 1)))]) rfl ?_
        exact ih58 _ _ hIS_83 (by first | omega | assumption | decide | exact Decidable.byContradiction c_13 | (subst_vars; first | assumption | omega)) (by first | omega | assumption | decide | exact Decidable.byContradiction c_13 | (subst_vars; first | assumption | omega)) (by first | omega | assumption | decide | exact Decidable.byContradiction c_13 | (subst_vars; first | assumption | omega))
  refine j_ltv (fun K56 eK56 => ?_)
  have hK56 : ∀ (C : Cst) (hIC : IM C) (h4 : (C 3 0).toInt ≤ 3), J p l e (rml 0) s m args below meth c 2 D (va_A ws0 s.heap.size) 0 0 (KV below args s D (tyl cI cH cO) ws0 (fun C9 => (wM cI h ar C9))) (K56 C) ((wM cI h ar C)) 56 [(0, .ref h)] [] := by
    intro C hIC h4
    rw [eK56]
    refine j_iconst X (v := 0) (pc' := 57) dX5_changes_56 (by decide) rfl ?_
    refine j_istore_n X (lv' := [(0, .ref h), (1, .int 0)]) (pc' := 58) [1, 0] dX5_changes_57 rfl (by decide) rfl rfl ?_
    refine j_lv [0, 1] (lv' := [(0, .ref h), (1, .int 0)]) rfl ?_
    exact hL58 _ _ _ hIC (by first | omega | assumption | decide | exact Decidable.byContradiction c_13 | (subst_vars; first | assumption | omega)) (by first | omega | assumption | decide | exact Decidable.byContradiction c_13 | (subst_vars; first | assumption | omega)) (by first | omega | assumption | decide | exact Decidable.byContradiction c_13 | (subst_vars; first | assumption | omega))
  refine j_ltv (fun K46 eK46 => ?_)
  have hK46 : ∀ (C : Cst) (hIC : IM C) (h4 : C 3 0 = 4), J p l e (rml 0) s m args below meth c 2 D (va_A ws0 s.heap.size) 0 0 (KV below args s D (tyl cI cH cO) ws0 (fun C9 => (wM cI h ar C9))) (K46 C) ((wM cI h ar C)) 46 [(0, .ref h)] [] := by
    intro C hIC h4
    rw [eK46]
    refine j_aload_n X (pc' := 47) 0 dX5_changes_46 rfl rfl rfl ?_
    refine j_dup X (pc' := 48) dX5_changes_47 rfl rfl ?_
    refine j_get X inX5 rfl (pc' := 51) 0 3 q_fl_X5_35 (by decide) rfl rfl dX5_changes_48 rfl ?_
    refine j_iconst X (v := 1) (pc' := 52) dX5_changes_51 (by decide) rfl ?_
    refine j_isub X (pc' := 53) dX5_changes_52 rfl ?_
    refine j_put X inX5 rfl (pc' := 56) tyX5_ok nmX5 (S := up C 3 0 ((C 3 0) - 1)) (fun S_53 => (wM cI h ar S_53)) 0 3 q_fl_X5_35 (by decide) rfl rfl rfl rfl (Nat.le_of_ble_eq_true rfl) rfl dX5_changes_53 rfl (fun S_53 eS_53 => ?_)
    have hIS_53 : IM S_53 := by rw [eS_53]; exact IM_dec3 h4 hIC
    refine j_lv [0] (lv' := [(0, .ref h)]) rfl ?_
    exact hK56 _ hIS_53 (by rw [eS_53]; exact dec3_le h4)
  refine j_ltl2 (fun L18 eL18 => ?_)
  have hL18 : ∀ (n18 : Nat) (C : Cst) (i1 : Nat) (hIC : IM C) (hi : i1 ≤ 321) (hfu : 322 ≤ i1 + n18) (h4 : C 3 0 = 4), J p l e (rml 0) s m args below meth c 2 D (va_A ws0 s.heap.size) 0 0 (KV below args s D (tyl cI cH cO) ws0 (fun C9 => (wM cI h ar C9))) (L18 n18 C i1) ((wM cI h ar C)) 18 [(0, .ref h), (1, .int (nI i1))] [] := by
    intro n18
    induction n18 with
    | zero =>
      intro C i1 hIC hi hfu h4
      exact absurd hfu (by omega)
    | succ n18 ih18 =>
      intro C i1 hIC hi hfu h4
      rw [eL18]
      refine j_iload_n X (pc' := 19) 1 dX5_changes_18 rfl rfl rfl ?_
      refine j_sipush X (v := 321) (pc' := 22) dX5_changes_19 (by decide) rfl ?_
      refine j_icmp_ge X (tgt := 46) (pc' := 25) dX5_changes_22 (by decide) rfl (fun c_22 => ?_) (fun c_22 => ?_)
      · have f_22 : 321 ≤ i1 := (nI_leI (a := 321) (b := i1) (by omega) (by omega)).mp c_22
        refine j_lv [0] (lv' := [(0, .ref h)]) rfl ?_
        exact hK46 _ hIC (by first | omega | assumption | decide | exact Decidable.byContradiction c_13 | (subst_vars; first | assumption | omega))
      · have f_22 : ¬ (321 ≤ i1) := fun h => c_22 ((nI_leI (a := 321) (b := i1) (by omega) (by omega)).mpr h)
        refine j_aload_n X (pc' := 26) 0 dX5_changes_25 rfl rfl rfl ?_
        refine j_get X inX5 rfl (pc' := 29) 0 1 q_fl_X5_13 (by decide) rfl rfl dX5_changes_26 rfl ?_
        refine j_iload_n X (pc' := 30) 1 dX5_changes_29 rfl rfl rfl ?_
        refine j_aload_n X (pc' := 31) 0 dX5_changes_30 rfl rfl rfl ?_
        refine j_get X inX5 rfl (pc' := 34) 0 1 q_fl_X5_13 (by decide) rfl rfl dX5_changes_31 rfl ?_
        refine j_iload_n X (pc' := 35) 1 dX5_changes_34 rfl rfl rfl ?_
        refine j_bipush X (v := 107) (pc' := 37) dX5_changes_35 (by decide) rfl ?_
        refine j_iaddN X (a := i1) (b := 107) (pc' := 38) dX5_changes_37 rfl ?_
        refine j_ialdN X (i := (i1 + 107)) (pc' := 39) 2 rfl (by omega) (by decide) dX5_changes_38 rfl ?_
        refine j_iastN X (i := i1) (pc' := 40) (S := up C 1 i1 (C 1 (i1 + 107))) (fun S_39 => (wM cI h ar S_39)) 2 rfl rfl (by omega) (by decide) dX5_changes_39 rfl (fun S_39 eS_39 => ?_)
        have hIS_39 : IM S_39 := by rw [eS_39]; exact IM_k (by decide) (by decide) (by decide) hIC
        refine j_iinc X (v := (nI (i1 + 1))) (lv' := [(0, .ref h), (1, .int (nI (i1 + 1)))]) (q := 1) (pc' := 43) [1, 0] dX5_changes_40 rfl (nI_1 i1) (by decide) rfl rfl ?_
        refine j_goto X (pc' := 18) dX5_changes_43 (by decide) ?_
        refine j_lv [0, 1] (lv' := [(0, .ref h), (1, .int (nI (i1 + 1)))]) rfl ?_
        exact ih18 _ _ hIS_39 (by first | omega | assumption | decide | exact Decidable.byContradiction c_13 | (subst_vars; first | assumption | omega)) (by first | omega | assumption | decide | exact Decidable.byContradiction c_13 | (subst_vars; first | assumption | omega)) (by first | omega | assumption | decide | exact Decidable.byContradiction c_13 | (subst_vars; first | assumption | omega))
  refine j_aload_n X (pc' := 1) 0 dX5_changes_0 rfl rfl rfl ?_
  refine j_get X inX5 rfl (pc' := 4) 0 4 q_fl_X5_31 (by decide) rfl rfl dX5_changes_1 rfl ?_
  refine j_if_eq X (tgt := 8) (pc' := 7) dX5_changes_4 (by decide) rfl (fun c_4 => ?_) (fun c_4 => ?_)
  · refine j_aload_n X (pc' := 9) 0 dX5_changes_8 rfl rfl rfl ?_
    refine j_get X inX5 rfl (pc' := 12) 0 3 q_fl_X5_35 (by decide) rfl rfl dX5_changes_9 rfl ?_
    refine j_iconst X (v := 4) (pc' := 13) dX5_changes_12 (by decide) rfl ?_
    refine j_icmp_ne X (tgt := 56) (pc' := 16) dX5_changes_13 (by decide) rfl (fun c_13 => ?_) (fun c_13 => ?_)
    · refine j_lv [0] (lv' := [(0, .ref h)]) rfl ?_
      exact hK56 _ hIC (i32_ne4 hIC.2.2.2.2.2.2.2.1 c_13)
    · refine j_iconst X (v := 0) (pc' := 17) dX5_changes_16 (by decide) rfl ?_
      refine j_istore_n X (lv' := [(0, .ref h), (1, .int 0)]) (pc' := 18) [1, 0] dX5_changes_17 rfl (by decide) rfl rfl ?_
      refine j_lv [0, 1] (lv' := [(0, .ref h), (1, .int 0)]) rfl ?_
      exact hL18 _ _ _ hIC (by first | omega | assumption | decide | exact Decidable.byContradiction c_13 | (subst_vars; first | assumption | omega)) (by first | omega | assumption | decide | exact Decidable.byContradiction c_13 | (subst_vars; first | assumption | omega)) (by first | omega | assumption | decide | exact Decidable.byContradiction c_13 | (subst_vars; first | assumption | omega))
  · exact j_vret X rfl dX5_changes_7
theorem c_X5_changes (l : Launch) (D : va_G) (cI cH cO : ClassId) (h : Nat) (ar : Nat → Nat) (C : Cst) (hIC : IM C) : MV l yX5_changes cX5_changes 2 0 D (tyl cI cH cO) [.ref h] ((wM cI h ar C)) ((wM cI h ar (sX5_changes C))) := fun sz => j_start (fun below s => (KV below [.ref h].toArray s D (tyl cI cH cO) ((wM cI h ar C)) (fun C9 => (wM cI h ar C9)))) (sX5_changes C) (by decide +kernel) rfl (Nat.le_of_ble_eq_true rfl) (fun below s hs _ => by subst hs; rfl) (fun p e s m below meth c _ X => b_X5_changes h ar C hIC X)
end
section
theorem mem_in {C : Cst} {x r : Int32} (he : r = sX5_isMember C x) (hc : ¬ r = 0) (h8 : (C 0 5).toInt ≤ 8) : vp_in x 8 := by
  subst he
  unfold sX5_isMember at hc
  split at hc
  · exact absurd rfl hc
  · rename_i h1
    split at hc
    · exact absurd rfl hc
    · rename_i h2
      have h3 := Int32.not_le.mp h2
      rw [Int32.lt_iff_toInt_lt] at h3
      exact vp_in_iff.mpr ⟨i32_nn h1, by omega⟩
theorem mem_nz {C : Cst} {x r : Int32} (he : r = sX5_isMember C x) (hc : ¬ r = 0) : ¬ C 0 5 = 0 := by
  subst he
  unfold sX5_isMember at hc
  split at hc
  · exact absurd rfl hc
  · rename_i h1
    split at hc
    · exact absurd rfl hc
    · rename_i h2
      intro h0
      rw [h0] at h2
      exact h2 (Int32.not_lt.mp h1)
theorem in_of2 {x r : Int32} {a b : Nat} (he : r = sX5_in x (nI a) (nI b)) (hc : ¬ r = 0) (ha : a < 2 ^ 31) (hb : b < 2 ^ 31) : ∃ j : Nat, a ≤ j ∧ j ≤ b ∧ x = nI j := by
  subst he
  unfold sX5_in at hc
  split at hc
  · exact absurd rfl hc
  · rename_i h1
    split at hc
    · exact absurd rfl hc
    · rename_i h2
      have g1 := Int32.not_lt.mp h1
      have g2 := Int32.not_lt.mp h2
      rw [Int32.le_iff_toInt_le, nI_toInt ha] at g1
      obtain ⟨j, hj, rfl⟩ := nI_nneg (show 0 ≤ x.toInt by omega)
      rw [Int32.le_iff_toInt_le, nI_toInt hb, nI_toInt hj] at g2
      rw [nI_toInt hj] at g1
      exact ⟨j, by omega, by omega, rfl⟩
theorem in_of {x r : Int32} {N : Nat} (he : r = sX5_in x 0 (nI N)) (hc : ¬ r = 0) (hN : N + 1 < 2 ^ 31) : ∃ j : Nat, j < N + 1 ∧ x = nI j := by
  obtain ⟨j, -, h2, h3⟩ := in_of2 (a := 0) he hc (by decide) (by omega)
  exact ⟨j, by omega, h3⟩
theorem so_in {x y : Int32} (h1 : ¬ x < 0) (h2 : x < y) (h6 : y.toInt ≤ 6) : ∃ j : Nat, j < 6 ∧ x = nI j := by
  obtain ⟨j, hj, rfl⟩ := nI_of h1
  rw [Int32.lt_iff_toInt_lt, nI_toInt hj] at h2
  exact ⟨j, by omega, rfl⟩
end
section
def sX5_sum (C : Cst) (i1 : Nat) : Int32 := ltl3 (fun R4 (i1 : Nat) (x2 : Int32) (i3 : Nat) => (if (C 0 5) ≤ (nI i3) then x2 else ltv (sX5_of C i3 i1) (fun (r_18 : Int32) => ltv (x2 + r_18) (fun (v2_22 : Int32) => R4 i1 v2_22 (i3 + 1))))) (fun (i1 : Nat) (x2 : Int32) (i3 : Nat) => 0) (fun L4 => (L4 9 i1 0 0))
set_option maxHeartbeats 4000000 in
set_option maxRecDepth 100000 in
theorem b_X5_sum {p : Program} {l : Launch} {e : Env} {s : State} {m : MethodId} {args : Array Value} {below : List Frame} {meth : Method} {c : Code} {D : va_G} {cI cH cO : ClassId} (h : Nat) (ar : Nat → Nat) (C : Cst) (i1 : Nat) (hIC : IM C) (hi1 : i1 < 8) (X : CX p s m args meth c cX5_sum 4 RX5 (some .int) D (tyl cI cH cO) (va_A ((wM cI h ar C)) s.heap.size)) : J p l e (rml 1) s m args below meth c 4 D (va_A ((wM cI h ar C)) s.heap.size) 0 0 (KP below args s D (tyl cI cH cO) ((wM cI h ar C))) (sX5_sum C i1) ((wM cI h ar C)) 0 [(0, .ref h), (1, .int (nI i1))] [] := by
  unfold sX5_sum
  refine j_ltl3 (fun L4 eL4 => ?_)
  have hL4 : ∀ (n4 : Nat) (i1 : Nat) (x2 : Int32) (i3 : Nat) (hi : i3 ≤ 8) (hfu : 9 ≤ i3 + n4) (hi1 : i1 < 8), J p l e (rml 1) s m args below meth c 4 D (va_A ((wM cI h ar C)) s.heap.size) 0 0 (KP below args s D (tyl cI cH cO) ((wM cI h ar C))) (L4 n4 i1 x2 i3) ((wM cI h ar C)) 4 [(0, .ref h), (1, .int (nI i1)), (2, .int x2), (3, .int (nI i3))] [] := by
    intro n4
    induction n4 with
    | zero =>
      intro i1 x2 i3 hi hfu hi1
      exact absurd hfu (by omega)
    | succ n4 ih4 =>
      intro i1 x2 i3 hi hfu hi1
      rw [eL4]
      refine j_iload_n X (pc' := 5) 3 dX5_sum_4 rfl rfl rfl ?_
      refine j_aload_n X (pc' := 6) 0 dX5_sum_5 rfl rfl rfl ?_
      refine j_get X inX5 rfl (pc' := 9) 0 0 q_fl_X5_7 (by decide) rfl rfl dX5_sum_6 rfl ?_
      refine j_iconst X (v := 5) (pc' := 10) dX5_sum_9 (by decide) rfl ?_
      refine j_ialdN X (i := 5) (pc' := 11) 1 rfl (by omega) (by decide) dX5_sum_10 rfl ?_
      refine j_icmp_ge X (tgt := 29) (pc' := 14) dX5_sum_11 (by decide) rfl (fun c_11 => ?_) (fun c_11 => ?_)
      · refine j_iload_n X (pc' := 30) 2 dX5_sum_29 rfl rfl rfl ?_
        exact j_iretP X rfl rfl dX5_sum_30
      · have hb_11 : i3 < 8 := i32_lt8 c_11 hIC.2.1 (by omega)
        refine j_iload_n X (pc' := 15) 2 dX5_sum_14 rfl rfl rfl ?_
        refine j_aload_n X (pc' := 16) 0 dX5_sum_15 rfl rfl rfl ?_
        refine j_iload_n X (pc' := 17) 3 dX5_sum_16 rfl rfl rfl ?_
        refine j_iload_n X (pc' := 18) 1 dX5_sum_17 rfl rfl rfl ?_
        refine j_callVi X (pc' := 21) (As := [.int (nI i3), .int (nI i1)]) (rest := [.int x2]) (c_X5_of l D cI cH cO h ar C i3 i1 (by first | omega | assumption | decide | (subst_vars; first | assumption | omega)) (by first | omega | assumption | decide | (subst_vars; first | assumption | omega))) wv_X5_39 ⟨0, 5, _, _, rfl, rfl, rfl⟩ ⟨by decide, by decide, by decide, by decide⟩ rfl rfl (Nat.le_of_ble_eq_true rfl) dX5_sum_18 rfl ?_
        refine j_topL (fun r_18 er_18 => ?_)
        refine j_iadd X (pc' := 22) dX5_sum_21 rfl ?_
        refine j_istore_nL X (fun v2_22 => [(0, .ref h), (1, .int (nI i1)), (2, .int v2_22), (3, .int (nI i3))]) [1, 2, 0, 3] (pc' := 23) dX5_sum_22 rfl (by decide) (fun _ => rfl) rfl (fun v2_22 ev2_22 => ?_)
        refine j_iinc X (v := (nI (i3 + 1))) (lv' := [(0, .ref h), (1, .int (nI i1)), (2, .int v2_22), (3, .int (nI (i3 + 1)))]) (q := 3) (pc' := 26) [1, 2, 3, 0] dX5_sum_23 rfl (nI_1 i3) (by decide) rfl rfl ?_
        refine j_goto X (pc' := 4) dX5_sum_26 (by decide) ?_
        refine j_lv [0, 1, 2, 3] (lv' := [(0, .ref h), (1, .int (nI i1)), (2, .int v2_22), (3, .int (nI (i3 + 1)))]) rfl ?_
        exact ih4 _ _ _ (by first | omega | assumption | decide | (subst_vars; first | assumption | omega)) (by first | omega | assumption | decide | (subst_vars; first | assumption | omega)) (by first | omega | assumption | decide | (subst_vars; first | assumption | omega))
  refine j_iconst X (v := 0) (pc' := 1) dX5_sum_0 (by decide) rfl ?_
  refine j_istore_n X (lv' := [(0, .ref h), (1, .int (nI i1)), (2, .int 0)]) (pc' := 2) [1, 2, 0] dX5_sum_1 rfl (by decide) rfl rfl ?_
  refine j_iconst X (v := 0) (pc' := 3) dX5_sum_2 (by decide) rfl ?_
  refine j_istore_n X (lv' := [(0, .ref h), (1, .int (nI i1)), (2, .int 0), (3, .int 0)]) (pc' := 4) [1, 2, 3, 0] dX5_sum_3 rfl (by decide) rfl rfl ?_
  refine j_lv [0, 1, 2, 3] (lv' := [(0, .ref h), (1, .int (nI i1)), (2, .int 0), (3, .int 0)]) rfl ?_
  exact hL4 _ _ _ _ (by first | omega | assumption | decide | (subst_vars; first | assumption | omega)) (by first | omega | assumption | decide | (subst_vars; first | assumption | omega)) (by first | omega | assumption | decide | (subst_vars; first | assumption | omega))
theorem c_X5_sum (l : Launch) (D : va_G) (cI cH cO : ClassId) (h : Nat) (ar : Nat → Nat) (C : Cst) (i1 : Nat) (hIC : IM C) (hi1 : i1 < 8) : MI l yX5_sum cX5_sum 4 (some .int) 1 D (tyl cI cH cO) [.ref h, .int (nI i1)] ((wM cI h ar C)) (sX5_sum C i1) ((wM cI h ar C)) := fun sz => j_start (fun below s => (KP below [.ref h, .int (nI i1)].toArray s D (tyl cI cH cO) ((wM cI h ar C)))) (sX5_sum C i1) (by decide +kernel) rfl (Nat.le_of_ble_eq_true rfl) (fun below s hs _ => by subst hs; rfl) (fun p e s m below meth c _ X => b_X5_sum h ar C i1 hIC hi1 X)
def sX5_ahead (C : Cst) (x1 : Int32) : Int32 := ltl3 (fun R4 (x1 : Int32) (x2 : Int32) (i3 : Nat) => ltv (fun (x1 : Int32) (i3 : Nat) (t0 : Int32) (t1 : Int32) => ltv (t1 + t0) (fun (v2_39 : Int32) => R4 x1 v2_39 (i3 + 1))) (fun K38 => ((if (C 0 5) ≤ (nI i3) then x2 else ltv (sX5_placeOf C (nI i3)) (fun (r_17 : Int32) => ltv (sX5_placeOf C x1) (fun (r_22 : Int32) => (if r_22 ≤ r_17 then K38 x1 i3 0 x2 else ltv (sX5_of C i3 1) (fun (r_31 : Int32) => K38 x1 i3 r_31 x2)))))))) (fun (x1 : Int32) (x2 : Int32) (i3 : Nat) => 0) (fun L4 => (L4 9 x1 0 0))
set_option maxHeartbeats 4000000 in
set_option maxRecDepth 100000 in
theorem b_X5_ahead {p : Program} {l : Launch} {e : Env} {s : State} {m : MethodId} {args : Array Value} {below : List Frame} {meth : Method} {c : Code} {D : va_G} {cI cH cO : ClassId} (h : Nat) (ar : Nat → Nat) (C : Cst) (x1 : Int32) (hIC : IM C) (X : CX p s m args meth c cX5_ahead 4 RX5 (some .int) D (tyl cI cH cO) (va_A ((wM cI h ar C)) s.heap.size)) : J p l e (rml 1) s m args below meth c 4 D (va_A ((wM cI h ar C)) s.heap.size) 0 0 (KP below args s D (tyl cI cH cO) ((wM cI h ar C))) (sX5_ahead C x1) ((wM cI h ar C)) 0 [(0, .ref h), (1, .int x1)] [] := by
  unfold sX5_ahead
  refine j_ltl3 (fun L4 eL4 => ?_)
  have hL4 : ∀ (n4 : Nat) (x1 : Int32) (x2 : Int32) (i3 : Nat) (hi : i3 ≤ 8) (hfu : 9 ≤ i3 + n4), J p l e (rml 1) s m args below meth c 4 D (va_A ((wM cI h ar C)) s.heap.size) 0 0 (KP below args s D (tyl cI cH cO) ((wM cI h ar C))) (L4 n4 x1 x2 i3) ((wM cI h ar C)) 4 [(0, .ref h), (1, .int x1), (2, .int x2), (3, .int (nI i3))] [] := by
    intro n4
    induction n4 with
    | zero =>
      intro x1 x2 i3 hi hfu
      exact absurd hfu (by omega)
    | succ n4 ih4 =>
      intro x1 x2 i3 hi hfu
      rw [eL4]
      refine j_ltv (fun K38 eK38 => ?_)
      have hK38 : ∀ (x1 : Int32) (i3 : Nat) (t0 : Int32) (t1 : Int32) (hi : i3 < 8) (hfu : 9 ≤ i3 + (n4 + 1)), J p l e (rml 1) s m args below meth c 4 D (va_A ((wM cI h ar C)) s.heap.size) 0 0 (KP below args s D (tyl cI cH cO) ((wM cI h ar C))) (K38 x1 i3 t0 t1) ((wM cI h ar C)) 38 [(0, .ref h), (1, .int x1), (3, .int (nI i3))] [.int t0, .int t1] := by
        intro x1 i3 t0 t1 hi hfu
        rw [eK38]
        refine j_iadd X (pc' := 39) dX5_ahead_38 rfl ?_
        refine j_istore_nL X (fun v2_39 => [(0, .ref h), (1, .int x1), (2, .int v2_39), (3, .int (nI i3))]) [1, 2, 0, 3] (pc' := 40) dX5_ahead_39 rfl (by decide) (fun _ => rfl) rfl (fun v2_39 ev2_39 => ?_)
        refine j_iinc X (v := (nI (i3 + 1))) (lv' := [(0, .ref h), (1, .int x1), (2, .int v2_39), (3, .int (nI (i3 + 1)))]) (q := 3) (pc' := 43) [1, 2, 3, 0] dX5_ahead_40 rfl (nI_1 i3) (by decide) rfl rfl ?_
        refine j_goto X (pc' := 4) dX5_ahead_43 (by decide) ?_
        refine j_lv [0, 1, 2, 3] (lv' := [(0, .ref h), (1, .int x1), (2, .int v2_39), (3, .int (nI (i3 + 1)))]) rfl ?_
        exact ih4 _ _ _ (by first | omega | assumption | decide | (subst_vars; first | assumption | omega)) (by first | omega | assumption | decide | (subst_vars; first | assumption | omega))
      refine j_iload_n X (pc' := 5) 3 dX5_ahead_4 rfl rfl rfl ?_
      refine j_aload_n X (pc' := 6) 0 dX5_ahead_5 rfl rfl rfl ?_
      refine j_get X inX5 rfl (pc' := 9) 0 0 q_fl_X5_7 (by decide) rfl rfl dX5_ahead_6 rfl ?_
      refine j_iconst X (v := 5) (pc' := 10) dX5_ahead_9 (by decide) rfl ?_
      refine j_ialdN X (i := 5) (pc' := 11) 1 rfl (by omega) (by decide) dX5_ahead_10 rfl ?_
      refine j_icmp_ge X (tgt := 46) (pc' := 14) dX5_ahead_11 (by decide) rfl (fun c_11 => ?_) (fun c_11 => ?_)
      · refine j_iload_n X (pc' := 47) 2 dX5_ahead_46 rfl rfl rfl ?_
        exact j_iretP X rfl rfl dX5_ahead_47
      · have hb_11 : i3 < 8 := i32_lt8 c_11 hIC.2.1 (by omega)
        refine j_iload_n X (pc' := 15) 2 dX5_ahead_14 rfl rfl rfl ?_
        refine j_aload_n X (pc' := 16) 0 dX5_ahead_15 rfl rfl rfl ?_
        refine j_iload_n X (pc' := 17) 3 dX5_ahead_16 rfl rfl rfl ?_
        refine j_callVi X (pc' := 20) (As := [.int (nI i3)]) (rest := [.int x2]) (c_X5_placeOf l D cI cH cO h ar C (nI i3) (nz_of c_11)) wv_X5_43 ⟨0, 5, _, _, rfl, rfl, rfl⟩ ⟨by decide, by decide, by decide, by decide⟩ rfl rfl (Nat.le_of_ble_eq_true rfl) dX5_ahead_17 rfl ?_
        refine j_topL (fun r_17 er_17 => ?_)
        refine j_aload_n X (pc' := 21) 0 dX5_ahead_20 rfl rfl rfl ?_
        refine j_iload_n X (pc' := 22) 1 dX5_ahead_21 rfl rfl rfl ?_
        refine j_callVi X (pc' := 25) (As := [.int x1]) (rest := [.int r_17, .int x2]) (c_X5_placeOf l D cI cH cO h ar C x1 (nz_of c_11)) wv_X5_43 ⟨0, 5, _, _, rfl, rfl, rfl⟩ ⟨by decide, by decide, by decide, by decide⟩ rfl rfl (Nat.le_of_ble_eq_true rfl) dX5_ahead_22 rfl ?_
        refine j_topL (fun r_22 er_22 => ?_)
        refine j_icmp_ge X (tgt := 37) (pc' := 28) dX5_ahead_25 (by decide) rfl (fun c_25 => ?_) (fun c_25 => ?_)
        · refine j_iconst X (v := 0) (pc' := 38) dX5_ahead_37 (by decide) rfl ?_
          refine j_lv [0, 1, 3] (lv' := [(0, .ref h), (1, .int x1), (3, .int (nI i3))]) rfl ?_
          exact hK38 _ _ _ _ (by first | omega | assumption | decide | (subst_vars; first | assumption | omega)) (by first | omega | assumption | decide | (subst_vars; first | assumption | omega))
        · refine j_aload_n X (pc' := 29) 0 dX5_ahead_28 rfl rfl rfl ?_
          refine j_iload_n X (pc' := 30) 3 dX5_ahead_29 rfl rfl rfl ?_
          refine j_iconst X (v := 1) (pc' := 31) dX5_ahead_30 (by decide) rfl ?_
          refine j_callVi X (pc' := 34) (As := [.int (nI i3), .int 1]) (rest := [.int x2]) (c_X5_of l D cI cH cO h ar C i3 1 (by first | omega | assumption | decide | (subst_vars; first | assumption | omega)) (by first | omega | assumption | decide | (subst_vars; first | assumption | omega))) wv_X5_39 ⟨0, 5, _, _, rfl, rfl, rfl⟩ ⟨by decide, by decide, by decide, by decide⟩ rfl rfl (Nat.le_of_ble_eq_true rfl) dX5_ahead_31 rfl ?_
          refine j_topL (fun r_31 er_31 => ?_)
          refine j_goto X (pc' := 38) dX5_ahead_34 (by decide) ?_
          refine j_lv [0, 1, 3] (lv' := [(0, .ref h), (1, .int x1), (3, .int (nI i3))]) rfl ?_
          exact hK38 _ _ _ _ (by first | omega | assumption | decide | (subst_vars; first | assumption | omega)) (by first | omega | assumption | decide | (subst_vars; first | assumption | omega))
  refine j_iconst X (v := 0) (pc' := 1) dX5_ahead_0 (by decide) rfl ?_
  refine j_istore_n X (lv' := [(0, .ref h), (1, .int x1), (2, .int 0)]) (pc' := 2) [1, 2, 0] dX5_ahead_1 rfl (by decide) rfl rfl ?_
  refine j_iconst X (v := 0) (pc' := 3) dX5_ahead_2 (by decide) rfl ?_
  refine j_istore_n X (lv' := [(0, .ref h), (1, .int x1), (2, .int 0), (3, .int 0)]) (pc' := 4) [1, 2, 3, 0] dX5_ahead_3 rfl (by decide) rfl rfl ?_
  refine j_lv [0, 1, 2, 3] (lv' := [(0, .ref h), (1, .int x1), (2, .int 0), (3, .int 0)]) rfl ?_
  exact hL4 _ _ _ _ (by first | omega | assumption | decide | (subst_vars; first | assumption | omega)) (by first | omega | assumption | decide | (subst_vars; first | assumption | omega))
theorem c_X5_ahead (l : Launch) (D : va_G) (cI cH cO : ClassId) (h : Nat) (ar : Nat → Nat) (C : Cst) (x1 : Int32) (hIC : IM C) : MI l yX5_ahead cX5_ahead 4 (some .int) 1 D (tyl cI cH cO) [.ref h, .int x1] ((wM cI h ar C)) (sX5_ahead C x1) ((wM cI h ar C)) := fun sz => j_start (fun below s => (KP below [.ref h, .int x1].toArray s D (tyl cI cH cO) ((wM cI h ar C)))) (sX5_ahead C x1) (by decide +kernel) rfl (Nat.le_of_ble_eq_true rfl) (fun below s hs _ => by subst hs; rfl) (fun p e s m below meth c _ X => b_X5_ahead h ar C x1 hIC X)
def sX5_chargeFor (C : Cst) (x1 : Int32) (x2 : Int32) : Int32 := ltv (sX5_ahead C x1) (fun (r_2 : Int32) => ltv (sX5_damage C (r_2 + x2)) (fun (r_10 : Int32) => ltv (sX5_damage C r_2) (fun (r_15 : Int32) => (r_10 - r_15))))
set_option maxHeartbeats 4000000 in
set_option maxRecDepth 100000 in
theorem b_X5_chargeFor {p : Program} {l : Launch} {e : Env} {s : State} {m : MethodId} {args : Array Value} {below : List Frame} {meth : Method} {c : Code} {D : va_G} {cI cH cO : ClassId} (h : Nat) (ar : Nat → Nat) (C : Cst) (x1 : Int32) (x2 : Int32) (hIC : IM C) (X : CX p s m args meth c cX5_chargeFor 4 RX5 (some .int) D (tyl cI cH cO) (va_A ((wM cI h ar C)) s.heap.size)) : J p l e (rml 2) s m args below meth c 4 D (va_A ((wM cI h ar C)) s.heap.size) 0 0 (KP below args s D (tyl cI cH cO) ((wM cI h ar C))) (sX5_chargeFor C x1 x2) ((wM cI h ar C)) 0 [(0, .ref h), (1, .int x1), (2, .int x2)] [] := by
  unfold sX5_chargeFor
  refine j_aload_n X (pc' := 1) 0 dX5_chargeFor_0 rfl rfl rfl ?_
  refine j_iload_n X (pc' := 2) 1 dX5_chargeFor_1 rfl rfl rfl ?_
  refine j_callVi X (pc' := 5) (As := [.int x1]) (rest := []) (c_X5_ahead l D cI cH cO h ar C x1 hIC) wv_X5_47 ⟨0, 5, _, _, rfl, rfl, rfl⟩ ⟨by decide, by decide, by decide, by decide⟩ rfl rfl (Nat.le_of_ble_eq_true rfl) dX5_chargeFor_2 rfl ?_
  refine j_topL (fun r_2 er_2 => ?_)
  refine j_istore_n X (lv' := [(0, .ref h), (1, .int x1), (2, .int x2), (3, .int r_2)]) (pc' := 6) [1, 2, 3, 0] dX5_chargeFor_5 rfl (by decide) rfl rfl ?_
  refine j_aload_n X (pc' := 7) 0 dX5_chargeFor_6 rfl rfl rfl ?_
  refine j_iload_n X (pc' := 8) 3 dX5_chargeFor_7 rfl rfl rfl ?_
  refine j_iload_n X (pc' := 9) 2 dX5_chargeFor_8 rfl rfl rfl ?_
  refine j_iadd X (pc' := 10) dX5_chargeFor_9 rfl ?_
  refine j_callVi X (pc' := 13) (As := [.int (r_2 + x2)]) (rest := []) (c_X5_damage l D cI cH cO h ar C (r_2 + x2) hIC.2.2.1) wv_X5_50 ⟨0, 5, _, _, rfl, rfl, rfl⟩ ⟨by decide, by decide, by decide, by decide⟩ rfl rfl (Nat.le_of_ble_eq_true rfl) dX5_chargeFor_10 rfl ?_
  refine j_topL (fun r_10 er_10 => ?_)
  refine j_aload_n X (pc' := 14) 0 dX5_chargeFor_13 rfl rfl rfl ?_
  refine j_iload_n X (pc' := 15) 3 dX5_chargeFor_14 rfl rfl rfl ?_
  refine j_callVi X (pc' := 18) (As := [.int r_2]) (rest := [.int r_10]) (c_X5_damage l D cI cH cO h ar C r_2 hIC.2.2.1) wv_X5_50 ⟨0, 5, _, _, rfl, rfl, rfl⟩ ⟨by decide, by decide, by decide, by decide⟩ rfl rfl (Nat.le_of_ble_eq_true rfl) dX5_chargeFor_15 rfl ?_
  refine j_topL (fun r_15 er_15 => ?_)
  refine j_isub X (pc' := 19) dX5_chargeFor_18 rfl ?_
  exact j_iretP X rfl rfl dX5_chargeFor_19
theorem c_X5_chargeFor (l : Launch) (D : va_G) (cI cH cO : ClassId) (h : Nat) (ar : Nat → Nat) (C : Cst) (x1 : Int32) (x2 : Int32) (hIC : IM C) : MI l yX5_chargeFor cX5_chargeFor 4 (some .int) 2 D (tyl cI cH cO) [.ref h, .int x1, .int x2] ((wM cI h ar C)) (sX5_chargeFor C x1 x2) ((wM cI h ar C)) := fun sz => j_start (fun below s => (KP below [.ref h, .int x1, .int x2].toArray s D (tyl cI cH cO) ((wM cI h ar C)))) (sX5_chargeFor C x1 x2) (by decide +kernel) rfl (Nat.le_of_ble_eq_true rfl) (fun below s hs _ => by subst hs; rfl) (fun p e s m below meth c _ X => b_X5_chargeFor h ar C x1 x2 hIC X)
def sX5_outSet (C : Cst) : Int32 := ltl2 (fun R4 (x1 : Int32) (i2 : Nat) => (if (C 0 5) ≤ (nI i2) then x1 else ltv (sX5_of C i2 6) (fun (r_19 : Int32) => ltv (x1 ||| (r_19 <<< ((nI i2) &&& 31))) (fun (v1_25 : Int32) => R4 v1_25 (i2 + 1))))) (fun (x1 : Int32) (i2 : Nat) => 0) (fun L4 => (L4 9 0 0))
set_option maxHeartbeats 4000000 in
set_option maxRecDepth 100000 in
theorem b_X5_outSet {p : Program} {l : Launch} {e : Env} {s : State} {m : MethodId} {args : Array Value} {below : List Frame} {meth : Method} {c : Code} {D : va_G} {cI cH cO : ClassId} (h : Nat) (ar : Nat → Nat) (C : Cst) (hIC : IM C) (X : CX p s m args meth c cX5_outSet 3 RX5 (some .int) D (tyl cI cH cO) (va_A ((wM cI h ar C)) s.heap.size)) : J p l e (rml 1) s m args below meth c 3 D (va_A ((wM cI h ar C)) s.heap.size) 0 0 (KP below args s D (tyl cI cH cO) ((wM cI h ar C))) (sX5_outSet C) ((wM cI h ar C)) 0 [(0, .ref h)] [] := by
  unfold sX5_outSet
  refine j_ltl2 (fun L4 eL4 => ?_)
  have hL4 : ∀ (n4 : Nat) (x1 : Int32) (i2 : Nat) (hi : i2 ≤ 8) (hfu : 9 ≤ i2 + n4), J p l e (rml 1) s m args below meth c 3 D (va_A ((wM cI h ar C)) s.heap.size) 0 0 (KP below args s D (tyl cI cH cO) ((wM cI h ar C))) (L4 n4 x1 i2) ((wM cI h ar C)) 4 [(0, .ref h), (1, .int x1), (2, .int (nI i2))] [] := by
    intro n4
    induction n4 with
    | zero =>
      intro x1 i2 hi hfu
      exact absurd hfu (by omega)
    | succ n4 ih4 =>
      intro x1 i2 hi hfu
      rw [eL4]
      refine j_iload_n X (pc' := 5) 2 dX5_outSet_4 rfl rfl rfl ?_
      refine j_aload_n X (pc' := 6) 0 dX5_outSet_5 rfl rfl rfl ?_
      refine j_get X inX5 rfl (pc' := 9) 0 0 q_fl_X5_7 (by decide) rfl rfl dX5_outSet_6 rfl ?_
      refine j_iconst X (v := 5) (pc' := 10) dX5_outSet_9 (by decide) rfl ?_
      refine j_ialdN X (i := 5) (pc' := 11) 1 rfl (by omega) (by decide) dX5_outSet_10 rfl ?_
      refine j_icmp_ge X (tgt := 32) (pc' := 14) dX5_outSet_11 (by decide) rfl (fun c_11 => ?_) (fun c_11 => ?_)
      · refine j_iload_n X (pc' := 33) 1 dX5_outSet_32 rfl rfl rfl ?_
        exact j_iretP X rfl rfl dX5_outSet_33
      · have hb_11 : i2 < 8 := i32_lt8 c_11 hIC.2.1 (by omega)
        refine j_iload_n X (pc' := 15) 1 dX5_outSet_14 rfl rfl rfl ?_
        refine j_aload_n X (pc' := 16) 0 dX5_outSet_15 rfl rfl rfl ?_
        refine j_iload_n X (pc' := 17) 2 dX5_outSet_16 rfl rfl rfl ?_
        refine j_bipush X (v := 6) (pc' := 19) dX5_outSet_17 (by decide) rfl ?_
        refine j_callVi X (pc' := 22) (As := [.int (nI i2), .int 6]) (rest := [.int x1]) (c_X5_of l D cI cH cO h ar C i2 6 (by first | omega | assumption | decide | (subst_vars; first | assumption | omega)) (by first | omega | assumption | decide | (subst_vars; first | assumption | omega))) wv_X5_39 ⟨0, 5, _, _, rfl, rfl, rfl⟩ ⟨by decide, by decide, by decide, by decide⟩ rfl rfl (Nat.le_of_ble_eq_true rfl) dX5_outSet_19 rfl ?_
        refine j_topL (fun r_19 er_19 => ?_)
        refine j_iload_n X (pc' := 23) 2 dX5_outSet_22 rfl rfl rfl ?_
        refine j_ishl X (pc' := 24) dX5_outSet_23 rfl ?_
        refine j_ior X (pc' := 25) dX5_outSet_24 rfl ?_
        refine j_istore_nL X (fun v1_25 => [(0, .ref h), (1, .int v1_25), (2, .int (nI i2))]) [1, 0, 2] (pc' := 26) dX5_outSet_25 rfl (by decide) (fun _ => rfl) rfl (fun v1_25 ev1_25 => ?_)
        refine j_iinc X (v := (nI (i2 + 1))) (lv' := [(0, .ref h), (1, .int v1_25), (2, .int (nI (i2 + 1)))]) (q := 2) (pc' := 29) [1, 2, 0] dX5_outSet_26 rfl (nI_1 i2) (by decide) rfl rfl ?_
        refine j_goto X (pc' := 4) dX5_outSet_29 (by decide) ?_
        refine j_lv [0, 1, 2] (lv' := [(0, .ref h), (1, .int v1_25), (2, .int (nI (i2 + 1)))]) rfl ?_
        exact ih4 _ _ (by first | omega | assumption | decide | (subst_vars; first | assumption | omega)) (by first | omega | assumption | decide | (subst_vars; first | assumption | omega))
  refine j_iconst X (v := 0) (pc' := 1) dX5_outSet_0 (by decide) rfl ?_
  refine j_istore_n X (lv' := [(0, .ref h), (1, .int 0)]) (pc' := 2) [1, 0] dX5_outSet_1 rfl (by decide) rfl rfl ?_
  refine j_iconst X (v := 0) (pc' := 3) dX5_outSet_2 (by decide) rfl ?_
  refine j_istore_n X (lv' := [(0, .ref h), (1, .int 0), (2, .int 0)]) (pc' := 4) [1, 2, 0] dX5_outSet_3 rfl (by decide) rfl rfl ?_
  refine j_lv [0, 1, 2] (lv' := [(0, .ref h), (1, .int 0), (2, .int 0)]) rfl ?_
  exact hL4 _ _ _ (by first | omega | assumption | decide | (subst_vars; first | assumption | omega)) (by first | omega | assumption | decide | (subst_vars; first | assumption | omega))
theorem c_X5_outSet (l : Launch) (D : va_G) (cI cH cO : ClassId) (h : Nat) (ar : Nat → Nat) (C : Cst) (hIC : IM C) : MI l yX5_outSet cX5_outSet 3 (some .int) 1 D (tyl cI cH cO) [.ref h] ((wM cI h ar C)) (sX5_outSet C) ((wM cI h ar C)) := fun sz => j_start (fun below s => (KP below [.ref h].toArray s D (tyl cI cH cO) ((wM cI h ar C)))) (sX5_outSet C) (by decide +kernel) rfl (Nat.le_of_ble_eq_true rfl) (fun below s hs _ => by subst hs; rfl) (fun p e s m below meth c _ X => b_X5_outSet h ar C hIC X)
def sX5_gainFor (C : Cst) (i1 : Nat) (x2 : Int32) : Int32 := ltv (sX5_of C i1 0) (fun (r_3 : Int32) => ltv (sX5_chargeFor C (nI i1) x2) (fun (r_11 : Int32) => ((r_3 * x2) - r_11)))
set_option maxHeartbeats 4000000 in
set_option maxRecDepth 100000 in
theorem b_X5_gainFor {p : Program} {l : Launch} {e : Env} {s : State} {m : MethodId} {args : Array Value} {below : List Frame} {meth : Method} {c : Code} {D : va_G} {cI cH cO : ClassId} (h : Nat) (ar : Nat → Nat) (C : Cst) (i1 : Nat) (x2 : Int32) (hIC : IM C) (hi1 : i1 < 8) (X : CX p s m args meth c cX5_gainFor 3 RX5 (some .int) D (tyl cI cH cO) (va_A ((wM cI h ar C)) s.heap.size)) : J p l e (rml 3) s m args below meth c 3 D (va_A ((wM cI h ar C)) s.heap.size) 0 0 (KP below args s D (tyl cI cH cO) ((wM cI h ar C))) (sX5_gainFor C i1 x2) ((wM cI h ar C)) 0 [(0, .ref h), (1, .int (nI i1)), (2, .int x2)] [] := by
  unfold sX5_gainFor
  refine j_aload_n X (pc' := 1) 0 dX5_gainFor_0 rfl rfl rfl ?_
  refine j_iload_n X (pc' := 2) 1 dX5_gainFor_1 rfl rfl rfl ?_
  refine j_iconst X (v := 0) (pc' := 3) dX5_gainFor_2 (by decide) rfl ?_
  refine j_callVi X (pc' := 6) (As := [.int (nI i1), .int 0]) (rest := []) (c_X5_of l D cI cH cO h ar C i1 0 (by first | omega | assumption | decide | (subst_vars; first | assumption | omega)) (by first | omega | assumption | decide | (subst_vars; first | assumption | omega))) wv_X5_39 ⟨0, 5, _, _, rfl, rfl, rfl⟩ ⟨by decide, by decide, by decide, by decide⟩ rfl rfl (Nat.le_of_ble_eq_true rfl) dX5_gainFor_3 rfl ?_
  refine j_topL (fun r_3 er_3 => ?_)
  refine j_iload_n X (pc' := 7) 2 dX5_gainFor_6 rfl rfl rfl ?_
  refine j_imul X (pc' := 8) dX5_gainFor_7 rfl ?_
  refine j_aload_n X (pc' := 9) 0 dX5_gainFor_8 rfl rfl rfl ?_
  refine j_iload_n X (pc' := 10) 1 dX5_gainFor_9 rfl rfl rfl ?_
  refine j_iload_n X (pc' := 11) 2 dX5_gainFor_10 rfl rfl rfl ?_
  refine j_callVi X (pc' := 14) (As := [.int (nI i1), .int x2]) (rest := [.int (r_3 * x2)]) (c_X5_chargeFor l D cI cH cO h ar C (nI i1) x2 hIC) wv_X5_68 ⟨0, 5, _, _, rfl, rfl, rfl⟩ ⟨by decide, by decide, by decide, by decide⟩ rfl rfl (Nat.le_of_ble_eq_true rfl) dX5_gainFor_11 rfl ?_
  refine j_topL (fun r_11 er_11 => ?_)
  refine j_isub X (pc' := 15) dX5_gainFor_14 rfl ?_
  exact j_iretP X rfl rfl dX5_gainFor_15
theorem c_X5_gainFor (l : Launch) (D : va_G) (cI cH cO : ClassId) (h : Nat) (ar : Nat → Nat) (C : Cst) (i1 : Nat) (x2 : Int32) (hIC : IM C) (hi1 : i1 < 8) : MI l yX5_gainFor cX5_gainFor 3 (some .int) 3 D (tyl cI cH cO) [.ref h, .int (nI i1), .int x2] ((wM cI h ar C)) (sX5_gainFor C i1 x2) ((wM cI h ar C)) := fun sz => j_start (fun below s => (KP below [.ref h, .int (nI i1), .int x2].toArray s D (tyl cI cH cO) ((wM cI h ar C)))) (sX5_gainFor C i1 x2) (by decide +kernel) rfl (Nat.le_of_ble_eq_true rfl) (fun below s hs _ => by subst hs; rfl) (fun p e s m below meth c _ X => b_X5_gainFor h ar C i1 x2 hIC hi1 X)
def sX5_best (C : Cst) (i1 : Nat) : Int32 := ltl3 (fun R4 (i1 : Nat) (x2 : Int32) (i3 : Nat) => ltv (fun (i1 : Nat) (i3 : Nat) (t0 : Int32) => R4 i1 t0 (i3 + 1)) (fun K40 => ((if 20 < (nI i3) then x2 else ltv (sX5_of C i1 6) (fun (r_14 : Int32) => (if ¬ r_14 = 0 then x2 else ltv (sX5_gainFor C i1 (nI i3)) (fun (r_23 : Int32) => ltv (sX5_gainFor C i1 x2) (fun (r_29 : Int32) => (if r_23 ≤ r_29 then K40 i1 i3 x2 else K40 i1 i3 (nI i3)))))))))) (fun (i1 : Nat) (x2 : Int32) (i3 : Nat) => 0) (fun L4 => (L4 22 i1 0 1))
set_option maxHeartbeats 4000000 in
set_option maxRecDepth 100000 in
theorem b_X5_best {p : Program} {l : Launch} {e : Env} {s : State} {m : MethodId} {args : Array Value} {below : List Frame} {meth : Method} {c : Code} {D : va_G} {cI cH cO : ClassId} (h : Nat) (ar : Nat → Nat) (C : Cst) (i1 : Nat) (hIC : IM C) (hi1 : i1 < 8) (X : CX p s m args meth c cX5_best 4 RX5 (some .int) D (tyl cI cH cO) (va_A ((wM cI h ar C)) s.heap.size)) : J p l e (rml 4) s m args below meth c 4 D (va_A ((wM cI h ar C)) s.heap.size) 0 0 (KP below args s D (tyl cI cH cO) ((wM cI h ar C))) (sX5_best C i1) ((wM cI h ar C)) 0 [(0, .ref h), (1, .int (nI i1))] [] := by
  unfold sX5_best
  refine j_ltl3 (fun L4 eL4 => ?_)
  have hL4 : ∀ (n4 : Nat) (i1 : Nat) (x2 : Int32) (i3 : Nat) (hi : i3 ≤ 21) (hfu : 22 ≤ i3 + n4) (hi1 : i1 < 8), J p l e (rml 4) s m args below meth c 4 D (va_A ((wM cI h ar C)) s.heap.size) 0 0 (KP below args s D (tyl cI cH cO) ((wM cI h ar C))) (L4 n4 i1 x2 i3) ((wM cI h ar C)) 4 [(0, .ref h), (1, .int (nI i1)), (2, .int x2), (3, .int (nI i3))] [] := by
    intro n4
    induction n4 with
    | zero =>
      intro i1 x2 i3 hi hfu hi1
      exact absurd hfu (by omega)
    | succ n4 ih4 =>
      intro i1 x2 i3 hi hfu hi1
      rw [eL4]
      refine j_ltv (fun K40 eK40 => ?_)
      have hK40 : ∀ (i1 : Nat) (i3 : Nat) (t0 : Int32) (hi : i3 < 21) (hfu : 22 ≤ i3 + (n4 + 1)) (hi1 : i1 < 8), J p l e (rml 4) s m args below meth c 4 D (va_A ((wM cI h ar C)) s.heap.size) 0 0 (KP below args s D (tyl cI cH cO) ((wM cI h ar C))) (K40 i1 i3 t0) ((wM cI h ar C)) 40 [(0, .ref h), (1, .int (nI i1)), (3, .int (nI i3))] [.int t0] := by
        intro i1 i3 t0 hi hfu hi1
        rw [eK40]
        refine j_istore_n X (lv' := [(0, .ref h), (1, .int (nI i1)), (2, .int t0), (3, .int (nI i3))]) (pc' := 41) [1, 2, 0, 3] dX5_best_40 rfl (by decide) rfl rfl ?_
        refine j_iinc X (v := (nI (i3 + 1))) (lv' := [(0, .ref h), (1, .int (nI i1)), (2, .int t0), (3, .int (nI (i3 + 1)))]) (q := 3) (pc' := 44) [1, 2, 3, 0] dX5_best_41 rfl (nI_1 i3) (by decide) rfl rfl ?_
        refine j_goto X (pc' := 4) dX5_best_44 (by decide) ?_
        refine j_lv [0, 1, 2, 3] (lv' := [(0, .ref h), (1, .int (nI i1)), (2, .int t0), (3, .int (nI (i3 + 1)))]) rfl ?_
        exact ih4 _ _ _ (by first | omega | assumption | decide | (subst_vars; first | assumption | omega)) (by first | omega | assumption | decide | (subst_vars; first | assumption | omega)) (by first | omega | assumption | decide | (subst_vars; first | assumption | omega))
      refine j_iload_n X (pc' := 5) 3 dX5_best_4 rfl rfl rfl ?_
      refine j_bipush X (v := 20) (pc' := 7) dX5_best_5 (by decide) rfl ?_
      refine j_icmp_gt X (tgt := 47) (pc' := 10) dX5_best_7 (by decide) rfl (fun c_7 => ?_) (fun c_7 => ?_)
      · have f_7 : 20 < i3 := (nI_ltI (a := 20) (b := i3) (by omega) (by omega)).mp c_7
        refine j_iload_n X (pc' := 48) 2 dX5_best_47 rfl rfl rfl ?_
        exact j_iretP X rfl rfl dX5_best_48
      · have f_7 : ¬ (20 < i3) := fun h => c_7 ((nI_ltI (a := 20) (b := i3) (by omega) (by omega)).mpr h)
        refine j_aload_n X (pc' := 11) 0 dX5_best_10 rfl rfl rfl ?_
        refine j_iload_n X (pc' := 12) 1 dX5_best_11 rfl rfl rfl ?_
        refine j_bipush X (v := 6) (pc' := 14) dX5_best_12 (by decide) rfl ?_
        refine j_callVi X (pc' := 17) (As := [.int (nI i1), .int 6]) (rest := []) (c_X5_of l D cI cH cO h ar C i1 6 (by first | omega | assumption | decide | (subst_vars; first | assumption | omega)) (by first | omega | assumption | decide | (subst_vars; first | assumption | omega))) wv_X5_39 ⟨0, 5, _, _, rfl, rfl, rfl⟩ ⟨by decide, by decide, by decide, by decide⟩ rfl rfl (Nat.le_of_ble_eq_true rfl) dX5_best_14 rfl ?_
        refine j_topL (fun r_14 er_14 => ?_)
        refine j_if_ne X (tgt := 47) (pc' := 20) dX5_best_17 (by decide) rfl (fun c_17 => ?_) (fun c_17 => ?_)
        · refine j_iload_n X (pc' := 48) 2 dX5_best_47 rfl rfl rfl ?_
          exact j_iretP X rfl rfl dX5_best_48
        · refine j_aload_n X (pc' := 21) 0 dX5_best_20 rfl rfl rfl ?_
          refine j_iload_n X (pc' := 22) 1 dX5_best_21 rfl rfl rfl ?_
          refine j_iload_n X (pc' := 23) 3 dX5_best_22 rfl rfl rfl ?_
          refine j_callVi X (pc' := 26) (As := [.int (nI i1), .int (nI i3)]) (rest := []) (c_X5_gainFor l D cI cH cO h ar C i1 (nI i3) hIC (by first | omega | assumption | decide | (subst_vars; first | assumption | omega))) wv_X5_92 ⟨0, 5, _, _, rfl, rfl, rfl⟩ ⟨by decide, by decide, by decide, by decide⟩ rfl rfl (Nat.le_of_ble_eq_true rfl) dX5_best_23 rfl ?_
          refine j_topL (fun r_23 er_23 => ?_)
          refine j_aload_n X (pc' := 27) 0 dX5_best_26 rfl rfl rfl ?_
          refine j_iload_n X (pc' := 28) 1 dX5_best_27 rfl rfl rfl ?_
          refine j_iload_n X (pc' := 29) 2 dX5_best_28 rfl rfl rfl ?_
          refine j_callVi X (pc' := 32) (As := [.int (nI i1), .int x2]) (rest := [.int r_23]) (c_X5_gainFor l D cI cH cO h ar C i1 x2 hIC (by first | omega | assumption | decide | (subst_vars; first | assumption | omega))) wv_X5_92 ⟨0, 5, _, _, rfl, rfl, rfl⟩ ⟨by decide, by decide, by decide, by decide⟩ rfl rfl (Nat.le_of_ble_eq_true rfl) dX5_best_29 rfl ?_
          refine j_topL (fun r_29 er_29 => ?_)
          refine j_icmp_le X (tgt := 39) (pc' := 35) dX5_best_32 (by decide) rfl (fun c_32 => ?_) (fun c_32 => ?_)
          · refine j_iload_n X (pc' := 40) 2 dX5_best_39 rfl rfl rfl ?_
            refine j_lv [0, 1, 3] (lv' := [(0, .ref h), (1, .int (nI i1)), (3, .int (nI i3))]) rfl ?_
            exact hK40 _ _ _ (by first | omega | assumption | decide | (subst_vars; first | assumption | omega)) (by first | omega | assumption | decide | (subst_vars; first | assumption | omega)) (by first | omega | assumption | decide | (subst_vars; first | assumption | omega))
          · refine j_iload_n X (pc' := 36) 3 dX5_best_35 rfl rfl rfl ?_
            refine j_goto X (pc' := 40) dX5_best_36 (by decide) ?_
            refine j_lv [0, 1, 3] (lv' := [(0, .ref h), (1, .int (nI i1)), (3, .int (nI i3))]) rfl ?_
            exact hK40 _ _ _ (by first | omega | assumption | decide | (subst_vars; first | assumption | omega)) (by first | omega | assumption | decide | (subst_vars; first | assumption | omega)) (by first | omega | assumption | decide | (subst_vars; first | assumption | omega))
  refine j_iconst X (v := 0) (pc' := 1) dX5_best_0 (by decide) rfl ?_
  refine j_istore_n X (lv' := [(0, .ref h), (1, .int (nI i1)), (2, .int 0)]) (pc' := 2) [1, 2, 0] dX5_best_1 rfl (by decide) rfl rfl ?_
  refine j_iconst X (v := 1) (pc' := 3) dX5_best_2 (by decide) rfl ?_
  refine j_istore_n X (lv' := [(0, .ref h), (1, .int (nI i1)), (2, .int 0), (3, .int 1)]) (pc' := 4) [1, 2, 3, 0] dX5_best_3 rfl (by decide) rfl rfl ?_
  refine j_lv [0, 1, 2, 3] (lv' := [(0, .ref h), (1, .int (nI i1)), (2, .int 0), (3, .int 1)]) rfl ?_
  exact hL4 _ _ _ _ (by first | omega | assumption | decide | (subst_vars; first | assumption | omega)) (by first | omega | assumption | decide | (subst_vars; first | assumption | omega)) (by first | omega | assumption | decide | (subst_vars; first | assumption | omega))
theorem c_X5_best (l : Launch) (D : va_G) (cI cH cO : ClassId) (h : Nat) (ar : Nat → Nat) (C : Cst) (i1 : Nat) (hIC : IM C) (hi1 : i1 < 8) : MI l yX5_best cX5_best 4 (some .int) 4 D (tyl cI cH cO) [.ref h, .int (nI i1)] ((wM cI h ar C)) (sX5_best C i1) ((wM cI h ar C)) := fun sz => j_start (fun below s => (KP below [.ref h, .int (nI i1)].toArray s D (tyl cI cH cO) ((wM cI h ar C)))) (sX5_best C i1) (by decide +kernel) rfl (Nat.le_of_ble_eq_true rfl) (fun below s hs _ => by subst hs; rfl) (fun p e s m below meth c _ X => b_X5_best h ar C i1 hIC hi1 X)
def sX5_memberOf (C : Cst) (x1 : Int32) (x2 : Int32) : Int32 := ltv (fun (i1 : Nat) (i2 : Nat) => (if 2 ≤ (nI i2) then (if ¬ (nI i2) = 2 then (if 9 ≤ (nI i2) then ltv (sX5_placeOf C (nI i1)) (fun (r_74 : Int32) => r_74) else ltv (sX5_of C i1 (i2 - 1)) (fun (r_66 : Int32) => r_66)) else ltv (sX5_of C i1 1) (fun (r_46 : Int32) => ltv (sX5_chargeFor C (nI i1) r_46) (fun (r_49 : Int32) => r_49))) else ltv (sX5_of C i1 i2) (fun (r_30 : Int32) => r_30))) (fun K22 => (ltv (sX5_isMember C x1) (fun (r_2 : Int32) => (if r_2 = 0 then (-10001) else ltv (sX5_in x2 0 9) (fun (r_12 : Int32) => (if ¬ r_12 = 0 then K22 x1.toNatClampNeg x2.toNatClampNeg else (-10001)))))))
set_option maxHeartbeats 4000000 in
set_option maxRecDepth 100000 in
theorem b_X5_memberOf {p : Program} {l : Launch} {e : Env} {s : State} {m : MethodId} {args : Array Value} {below : List Frame} {meth : Method} {c : Code} {D : va_G} {cI cH cO : ClassId} (h : Nat) (ar : Nat → Nat) (C : Cst) (x1 : Int32) (x2 : Int32) (hIC : IM C) (X : CX p s m args meth c cX5_memberOf 3 RX5 (some .int) D (tyl cI cH cO) (va_A ((wM cI h ar C)) s.heap.size)) : J p l e (rml 3) s m args below meth c 3 D (va_A ((wM cI h ar C)) s.heap.size) 0 0 (KP below args s D (tyl cI cH cO) ((wM cI h ar C))) (sX5_memberOf C x1 x2) ((wM cI h ar C)) 0 [(0, .ref h), (1, .int x1), (2, .int x2)] [] := by
  unfold sX5_memberOf
  refine j_ltv (fun K22 eK22 => ?_)
  have hK22 : ∀ (i1 : Nat) (i2 : Nat) (hi1 : i1 < 8) (hi2 : i2 < 10) (hn : ¬ C 0 5 = 0), J p l e (rml 3) s m args below meth c 3 D (va_A ((wM cI h ar C)) s.heap.size) 0 0 (KP below args s D (tyl cI cH cO) ((wM cI h ar C))) (K22 i1 i2) ((wM cI h ar C)) 22 [(0, .ref h), (1, .int (nI i1)), (2, .int (nI i2))] [] := by
    intro i1 i2 hi1 hi2 hn
    rw [eK22]
    refine j_iload_n X (pc' := 23) 2 dX5_memberOf_22 rfl rfl rfl ?_
    refine j_iconst X (v := 2) (pc' := 24) dX5_memberOf_23 (by decide) rfl ?_
    refine j_icmp_ge X (tgt := 36) (pc' := 27) dX5_memberOf_24 (by decide) rfl (fun c_24 => ?_) (fun c_24 => ?_)
    · have f_24 : 2 ≤ i2 := (nI_leI (a := 2) (b := i2) (by omega) (by omega)).mp c_24
      refine j_iload_n X (pc' := 37) 2 dX5_memberOf_36 rfl rfl rfl ?_
      refine j_iconst X (v := 2) (pc' := 38) dX5_memberOf_37 (by decide) rfl ?_
      refine j_icmp_ne X (tgt := 55) (pc' := 41) dX5_memberOf_38 (by decide) rfl (fun c_38 => ?_) (fun c_38 => ?_)
      · have f_38 : ¬ (i2 = 2) := fun h => c_38 ((nI_eq (a := i2) (b := 2) (by omega) (by omega)).mpr h)
        refine j_iload_n X (pc' := 56) 2 dX5_memberOf_55 rfl rfl rfl ?_
        refine j_bipush X (v := 9) (pc' := 58) dX5_memberOf_56 (by decide) rfl ?_
        refine j_icmp_ge X (tgt := 72) (pc' := 61) dX5_memberOf_58 (by decide) rfl (fun c_58 => ?_) (fun c_58 => ?_)
        · have f_58 : 9 ≤ i2 := (nI_leI (a := 9) (b := i2) (by omega) (by omega)).mp c_58
          refine j_aload_n X (pc' := 73) 0 dX5_memberOf_72 rfl rfl rfl ?_
          refine j_iload_n X (pc' := 74) 1 dX5_memberOf_73 rfl rfl rfl ?_
          refine j_callVi X (pc' := 77) (As := [.int (nI i1)]) (rest := []) (c_X5_placeOf l D cI cH cO h ar C (nI i1) (by first | omega | assumption | decide | (subst_vars; first | assumption | omega))) wv_X5_43 ⟨0, 5, _, _, rfl, rfl, rfl⟩ ⟨by decide, by decide, by decide, by decide⟩ rfl rfl (Nat.le_of_ble_eq_true rfl) dX5_memberOf_74 rfl ?_
          refine j_topL (fun r_74 er_74 => ?_)
          exact j_iretP X rfl rfl dX5_memberOf_77
        · have f_58 : ¬ (9 ≤ i2) := fun h => c_58 ((nI_leI (a := 9) (b := i2) (by omega) (by omega)).mpr h)
          refine j_aload_n X (pc' := 62) 0 dX5_memberOf_61 rfl rfl rfl ?_
          refine j_iload_n X (pc' := 63) 1 dX5_memberOf_62 rfl rfl rfl ?_
          refine j_iload_n X (pc' := 64) 2 dX5_memberOf_63 rfl rfl rfl ?_
          refine j_iconst X (v := 1) (pc' := 65) dX5_memberOf_64 (by decide) rfl ?_
          refine j_isubN X (a := i2) (b := 1) (pc' := 66) dX5_memberOf_65 (by omega) rfl ?_
          refine j_callVi X (pc' := 69) (As := [.int (nI i1), .int (nI (i2 - 1))]) (rest := []) (c_X5_of l D cI cH cO h ar C i1 (i2 - 1) (by first | omega | assumption | decide | (subst_vars; first | assumption | omega)) (by first | omega | assumption | decide | (subst_vars; first | assumption | omega))) wv_X5_39 ⟨0, 5, _, _, rfl, rfl, rfl⟩ ⟨by decide, by decide, by decide, by decide⟩ rfl rfl (Nat.le_of_ble_eq_true rfl) dX5_memberOf_66 rfl ?_
          refine j_topL (fun r_66 er_66 => ?_)
          refine j_goto X (pc' := 77) dX5_memberOf_69 (by decide) ?_
          exact j_iretP X rfl rfl dX5_memberOf_77
      · have f_38 : i2 = 2 := (nI_eq (a := i2) (b := 2) (by omega) (by omega)).mp (Decidable.byContradiction c_38)
        refine j_aload_n X (pc' := 42) 0 dX5_memberOf_41 rfl rfl rfl ?_
        refine j_iload_n X (pc' := 43) 1 dX5_memberOf_42 rfl rfl rfl ?_
        refine j_aload_n X (pc' := 44) 0 dX5_memberOf_43 rfl rfl rfl ?_
        refine j_iload_n X (pc' := 45) 1 dX5_memberOf_44 rfl rfl rfl ?_
        refine j_iconst X (v := 1) (pc' := 46) dX5_memberOf_45 (by decide) rfl ?_
        refine j_callVi X (pc' := 49) (As := [.int (nI i1), .int 1]) (rest := [.int (nI i1), .ref h]) (c_X5_of l D cI cH cO h ar C i1 1 (by first | omega | assumption | decide | (subst_vars; first | assumption | omega)) (by first | omega | assumption | decide | (subst_vars; first | assumption | omega))) wv_X5_39 ⟨0, 5, _, _, rfl, rfl, rfl⟩ ⟨by decide, by decide, by decide, by decide⟩ rfl rfl (Nat.le_of_ble_eq_true rfl) dX5_memberOf_46 rfl ?_
        refine j_topL (fun r_46 er_46 => ?_)
        refine j_callVi X (pc' := 52) (As := [.int (nI i1), .int r_46]) (rest := []) (c_X5_chargeFor l D cI cH cO h ar C (nI i1) r_46 hIC) wv_X5_68 ⟨0, 5, _, _, rfl, rfl, rfl⟩ ⟨by decide, by decide, by decide, by decide⟩ rfl rfl (Nat.le_of_ble_eq_true rfl) dX5_memberOf_49 rfl ?_
        refine j_topL (fun r_49 er_49 => ?_)
        refine j_goto X (pc' := 77) dX5_memberOf_52 (by decide) ?_
        exact j_iretP X rfl rfl dX5_memberOf_77
    · have f_24 : ¬ (2 ≤ i2) := fun h => c_24 ((nI_leI (a := 2) (b := i2) (by omega) (by omega)).mpr h)
      refine j_aload_n X (pc' := 28) 0 dX5_memberOf_27 rfl rfl rfl ?_
      refine j_iload_n X (pc' := 29) 1 dX5_memberOf_28 rfl rfl rfl ?_
      refine j_iload_n X (pc' := 30) 2 dX5_memberOf_29 rfl rfl rfl ?_
      refine j_callVi X (pc' := 33) (As := [.int (nI i1), .int (nI i2)]) (rest := []) (c_X5_of l D cI cH cO h ar C i1 i2 (by first | omega | assumption | decide | (subst_vars; first | assumption | omega)) (by first | omega | assumption | decide | (subst_vars; first | assumption | omega))) wv_X5_39 ⟨0, 5, _, _, rfl, rfl, rfl⟩ ⟨by decide, by decide, by decide, by decide⟩ rfl rfl (Nat.le_of_ble_eq_true rfl) dX5_memberOf_30 rfl ?_
      refine j_topL (fun r_30 er_30 => ?_)
      refine j_goto X (pc' := 77) dX5_memberOf_33 (by decide) ?_
      exact j_iretP X rfl rfl dX5_memberOf_77
  refine j_aload_n X (pc' := 1) 0 dX5_memberOf_0 rfl rfl rfl ?_
  refine j_iload_n X (pc' := 2) 1 dX5_memberOf_1 rfl rfl rfl ?_
  refine j_callVi X (pc' := 5) (As := [.int x1]) (rest := []) (c_X5_isMember l D cI cH cO h ar C x1 ) wv_X5_64 ⟨0, 5, _, _, rfl, rfl, rfl⟩ ⟨by decide, by decide, by decide, by decide⟩ rfl rfl (Nat.le_of_ble_eq_true rfl) dX5_memberOf_2 rfl ?_
  refine j_topL (fun r_2 er_2 => ?_)
  refine j_if_eq X (tgt := 18) (pc' := 8) dX5_memberOf_5 (by decide) rfl (fun c_5 => ?_) (fun c_5 => ?_)
  · refine j_sipush X (v := (-10001)) (pc' := 21) dX5_memberOf_18 (by decide) rfl ?_
    exact j_iretP X rfl rfl dX5_memberOf_21
  · refine j_iload_n X (pc' := 9) 2 dX5_memberOf_8 rfl rfl rfl ?_
    refine j_iconst X (v := 0) (pc' := 10) dX5_memberOf_9 (by decide) rfl ?_
    refine j_bipush X (v := 9) (pc' := 12) dX5_memberOf_10 (by decide) rfl ?_
    refine j_callSiF X (pc' := 15) (As := [.int x2, .int 0, .int 9]) (rest := []) (ws' := (wM cI h ar C)) (wr := (wM cI h ar C)) [] [0, 1, 2, 3, 4, 5, 6, 7] [0, 1, 2, 3, 4, 5, 6, 7] rfl rfl ⟨by decide, by decide, by decide, by decide⟩ rfl (c_X5_in l D cI cH cO x2 0 9 ) ws_X5_53 ⟨by decide, by decide, by decide, by decide⟩ rfl rfl (Nat.le_of_ble_eq_true rfl) dX5_memberOf_12 rfl ?_
    refine j_topL (fun r_12 er_12 => ?_)
    refine j_if_ne X (tgt := 22) (pc' := 18) dX5_memberOf_15 (by decide) rfl (fun c_15 => ?_) (fun c_15 => ?_)
    · obtain ⟨j_15, hj_15, ej_15⟩ : ∃ j : Nat, j < 8 ∧ x1 = nI j := vp_in_of (mem_in er_2 c_5 hIC.2.1) (by decide)
      subst ej_15
      rw [nI_clamp (show j_15 < 2 ^ 31 by omega)]
      obtain ⟨j_15, hj_15, ej_15⟩ : ∃ j : Nat, j < 10 ∧ x2 = nI j := in_of (N := 9) er_12 c_15 (by decide)
      subst ej_15
      rw [nI_clamp (show j_15 < 2 ^ 31 by omega)]
      refine j_lv [0, 1, 2] (lv' := _) rfl ?_
      exact hK22 _ _ (by first | omega | assumption | decide | (subst_vars; first | assumption | omega)) (by first | omega | assumption | decide | (subst_vars; first | assumption | omega)) (mem_nz er_2 c_5)
    · refine j_sipush X (v := (-10001)) (pc' := 21) dX5_memberOf_18 (by decide) rfl ?_
      exact j_iretP X rfl rfl dX5_memberOf_21
theorem c_X5_memberOf (l : Launch) (D : va_G) (cI cH cO : ClassId) (h : Nat) (ar : Nat → Nat) (C : Cst) (x1 : Int32) (x2 : Int32) (hIC : IM C) : MI l yX5_memberOf cX5_memberOf 3 (some .int) 3 D (tyl cI cH cO) [.ref h, .int x1, .int x2] ((wM cI h ar C)) (sX5_memberOf C x1 x2) ((wM cI h ar C)) := fun sz => j_start (fun below s => (KP below [.ref h, .int x1, .int x2].toArray s D (tyl cI cH cO) ((wM cI h ar C)))) (sX5_memberOf C x1 x2) (by decide +kernel) rfl (Nat.le_of_ble_eq_true rfl) (fun below s hs _ => by subst hs; rfl) (fun p e s m below meth c _ X => b_X5_memberOf h ar C x1 x2 hIC X)
def sX5_gain (C : Cst) (x1 : Int32) (x2 : Int32) : Int32 := ltv (fun (i1 : Nat) (x2 : Int32) => ltv (sX5_gainFor C i1 x2) (fun (r_46 : Int32) => (r_46 + 10000))) (fun K43 => (ltv (fun (i1 : Nat) (x2 : Int32) => ltv (sX5_of C i1 6) (fun (r_26 : Int32) => (if ¬ r_26 = 1 then K43 i1 x2 else (if x2 ≤ 0 then K43 i1 x2 else (-10002))))) (fun K22 => (ltv (sX5_isMember C x1) (fun (r_2 : Int32) => (if r_2 = 0 then (-10001) else ltv (sX5_in x2 0 20) (fun (r_12 : Int32) => (if ¬ r_12 = 0 then K22 x1.toNatClampNeg x2 else (-10001)))))))))
set_option maxHeartbeats 4000000 in
set_option maxRecDepth 100000 in
theorem b_X5_gain {p : Program} {l : Launch} {e : Env} {s : State} {m : MethodId} {args : Array Value} {below : List Frame} {meth : Method} {c : Code} {D : va_G} {cI cH cO : ClassId} (h : Nat) (ar : Nat → Nat) (C : Cst) (x1 : Int32) (x2 : Int32) (hIC : IM C) (X : CX p s m args meth c cX5_gain 3 RX5 (some .int) D (tyl cI cH cO) (va_A ((wM cI h ar C)) s.heap.size)) : J p l e (rml 4) s m args below meth c 3 D (va_A ((wM cI h ar C)) s.heap.size) 0 0 (KP below args s D (tyl cI cH cO) ((wM cI h ar C))) (sX5_gain C x1 x2) ((wM cI h ar C)) 0 [(0, .ref h), (1, .int x1), (2, .int x2)] [] := by
  unfold sX5_gain
  refine j_ltv (fun K43 eK43 => ?_)
  have hK43 : ∀ (i1 : Nat) (x2 : Int32) (hi1 : i1 < 8), J p l e (rml 4) s m args below meth c 3 D (va_A ((wM cI h ar C)) s.heap.size) 0 0 (KP below args s D (tyl cI cH cO) ((wM cI h ar C))) (K43 i1 x2) ((wM cI h ar C)) 43 [(0, .ref h), (1, .int (nI i1)), (2, .int x2)] [] := by
    intro i1 x2 hi1
    rw [eK43]
    refine j_aload_n X (pc' := 44) 0 dX5_gain_43 rfl rfl rfl ?_
    refine j_iload_n X (pc' := 45) 1 dX5_gain_44 rfl rfl rfl ?_
    refine j_iload_n X (pc' := 46) 2 dX5_gain_45 rfl rfl rfl ?_
    refine j_callVi X (pc' := 49) (As := [.int (nI i1), .int x2]) (rest := []) (c_X5_gainFor l D cI cH cO h ar C i1 x2 hIC (by first | omega | assumption | decide | (subst_vars; first | assumption | omega))) wv_X5_92 ⟨0, 5, _, _, rfl, rfl, rfl⟩ ⟨by decide, by decide, by decide, by decide⟩ rfl rfl (Nat.le_of_ble_eq_true rfl) dX5_gain_46 rfl ?_
    refine j_topL (fun r_46 er_46 => ?_)
    refine j_sipush X (v := 10000) (pc' := 52) dX5_gain_49 (by decide) rfl ?_
    refine j_iadd X (pc' := 53) dX5_gain_52 rfl ?_
    exact j_iretP X rfl rfl dX5_gain_53
  refine j_ltv (fun K22 eK22 => ?_)
  have hK22 : ∀ (i1 : Nat) (x2 : Int32) (hi1 : i1 < 8), J p l e (rml 4) s m args below meth c 3 D (va_A ((wM cI h ar C)) s.heap.size) 0 0 (KP below args s D (tyl cI cH cO) ((wM cI h ar C))) (K22 i1 x2) ((wM cI h ar C)) 22 [(0, .ref h), (1, .int (nI i1)), (2, .int x2)] [] := by
    intro i1 x2 hi1
    rw [eK22]
    refine j_aload_n X (pc' := 23) 0 dX5_gain_22 rfl rfl rfl ?_
    refine j_iload_n X (pc' := 24) 1 dX5_gain_23 rfl rfl rfl ?_
    refine j_bipush X (v := 6) (pc' := 26) dX5_gain_24 (by decide) rfl ?_
    refine j_callVi X (pc' := 29) (As := [.int (nI i1), .int 6]) (rest := []) (c_X5_of l D cI cH cO h ar C i1 6 (by first | omega | assumption | decide | (subst_vars; first | assumption | omega)) (by first | omega | assumption | decide | (subst_vars; first | assumption | omega))) wv_X5_39 ⟨0, 5, _, _, rfl, rfl, rfl⟩ ⟨by decide, by decide, by decide, by decide⟩ rfl rfl (Nat.le_of_ble_eq_true rfl) dX5_gain_26 rfl ?_
    refine j_topL (fun r_26 er_26 => ?_)
    refine j_iconst X (v := 1) (pc' := 30) dX5_gain_29 (by decide) rfl ?_
    refine j_icmp_ne X (tgt := 43) (pc' := 33) dX5_gain_30 (by decide) rfl (fun c_30 => ?_) (fun c_30 => ?_)
    · refine j_lv [0, 1, 2] (lv' := [(0, .ref h), (1, .int (nI i1)), (2, .int x2)]) rfl ?_
      exact hK43 _ _ (by first | omega | assumption | decide | (subst_vars; first | assumption | omega))
    · refine j_iload_n X (pc' := 34) 2 dX5_gain_33 rfl rfl rfl ?_
      refine j_if_le X (tgt := 43) (pc' := 37) dX5_gain_34 (by decide) rfl (fun c_34 => ?_) (fun c_34 => ?_)
      · refine j_lv [0, 1, 2] (lv' := [(0, .ref h), (1, .int (nI i1)), (2, .int x2)]) rfl ?_
        exact hK43 _ _ (by first | omega | assumption | decide | (subst_vars; first | assumption | omega))
      · refine j_sipush X (v := (-10002)) (pc' := 40) dX5_gain_37 (by decide) rfl ?_
        refine j_goto X (pc' := 53) dX5_gain_40 (by decide) ?_
        exact j_iretP X rfl rfl dX5_gain_53
  refine j_aload_n X (pc' := 1) 0 dX5_gain_0 rfl rfl rfl ?_
  refine j_iload_n X (pc' := 2) 1 dX5_gain_1 rfl rfl rfl ?_
  refine j_callVi X (pc' := 5) (As := [.int x1]) (rest := []) (c_X5_isMember l D cI cH cO h ar C x1 ) wv_X5_64 ⟨0, 5, _, _, rfl, rfl, rfl⟩ ⟨by decide, by decide, by decide, by decide⟩ rfl rfl (Nat.le_of_ble_eq_true rfl) dX5_gain_2 rfl ?_
  refine j_topL (fun r_2 er_2 => ?_)
  refine j_if_eq X (tgt := 18) (pc' := 8) dX5_gain_5 (by decide) rfl (fun c_5 => ?_) (fun c_5 => ?_)
  · refine j_sipush X (v := (-10001)) (pc' := 21) dX5_gain_18 (by decide) rfl ?_
    exact j_iretP X rfl rfl dX5_gain_21
  · refine j_iload_n X (pc' := 9) 2 dX5_gain_8 rfl rfl rfl ?_
    refine j_iconst X (v := 0) (pc' := 10) dX5_gain_9 (by decide) rfl ?_
    refine j_bipush X (v := 20) (pc' := 12) dX5_gain_10 (by decide) rfl ?_
    refine j_callSiF X (pc' := 15) (As := [.int x2, .int 0, .int 20]) (rest := []) (ws' := (wM cI h ar C)) (wr := (wM cI h ar C)) [] [0, 1, 2, 3, 4, 5, 6, 7] [0, 1, 2, 3, 4, 5, 6, 7] rfl rfl ⟨by decide, by decide, by decide, by decide⟩ rfl (c_X5_in l D cI cH cO x2 0 20 ) ws_X5_53 ⟨by decide, by decide, by decide, by decide⟩ rfl rfl (Nat.le_of_ble_eq_true rfl) dX5_gain_12 rfl ?_
    refine j_topL (fun r_12 er_12 => ?_)
    refine j_if_ne X (tgt := 22) (pc' := 18) dX5_gain_15 (by decide) rfl (fun c_15 => ?_) (fun c_15 => ?_)
    · obtain ⟨j_15, hj_15, ej_15⟩ : ∃ j : Nat, j < 8 ∧ x1 = nI j := vp_in_of (mem_in er_2 c_5 hIC.2.1) (by decide)
      subst ej_15
      rw [nI_clamp (show j_15 < 2 ^ 31 by omega)]
      refine j_lv [0, 1, 2] (lv' := _) rfl ?_
      exact hK22 _ _ (by first | omega | assumption | decide | (subst_vars; first | assumption | omega))
    · refine j_sipush X (v := (-10001)) (pc' := 21) dX5_gain_18 (by decide) rfl ?_
      exact j_iretP X rfl rfl dX5_gain_21
theorem c_X5_gain (l : Launch) (D : va_G) (cI cH cO : ClassId) (h : Nat) (ar : Nat → Nat) (C : Cst) (x1 : Int32) (x2 : Int32) (hIC : IM C) : MI l yX5_gain cX5_gain 3 (some .int) 4 D (tyl cI cH cO) [.ref h, .int x1, .int x2] ((wM cI h ar C)) (sX5_gain C x1 x2) ((wM cI h ar C)) := fun sz => j_start (fun below s => (KP below [.ref h, .int x1, .int x2].toArray s D (tyl cI cH cO) ((wM cI h ar C)))) (sX5_gain C x1 x2) (by decide +kernel) rfl (Nat.le_of_ble_eq_true rfl) (fun below s hs _ => by subst hs; rfl) (fun p e s m below meth c _ X => b_X5_gain h ar C x1 x2 hIC X)
def sX5_bestUse (C : Cst) (x1 : Int32) : Int32 := ltv (fun (i1 : Nat) => ltv (sX5_best C i1) (fun (r_10 : Int32) => r_10)) (fun K8 => (ltv (sX5_isMember C x1) (fun (r_2 : Int32) => (if r_2 = 0 then (-10001) else K8 x1.toNatClampNeg))))
set_option maxHeartbeats 4000000 in
set_option maxRecDepth 100000 in
theorem b_X5_bestUse {p : Program} {l : Launch} {e : Env} {s : State} {m : MethodId} {args : Array Value} {below : List Frame} {meth : Method} {c : Code} {D : va_G} {cI cH cO : ClassId} (h : Nat) (ar : Nat → Nat) (C : Cst) (x1 : Int32) (hIC : IM C) (X : CX p s m args meth c cX5_bestUse 2 RX5 (some .int) D (tyl cI cH cO) (va_A ((wM cI h ar C)) s.heap.size)) : J p l e (rml 5) s m args below meth c 2 D (va_A ((wM cI h ar C)) s.heap.size) 0 0 (KP below args s D (tyl cI cH cO) ((wM cI h ar C))) (sX5_bestUse C x1) ((wM cI h ar C)) 0 [(0, .ref h), (1, .int x1)] [] := by
  unfold sX5_bestUse
  refine j_ltv (fun K8 eK8 => ?_)
  have hK8 : ∀ (i1 : Nat) (hi1 : i1 < 8), J p l e (rml 5) s m args below meth c 2 D (va_A ((wM cI h ar C)) s.heap.size) 0 0 (KP below args s D (tyl cI cH cO) ((wM cI h ar C))) (K8 i1) ((wM cI h ar C)) 8 [(0, .ref h), (1, .int (nI i1))] [] := by
    intro i1 hi1
    rw [eK8]
    refine j_aload_n X (pc' := 9) 0 dX5_bestUse_8 rfl rfl rfl ?_
    refine j_iload_n X (pc' := 10) 1 dX5_bestUse_9 rfl rfl rfl ?_
    refine j_callVi X (pc' := 13) (As := [.int (nI i1)]) (rest := []) (c_X5_best l D cI cH cO h ar C i1 hIC (by first | omega | assumption | decide | (subst_vars; first | assumption | omega))) wv_X5_95 ⟨0, 5, _, _, rfl, rfl, rfl⟩ ⟨by decide, by decide, by decide, by decide⟩ rfl rfl (Nat.le_of_ble_eq_true rfl) dX5_bestUse_10 rfl ?_
    refine j_topL (fun r_10 er_10 => ?_)
    refine j_goto X (pc' := 19) dX5_bestUse_13 (by decide) ?_
    exact j_iretP X rfl rfl dX5_bestUse_19
  refine j_aload_n X (pc' := 1) 0 dX5_bestUse_0 rfl rfl rfl ?_
  refine j_iload_n X (pc' := 2) 1 dX5_bestUse_1 rfl rfl rfl ?_
  refine j_callVi X (pc' := 5) (As := [.int x1]) (rest := []) (c_X5_isMember l D cI cH cO h ar C x1 ) wv_X5_64 ⟨0, 5, _, _, rfl, rfl, rfl⟩ ⟨by decide, by decide, by decide, by decide⟩ rfl rfl (Nat.le_of_ble_eq_true rfl) dX5_bestUse_2 rfl ?_
  refine j_topL (fun r_2 er_2 => ?_)
  refine j_if_eq X (tgt := 16) (pc' := 8) dX5_bestUse_5 (by decide) rfl (fun c_5 => ?_) (fun c_5 => ?_)
  · refine j_sipush X (v := (-10001)) (pc' := 19) dX5_bestUse_16 (by decide) rfl ?_
    exact j_iretP X rfl rfl dX5_bestUse_19
  · obtain ⟨j_19, hj_19, ej_19⟩ : ∃ j : Nat, j < 8 ∧ x1 = nI j := vp_in_of (mem_in er_2 c_5 hIC.2.1) (by decide)
    subst ej_19
    rw [nI_clamp (show j_19 < 2 ^ 31 by omega)]
    refine j_lv [0, 1] (lv' := _) rfl ?_
    exact hK8 _ (by first | omega | assumption | decide | (subst_vars; first | assumption | omega))
theorem c_X5_bestUse (l : Launch) (D : va_G) (cI cH cO : ClassId) (h : Nat) (ar : Nat → Nat) (C : Cst) (x1 : Int32) (hIC : IM C) : MI l yX5_bestUse cX5_bestUse 2 (some .int) 5 D (tyl cI cH cO) [.ref h, .int x1] ((wM cI h ar C)) (sX5_bestUse C x1) ((wM cI h ar C)) := fun sz => j_start (fun below s => (KP below [.ref h, .int x1].toArray s D (tyl cI cH cO) ((wM cI h ar C)))) (sX5_bestUse C x1) (by decide +kernel) rfl (Nat.le_of_ble_eq_true rfl) (fun below s hs _ => by subst hs; rfl) (fun p e s m below meth c _ X => b_X5_bestUse h ar C x1 hIC X)
def sX5_count (C : Cst) (x1 : Int32) : Int32 := (if x1 = 0 then (C 0 (5 + x1).toNatClampNeg) else (if x1 = 1 then (C 0 (5 + x1).toNatClampNeg) else (if x1 = 2 then (C 0 (5 + x1).toNatClampNeg) else (if x1 = 3 then ltv (sX5_sum C 1) (fun (r_79 : Int32) => r_79) else (if x1 = 4 then ltv (sX5_sum C 1) (fun (r_86 : Int32) => ltv (sX5_damage C r_86) (fun (r_89 : Int32) => r_89)) else (if x1 = 5 then (C 0 8) else (if x1 = 6 then ltv (sX5_sum C 2) (fun (r_103 : Int32) => r_103) else (if x1 = 7 then ltv (sX5_outSet C) (fun (r_108 : Int32) => r_108) else (if x1 = 8 then (C 0 ((9 + x1) - 8).toNatClampNeg) else (if x1 = 9 then (C 0 ((9 + x1) - 8).toNatClampNeg) else (if x1 = 10 then (C 0 ((9 + x1) - 8).toNatClampNeg) else (if x1 = 11 then (C 3 0) else (if x1 = 12 then (C 6 0) else ltv (sX5_in x1 20 24) (fun (r_140 : Int32) => (if r_140 = 0 then (-10001) else (C 0 (x1 - 20).toNatClampNeg))))))))))))))))
set_option maxHeartbeats 4000000 in
set_option maxRecDepth 100000 in
theorem b_X5_count {p : Program} {l : Launch} {e : Env} {s : State} {m : MethodId} {args : Array Value} {below : List Frame} {meth : Method} {c : Code} {D : va_G} {cI cH cO : ClassId} (h : Nat) (ar : Nat → Nat) (C : Cst) (x1 : Int32) (hIC : IM C) (X : CX p s m args meth c cX5_count 2 RX5 (some .int) D (tyl cI cH cO) (va_A ((wM cI h ar C)) s.heap.size)) : J p l e (rml 2) s m args below meth c 2 D (va_A ((wM cI h ar C)) s.heap.size) 0 0 (KP below args s D (tyl cI cH cO) ((wM cI h ar C))) (sX5_count C x1) ((wM cI h ar C)) 0 [(0, .ref h), (1, .int x1)] [] := by
  unfold sX5_count
  refine j_iload_n X (pc' := 1) 1 dX5_count_0 rfl rfl rfl ?_
  refine j_ite (P9 := x1 = 0) (fun c_1_0 => ?_) (fun c_1_0 => ?_)
  · refine j_tsw X (tgt := 68) dX5_count_1 (by rw [c_1_0]; decide) (by rw [c_1_0]; decide) (off := 67) (by rw [c_1_0]; decide) (by decide) ?_
    refine j_aload_n X (pc' := 69) 0 dX5_count_68 rfl rfl rfl ?_
    refine j_get X inX5 rfl (pc' := 72) 0 0 q_fl_X5_7 (by decide) rfl rfl dX5_count_69 rfl ?_
    refine j_iconst X (v := 5) (pc' := 73) dX5_count_72 (by decide) rfl ?_
    refine j_iload_n X (pc' := 74) 1 dX5_count_73 rfl rfl rfl ?_
    refine j_iadd X (pc' := 75) dX5_count_74 rfl ?_
    refine j_iald X (pc' := 76) 1 rfl (vp_in_iff.mpr (by first | (rw [c_1_0]; decide) | (rw [c_1_1]; decide) | (rw [c_1_2]; decide))) dX5_count_75 rfl ?_
    exact j_iretP X rfl rfl dX5_count_76
  refine j_ite (P9 := x1 = 1) (fun c_1_1 => ?_) (fun c_1_1 => ?_)
  · refine j_tsw X (tgt := 68) dX5_count_1 (by rw [c_1_1]; decide) (by rw [c_1_1]; decide) (off := 67) (by rw [c_1_1]; decide) (by decide) ?_
    refine j_aload_n X (pc' := 69) 0 dX5_count_68 rfl rfl rfl ?_
    refine j_get X inX5 rfl (pc' := 72) 0 0 q_fl_X5_7 (by decide) rfl rfl dX5_count_69 rfl ?_
    refine j_iconst X (v := 5) (pc' := 73) dX5_count_72 (by decide) rfl ?_
    refine j_iload_n X (pc' := 74) 1 dX5_count_73 rfl rfl rfl ?_
    refine j_iadd X (pc' := 75) dX5_count_74 rfl ?_
    refine j_iald X (pc' := 76) 1 rfl (vp_in_iff.mpr (by first | (rw [c_1_0]; decide) | (rw [c_1_1]; decide) | (rw [c_1_2]; decide))) dX5_count_75 rfl ?_
    exact j_iretP X rfl rfl dX5_count_76
  refine j_ite (P9 := x1 = 2) (fun c_1_2 => ?_) (fun c_1_2 => ?_)
  · refine j_tsw X (tgt := 68) dX5_count_1 (by rw [c_1_2]; decide) (by rw [c_1_2]; decide) (off := 67) (by rw [c_1_2]; decide) (by decide) ?_
    refine j_aload_n X (pc' := 69) 0 dX5_count_68 rfl rfl rfl ?_
    refine j_get X inX5 rfl (pc' := 72) 0 0 q_fl_X5_7 (by decide) rfl rfl dX5_count_69 rfl ?_
    refine j_iconst X (v := 5) (pc' := 73) dX5_count_72 (by decide) rfl ?_
    refine j_iload_n X (pc' := 74) 1 dX5_count_73 rfl rfl rfl ?_
    refine j_iadd X (pc' := 75) dX5_count_74 rfl ?_
    refine j_iald X (pc' := 76) 1 rfl (vp_in_iff.mpr (by first | (rw [c_1_0]; decide) | (rw [c_1_1]; decide) | (rw [c_1_2]; decide))) dX5_count_75 rfl ?_
    exact j_iretP X rfl rfl dX5_count_76
  refine j_ite (P9 := x1 = 3) (fun c_1_3 => ?_) (fun c_1_3 => ?_)
  · refine j_tsw X (tgt := 77) dX5_count_1 (by rw [c_1_3]; decide) (by rw [c_1_3]; decide) (off := 76) (by rw [c_1_3]; decide) (by decide) ?_
    refine j_aload_n X (pc' := 78) 0 dX5_count_77 rfl rfl rfl ?_
    refine j_iconst X (v := 1) (pc' := 79) dX5_count_78 (by decide) rfl ?_
    refine j_callVi X (pc' := 82) (As := [.int 1]) (rest := []) (c_X5_sum l D cI cH cO h ar C 1 hIC (by first | omega | assumption | decide | (subst_vars; first | assumption | omega))) wv_X5_71 ⟨0, 5, _, _, rfl, rfl, rfl⟩ ⟨by decide, by decide, by decide, by decide⟩ rfl rfl (Nat.le_of_ble_eq_true rfl) dX5_count_79 rfl ?_
    refine j_topL (fun r_79 er_79 => ?_)
    exact j_iretP X rfl rfl dX5_count_82
  refine j_ite (P9 := x1 = 4) (fun c_1_4 => ?_) (fun c_1_4 => ?_)
  · refine j_tsw X (tgt := 83) dX5_count_1 (by rw [c_1_4]; decide) (by rw [c_1_4]; decide) (off := 82) (by rw [c_1_4]; decide) (by decide) ?_
    refine j_aload_n X (pc' := 84) 0 dX5_count_83 rfl rfl rfl ?_
    refine j_aload_n X (pc' := 85) 0 dX5_count_84 rfl rfl rfl ?_
    refine j_iconst X (v := 1) (pc' := 86) dX5_count_85 (by decide) rfl ?_
    refine j_callVi X (pc' := 89) (As := [.int 1]) (rest := [.ref h]) (c_X5_sum l D cI cH cO h ar C 1 hIC (by first | omega | assumption | decide | (subst_vars; first | assumption | omega))) wv_X5_71 ⟨0, 5, _, _, rfl, rfl, rfl⟩ ⟨by decide, by decide, by decide, by decide⟩ rfl rfl (Nat.le_of_ble_eq_true rfl) dX5_count_86 rfl ?_
    refine j_topL (fun r_86 er_86 => ?_)
    refine j_callVi X (pc' := 92) (As := [.int r_86]) (rest := []) (c_X5_damage l D cI cH cO h ar C r_86 hIC.2.2.1) wv_X5_50 ⟨0, 5, _, _, rfl, rfl, rfl⟩ ⟨by decide, by decide, by decide, by decide⟩ rfl rfl (Nat.le_of_ble_eq_true rfl) dX5_count_89 rfl ?_
    refine j_topL (fun r_89 er_89 => ?_)
    exact j_iretP X rfl rfl dX5_count_92
  refine j_ite (P9 := x1 = 5) (fun c_1_5 => ?_) (fun c_1_5 => ?_)
  · refine j_tsw X (tgt := 93) dX5_count_1 (by rw [c_1_5]; decide) (by rw [c_1_5]; decide) (off := 92) (by rw [c_1_5]; decide) (by decide) ?_
    refine j_aload_n X (pc' := 94) 0 dX5_count_93 rfl rfl rfl ?_
    refine j_get X inX5 rfl (pc' := 97) 0 0 q_fl_X5_7 (by decide) rfl rfl dX5_count_94 rfl ?_
    refine j_bipush X (v := 8) (pc' := 99) dX5_count_97 (by decide) rfl ?_
    refine j_ialdN X (i := 8) (pc' := 100) 1 rfl (by omega) (by decide) dX5_count_99 rfl ?_
    exact j_iretP X rfl rfl dX5_count_100
  refine j_ite (P9 := x1 = 6) (fun c_1_6 => ?_) (fun c_1_6 => ?_)
  · refine j_tsw X (tgt := 101) dX5_count_1 (by rw [c_1_6]; decide) (by rw [c_1_6]; decide) (off := 100) (by rw [c_1_6]; decide) (by decide) ?_
    refine j_aload_n X (pc' := 102) 0 dX5_count_101 rfl rfl rfl ?_
    refine j_iconst X (v := 2) (pc' := 103) dX5_count_102 (by decide) rfl ?_
    refine j_callVi X (pc' := 106) (As := [.int 2]) (rest := []) (c_X5_sum l D cI cH cO h ar C 2 hIC (by first | omega | assumption | decide | (subst_vars; first | assumption | omega))) wv_X5_71 ⟨0, 5, _, _, rfl, rfl, rfl⟩ ⟨by decide, by decide, by decide, by decide⟩ rfl rfl (Nat.le_of_ble_eq_true rfl) dX5_count_103 rfl ?_
    refine j_topL (fun r_103 er_103 => ?_)
    exact j_iretP X rfl rfl dX5_count_106
  refine j_ite (P9 := x1 = 7) (fun c_1_7 => ?_) (fun c_1_7 => ?_)
  · refine j_tsw X (tgt := 107) dX5_count_1 (by rw [c_1_7]; decide) (by rw [c_1_7]; decide) (off := 106) (by rw [c_1_7]; decide) (by decide) ?_
    refine j_aload_n X (pc' := 108) 0 dX5_count_107 rfl rfl rfl ?_
    refine j_callVi X (pc' := 111) (As := []) (rest := []) (c_X5_outSet l D cI cH cO h ar C hIC) wv_X5_74 ⟨0, 5, _, _, rfl, rfl, rfl⟩ ⟨by decide, by decide, by decide, by decide⟩ rfl rfl (Nat.le_of_ble_eq_true rfl) dX5_count_108 rfl ?_
    refine j_topL (fun r_108 er_108 => ?_)
    exact j_iretP X rfl rfl dX5_count_111
  refine j_ite (P9 := x1 = 8) (fun c_1_8 => ?_) (fun c_1_8 => ?_)
  · refine j_tsw X (tgt := 112) dX5_count_1 (by rw [c_1_8]; decide) (by rw [c_1_8]; decide) (off := 111) (by rw [c_1_8]; decide) (by decide) ?_
    refine j_aload_n X (pc' := 113) 0 dX5_count_112 rfl rfl rfl ?_
    refine j_get X inX5 rfl (pc' := 116) 0 0 q_fl_X5_7 (by decide) rfl rfl dX5_count_113 rfl ?_
    refine j_bipush X (v := 9) (pc' := 118) dX5_count_116 (by decide) rfl ?_
    refine j_iload_n X (pc' := 119) 1 dX5_count_118 rfl rfl rfl ?_
    refine j_iadd X (pc' := 120) dX5_count_119 rfl ?_
    refine j_bipush X (v := 8) (pc' := 122) dX5_count_120 (by decide) rfl ?_
    refine j_isub X (pc' := 123) dX5_count_122 rfl ?_
    refine j_iald X (pc' := 124) 1 rfl (vp_in_iff.mpr (by first | (rw [c_1_8]; decide) | (rw [c_1_9]; decide) | (rw [c_1_10]; decide))) dX5_count_123 rfl ?_
    exact j_iretP X rfl rfl dX5_count_124
  refine j_ite (P9 := x1 = 9) (fun c_1_9 => ?_) (fun c_1_9 => ?_)
  · refine j_tsw X (tgt := 112) dX5_count_1 (by rw [c_1_9]; decide) (by rw [c_1_9]; decide) (off := 111) (by rw [c_1_9]; decide) (by decide) ?_
    refine j_aload_n X (pc' := 113) 0 dX5_count_112 rfl rfl rfl ?_
    refine j_get X inX5 rfl (pc' := 116) 0 0 q_fl_X5_7 (by decide) rfl rfl dX5_count_113 rfl ?_
    refine j_bipush X (v := 9) (pc' := 118) dX5_count_116 (by decide) rfl ?_
    refine j_iload_n X (pc' := 119) 1 dX5_count_118 rfl rfl rfl ?_
    refine j_iadd X (pc' := 120) dX5_count_119 rfl ?_
    refine j_bipush X (v := 8) (pc' := 122) dX5_count_120 (by decide) rfl ?_
    refine j_isub X (pc' := 123) dX5_count_122 rfl ?_
    refine j_iald X (pc' := 124) 1 rfl (vp_in_iff.mpr (by first | (rw [c_1_8]; decide) | (rw [c_1_9]; decide) | (rw [c_1_10]; decide))) dX5_count_123 rfl ?_
    exact j_iretP X rfl rfl dX5_count_124
  refine j_ite (P9 := x1 = 10) (fun c_1_10 => ?_) (fun c_1_10 => ?_)
  · refine j_tsw X (tgt := 112) dX5_count_1 (by rw [c_1_10]; decide) (by rw [c_1_10]; decide) (off := 111) (by rw [c_1_10]; decide) (by decide) ?_
    refine j_aload_n X (pc' := 113) 0 dX5_count_112 rfl rfl rfl ?_
    refine j_get X inX5 rfl (pc' := 116) 0 0 q_fl_X5_7 (by decide) rfl rfl dX5_count_113 rfl ?_
    refine j_bipush X (v := 9) (pc' := 118) dX5_count_116 (by decide) rfl ?_
    refine j_iload_n X (pc' := 119) 1 dX5_count_118 rfl rfl rfl ?_
    refine j_iadd X (pc' := 120) dX5_count_119 rfl ?_
    refine j_bipush X (v := 8) (pc' := 122) dX5_count_120 (by decide) rfl ?_
    refine j_isub X (pc' := 123) dX5_count_122 rfl ?_
    refine j_iald X (pc' := 124) 1 rfl (vp_in_iff.mpr (by first | (rw [c_1_8]; decide) | (rw [c_1_9]; decide) | (rw [c_1_10]; decide))) dX5_count_123 rfl ?_
    exact j_iretP X rfl rfl dX5_count_124
  refine j_ite (P9 := x1 = 11) (fun c_1_11 => ?_) (fun c_1_11 => ?_)
  · refine j_tsw X (tgt := 125) dX5_count_1 (by rw [c_1_11]; decide) (by rw [c_1_11]; decide) (off := 124) (by rw [c_1_11]; decide) (by decide) ?_
    refine j_aload_n X (pc' := 126) 0 dX5_count_125 rfl rfl rfl ?_
    refine j_get X inX5 rfl (pc' := 129) 0 3 q_fl_X5_35 (by decide) rfl rfl dX5_count_126 rfl ?_
    exact j_iretP X rfl rfl dX5_count_129
  refine j_ite (P9 := x1 = 12) (fun c_1_12 => ?_) (fun c_1_12 => ?_)
  · refine j_tsw X (tgt := 130) dX5_count_1 (by rw [c_1_12]; decide) (by rw [c_1_12]; decide) (off := 129) (by rw [c_1_12]; decide) (by decide) ?_
    refine j_aload_n X (pc' := 131) 0 dX5_count_130 rfl rfl rfl ?_
    refine j_get X inX5 rfl (pc' := 134) 0 6 q_fl_X5_89 (by decide) rfl rfl dX5_count_131 rfl ?_
    exact j_iretP X rfl rfl dX5_count_134
  refine j_tswD X (tgt := 135) dX5_count_1 (tsw_out13 c_1_0 c_1_1 c_1_2 c_1_3 c_1_4 c_1_5 c_1_6 c_1_7 c_1_8 c_1_9 c_1_10 c_1_11 c_1_12) (by decide) ?_
  refine j_iload_n X (pc' := 136) 1 dX5_count_135 rfl rfl rfl ?_
  refine j_bipush X (v := 20) (pc' := 138) dX5_count_136 (by decide) rfl ?_
  refine j_bipush X (v := 24) (pc' := 140) dX5_count_138 (by decide) rfl ?_
  refine j_callSiF X (pc' := 143) (As := [.int x1, .int 20, .int 24]) (rest := []) (ws' := (wM cI h ar C)) (wr := (wM cI h ar C)) [] [0, 1, 2, 3, 4, 5, 6, 7] [0, 1, 2, 3, 4, 5, 6, 7] rfl rfl ⟨by decide, by decide, by decide, by decide⟩ rfl (c_X5_in l D cI cH cO x1 20 24 ) ws_X5_53 ⟨by decide, by decide, by decide, by decide⟩ rfl rfl (Nat.le_of_ble_eq_true rfl) dX5_count_140 rfl ?_
  refine j_topL (fun r_140 er_140 => ?_)
  refine j_if_eq X (tgt := 158) (pc' := 146) dX5_count_143 (by decide) rfl (fun c_143 => ?_) (fun c_143 => ?_)
  · refine j_sipush X (v := (-10001)) (pc' := 161) dX5_count_158 (by decide) rfl ?_
    exact j_iretP X rfl rfl dX5_count_161
  · refine j_aload_n X (pc' := 147) 0 dX5_count_146 rfl rfl rfl ?_
    refine j_get X inX5 rfl (pc' := 150) 0 0 q_fl_X5_7 (by decide) rfl rfl dX5_count_147 rfl ?_
    refine j_iload_n X (pc' := 151) 1 dX5_count_150 rfl rfl rfl ?_
    refine j_bipush X (v := 20) (pc' := 153) dX5_count_151 (by decide) rfl ?_
    refine j_isub X (pc' := 154) dX5_count_153 rfl ?_
    refine j_iald X (pc' := 155) 1 rfl (by obtain ⟨j, h1, h2, e9⟩ := in_of2 (a := 20) (b := 24) er_140 c_143 (by decide) (by decide); rw [e9, show (20 : Int32) = nI 20 from rfl, nI_sub h1]; exact vp_in_nI (by omega) (by decide)) dX5_count_154 rfl ?_
    refine j_goto X (pc' := 161) dX5_count_155 (by decide) ?_
    exact j_iretP X rfl rfl dX5_count_161
theorem c_X5_count (l : Launch) (D : va_G) (cI cH cO : ClassId) (h : Nat) (ar : Nat → Nat) (C : Cst) (x1 : Int32) (hIC : IM C) : MI l yX5_count cX5_count 2 (some .int) 2 D (tyl cI cH cO) [.ref h, .int x1] ((wM cI h ar C)) (sX5_count C x1) ((wM cI h ar C)) := fun sz => j_start (fun below s => (KP below [.ref h, .int x1].toArray s D (tyl cI cH cO) ((wM cI h ar C)))) (sX5_count C x1) (by decide +kernel) rfl (Nat.le_of_ble_eq_true rfl) (fun below s hs _ => by subst hs; rfl) (fun p e s m below meth c _ X => b_X5_count h ar C x1 hIC X)
def sX5_seasonOf (C : Cst) (x1 : Int32) (x2 : Int32) : Int32 := ltv (fun (i1 : Nat) (i2 : Nat) => (C 0 ((77 + (5 * i1)) + i2))) (fun K34 => ((if x1 < 0 then (-10001) else ltv (sX5_in x2 0 4) (fun (r_7 : Int32) => (if ¬ r_7 = 0 then (if x1 < (C 0 12) then K34 x1.toNatClampNeg x2.toNatClampNeg else (-10004)) else (-10001))))))
set_option maxHeartbeats 4000000 in
set_option maxRecDepth 100000 in
theorem b_X5_seasonOf {p : Program} {l : Launch} {e : Env} {s : State} {m : MethodId} {args : Array Value} {below : List Frame} {meth : Method} {c : Code} {D : va_G} {cI cH cO : ClassId} (h : Nat) (ar : Nat → Nat) (C : Cst) (x1 : Int32) (x2 : Int32) (hIC : IM C) (X : CX p s m args meth c cX5_seasonOf 3 RX5 (some .int) D (tyl cI cH cO) (va_A ((wM cI h ar C)) s.heap.size)) : J p l e (rml 1) s m args below meth c 3 D (va_A ((wM cI h ar C)) s.heap.size) 0 0 (KP below args s D (tyl cI cH cO) ((wM cI h ar C))) (sX5_seasonOf C x1 x2) ((wM cI h ar C)) 0 [(0, .ref h), (1, .int x1), (2, .int x2)] [] := by
  unfold sX5_seasonOf
  refine j_ltv (fun K34 eK34 => ?_)
  have hK34 : ∀ (i1 : Nat) (i2 : Nat) (hi1 : i1 < 6) (hi2 : i2 < 5), J p l e (rml 1) s m args below meth c 3 D (va_A ((wM cI h ar C)) s.heap.size) 0 0 (KP below args s D (tyl cI cH cO) ((wM cI h ar C))) (K34 i1 i2) ((wM cI h ar C)) 34 [(0, .ref h), (1, .int (nI i1)), (2, .int (nI i2))] [] := by
    intro i1 i2 hi1 hi2
    rw [eK34]
    refine j_aload_n X (pc' := 35) 0 dX5_seasonOf_34 rfl rfl rfl ?_
    refine j_get X inX5 rfl (pc' := 38) 0 0 q_fl_X5_7 (by decide) rfl rfl dX5_seasonOf_35 rfl ?_
    refine j_bipush X (v := 77) (pc' := 40) dX5_seasonOf_38 (by decide) rfl ?_
    refine j_iconst X (v := 5) (pc' := 41) dX5_seasonOf_40 (by decide) rfl ?_
    refine j_iload_n X (pc' := 42) 1 dX5_seasonOf_41 rfl rfl rfl ?_
    refine j_imulN X (a := 5) (b := i1) (pc' := 43) dX5_seasonOf_42 rfl ?_
    refine j_iaddN X (a := 77) (b := (5 * i1)) (pc' := 44) dX5_seasonOf_43 rfl ?_
    refine j_iload_n X (pc' := 45) 2 dX5_seasonOf_44 rfl rfl rfl ?_
    refine j_iaddN X (a := (77 + (5 * i1))) (b := i2) (pc' := 46) dX5_seasonOf_45 rfl ?_
    refine j_ialdN X (i := ((77 + (5 * i1)) + i2)) (pc' := 47) 1 rfl (by omega) (by decide) dX5_seasonOf_46 rfl ?_
    exact j_iretP X rfl rfl dX5_seasonOf_47
  refine j_iload_n X (pc' := 1) 1 dX5_seasonOf_0 rfl rfl rfl ?_
  refine j_if_lt X (tgt := 13) (pc' := 4) dX5_seasonOf_1 (by decide) rfl (fun c_1 => ?_) (fun c_1 => ?_)
  · refine j_sipush X (v := (-10001)) (pc' := 16) dX5_seasonOf_13 (by decide) rfl ?_
    exact j_iretP X rfl rfl dX5_seasonOf_16
  · refine j_iload_n X (pc' := 5) 2 dX5_seasonOf_4 rfl rfl rfl ?_
    refine j_iconst X (v := 0) (pc' := 6) dX5_seasonOf_5 (by decide) rfl ?_
    refine j_iconst X (v := 4) (pc' := 7) dX5_seasonOf_6 (by decide) rfl ?_
    refine j_callSiF X (pc' := 10) (As := [.int x2, .int 0, .int 4]) (rest := []) (ws' := (wM cI h ar C)) (wr := (wM cI h ar C)) [] [0, 1, 2, 3, 4, 5, 6, 7] [0, 1, 2, 3, 4, 5, 6, 7] rfl rfl ⟨by decide, by decide, by decide, by decide⟩ rfl (c_X5_in l D cI cH cO x2 0 4 ) ws_X5_53 ⟨by decide, by decide, by decide, by decide⟩ rfl rfl (Nat.le_of_ble_eq_true rfl) dX5_seasonOf_7 rfl ?_
    refine j_topL (fun r_7 er_7 => ?_)
    refine j_if_ne X (tgt := 17) (pc' := 13) dX5_seasonOf_10 (by decide) rfl (fun c_10 => ?_) (fun c_10 => ?_)
    · refine j_iload_n X (pc' := 18) 1 dX5_seasonOf_17 rfl rfl rfl ?_
      refine j_aload_n X (pc' := 19) 0 dX5_seasonOf_18 rfl rfl rfl ?_
      refine j_get X inX5 rfl (pc' := 22) 0 0 q_fl_X5_7 (by decide) rfl rfl dX5_seasonOf_19 rfl ?_
      refine j_bipush X (v := 12) (pc' := 24) dX5_seasonOf_22 (by decide) rfl ?_
      refine j_ialdN X (i := 12) (pc' := 25) 1 rfl (by omega) (by decide) dX5_seasonOf_24 rfl ?_
      refine j_icmp_lt X (tgt := 34) (pc' := 28) dX5_seasonOf_25 (by decide) rfl (fun c_25 => ?_) (fun c_25 => ?_)
      · obtain ⟨j_25, hj_25, ej_25⟩ : ∃ j : Nat, j < 6 ∧ x1 = nI j := so_in c_1 c_25 hIC.2.2.2.2.2.1
        subst ej_25
        rw [nI_clamp (show j_25 < 2 ^ 31 by omega)]
        obtain ⟨j_25, hj_25, ej_25⟩ : ∃ j : Nat, j < 5 ∧ x2 = nI j := in_of (N := 4) er_7 c_10 (by decide)
        subst ej_25
        rw [nI_clamp (show j_25 < 2 ^ 31 by omega)]
        refine j_lv [0, 1, 2] (lv' := _) rfl ?_
        exact hK34 _ _ (by first | omega | assumption | decide | (subst_vars; first | assumption | omega)) (by first | omega | assumption | decide | (subst_vars; first | assumption | omega))
      · refine j_sipush X (v := (-10004)) (pc' := 31) dX5_seasonOf_28 (by decide) rfl ?_
        refine j_goto X (pc' := 47) dX5_seasonOf_31 (by decide) ?_
        exact j_iretP X rfl rfl dX5_seasonOf_47
    · refine j_sipush X (v := (-10001)) (pc' := 16) dX5_seasonOf_13 (by decide) rfl ?_
      exact j_iretP X rfl rfl dX5_seasonOf_16
theorem c_X5_seasonOf (l : Launch) (D : va_G) (cI cH cO : ClassId) (h : Nat) (ar : Nat → Nat) (C : Cst) (x1 : Int32) (x2 : Int32) (hIC : IM C) : MI l yX5_seasonOf cX5_seasonOf 3 (some .int) 1 D (tyl cI cH cO) [.ref h, .int x1, .int x2] ((wM cI h ar C)) (sX5_seasonOf C x1 x2) ((wM cI h ar C)) := fun sz => j_start (fun below s => (KP below [.ref h, .int x1, .int x2].toArray s D (tyl cI cH cO) ((wM cI h ar C)))) (sX5_seasonOf C x1 x2) (by decide +kernel) rfl (Nat.le_of_ble_eq_true rfl) (fun below s hs _ => by subst hs; rfl) (fun p e s m below meth c _ X => b_X5_seasonOf h ar C x1 x2 hIC X)
def sX5_canRepair (C : Cst) : Int32 := ltv ((C 0 8) / (C 0 4)) (fun (v1_14 : Int32) => (if v1_14 ≤ (100 - (C 0 7)) then v1_14 else (100 - (C 0 7))))
set_option maxHeartbeats 4000000 in
set_option maxRecDepth 100000 in
theorem b_X5_canRepair {p : Program} {l : Launch} {e : Env} {s : State} {m : MethodId} {args : Array Value} {below : List Frame} {meth : Method} {c : Code} {D : va_G} {cI cH cO : ClassId} (h : Nat) (ar : Nat → Nat) (C : Cst) (hIC : IM C) (X : CX p s m args meth c cX5_canRepair 2 RX5 (some .int) D (tyl cI cH cO) (va_A ((wM cI h ar C)) s.heap.size)) : J p l e (rml 0) s m args below meth c 2 D (va_A ((wM cI h ar C)) s.heap.size) 0 0 (KP below args s D (tyl cI cH cO) ((wM cI h ar C))) (sX5_canRepair C) ((wM cI h ar C)) 0 [(0, .ref h)] [] := by
  unfold sX5_canRepair
  refine j_aload_n X (pc' := 1) 0 dX5_canRepair_0 rfl rfl rfl ?_
  refine j_get X inX5 rfl (pc' := 4) 0 0 q_fl_X5_7 (by decide) rfl rfl dX5_canRepair_1 rfl ?_
  refine j_bipush X (v := 8) (pc' := 6) dX5_canRepair_4 (by decide) rfl ?_
  refine j_ialdN X (i := 8) (pc' := 7) 1 rfl (by omega) (by decide) dX5_canRepair_6 rfl ?_
  refine j_aload_n X (pc' := 8) 0 dX5_canRepair_7 rfl rfl rfl ?_
  refine j_get X inX5 rfl (pc' := 11) 0 0 q_fl_X5_7 (by decide) rfl rfl dX5_canRepair_8 rfl ?_
  refine j_iconst X (v := 4) (pc' := 12) dX5_canRepair_11 (by decide) rfl ?_
  refine j_ialdN X (i := 4) (pc' := 13) 1 rfl (by omega) (by decide) dX5_canRepair_12 rfl ?_
  refine j_idiv X (pc' := 14) dX5_canRepair_13 hIC.2.2.2.1 rfl ?_
  refine j_istore_nL X (fun v1_14 => [(0, .ref h), (1, .int v1_14)]) [1, 0] (pc' := 15) dX5_canRepair_14 rfl (by decide) (fun _ => rfl) rfl (fun v1_14 ev1_14 => ?_)
  refine j_iload_n X (pc' := 16) 1 dX5_canRepair_15 rfl rfl rfl ?_
  refine j_bipush X (v := 100) (pc' := 18) dX5_canRepair_16 (by decide) rfl ?_
  refine j_aload_n X (pc' := 19) 0 dX5_canRepair_18 rfl rfl rfl ?_
  refine j_get X inX5 rfl (pc' := 22) 0 0 q_fl_X5_7 (by decide) rfl rfl dX5_canRepair_19 rfl ?_
  refine j_bipush X (v := 7) (pc' := 24) dX5_canRepair_22 (by decide) rfl ?_
  refine j_ialdN X (i := 7) (pc' := 25) 1 rfl (by omega) (by decide) dX5_canRepair_24 rfl ?_
  refine j_isub X (pc' := 26) dX5_canRepair_25 rfl ?_
  refine j_icmp_le X (tgt := 42) (pc' := 29) dX5_canRepair_26 (by decide) rfl (fun c_26 => ?_) (fun c_26 => ?_)
  · refine j_iload_n X (pc' := 43) 1 dX5_canRepair_42 rfl rfl rfl ?_
    exact j_iretP X rfl rfl dX5_canRepair_43
  · refine j_bipush X (v := 100) (pc' := 31) dX5_canRepair_29 (by decide) rfl ?_
    refine j_aload_n X (pc' := 32) 0 dX5_canRepair_31 rfl rfl rfl ?_
    refine j_get X inX5 rfl (pc' := 35) 0 0 q_fl_X5_7 (by decide) rfl rfl dX5_canRepair_32 rfl ?_
    refine j_bipush X (v := 7) (pc' := 37) dX5_canRepair_35 (by decide) rfl ?_
    refine j_ialdN X (i := 7) (pc' := 38) 1 rfl (by omega) (by decide) dX5_canRepair_37 rfl ?_
    refine j_isub X (pc' := 39) dX5_canRepair_38 rfl ?_
    refine j_goto X (pc' := 43) dX5_canRepair_39 (by decide) ?_
    exact j_iretP X rfl rfl dX5_canRepair_43
theorem c_X5_canRepair (l : Launch) (D : va_G) (cI cH cO : ClassId) (h : Nat) (ar : Nat → Nat) (C : Cst) (hIC : IM C) : MI l yX5_canRepair cX5_canRepair 2 (some .int) 0 D (tyl cI cH cO) [.ref h] ((wM cI h ar C)) (sX5_canRepair C) ((wM cI h ar C)) := fun sz => j_start (fun below s => (KP below [.ref h].toArray s D (tyl cI cH cO) ((wM cI h ar C)))) (sX5_canRepair C) (by decide +kernel) rfl (Nat.le_of_ble_eq_true rfl) (fun below s hs _ => by subst hs; rfl) (fun p e s m below meth c _ X => b_X5_canRepair h ar C hIC X)
end
