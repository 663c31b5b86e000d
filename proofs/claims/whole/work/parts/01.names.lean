-- ===== PART A: goes FIRST, ahead of the names: the tables' words, and 'selects' of the private methods out of them =====
/-- a private method of a class that the tables say can be made, by its rows of tables_1 -/
def lw_okq (q : MethodName × Nat) : Prop := (q.1.cls ≠ "java/lang/invoke/MethodHandle" ∧ q.1.cls ≠ "java/lang/invoke/VarHandle") ∧ Cond.instantiable q.1.cls q.2 ∈ tables_1 ∧ Cond.privateMethod q.1 ∈ tables_1 ∧ Cond.instanceMethod q.1 ∈ tables_1
theorem lw_p0 : lw_okq (⟨"CommonsTurns", "keptIfDone", "(I)I"⟩, 5) := ⟨⟨by decide +kernel, by decide +kernel⟩, List.mem_of_getElem? (i := 10) (by decide +kernel), List.mem_of_getElem? (i := 190) (by decide +kernel), List.mem_of_getElem? (i := 191) (by decide +kernel)⟩
theorem lw_p1 : lw_okq (⟨"CommonsTurns", "rehearse", "()V"⟩, 5) := ⟨⟨by decide +kernel, by decide +kernel⟩, List.mem_of_getElem? (i := 10) (by decide +kernel), List.mem_of_getElem? (i := 436) (by decide +kernel), List.mem_of_getElem? (i := 437) (by decide +kernel)⟩
theorem lw_p2 : lw_okq (⟨"CommonsTurns", "commandOnTrial", "()I"⟩, 5) := ⟨⟨by decide +kernel, by decide +kernel⟩, List.mem_of_getElem? (i := 10) (by decide +kernel), List.mem_of_getElem? (i := 461) (by decide +kernel), List.mem_of_getElem? (i := 462) (by decide +kernel)⟩
theorem lw_p3 : lw_okq (⟨"CommonsTurnsModel", "changes", "()V"⟩, 13) := ⟨⟨by decide +kernel, by decide +kernel⟩, List.mem_of_getElem? (i := 473) (by decide +kernel), List.mem_of_getElem? (i := 526) (by decide +kernel), List.mem_of_getElem? (i := 527) (by decide +kernel)⟩
theorem lw_p4 : lw_okq (⟨"CommonsTurnsModel", "puts", "(III)V"⟩, 13) := ⟨⟨by decide +kernel, by decide +kernel⟩, List.mem_of_getElem? (i := 473) (by decide +kernel), List.mem_of_getElem? (i := 530) (by decide +kernel), List.mem_of_getElem? (i := 531) (by decide +kernel)⟩
theorem lw_p5 : lw_okq (⟨"CommonsTurnsModel", "isMember", "(I)Z"⟩, 13) := ⟨⟨by decide +kernel, by decide +kernel⟩, List.mem_of_getElem? (i := 473) (by decide +kernel), List.mem_of_getElem? (i := 538) (by decide +kernel), List.mem_of_getElem? (i := 539) (by decide +kernel)⟩
theorem lw_p6 : lw_okq (⟨"CommonsTurnsModel", "of", "(II)I"⟩, 13) := ⟨⟨by decide +kernel, by decide +kernel⟩, List.mem_of_getElem? (i := 473) (by decide +kernel), List.mem_of_getElem? (i := 542) (by decide +kernel), List.mem_of_getElem? (i := 543) (by decide +kernel)⟩
theorem lw_p7 : lw_okq (⟨"CommonsTurnsModel", "chargeFor", "(II)I"⟩, 13) := ⟨⟨by decide +kernel, by decide +kernel⟩, List.mem_of_getElem? (i := 473) (by decide +kernel), List.mem_of_getElem? (i := 546) (by decide +kernel), List.mem_of_getElem? (i := 547) (by decide +kernel)⟩
theorem lw_p8 : lw_okq (⟨"CommonsTurnsModel", "ahead", "(I)I"⟩, 13) := ⟨⟨by decide +kernel, by decide +kernel⟩, List.mem_of_getElem? (i := 473) (by decide +kernel), List.mem_of_getElem? (i := 550) (by decide +kernel), List.mem_of_getElem? (i := 551) (by decide +kernel)⟩
theorem lw_p9 : lw_okq (⟨"CommonsTurnsModel", "placeOf", "(I)I"⟩, 13) := ⟨⟨by decide +kernel, by decide +kernel⟩, List.mem_of_getElem? (i := 473) (by decide +kernel), List.mem_of_getElem? (i := 554) (by decide +kernel), List.mem_of_getElem? (i := 555) (by decide +kernel)⟩
theorem lw_p10 : lw_okq (⟨"CommonsTurnsModel", "damage", "(I)I"⟩, 13) := ⟨⟨by decide +kernel, by decide +kernel⟩, List.mem_of_getElem? (i := 473) (by decide +kernel), List.mem_of_getElem? (i := 558) (by decide +kernel), List.mem_of_getElem? (i := 559) (by decide +kernel)⟩
theorem lw_p11 : lw_okq (⟨"CommonsTurnsModel", "ends", "()I"⟩, 13) := ⟨⟨by decide +kernel, by decide +kernel⟩, List.mem_of_getElem? (i := 473) (by decide +kernel), List.mem_of_getElem? (i := 566) (by decide +kernel), List.mem_of_getElem? (i := 567) (by decide +kernel)⟩
theorem lw_p12 : lw_okq (⟨"CommonsTurnsModel", "sum", "(I)I"⟩, 13) := ⟨⟨by decide +kernel, by decide +kernel⟩, List.mem_of_getElem? (i := 473) (by decide +kernel), List.mem_of_getElem? (i := 570) (by decide +kernel), List.mem_of_getElem? (i := 571) (by decide +kernel)⟩
theorem lw_p13 : lw_okq (⟨"CommonsTurnsModel", "outSet", "()I"⟩, 13) := ⟨⟨by decide +kernel, by decide +kernel⟩, List.mem_of_getElem? (i := 473) (by decide +kernel), List.mem_of_getElem? (i := 574) (by decide +kernel), List.mem_of_getElem? (i := 575) (by decide +kernel)⟩
theorem lw_p14 : lw_okq (⟨"CommonsTurnsModel", "keeps", "(IIII)V"⟩, 13) := ⟨⟨by decide +kernel, by decide +kernel⟩, List.mem_of_getElem? (i := 473) (by decide +kernel), List.mem_of_getElem? (i := 578) (by decide +kernel), List.mem_of_getElem? (i := 579) (by decide +kernel)⟩
theorem lw_p15 : lw_okq (⟨"CommonsTurnsModel", "excludes", "(I)V"⟩, 13) := ⟨⟨by decide +kernel, by decide +kernel⟩, List.mem_of_getElem? (i := 473) (by decide +kernel), List.mem_of_getElem? (i := 582) (by decide +kernel), List.mem_of_getElem? (i := 583) (by decide +kernel)⟩
def lw_privs_1 : List (MethodName × Nat) := [(⟨"CommonsTurns", "keptIfDone", "(I)I"⟩, 5), (⟨"CommonsTurns", "rehearse", "()V"⟩, 5), (⟨"CommonsTurns", "commandOnTrial", "()I"⟩, 5), (⟨"CommonsTurnsModel", "changes", "()V"⟩, 13), (⟨"CommonsTurnsModel", "puts", "(III)V"⟩, 13), (⟨"CommonsTurnsModel", "isMember", "(I)Z"⟩, 13), (⟨"CommonsTurnsModel", "of", "(II)I"⟩, 13), (⟨"CommonsTurnsModel", "chargeFor", "(II)I"⟩, 13), (⟨"CommonsTurnsModel", "ahead", "(I)I"⟩, 13), (⟨"CommonsTurnsModel", "placeOf", "(I)I"⟩, 13), (⟨"CommonsTurnsModel", "damage", "(I)I"⟩, 13), (⟨"CommonsTurnsModel", "ends", "()I"⟩, 13), (⟨"CommonsTurnsModel", "sum", "(I)I"⟩, 13), (⟨"CommonsTurnsModel", "outSet", "()I"⟩, 13), (⟨"CommonsTurnsModel", "keeps", "(IIII)V"⟩, 13), (⟨"CommonsTurnsModel", "excludes", "(I)V"⟩, 13)]
theorem lw_r1 : ∀ q ∈ lw_privs_1, lw_okq q := List.forall_mem_cons.mpr ⟨lw_p0, List.forall_mem_cons.mpr ⟨lw_p1, List.forall_mem_cons.mpr ⟨lw_p2, List.forall_mem_cons.mpr ⟨lw_p3, List.forall_mem_cons.mpr ⟨lw_p4, List.forall_mem_cons.mpr ⟨lw_p5, List.forall_mem_cons.mpr ⟨lw_p6, List.forall_mem_cons.mpr ⟨lw_p7, List.forall_mem_cons.mpr ⟨lw_p8, List.forall_mem_cons.mpr ⟨lw_p9, List.forall_mem_cons.mpr ⟨lw_p10, List.forall_mem_cons.mpr ⟨lw_p11, List.forall_mem_cons.mpr ⟨lw_p12, List.forall_mem_cons.mpr ⟨lw_p13, List.forall_mem_cons.mpr ⟨lw_p14, List.forall_mem_cons.mpr ⟨lw_p15, fun _ h => absurd h List.not_mem_nil⟩⟩⟩⟩⟩⟩⟩⟩⟩⟩⟩⟩⟩⟩⟩⟩
theorem lw_p16 : lw_okq (⟨"CommonsTurnsModel", "gainFor", "(II)I"⟩, 13) := ⟨⟨by decide +kernel, by decide +kernel⟩, List.mem_of_getElem? (i := 473) (by decide +kernel), List.mem_of_getElem? (i := 614) (by decide +kernel), List.mem_of_getElem? (i := 615) (by decide +kernel)⟩
theorem lw_p17 : lw_okq (⟨"CommonsTurnsModel", "best", "(I)I"⟩, 13) := ⟨⟨by decide +kernel, by decide +kernel⟩, List.mem_of_getElem? (i := 473) (by decide +kernel), List.mem_of_getElem? (i := 622) (by decide +kernel), List.mem_of_getElem? (i := 623) (by decide +kernel)⟩
theorem lw_p18 : lw_okq (⟨"CommonsTurnsModel", "turns", "()Z"⟩, 13) := ⟨⟨by decide +kernel, by decide +kernel⟩, List.mem_of_getElem? (i := 473) (by decide +kernel), List.mem_of_getElem? (i := 633) (by decide +kernel), List.mem_of_getElem? (i := 634) (by decide +kernel)⟩
theorem lw_p19 : lw_okq (⟨"CommonsTurnsModel", "plays", "()I"⟩, 13) := ⟨⟨by decide +kernel, by decide +kernel⟩, List.mem_of_getElem? (i := 473) (by decide +kernel), List.mem_of_getElem? (i := 665) (by decide +kernel), List.mem_of_getElem? (i := 666) (by decide +kernel)⟩
theorem lw_p20 : lw_okq (⟨"CommonsTurnsModel", "isForm", "(I)Z"⟩, 13) := ⟨⟨by decide +kernel, by decide +kernel⟩, List.mem_of_getElem? (i := 473) (by decide +kernel), List.mem_of_getElem? (i := 669) (by decide +kernel), List.mem_of_getElem? (i := 670) (by decide +kernel)⟩
theorem lw_p21 : lw_okq (⟨"CommonsTurnsModel", "isAt", "(II)Z"⟩, 13) := ⟨⟨by decide +kernel, by decide +kernel⟩, List.mem_of_getElem? (i := 473) (by decide +kernel), List.mem_of_getElem? (i := 673) (by decide +kernel), List.mem_of_getElem? (i := 674) (by decide +kernel)⟩
theorem lw_p22 : lw_okq (⟨"CommonsTurnsModel", "number", "(II)Z"⟩, 13) := ⟨⟨by decide +kernel, by decide +kernel⟩, List.mem_of_getElem? (i := 473) (by decide +kernel), List.mem_of_getElem? (i := 677) (by decide +kernel), List.mem_of_getElem? (i := 678) (by decide +kernel)⟩
theorem lw_p23 : lw_okq (⟨"CommonsTurnsModel", "calls", "(I)I"⟩, 13) := ⟨⟨by decide +kernel, by decide +kernel⟩, List.mem_of_getElem? (i := 473) (by decide +kernel), List.mem_of_getElem? (i := 681) (by decide +kernel), List.mem_of_getElem? (i := 682) (by decide +kernel)⟩
def lw_privs_2 : List (MethodName × Nat) := [(⟨"CommonsTurnsModel", "gainFor", "(II)I"⟩, 13), (⟨"CommonsTurnsModel", "best", "(I)I"⟩, 13), (⟨"CommonsTurnsModel", "turns", "()Z"⟩, 13), (⟨"CommonsTurnsModel", "plays", "()I"⟩, 13), (⟨"CommonsTurnsModel", "isForm", "(I)Z"⟩, 13), (⟨"CommonsTurnsModel", "isAt", "(II)Z"⟩, 13), (⟨"CommonsTurnsModel", "number", "(II)Z"⟩, 13), (⟨"CommonsTurnsModel", "calls", "(I)I"⟩, 13)]
theorem lw_r2 : ∀ q ∈ lw_privs_2, lw_okq q := List.forall_mem_cons.mpr ⟨lw_p16, List.forall_mem_cons.mpr ⟨lw_p17, List.forall_mem_cons.mpr ⟨lw_p18, List.forall_mem_cons.mpr ⟨lw_p19, List.forall_mem_cons.mpr ⟨lw_p20, List.forall_mem_cons.mpr ⟨lw_p21, List.forall_mem_cons.mpr ⟨lw_p22, List.forall_mem_cons.mpr ⟨lw_p23, fun _ h => absurd h List.not_mem_nil⟩⟩⟩⟩⟩⟩⟩⟩
def lw_privs : List (MethodName × Nat) := lw_privs_1 ++ (lw_privs_2)
def lw_tbl : List Cond := k2_sels lw_privs ++ tables_1
theorem lw_privs_ok : ∀ q ∈ lw_privs, lw_okq q := by
  show ∀ q ∈ lw_privs_1 ++ (lw_privs_2), lw_okq q
  exact List.forall_mem_append.mpr ⟨lw_r1, lw_r2⟩
def RX0 : String := "CommonsTurns$Commons"
def TX0 : u_T := fun k => match k with
  | 0 => ("CommonsTurns$Commons", "settings", "[I", true)
  | 1 => ("CommonsTurns$Commons", "worths", "[I", true)
  | 2 => ("CommonsTurns$Commons", "uses", "[I", true)
  | 3 => ("CommonsTurns$Commons", "owed", "[I", true)
  | 4 => ("CommonsTurns$Commons", "paid", "[I", true)
  | 5 => ("CommonsTurns$Commons", "used", "[I", true)
  | 6 => ("CommonsTurns$Commons", "usedSinceTurn", "[I", true)
  | 7 => ("CommonsTurns$Commons", "seasonsOut", "[I", true)
  | 8 => ("CommonsTurns$Commons", "ended", "[I", true)
  | 9 => ("CommonsTurns$Commons", "members", "I", false)
  | 10 => ("CommonsTurns$Commons", "season", "I", false)
  | 11 => ("CommonsTurns$Commons", "health", "I", false)
  | 12 => ("CommonsTurns$Commons", "fund", "I", false)
  | 13 => ("CommonsTurns$Commons", "out", "I", false)
  | 14 => ("CommonsTurns$Commons", "damageSoFar", "I", false)
  | 15 => ("CommonsTurns$Commons", "damageWithoutHealth", "I", false)
  | _ => ("CommonsTurns$Commons", "pointsRepaired", "I", false)
def tyX0 : Nat → FieldType := fun k => match k with
  | 0 => .array .int
  | 1 => .array .int
  | 2 => .array .int
  | 3 => .array .int
  | 4 => .array .int
  | 5 => .array .int
  | 6 => .array .int
  | 7 => .array .int
  | 8 => .array .int
  | 9 => .int
  | 10 => .int
  | 11 => .int
  | 12 => .int
  | 13 => .int
  | 14 => .int
  | 15 => .int
  | _ => .int
abbrev wsX00 : List Cond := u_ws RX0 TX0 17
theorem nmX0 : ∀ a, a < 17 → ∀ b, b < 17 → a ≠ b → (TX0 a).2.1 ≠ (TX0 b).2.1 := by decide +kernel
theorem tyX0_ok : ∀ k, k < 17 → parseFieldDescriptor (TX0 k).2.2.1 = some (tyX0 k) := by decide +kernel
abbrev cX0_init : ByteArray := prog_2_method_1_code
def yX0_init : MethodName := ⟨RX0, "<init>", "()V"⟩
abbrev cX0_takeOver : ByteArray := prog_2_method_2_code
def yX0_takeOver : MethodName := ⟨RX0, "takeOver", "(LCommonsTurns$Commons;)V"⟩
abbrev cX0_has : ByteArray := prog_2_method_3_code
def yX0_has : MethodName := ⟨RX0, "has", "(I)Z"⟩
abbrev cX0_isOut : ByteArray := prog_2_method_4_code
def yX0_isOut : MethodName := ⟨RX0, "isOut", "(I)Z"⟩
abbrev cX0_allUnits : ByteArray := prog_2_method_5_code
def yX0_allUnits : MethodName := ⟨RX0, "allUnits", "()I"⟩
abbrev cX0_damageOf : ByteArray := prog_2_method_6_code
def yX0_damageOf : MethodName := ⟨RX0, "damageOf", "(I)I"⟩
abbrev cX0_placeOf : ByteArray := prog_2_method_7_code
def yX0_placeOf : MethodName := ⟨RX0, "placeOf", "(I)I"⟩
abbrev cX0_unitsAhead : ByteArray := prog_2_method_8_code
def yX0_unitsAhead : MethodName := ⟨RX0, "unitsAhead", "(I)I"⟩
abbrev cX0_chargeOf : ByteArray := prog_2_method_9_code
def yX0_chargeOf : MethodName := ⟨RX0, "chargeOf", "(I)I"⟩
abbrev cX0_damageAdded : ByteArray := prog_2_method_10_code
def yX0_damageAdded : MethodName := ⟨RX0, "damageAdded", "(II)I"⟩
abbrev cX0_addMember : ByteArray := prog_2_method_11_code
def yX0_addMember : MethodName := ⟨RX0, "addMember", "(I)I"⟩
abbrev cX0_declareUse : ByteArray := prog_2_method_12_code
def yX0_declareUse : MethodName := ⟨RX0, "declareUse", "(II)I"⟩
abbrev cX0_payCoins : ByteArray := prog_2_method_13_code
def yX0_payCoins : MethodName := ⟨RX0, "payCoins", "(II)I"⟩
abbrev cX0_changeSetting : ByteArray := prog_2_method_14_code
def yX0_changeSetting : MethodName := ⟨RX0, "changeSetting", "(II)I"⟩
abbrev cX0_repairPoints : ByteArray := prog_2_method_15_code
def yX0_repairPoints : MethodName := ⟨RX0, "repairPoints", "(I)I"⟩
abbrev cX0_oweByUses : ByteArray := prog_2_method_16_code
def yX0_oweByUses : MethodName := ⟨RX0, "oweByUses", "(I)V"⟩
abbrev cX0_pointsFromFund : ByteArray := prog_2_method_17_code
def yX0_pointsFromFund : MethodName := ⟨RX0, "pointsFromFund", "()I"⟩
abbrev cX0_closeSeason : ByteArray := prog_2_method_18_code
def yX0_closeSeason : MethodName := ⟨RX0, "closeSeason", "()I"⟩
abbrev cX0_endSeason : ByteArray := prog_2_method_19_code
def yX0_endSeason : MethodName := ⟨RX0, "endSeason", "()I"⟩
abbrev cX0_oweCharges : ByteArray := prog_2_method_20_code
def yX0_oweCharges : MethodName := ⟨RX0, "oweCharges", "()V"⟩
abbrev cX0_keepSeason : ByteArray := prog_2_method_21_code
def yX0_keepSeason : MethodName := ⟨RX0, "keepSeason", "(II)V"⟩
abbrev cX0_bookUses : ByteArray := prog_2_method_22_code
def yX0_bookUses : MethodName := ⟨RX0, "bookUses", "()V"⟩
abbrev cX0_noteSeasonsOut : ByteArray := prog_2_method_23_code
def yX0_noteSeasonsOut : MethodName := ⟨RX0, "noteSeasonsOut", "()V"⟩
abbrev cX0_excludeInTurn : ByteArray := prog_2_method_24_code
def yX0_excludeInTurn : MethodName := ⟨RX0, "excludeInTurn", "(I)V"⟩
abbrev cX0_turnsNeeded : ByteArray := prog_2_method_25_code
def yX0_turnsNeeded : MethodName := ⟨RX0, "turnsNeeded", "()I"⟩
abbrev cX0_heaviestNotIn : ByteArray := prog_2_method_26_code
def yX0_heaviestNotIn : MethodName := ⟨RX0, "heaviestNotIn", "(I)I"⟩
abbrev cX0_excludeDebtors : ByteArray := prog_2_method_27_code
def yX0_excludeDebtors : MethodName := ⟨RX0, "excludeDebtors", "()V"⟩
abbrev cX0_liftedGain : ByteArray := prog_2_method_28_code
def yX0_liftedGain : MethodName := ⟨RX0, "liftedGain", "(II)I"⟩
abbrev cX0_gainBehind : ByteArray := prog_2_method_29_code
def yX0_gainBehind : MethodName := ⟨RX0, "gainBehind", "(III)I"⟩
abbrev cX0_bestUnits : ByteArray := prog_2_method_30_code
def yX0_bestUnits : MethodName := ⟨RX0, "bestUnits", "(I)I"⟩
abbrev cX0_calmDown : ByteArray := prog_2_method_31_code
def yX0_calmDown : MethodName := ⟨RX0, "calmDown", "()I"⟩
abbrev cX0_roundChanges : ByteArray := prog_2_method_32_code
def yX0_roundChanges : MethodName := ⟨RX0, "roundChanges", "()Z"⟩
abbrev cX0_useBestForAll : ByteArray := prog_2_method_33_code
def yX0_useBestForAll : MethodName := ⟨RX0, "useBestForAll", "()I"⟩
abbrev cX0_worthiestWithRoom : ByteArray := prog_2_method_34_code
def yX0_worthiestWithRoom : MethodName := ⟨RX0, "worthiestWithRoom", "()I"⟩
abbrev cX0_numberOfMember : ByteArray := prog_2_method_35_code
def yX0_numberOfMember : MethodName := ⟨RX0, "numberOfMember", "(II)I"⟩
abbrev cX0_numberOfAll : ByteArray := prog_2_method_36_code
def yX0_numberOfAll : MethodName := ⟨RX0, "numberOfAll", "(I)I"⟩
abbrev cX0_numberOfSeason : ByteArray := prog_2_method_37_code
def yX0_numberOfSeason : MethodName := ⟨RX0, "numberOfSeason", "(II)I"⟩
def RX1 : String := "CommonsTurns$History"
def TX1 : u_T := fun k => match k with
  | 0 => ("CommonsTurns$History", "states", "[LCommonsTurns$Commons;", true)
  | 1 => ("CommonsTurns$History", "oldest", "I", false)
  | _ => ("CommonsTurns$History", "length", "I", false)
def tyX1 : Nat → FieldType := fun k => match k with
  | 0 => .array (.object "CommonsTurns$Commons")
  | 1 => .int
  | _ => .int
abbrev wsX10 : List Cond := u_ws RX1 TX1 3
theorem nmX1 : ∀ a, a < 3 → ∀ b, b < 3 → a ≠ b → (TX1 a).2.1 ≠ (TX1 b).2.1 := by decide +kernel
theorem tyX1_ok : ∀ k, k < 3 → parseFieldDescriptor (TX1 k).2.2.1 = some (tyX1 k) := by decide +kernel
abbrev cX1_init : ByteArray := prog_3_method_1_code
def yX1_init : MethodName := ⟨RX1, "<init>", "()V"⟩
abbrev cX1_record : ByteArray := prog_3_method_2_code
def yX1_record : MethodName := ⟨RX1, "record", "(LCommonsTurns$Commons;)V"⟩
abbrev cX1_restoreLatest : ByteArray := prog_3_method_3_code
def yX1_restoreLatest : MethodName := ⟨RX1, "restoreLatest", "(LCommonsTurns$Commons;)V"⟩
def RX2 : String := "CommonsTurns$Rehearsal"
def TX2 : u_T := fun k => match k with
  | 0 => ("CommonsTurns$Rehearsal", "start", "I", false)
  | 1 => ("CommonsTurns$Rehearsal", "reason", "I", false)
  | 2 => ("CommonsTurns$Rehearsal", "cause", "I", false)
  | _ => ("CommonsTurns$Rehearsal", "done", "I", false)
def tyX2 : Nat → FieldType := fun k => match k with
  | 0 => .int
  | 1 => .int
  | 2 => .int
  | _ => .int
abbrev wsX20 : List Cond := u_ws RX2 TX2 4
theorem nmX2 : ∀ a, a < 4 → ∀ b, b < 4 → a ≠ b → (TX2 a).2.1 ≠ (TX2 b).2.1 := by decide +kernel
theorem tyX2_ok : ∀ k, k < 4 → parseFieldDescriptor (TX2 k).2.2.1 = some (tyX2 k) := by decide +kernel
abbrev cX2_init : ByteArray := prog_4_method_1_code
def yX2_init : MethodName := ⟨RX2, "<init>", "()V"⟩
abbrev cX2_begin : ByteArray := prog_4_method_2_code
def yX2_begin : MethodName := ⟨RX2, "begin", "()V"⟩
abbrev cX2_isStoppedBy : ByteArray := prog_4_method_3_code
def yX2_isStoppedBy : MethodName := ⟨RX2, "isStoppedBy", "(I)Z"⟩
def RX3 : String := "CommonsTurns$Text"
def TX3 : u_T := fun k => match k with
  | 0 => ("CommonsTurns$Text", "signs", "[C", true)
  | 1 => ("CommonsTurns$Text", "length", "I", false)
  | 2 => ("CommonsTurns$Text", "next", "I", false)
  | 3 => ("CommonsTurns$Text", "kind", "I", false)
  | 4 => ("CommonsTurns$Text", "first", "I", false)
  | _ => ("CommonsTurns$Text", "second", "I", false)
def tyX3 : Nat → FieldType := fun k => match k with
  | 0 => .array .char
  | 1 => .int
  | 2 => .int
  | 3 => .int
  | 4 => .int
  | _ => .int
abbrev wsX30 : List Cond := u_ws RX3 TX3 6
theorem nmX3 : ∀ a, a < 6 → ∀ b, b < 6 → a ≠ b → (TX3 a).2.1 ≠ (TX3 b).2.1 := by decide +kernel
theorem tyX3_ok : ∀ k, k < 6 → parseFieldDescriptor (TX3 k).2.2.1 = some (tyX3 k) := by decide +kernel
abbrev cX3_init : ByteArray := prog_5_method_1_code
def yX3_init : MethodName := ⟨RX3, "<init>", "()V"⟩
abbrev cX3_append : ByteArray := prog_5_method_2_code
def yX3_append : MethodName := ⟨RX3, "append", "(I)I"⟩
abbrev cX3_readCommand : ByteArray := prog_5_method_3_code
def yX3_readCommand : MethodName := ⟨RX3, "readCommand", "()Z"⟩
abbrev cX3_signAhead : ByteArray := prog_5_method_4_code
def yX3_signAhead : MethodName := ⟨RX3, "signAhead", "()I"⟩
abbrev cX3_passes : ByteArray := prog_5_method_5_code
def yX3_passes : MethodName := ⟨RX3, "passes", "(I)Z"⟩
abbrev cX3_readNumber : ByteArray := prog_5_method_6_code
def yX3_readNumber : MethodName := ⟨RX3, "readNumber", "()I"⟩
def RX4 : String := "CommonsTurns"
def TX4 : u_T := fun k => match k with
  | 0 => ("CommonsTurns", "now", "LCommonsTurns$Commons;", true)
  | 1 => ("CommonsTurns", "trial", "LCommonsTurns$Commons;", true)
  | 2 => ("CommonsTurns", "history", "LCommonsTurns$History;", true)
  | 3 => ("CommonsTurns", "text", "LCommonsTurns$Text;", true)
  | _ => ("CommonsTurns", "rehearsal", "LCommonsTurns$Rehearsal;", true)
def tyX4 : Nat → FieldType := fun k => match k with
  | 0 => .object "CommonsTurns$Commons"
  | 1 => .object "CommonsTurns$Commons"
  | 2 => .object "CommonsTurns$History"
  | 3 => .object "CommonsTurns$Text"
  | _ => .object "CommonsTurns$Rehearsal"
abbrev wsX40 : List Cond := u_ws RX4 TX4 5
theorem nmX4 : ∀ a, a < 5 → ∀ b, b < 5 → a ≠ b → (TX4 a).2.1 ≠ (TX4 b).2.1 := by decide +kernel
theorem tyX4_ok : ∀ k, k < 5 → parseFieldDescriptor (TX4 k).2.2.1 = some (tyX4 k) := by decide +kernel
abbrev cX4_init : ByteArray := prog_1_method_1_code
def yX4_init : MethodName := ⟨RX4, "<init>", "()V"⟩
abbrev cX4_member : ByteArray := prog_1_method_2_code
def yX4_member : MethodName := ⟨RX4, "member", "(I)I"⟩
abbrev cX4_use : ByteArray := prog_1_method_3_code
def yX4_use : MethodName := ⟨RX4, "use", "(II)I"⟩
abbrev cX4_close : ByteArray := prog_1_method_4_code
def yX4_close : MethodName := ⟨RX4, "close", "()I"⟩
abbrev cX4_pay : ByteArray := prog_1_method_5_code
def yX4_pay : MethodName := ⟨RX4, "pay", "(II)I"⟩
abbrev cX4_repair : ByteArray := prog_1_method_6_code
def yX4_repair : MethodName := ⟨RX4, "repair", "(I)I"⟩
abbrev cX4_set : ByteArray := prog_1_method_7_code
def yX4_set : MethodName := ⟨RX4, "set", "(II)I"⟩
abbrev cX4_memberOf : ByteArray := prog_1_method_8_code
def yX4_memberOf : MethodName := ⟨RX4, "memberOf", "(II)I"⟩
abbrev cX4_count : ByteArray := prog_1_method_9_code
def yX4_count : MethodName := ⟨RX4, "count", "(I)I"⟩
abbrev cX4_seasonOf : ByteArray := prog_1_method_10_code
def yX4_seasonOf : MethodName := ⟨RX4, "seasonOf", "(II)I"⟩
abbrev cX4_gain : ByteArray := prog_1_method_11_code
def yX4_gain : MethodName := ⟨RX4, "gain", "(II)I"⟩
abbrev cX4_bestUse : ByteArray := prog_1_method_12_code
def yX4_bestUse : MethodName := ⟨RX4, "bestUse", "(I)I"⟩
abbrev cX4_calm : ByteArray := prog_1_method_13_code
def yX4_calm : MethodName := ⟨RX4, "calm", "(I)I"⟩
abbrev cX4_bestForAll : ByteArray := prog_1_method_14_code
def yX4_bestForAll : MethodName := ⟨RX4, "bestForAll", "(I)I"⟩
abbrev cX4_wouldExclude : ByteArray := prog_1_method_15_code
def yX4_wouldExclude : MethodName := ⟨RX4, "wouldExclude", "()I"⟩
abbrev cX4_canRepair : ByteArray := prog_1_method_16_code
def yX4_canRepair : MethodName := ⟨RX4, "canRepair", "()I"⟩
abbrev cX4_undo : ByteArray := prog_1_method_17_code
def yX4_undo : MethodName := ⟨RX4, "undo", "()I"⟩
abbrev cX4_type : ByteArray := prog_1_method_18_code
def yX4_type : MethodName := ⟨RX4, "type", "(I)I"⟩
abbrev cX4_clearText : ByteArray := prog_1_method_19_code
def yX4_clearText : MethodName := ⟨RX4, "clearText", "()I"⟩
abbrev cX4_fault : ByteArray := prog_1_method_20_code
def yX4_fault : MethodName := ⟨RX4, "fault", "(I)I"⟩
abbrev cX4_play : ByteArray := prog_1_method_21_code
def yX4_play : MethodName := ⟨RX4, "play", "()I"⟩
abbrev cX4_keptIfDone : ByteArray := prog_1_method_22_code
def yX4_keptIfDone : MethodName := ⟨RX4, "keptIfDone", "(I)I"⟩
abbrev cX4_rehearse : ByteArray := prog_1_method_23_code
def yX4_rehearse : MethodName := ⟨RX4, "rehearse", "()V"⟩
abbrev cX4_commandOnTrial : ByteArray := prog_1_method_24_code
def yX4_commandOnTrial : MethodName := ⟨RX4, "commandOnTrial", "()I"⟩
abbrev cX4_isUnits : ByteArray := prog_1_method_25_code
def yX4_isUnits : MethodName := ⟨RX4, "isUnits", "(I)Z"⟩
abbrev cX4_quotient : ByteArray := prog_1_method_26_code
def yX4_quotient : MethodName := ⟨RX4, "quotient", "(II)I"⟩
abbrev cX4_copyRow : ByteArray := prog_1_method_27_code
def yX4_copyRow : MethodName := ⟨RX4, "copyRow", "([I[I)V"⟩
abbrev cX4_sumOf : ByteArray := prog_1_method_28_code
def yX4_sumOf : MethodName := ⟨RX4, "sumOf", "([I)I"⟩
def RX5 : String := "CommonsTurnsModel"
def TX5 : u_T := fun k => match k with
  | 0 => ("CommonsTurnsModel", "s", "[I", true)
  | 1 => ("CommonsTurnsModel", "past", "[I", true)
  | 2 => ("CommonsTurnsModel", "held", "[I", true)
  | 3 => ("CommonsTurnsModel", "pasts", "I", false)
  | 4 => ("CommonsTurnsModel", "runs", "Z", false)
  | 5 => ("CommonsTurnsModel", "text", "[I", true)
  | 6 => ("CommonsTurnsModel", "typed", "I", false)
  | 7 => ("CommonsTurnsModel", "charges", "[I", true)
  | 8 => ("CommonsTurnsModel", "spot", "I", false)
  | 9 => ("CommonsTurnsModel", "cause", "I", false)
  | 10 => ("CommonsTurnsModel", "commands", "I", false)
  | 11 => ("CommonsTurnsModel", "told", "[I", true)
  | _ => ("CommonsTurnsModel", "aside", "[I", true)
def tyX5 : Nat → FieldType := fun k => match k with
  | 0 => .array .int
  | 1 => .array .int
  | 2 => .array .int
  | 3 => .int
  | 4 => .boolean
  | 5 => .array .int
  | 6 => .int
  | 7 => .array .int
  | 8 => .int
  | 9 => .int
  | 10 => .int
  | 11 => .array .int
  | _ => .array .int
abbrev wsX50 : List Cond := u_ws RX5 TX5 13
theorem nmX5 : ∀ a, a < 13 → ∀ b, b < 13 → a ≠ b → (TX5 a).2.1 ≠ (TX5 b).2.1 := by decide +kernel
theorem tyX5_ok : ∀ k, k < 13 → parseFieldDescriptor (TX5 k).2.2.1 = some (tyX5 k) := by decide +kernel
abbrev cX5_init : ByteArray := prog_7_method_1_code
def yX5_init : MethodName := ⟨RX5, "<init>", "()V"⟩
abbrev cX5_in : ByteArray := prog_7_method_3_code
def yX5_in : MethodName := ⟨RX5, "in", "(III)Z"⟩
abbrev cX5_copies : ByteArray := prog_7_method_4_code
def yX5_copies : MethodName := ⟨RX5, "copies", "([I[I)V"⟩
abbrev cX5_changes : ByteArray := prog_7_method_5_code
def yX5_changes : MethodName := ⟨RX5, "changes", "()V"⟩
abbrev cX5_isMember : ByteArray := prog_7_method_6_code
def yX5_isMember : MethodName := ⟨RX5, "isMember", "(I)Z"⟩
abbrev cX5_of : ByteArray := prog_7_method_7_code
def yX5_of : MethodName := ⟨RX5, "of", "(II)I"⟩
abbrev cX5_puts : ByteArray := prog_7_method_8_code
def yX5_puts : MethodName := ⟨RX5, "puts", "(III)V"⟩
abbrev cX5_sum : ByteArray := prog_7_method_9_code
def yX5_sum : MethodName := ⟨RX5, "sum", "(I)I"⟩
abbrev cX5_damage : ByteArray := prog_7_method_10_code
def yX5_damage : MethodName := ⟨RX5, "damage", "(I)I"⟩
abbrev cX5_placeOf : ByteArray := prog_7_method_11_code
def yX5_placeOf : MethodName := ⟨RX5, "placeOf", "(I)I"⟩
abbrev cX5_ahead : ByteArray := prog_7_method_12_code
def yX5_ahead : MethodName := ⟨RX5, "ahead", "(I)I"⟩
abbrev cX5_chargeFor : ByteArray := prog_7_method_13_code
def yX5_chargeFor : MethodName := ⟨RX5, "chargeFor", "(II)I"⟩
abbrev cX5_member : ByteArray := prog_7_method_14_code
def yX5_member : MethodName := ⟨RX5, "member", "(I)I"⟩
abbrev cX5_use : ByteArray := prog_7_method_15_code
def yX5_use : MethodName := ⟨RX5, "use", "(II)I"⟩
abbrev cX5_outSet : ByteArray := prog_7_method_16_code
def yX5_outSet : MethodName := ⟨RX5, "outSet", "()I"⟩
abbrev cX5_keeps : ByteArray := prog_7_method_17_code
def yX5_keeps : MethodName := ⟨RX5, "keeps", "(IIII)V"⟩
abbrev cX5_excludes : ByteArray := prog_7_method_18_code
def yX5_excludes : MethodName := ⟨RX5, "excludes", "(I)V"⟩
abbrev cX5_ends : ByteArray := prog_7_method_19_code
def yX5_ends : MethodName := ⟨RX5, "ends", "()I"⟩
abbrev cX5_close : ByteArray := prog_7_method_20_code
def yX5_close : MethodName := ⟨RX5, "close", "()I"⟩
abbrev cX5_pay : ByteArray := prog_7_method_21_code
def yX5_pay : MethodName := ⟨RX5, "pay", "(II)I"⟩
abbrev cX5_repair : ByteArray := prog_7_method_22_code
def yX5_repair : MethodName := ⟨RX5, "repair", "(I)I"⟩
abbrev cX5_set : ByteArray := prog_7_method_23_code
def yX5_set : MethodName := ⟨RX5, "set", "(II)I"⟩
abbrev cX5_memberOf : ByteArray := prog_7_method_24_code
def yX5_memberOf : MethodName := ⟨RX5, "memberOf", "(II)I"⟩
abbrev cX5_count : ByteArray := prog_7_method_25_code
def yX5_count : MethodName := ⟨RX5, "count", "(I)I"⟩
abbrev cX5_seasonOf : ByteArray := prog_7_method_26_code
def yX5_seasonOf : MethodName := ⟨RX5, "seasonOf", "(II)I"⟩
abbrev cX5_gainFor : ByteArray := prog_7_method_27_code
def yX5_gainFor : MethodName := ⟨RX5, "gainFor", "(II)I"⟩
abbrev cX5_gain : ByteArray := prog_7_method_28_code
def yX5_gain : MethodName := ⟨RX5, "gain", "(II)I"⟩
abbrev cX5_best : ByteArray := prog_7_method_29_code
def yX5_best : MethodName := ⟨RX5, "best", "(I)I"⟩
abbrev cX5_bestUse : ByteArray := prog_7_method_30_code
def yX5_bestUse : MethodName := ⟨RX5, "bestUse", "(I)I"⟩
abbrev cX5_turns : ByteArray := prog_7_method_31_code
def yX5_turns : MethodName := ⟨RX5, "turns", "()Z"⟩
abbrev cX5_calm : ByteArray := prog_7_method_32_code
def yX5_calm : MethodName := ⟨RX5, "calm", "(I)I"⟩
abbrev cX5_bestForAll : ByteArray := prog_7_method_33_code
def yX5_bestForAll : MethodName := ⟨RX5, "bestForAll", "(I)I"⟩
abbrev cX5_wouldExclude : ByteArray := prog_7_method_34_code
def yX5_wouldExclude : MethodName := ⟨RX5, "wouldExclude", "()I"⟩
abbrev cX5_canRepair : ByteArray := prog_7_method_35_code
def yX5_canRepair : MethodName := ⟨RX5, "canRepair", "()I"⟩
abbrev cX5_undo : ByteArray := prog_7_method_36_code
def yX5_undo : MethodName := ⟨RX5, "undo", "()I"⟩
abbrev cX5_type : ByteArray := prog_7_method_37_code
def yX5_type : MethodName := ⟨RX5, "type", "(I)I"⟩
abbrev cX5_clearText : ByteArray := prog_7_method_38_code
def yX5_clearText : MethodName := ⟨RX5, "clearText", "()I"⟩
abbrev cX5_isAt : ByteArray := prog_7_method_39_code
def yX5_isAt : MethodName := ⟨RX5, "isAt", "(II)Z"⟩
abbrev cX5_number : ByteArray := prog_7_method_40_code
def yX5_number : MethodName := ⟨RX5, "number", "(II)Z"⟩
abbrev cX5_isForm : ByteArray := prog_7_method_41_code
def yX5_isForm : MethodName := ⟨RX5, "isForm", "(I)Z"⟩
abbrev cX5_calls : ByteArray := prog_7_method_42_code
def yX5_calls : MethodName := ⟨RX5, "calls", "(I)I"⟩
abbrev cX5_plays : ByteArray := prog_7_method_43_code
def yX5_plays : MethodName := ⟨RX5, "plays", "()I"⟩
abbrev cX5_fault : ByteArray := prog_7_method_44_code
def yX5_fault : MethodName := ⟨RX5, "fault", "(I)I"⟩
abbrev cX5_play : ByteArray := prog_7_method_45_code
def yX5_play : MethodName := ⟨RX5, "play", "()I"⟩
def RJ9 : String := "java/lang/Math"
def TJ9 : u_T := fun k => match k with
  | _ => ("", "", "", false)
def tyJ9 : Nat → FieldType := fun k => match k with
  | _ => .int
abbrev wsJ90 : List Cond := u_ws RJ9 TJ9 0
theorem nmJ9 : ∀ a, a < 0 → ∀ b, b < 0 → a ≠ b → (TJ9 a).2.1 ≠ (TJ9 b).2.1 := by decide +kernel
theorem tyJ9_ok : ∀ k, k < 0 → parseFieldDescriptor (TJ9 k).2.2.1 = some (tyJ9 k) := by decide +kernel
abbrev cJ9_max_7cf53 : ByteArray := prog_8_method_65_code
def yJ9_max_7cf53 : MethodName := ⟨RJ9, "max", "(II)I"⟩
abbrev cJ9_min_7cf53 : ByteArray := prog_8_method_69_code
def yJ9_min_7cf53 : MethodName := ⟨RJ9, "min", "(II)I"⟩
def RJ10 : String := "java/lang/System"
def TJ10 : u_T := fun k => match k with
  | _ => ("", "", "", false)
def tyJ10 : Nat → FieldType := fun k => match k with
  | _ => .int
abbrev wsJ100 : List Cond := u_ws RJ10 TJ10 0
theorem nmJ10 : ∀ a, a < 0 → ∀ b, b < 0 → a ≠ b → (TJ10 a).2.1 ≠ (TJ10 b).2.1 := by decide +kernel
theorem tyJ10_ok : ∀ k, k < 0 → parseFieldDescriptor (TJ10 k).2.2.1 = some (tyJ10 k) := by decide +kernel
def RL : String := "CommonsTurnsLaw"
abbrev cL_law : ByteArray := code
def yL_law : MethodName := ⟨RL, "law", "([I)Z"⟩
abbrev vwCl : List vw_C := [(RX0, TX0, 17), (RX1, TX1, 3), (RX2, TX2, 4), (RX3, TX3, 6), (RX4, TX4, 5), (RX5, TX5, 13)]
