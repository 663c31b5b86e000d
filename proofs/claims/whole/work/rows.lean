section
-- ===== PART A: goes FIRST, ahead of the names: the tables' words, and 'selects' of the private methods out of them =====
/-- a private method of a class that the tables say can be made, by its rows of tables_1 -/
def lw_okq (q : MethodName × Nat) : Prop := (q.1.cls ≠ "java/lang/invoke/MethodHandle" ∧ q.1.cls ≠ "java/lang/invoke/VarHandle") ∧ Cond.instantiable q.1.cls q.2 ∈ tables_1 ∧ Cond.privateMethod q.1 ∈ tables_1 ∧ Cond.instanceMethod q.1 ∈ tables_1
theorem lw_p0 : lw_okq (⟨"CommonsTurns", "keptIfDone", "(I)I"⟩, 5) := ⟨⟨by decide +kernel, by decide +kernel⟩, List.mem_of_getElem? (i := 10) (by decide +kernel), List.mem_of_getElem? (i := 190) (by decide +kernel), List.mem_of_getElem? (i := 191) (by decide +kernel)⟩
theorem lw_p1 : lw_okq (⟨"CommonsTurns", "rehearse", "()V"⟩, 5) := ⟨⟨by decide +kernel, by decide +kernel⟩, List.mem_of_getElem? (i := 10) (by decide +kernel), List.mem_of_getElem? (i := 436) (by decide +kernel), List.mem_of_getElem? (i := 437) (by decide +kernel)⟩
theorem lw_p2 : lw_okq (⟨"CommonsTurns", "commandOnTrial", "()I"⟩, 5) := ⟨⟨by decide +kernel, by decide +kernel⟩, List.mem_of_getElem? (i := 10) (by decide +kernel), List.mem_of_getElem? (i := 461) (by decide +kernel), List.mem_of_getElem? (i := 462) (by decide +kernel)⟩
theorem lw_p3 : lw_okq (⟨"CommonsTurnsModel", "changes", "()V"⟩, 13) := ⟨⟨by decide +kernel, by decide +kernel⟩, List.mem_of_getElem? (i := 473) (by decide +kernel), List.mem_of_getElem? (i := 526) (by decide +kernel), List.mem_of_getElem? (i := 527) (by decide +kernel)⟩
theorem lw_p4 : lw_okq (⟨"CommonsTurnsModel", "puts", "(III)V"⟩, 13) := ⟨⟨by decide +kernel, by decide +kernel⟩, List.mem_of_getElem? (i := 473) (by decide +kernel), List.mem_of_getElem? (i := 530) (by decide +kernel), List.mem_of_getElem? (i := 531) (by decide +kernel)⟩
theorem lw_p5 : lw_okq (⟨"CommonsTurnsModel", "isMember", "(I)Z"⟩, 13) := ⟨⟨by decide +kernel, by decide +kernel⟩, List.mem_of_getElem? (i := 473) (by decide +kernel), List.mem_of_getElem? (i := 538) (by decide +kernel), List.mem_of_getElem? (i := 539) (by decide +kernel)⟩
theorem lw_p6 : lw_okq (⟨"CommonsTurnsModel", "of", "(II)I"⟩, 13) := ⟨⟨by decide +kernel, by decide +kernel⟩, List.mem_of_getElem? (i := 473) (by decide +kernel), List.mem_of_getElem? (i := 542) (by decide +kernel), List.mem_of_getElem? (i := 543) (by decide +kernel)⟩
theorem lw_p7 : lw_okq (⟨"CommonsTurnsModel", "chargeFor", "(II)I"⟩, 13) := ⟨⟨by decide +kernel, by decide +kernel⟩, List.mem_of_getElem? (i := 473) (by decide +kernel), List.mem_of_getElem? (i := 546) (by decide +kernel), List.mem_of_getElem? (i := 547) (by decide +kernel)⟩
theorem lw_p8 : lw_okq (⟨"CommonsTurnsModel", "ahead", "(I)I"⟩, 13) := ⟨⟨by decide +kernel, by decide +kernel⟩, List.mem_of_getElem? (i := 473) (by decide +kernel), List.mem_of_getElem? (i := 550) (by decide +kernel), List.mem_of_getElem? (i := 551) (by decide +kernel)⟩
theorem lw_p9 : lw_okq (⟨"CommonsTurnsModel", "placeOf", "(I)I"⟩, 13) := ⟨⟨by decide +kernel, by decide +kernel⟩, List.mem_of_getElem? (i := 473) (by decide +kernel), List.mem_of_getElem? (i := 554) (by decide +kernel), List.mem_of_getElem? (i := 555) (by decide +kernel)⟩
theorem lw_p10 : lw_okq (⟨"CommonsTurnsModel", "damage", "(I)I"⟩, 13) := ⟨⟨by decide +kernel, by decide +kernel⟩, List.mem_of_getElem? (i := 473) (by decide +kernel), List.mem_of_getElem? (i := 558) (by decide +kernel), List.mem_of_getElem? (i := 559) (by decide +kernel)⟩
theorem lw_p11 : lw_okq (⟨"CommonsTurnsModel", "ends", "()I"⟩, 13) := ⟨⟨by decide +kernel, by decide +kernel⟩, List.mem_of_getElem? (i := 473) (by decide +kernel), List.mem_of_getElem? (i := 566) (by decide +kernel), List.mem_of_getElem? (i := 567) (by decide +kernel)⟩
theorem lw_p12 : lw_okq (⟨"CommonsTurnsModel", "sum", "(I)I"⟩, 13) := ⟨⟨by decide +kernel, by decide +kernel⟩, List.mem_of_getElem? (i := 473) (by decide +kernel), List.mem_of_getElem? (i := 570) (by decide +kernel), List.mem_of_getElem? (i := 571) (by decide +kernel)⟩
theorem lw_p13 : lw_okq (⟨"CommonsTurnsModel", "outSet", "()I"⟩, 13) := ⟨⟨by decide +kernel, by decide +kernel⟩, List.mem_of_getElem? (i := 473) (by decide +kernel), List.mem_of_getElem? (i := 574) (by decide +kernel), List.mem_of_getElem? (i := 575) (by decide +kernel)⟩
theorem lw_p14 : lw_okq (⟨"CommonsTurnsModel", "keeps", "(IIII)V"⟩, 13) := ⟨⟨by decide +kernel, by decide +kernel⟩, List.mem_of_getElem? (i := 473) (by decide +kernel), List.mem_of_getElem? (i := 578) (by decide +kernel), List.mem_of_getElem? (i := 579) (by decide +kernel)⟩
theorem lw_p15 : lw_okq (⟨"CommonsTurnsModel", "excludes", "(I)V"⟩, 13) := ⟨⟨by decide +kernel, by decide +kernel⟩, List.mem_of_getElem? (i := 473) (by decide +kernel), List.mem_of_getElem? (i := 582) (by decide +kernel), List.mem_of_getElem? (i := 583) (by decide +kernel)⟩
def lw_privs_1 : List (MethodName × Nat) := [(⟨"CommonsTurns", "keptIfDone", "(I)I"⟩, 5), (⟨"CommonsTurns", "rehearse", "()V"⟩, 5), (⟨"CommonsTurns", "commandOnTrial", "()I"⟩, 5), (⟨"CommonsTurnsModel", "changes", "()V"⟩, 13), (⟨"CommonsTurnsModel", "puts", "(III)V"⟩, 13), (⟨"CommonsTurnsModel", "isMember", "(I)Z"⟩, 13), (⟨"CommonsTurnsModel", "of", "(II)I"⟩, 13), (⟨"CommonsTurnsModel", "chargeFor", "(II)I"⟩, 13), (⟨"CommonsTurnsModel", "ahead", "(I)I"⟩, 13), (⟨"CommonsTurnsModel", "placeOf", "(I)I"⟩, 13), (⟨"CommonsTurnsModel", "damage", "(I)I"⟩, 13), (⟨"CommonsTurnsModel", "ends", "()I"⟩, 13), (⟨"CommonsTurnsModel", "sum", "(I)I"⟩, 13), (⟨"CommonsTurnsModel", "outSet", "()I"⟩, 13), (⟨"CommonsTurnsModel", "keeps", "(IIII)V"⟩, 13), (⟨"CommonsTurnsModel", "excludes", "(I)V"⟩, 13)]
theorem lw_r1 : ∀ q ∈ lw_privs_1, lw_okq q := List.forall_mem_cons.mpr ⟨lw_p0, List.forall_mem_cons.mpr ⟨lw_p1, List.forall_mem_cons.mpr ⟨lw_p2, List.forall_mem_cons.mpr ⟨lw_p3, List.forall_mem_cons.mpr ⟨lw_p4, List.forall_mem_cons.mpr ⟨lw_p5, List.forall_mem_cons.mpr ⟨lw_p6, List.forall_mem_cons.mpr ⟨lw_p7, List.forall_mem_cons.mpr ⟨lw_p8, List.forall_mem_cons.mpr ⟨lw_p9, List.forall_mem_cons.mpr ⟨lw_p10, List.forall_mem_cons.mpr ⟨lw_p11, List.forall_mem_cons.mpr ⟨lw_p12, List.forall_mem_cons.mpr ⟨lw_p13, List.forall_mem_cons.mpr ⟨lw_p14, List.forall_mem_cons.mpr ⟨lw_p15, fun _ h => absurd h List.not_mem_nil⟩⟩⟩⟩⟩⟩⟩⟩⟩⟩⟩⟩⟩⟩⟩⟩
theorem lw_p16 : lw_okq (⟨"CommonsTurnsModel", "gainFor", "(II)I"⟩, 13) := ⟨⟨by decide +kernel, by decide +kernel⟩, List.mem_of_getElem? (i := 473) (by decide +kernel), List.mem_of_getElem? (i := 614) (by decide +kernel), List.mem_of_getElem? (i := 615) (by decide +kernel)⟩
theorem lw_p17 : lw_okq (⟨"CommonsTurnsModel", "best", "(I)I"⟩, 13) := ⟨⟨by decide +kernel, by decide +kernel⟩, List.mem_of_getElem? (i := 473) (by decide +kernel), List.mem_of_getElem? (i := 622) (by decide +kernel), List.mem_of_getElem? (i := 623) (by decide +kernel)⟩
theorem lw_p18 : lw_okq (⟨"CommonsTurnsModel", "turns", "()Z"⟩, 13) := ⟨⟨by decide +kernel, by decide +kernel⟩, List.mem_of_getElem? (i := 473) (by decide +kernel), List.mem_of_getElem? (i := 633) (by decide +kernel), List.mem_of_getElem? (i := 634) (by decide +kernel)⟩
theorem lw_p19 : lw_okq (⟨"CommonsTurnsModel", "plays", "()I"⟩, 13) := ⟨⟨by decide +kernel, by decide +kernel⟩, List.mem_of_getElem? (i := 473) (by decide +kernel), List.mem_of_getElem? (i := 665) (by decide +kernel), List.mem_of_getElem? (i := 666) (by decide +kernel)⟩
theorem lw_p20 : lw_okq (⟨"CommonsTurnsModel", "isForm", "(I)Z"⟩, 13) := ⟨⟨by decide +kernel, by decide +kernel⟩, List.mem_of_getElem? (i := 473) (by decide +kernel), List.mem_of_getElem? (i := 669) (by decide +kernel), List.mem_of_getElem? (i := 670) (by decide +kernel)⟩
theorem lw_p21 : lw_okq (⟨"CommonsTurnsModel", "isAt", "(II)Z"⟩, 13) := ⟨⟨by decide +kernel, by decide +kernel⟩, List.mem_of_getElem? (i := 473) (by decide +kernel), List.mem_of_getElem? (i := 673) (by decide +kernel), List.mem_of_getElem? (i := 674) (by decide +kernel)⟩
theorem lw_p22 : lw_okq (⟨"CommonsTurnsModel", "number", "(II)Z"⟩, 13) := ⟨⟨by decide +kernel, by decide +kernel⟩, List.mem_of_getElem? (i := 473) (by decide +kernel), List.mem_of_getElem? (i := 677) (by decide +kernel), List.mem_of_getElem? (i := 678) (by decide +kernel)⟩
theorem lw_p23 : lw_okq (⟨"CommonsTurnsModel", "calls", "(I)I"⟩, 13) := ⟨⟨by decide +kernel, by decide +kernel⟩, List.mem_of_getElem? (i := 473) (by decide +kernel), List.mem_of_getElem? (i := 681) (by decide +kernel), List.mem_of_getElem? (i := 682) (by decide +kernel)⟩
def lw_privs_2 : List (MethodName × Nat) := [(⟨"CommonsTurnsModel", "gainFor", "(II)I"⟩, 13), (⟨"CommonsTurnsModel", "best", "(I)I"⟩, 13), (⟨"CommonsTurnsModel", "turns", "()Z"⟩, 13), (⟨"CommonsTurnsModel", "plays", "()I"⟩, 13), (⟨"CommonsTurnsModel", "isForm", "(I)Z"⟩, 13), (⟨"CommonsTurnsModel", "isAt", "(II)Z"⟩, 13), (⟨"CommonsTurnsModel", "number", "(II)Z"⟩, 13), (⟨"CommonsTurnsModel", "calls", "(I)I"⟩, 13)]
theorem lw_r2 : ∀ q ∈ lw_privs_2, lw_okq q := List.forall_mem_cons.mpr ⟨lw_p16, List.forall_mem_cons.mpr ⟨lw_p17, List.forall_mem_cons.mpr ⟨lw_p18, List.forall_mem_cons.mpr ⟨lw_p19, List.forall_mem_cons.mpr ⟨lw_p20, List.forall_mem_cons.mpr ⟨lw_p21, List.forall_mem_cons.mpr ⟨lw_p22, List.forall_mem_cons.mpr ⟨lw_p23, fun _ h => absurd h List.not_mem_nil⟩⟩⟩⟩⟩⟩⟩⟩
def lw_privs : List (MethodName × Nat) := lw_privs_1 ++ (lw_privs_2)
def lw_tbl : List Cond := k2_sels lw_privs ++ tables_1
theorem lw_privs_ok : ∀ q ∈ lw_privs, lw_okq q := by
  show ∀ q ∈ lw_privs_1 ++ (lw_privs_2), lw_okq q
  exact List.forall_mem_append.mpr ⟨lw_r1, lw_r2⟩
def RX0 : String := "CommonsTurns$Commons"
def TX0 : u_T := fun k => match k with
  | 0 => ("CommonsTurns$Commons", "settings", "[I", true)
  | 1 => ("CommonsTurns$Commons", "worths", "[I", true)
  | 2 => ("CommonsTurns$Commons", "uses", "[I", true)
  | 3 => ("CommonsTurns$Commons", "owed", "[I", true)
  | 4 => ("CommonsTurns$Commons", "paid", "[I", true)
  | 5 => ("CommonsTurns$Commons", "used", "[I", true)
  | 6 => ("CommonsTurns$Commons", "usedSinceTurn", "[I", true)
  | 7 => ("CommonsTurns$Commons", "seasonsOut", "[I", true)
  | 8 => ("CommonsTurns$Commons", "ended", "[I", true)
  | 9 => ("CommonsTurns$Commons", "members", "I", false)
  | 10 => ("CommonsTurns$Commons", "season", "I", false)
  | 11 => ("CommonsTurns$Commons", "health", "I", false)
  | 12 => ("CommonsTurns$Commons", "fund", "I", false)
  | 13 => ("CommonsTurns$Commons", "out", "I", false)
  | 14 => ("CommonsTurns$Commons", "damageSoFar", "I", false)
  | 15 => ("CommonsTurns$Commons", "damageWithoutHealth", "I", false)
  | _ => ("CommonsTurns$Commons", "pointsRepaired", "I", false)
def tyX0 : Nat → FieldType := fun k => match k with
  | 0 => .array .int
  | 1 => .array .int
  | 2 => .array .int
  | 3 => .array .int
  | 4 => .array .int
  | 5 => .array .int
  | 6 => .array .int
  | 7 => .array .int
  | 8 => .array .int
  | 9 => .int
  | 10 => .int
  | 11 => .int
  | 12 => .int
  | 13 => .int
  | 14 => .int
  | 15 => .int
  | _ => .int
abbrev wsX00 : List Cond := u_ws RX0 TX0 17
theorem nmX0 : ∀ a, a < 17 → ∀ b, b < 17 → a ≠ b → (TX0 a).2.1 ≠ (TX0 b).2.1 := by decide +kernel
theorem tyX0_ok : ∀ k, k < 17 → parseFieldDescriptor (TX0 k).2.2.1 = some (tyX0 k) := by decide +kernel
abbrev cX0_init : ByteArray := prog_2_method_1_code
def yX0_init : MethodName := ⟨RX0, "<init>", "()V"⟩
abbrev cX0_takeOver : ByteArray := prog_2_method_2_code
def yX0_takeOver : MethodName := ⟨RX0, "takeOver", "(LCommonsTurns$Commons;)V"⟩
abbrev cX0_has : ByteArray := prog_2_method_3_code
def yX0_has : MethodName := ⟨RX0, "has", "(I)Z"⟩
abbrev cX0_isOut : ByteArray := prog_2_method_4_code
def yX0_isOut : MethodName := ⟨RX0, "isOut", "(I)Z"⟩
abbrev cX0_allUnits : ByteArray := prog_2_method_5_code
def yX0_allUnits : MethodName := ⟨RX0, "allUnits", "()I"⟩
abbrev cX0_damageOf : ByteArray := prog_2_method_6_code
def yX0_damageOf : MethodName := ⟨RX0, "damageOf", "(I)I"⟩
abbrev cX0_placeOf : ByteArray := prog_2_method_7_code
def yX0_placeOf : MethodName := ⟨RX0, "placeOf", "(I)I"⟩
abbrev cX0_unitsAhead : ByteArray := prog_2_method_8_code
def yX0_unitsAhead : MethodName := ⟨RX0, "unitsAhead", "(I)I"⟩
abbrev cX0_chargeOf : ByteArray := prog_2_method_9_code
def yX0_chargeOf : MethodName := ⟨RX0, "chargeOf", "(I)I"⟩
abbrev cX0_damageAdded : ByteArray := prog_2_method_10_code
def yX0_damageAdded : MethodName := ⟨RX0, "damageAdded", "(II)I"⟩
abbrev cX0_addMember : ByteArray := prog_2_method_11_code
def yX0_addMember : MethodName := ⟨RX0, "addMember", "(I)I"⟩
abbrev cX0_declareUse : ByteArray := prog_2_method_12_code
def yX0_declareUse : MethodName := ⟨RX0, "declareUse", "(II)I"⟩
abbrev cX0_payCoins : ByteArray := prog_2_method_13_code
def yX0_payCoins : MethodName := ⟨RX0, "payCoins", "(II)I"⟩
abbrev cX0_changeSetting : ByteArray := prog_2_method_14_code
def yX0_changeSetting : MethodName := ⟨RX0, "changeSetting", "(II)I"⟩
abbrev cX0_repairPoints : ByteArray := prog_2_method_15_code
def yX0_repairPoints : MethodName := ⟨RX0, "repairPoints", "(I)I"⟩
abbrev cX0_oweByUses : ByteArray := prog_2_method_16_code
def yX0_oweByUses : MethodName := ⟨RX0, "oweByUses", "(I)V"⟩
abbrev cX0_pointsFromFund : ByteArray := prog_2_method_17_code
def yX0_pointsFromFund : MethodName := ⟨RX0, "pointsFromFund", "()I"⟩
abbrev cX0_closeSeason : ByteArray := prog_2_method_18_code
def yX0_closeSeason : MethodName := ⟨RX0, "closeSeason", "()I"⟩
abbrev cX0_endSeason : ByteArray := prog_2_method_19_code
def yX0_endSeason : MethodName := ⟨RX0, "endSeason", "()I"⟩
abbrev cX0_oweCharges : ByteArray := prog_2_method_20_code
def yX0_oweCharges : MethodName := ⟨RX0, "oweCharges", "()V"⟩
abbrev cX0_keepSeason : ByteArray := prog_2_method_21_code
def yX0_keepSeason : MethodName := ⟨RX0, "keepSeason", "(II)V"⟩
abbrev cX0_bookUses : ByteArray := prog_2_method_22_code
def yX0_bookUses : MethodName := ⟨RX0, "bookUses", "()V"⟩
abbrev cX0_noteSeasonsOut : ByteArray := prog_2_method_23_code
def yX0_noteSeasonsOut : MethodName := ⟨RX0, "noteSeasonsOut", "()V"⟩
abbrev cX0_excludeInTurn : ByteArray := prog_2_method_24_code
def yX0_excludeInTurn : MethodName := ⟨RX0, "excludeInTurn", "(I)V"⟩
abbrev cX0_turnsNeeded : ByteArray := prog_2_method_25_code
def yX0_turnsNeeded : MethodName := ⟨RX0, "turnsNeeded", "()I"⟩
abbrev cX0_heaviestNotIn : ByteArray := prog_2_method_26_code
def yX0_heaviestNotIn : MethodName := ⟨RX0, "heaviestNotIn", "(I)I"⟩
abbrev cX0_excludeDebtors : ByteArray := prog_2_method_27_code
def yX0_excludeDebtors : MethodName := ⟨RX0, "excludeDebtors", "()V"⟩
abbrev cX0_liftedGain : ByteArray := prog_2_method_28_code
def yX0_liftedGain : MethodName := ⟨RX0, "liftedGain", "(II)I"⟩
abbrev cX0_gainBehind : ByteArray := prog_2_method_29_code
def yX0_gainBehind : MethodName := ⟨RX0, "gainBehind", "(III)I"⟩
abbrev cX0_bestUnits : ByteArray := prog_2_method_30_code
def yX0_bestUnits : MethodName := ⟨RX0, "bestUnits", "(I)I"⟩
abbrev cX0_calmDown : ByteArray := prog_2_method_31_code
def yX0_calmDown : MethodName := ⟨RX0, "calmDown", "()I"⟩
abbrev cX0_roundChanges : ByteArray := prog_2_method_32_code
def yX0_roundChanges : MethodName := ⟨RX0, "roundChanges", "()Z"⟩
abbrev cX0_useBestForAll : ByteArray := prog_2_method_33_code
def yX0_useBestForAll : MethodName := ⟨RX0, "useBestForAll", "()I"⟩
abbrev cX0_worthiestWithRoom : ByteArray := prog_2_method_34_code
def yX0_worthiestWithRoom : MethodName := ⟨RX0, "worthiestWithRoom", "()I"⟩
abbrev cX0_numberOfMember : ByteArray := prog_2_method_35_code
def yX0_numberOfMember : MethodName := ⟨RX0, "numberOfMember", "(II)I"⟩
abbrev cX0_numberOfAll : ByteArray := prog_2_method_36_code
def yX0_numberOfAll : MethodName := ⟨RX0, "numberOfAll", "(I)I"⟩
abbrev cX0_numberOfSeason : ByteArray := prog_2_method_37_code
def yX0_numberOfSeason : MethodName := ⟨RX0, "numberOfSeason", "(II)I"⟩
def RX1 : String := "CommonsTurns$History"
def TX1 : u_T := fun k => match k with
  | 0 => ("CommonsTurns$History", "states", "[LCommonsTurns$Commons;", true)
  | 1 => ("CommonsTurns$History", "oldest", "I", false)
  | _ => ("CommonsTurns$History", "length", "I", false)
def tyX1 : Nat → FieldType := fun k => match k with
  | 0 => .array (.object "CommonsTurns$Commons")
  | 1 => .int
  | _ => .int
abbrev wsX10 : List Cond := u_ws RX1 TX1 3
theorem nmX1 : ∀ a, a < 3 → ∀ b, b < 3 → a ≠ b → (TX1 a).2.1 ≠ (TX1 b).2.1 := by decide +kernel
theorem tyX1_ok : ∀ k, k < 3 → parseFieldDescriptor (TX1 k).2.2.1 = some (tyX1 k) := by decide +kernel
abbrev cX1_init : ByteArray := prog_3_method_1_code
def yX1_init : MethodName := ⟨RX1, "<init>", "()V"⟩
abbrev cX1_record : ByteArray := prog_3_method_2_code
def yX1_record : MethodName := ⟨RX1, "record", "(LCommonsTurns$Commons;)V"⟩
abbrev cX1_restoreLatest : ByteArray := prog_3_method_3_code
def yX1_restoreLatest : MethodName := ⟨RX1, "restoreLatest", "(LCommonsTurns$Commons;)V"⟩
def RX2 : String := "CommonsTurns$Rehearsal"
def TX2 : u_T := fun k => match k with
  | 0 => ("CommonsTurns$Rehearsal", "start", "I", false)
  | 1 => ("CommonsTurns$Rehearsal", "reason", "I", false)
  | 2 => ("CommonsTurns$Rehearsal", "cause", "I", false)
  | _ => ("CommonsTurns$Rehearsal", "done", "I", false)
def tyX2 : Nat → FieldType := fun k => match k with
  | 0 => .int
  | 1 => .int
  | 2 => .int
  | _ => .int
abbrev wsX20 : List Cond := u_ws RX2 TX2 4
theorem nmX2 : ∀ a, a < 4 → ∀ b, b < 4 → a ≠ b → (TX2 a).2.1 ≠ (TX2 b).2.1 := by decide +kernel
theorem tyX2_ok : ∀ k, k < 4 → parseFieldDescriptor (TX2 k).2.2.1 = some (tyX2 k) := by decide +kernel
abbrev cX2_init : ByteArray := prog_4_method_1_code
def yX2_init : MethodName := ⟨RX2, "<init>", "()V"⟩
abbrev cX2_begin : ByteArray := prog_4_method_2_code
def yX2_begin : MethodName := ⟨RX2, "begin", "()V"⟩
abbrev cX2_isStoppedBy : ByteArray := prog_4_method_3_code
def yX2_isStoppedBy : MethodName := ⟨RX2, "isStoppedBy", "(I)Z"⟩
def RX3 : String := "CommonsTurns$Text"
def TX3 : u_T := fun k => match k with
  | 0 => ("CommonsTurns$Text", "signs", "[C", true)
  | 1 => ("CommonsTurns$Text", "length", "I", false)
  | 2 => ("CommonsTurns$Text", "next", "I", false)
  | 3 => ("CommonsTurns$Text", "kind", "I", false)
  | 4 => ("CommonsTurns$Text", "first", "I", false)
  | _ => ("CommonsTurns$Text", "second", "I", false)
def tyX3 : Nat → FieldType := fun k => match k with
  | 0 => .array .char
  | 1 => .int
  | 2 => .int
  | 3 => .int
  | 4 => .int
  | _ => .int
abbrev wsX30 : List Cond := u_ws RX3 TX3 6
theorem nmX3 : ∀ a, a < 6 → ∀ b, b < 6 → a ≠ b → (TX3 a).2.1 ≠ (TX3 b).2.1 := by decide +kernel
theorem tyX3_ok : ∀ k, k < 6 → parseFieldDescriptor (TX3 k).2.2.1 = some (tyX3 k) := by decide +kernel
abbrev cX3_init : ByteArray := prog_5_method_1_code
def yX3_init : MethodName := ⟨RX3, "<init>", "()V"⟩
abbrev cX3_append : ByteArray := prog_5_method_2_code
def yX3_append : MethodName := ⟨RX3, "append", "(I)I"⟩
abbrev cX3_readCommand : ByteArray := prog_5_method_3_code
def yX3_readCommand : MethodName := ⟨RX3, "readCommand", "()Z"⟩
abbrev cX3_signAhead : ByteArray := prog_5_method_4_code
def yX3_signAhead : MethodName := ⟨RX3, "signAhead", "()I"⟩
abbrev cX3_passes : ByteArray := prog_5_method_5_code
def yX3_passes : MethodName := ⟨RX3, "passes", "(I)Z"⟩
abbrev cX3_readNumber : ByteArray := prog_5_method_6_code
def yX3_readNumber : MethodName := ⟨RX3, "readNumber", "()I"⟩
def RX4 : String := "CommonsTurns"
def TX4 : u_T := fun k => match k with
  | 0 => ("CommonsTurns", "now", "LCommonsTurns$Commons;", true)
  | 1 => ("CommonsTurns", "trial", "LCommonsTurns$Commons;", true)
  | 2 => ("CommonsTurns", "history", "LCommonsTurns$History;", true)
  | 3 => ("CommonsTurns", "text", "LCommonsTurns$Text;", true)
  | _ => ("CommonsTurns", "rehearsal", "LCommonsTurns$Rehearsal;", true)
def tyX4 : Nat → FieldType := fun k => match k with
  | 0 => .object "CommonsTurns$Commons"
  | 1 => .object "CommonsTurns$Commons"
  | 2 => .object "CommonsTurns$History"
  | 3 => .object "CommonsTurns$Text"
  | _ => .object "CommonsTurns$Rehearsal"
abbrev wsX40 : List Cond := u_ws RX4 TX4 5
theorem nmX4 : ∀ a, a < 5 → ∀ b, b < 5 → a ≠ b → (TX4 a).2.1 ≠ (TX4 b).2.1 := by decide +kernel
theorem tyX4_ok : ∀ k, k < 5 → parseFieldDescriptor (TX4 k).2.2.1 = some (tyX4 k) := by decide +kernel
abbrev cX4_init : ByteArray := prog_1_method_1_code
def yX4_init : MethodName := ⟨RX4, "<init>", "()V"⟩
abbrev cX4_member : ByteArray := prog_1_method_2_code
def yX4_member : MethodName := ⟨RX4, "member", "(I)I"⟩
abbrev cX4_use : ByteArray := prog_1_method_3_code
def yX4_use : MethodName := ⟨RX4, "use", "(II)I"⟩
abbrev cX4_close : ByteArray := prog_1_method_4_code
def yX4_close : MethodName := ⟨RX4, "close", "()I"⟩
abbrev cX4_pay : ByteArray := prog_1_method_5_code
def yX4_pay : MethodName := ⟨RX4, "pay", "(II)I"⟩
abbrev cX4_repair : ByteArray := prog_1_method_6_code
def yX4_repair : MethodName := ⟨RX4, "repair", "(I)I"⟩
abbrev cX4_set : ByteArray := prog_1_method_7_code
def yX4_set : MethodName := ⟨RX4, "set", "(II)I"⟩
abbrev cX4_memberOf : ByteArray := prog_1_method_8_code
def yX4_memberOf : MethodName := ⟨RX4, "memberOf", "(II)I"⟩
abbrev cX4_count : ByteArray := prog_1_method_9_code
def yX4_count : MethodName := ⟨RX4, "count", "(I)I"⟩
abbrev cX4_seasonOf : ByteArray := prog_1_method_10_code
def yX4_seasonOf : MethodName := ⟨RX4, "seasonOf", "(II)I"⟩
abbrev cX4_gain : ByteArray := prog_1_method_11_code
def yX4_gain : MethodName := ⟨RX4, "gain", "(II)I"⟩
abbrev cX4_bestUse : ByteArray := prog_1_method_12_code
def yX4_bestUse : MethodName := ⟨RX4, "bestUse", "(I)I"⟩
abbrev cX4_calm : ByteArray := prog_1_method_13_code
def yX4_calm : MethodName := ⟨RX4, "calm", "(I)I"⟩
abbrev cX4_bestForAll : ByteArray := prog_1_method_14_code
def yX4_bestForAll : MethodName := ⟨RX4, "bestForAll", "(I)I"⟩
abbrev cX4_wouldExclude : ByteArray := prog_1_method_15_code
def yX4_wouldExclude : MethodName := ⟨RX4, "wouldExclude", "()I"⟩
abbrev cX4_canRepair : ByteArray := prog_1_method_16_code
def yX4_canRepair : MethodName := ⟨RX4, "canRepair", "()I"⟩
abbrev cX4_undo : ByteArray := prog_1_method_17_code
def yX4_undo : MethodName := ⟨RX4, "undo", "()I"⟩
abbrev cX4_type : ByteArray := prog_1_method_18_code
def yX4_type : MethodName := ⟨RX4, "type", "(I)I"⟩
abbrev cX4_clearText : ByteArray := prog_1_method_19_code
def yX4_clearText : MethodName := ⟨RX4, "clearText", "()I"⟩
abbrev cX4_fault : ByteArray := prog_1_method_20_code
def yX4_fault : MethodName := ⟨RX4, "fault", "(I)I"⟩
abbrev cX4_play : ByteArray := prog_1_method_21_code
def yX4_play : MethodName := ⟨RX4, "play", "()I"⟩
abbrev cX4_keptIfDone : ByteArray := prog_1_method_22_code
def yX4_keptIfDone : MethodName := ⟨RX4, "keptIfDone", "(I)I"⟩
abbrev cX4_rehearse : ByteArray := prog_1_method_23_code
def yX4_rehearse : MethodName := ⟨RX4, "rehearse", "()V"⟩
abbrev cX4_commandOnTrial : ByteArray := prog_1_method_24_code
def yX4_commandOnTrial : MethodName := ⟨RX4, "commandOnTrial", "()I"⟩
abbrev cX4_isUnits : ByteArray := prog_1_method_25_code
def yX4_isUnits : MethodName := ⟨RX4, "isUnits", "(I)Z"⟩
abbrev cX4_quotient : ByteArray := prog_1_method_26_code
def yX4_quotient : MethodName := ⟨RX4, "quotient", "(II)I"⟩
abbrev cX4_copyRow : ByteArray := prog_1_method_27_code
def yX4_copyRow : MethodName := ⟨RX4, "copyRow", "([I[I)V"⟩
abbrev cX4_sumOf : ByteArray := prog_1_method_28_code
def yX4_sumOf : MethodName := ⟨RX4, "sumOf", "([I)I"⟩
def RX5 : String := "CommonsTurnsModel"
def TX5 : u_T := fun k => match k with
  | 0 => ("CommonsTurnsModel", "s", "[I", true)
  | 1 => ("CommonsTurnsModel", "past", "[I", true)
  | 2 => ("CommonsTurnsModel", "held", "[I", true)
  | 3 => ("CommonsTurnsModel", "pasts", "I", false)
  | 4 => ("CommonsTurnsModel", "runs", "Z", false)
  | 5 => ("CommonsTurnsModel", "text", "[I", true)
  | 6 => ("CommonsTurnsModel", "typed", "I", false)
  | 7 => ("CommonsTurnsModel", "charges", "[I", true)
  | 8 => ("CommonsTurnsModel", "spot", "I", false)
  | 9 => ("CommonsTurnsModel", "cause", "I", false)
  | 10 => ("CommonsTurnsModel", "commands", "I", false)
  | 11 => ("CommonsTurnsModel", "told", "[I", true)
  | _ => ("CommonsTurnsModel", "aside", "[I", true)
def tyX5 : Nat → FieldType := fun k => match k with
  | 0 => .array .int
  | 1 => .array .int
  | 2 => .array .int
  | 3 => .int
  | 4 => .boolean
  | 5 => .array .int
  | 6 => .int
  | 7 => .array .int
  | 8 => .int
  | 9 => .int
  | 10 => .int
  | 11 => .array .int
  | _ => .array .int
abbrev wsX50 : List Cond := u_ws RX5 TX5 13
theorem nmX5 : ∀ a, a < 13 → ∀ b, b < 13 → a ≠ b → (TX5 a).2.1 ≠ (TX5 b).2.1 := by decide +kernel
theorem tyX5_ok : ∀ k, k < 13 → parseFieldDescriptor (TX5 k).2.2.1 = some (tyX5 k) := by decide +kernel
abbrev cX5_init : ByteArray := prog_7_method_1_code
def yX5_init : MethodName := ⟨RX5, "<init>", "()V"⟩
abbrev cX5_in : ByteArray := prog_7_method_3_code
def yX5_in : MethodName := ⟨RX5, "in", "(III)Z"⟩
abbrev cX5_copies : ByteArray := prog_7_method_4_code
def yX5_copies : MethodName := ⟨RX5, "copies", "([I[I)V"⟩
abbrev cX5_changes : ByteArray := prog_7_method_5_code
def yX5_changes : MethodName := ⟨RX5, "changes", "()V"⟩
abbrev cX5_isMember : ByteArray := prog_7_method_6_code
def yX5_isMember : MethodName := ⟨RX5, "isMember", "(I)Z"⟩
abbrev cX5_of : ByteArray := prog_7_method_7_code
def yX5_of : MethodName := ⟨RX5, "of", "(II)I"⟩
abbrev cX5_puts : ByteArray := prog_7_method_8_code
def yX5_puts : MethodName := ⟨RX5, "puts", "(III)V"⟩
abbrev cX5_sum : ByteArray := prog_7_method_9_code
def yX5_sum : MethodName := ⟨RX5, "sum", "(I)I"⟩
abbrev cX5_damage : ByteArray := prog_7_method_10_code
def yX5_damage : MethodName := ⟨RX5, "damage", "(I)I"⟩
abbrev cX5_placeOf : ByteArray := prog_7_method_11_code
def yX5_placeOf : MethodName := ⟨RX5, "placeOf", "(I)I"⟩
abbrev cX5_ahead : ByteArray := prog_7_method_12_code
def yX5_ahead : MethodName := ⟨RX5, "ahead", "(I)I"⟩
abbrev cX5_chargeFor : ByteArray := prog_7_method_13_code
def yX5_chargeFor : MethodName := ⟨RX5, "chargeFor", "(II)I"⟩
abbrev cX5_member : ByteArray := prog_7_method_14_code
def yX5_member : MethodName := ⟨RX5, "member", "(I)I"⟩
abbrev cX5_use : ByteArray := prog_7_method_15_code
def yX5_use : MethodName := ⟨RX5, "use", "(II)I"⟩
abbrev cX5_outSet : ByteArray := prog_7_method_16_code
def yX5_outSet : MethodName := ⟨RX5, "outSet", "()I"⟩
abbrev cX5_keeps : ByteArray := prog_7_method_17_code
def yX5_keeps : MethodName := ⟨RX5, "keeps", "(IIII)V"⟩
abbrev cX5_excludes : ByteArray := prog_7_method_18_code
def yX5_excludes : MethodName := ⟨RX5, "excludes", "(I)V"⟩
abbrev cX5_ends : ByteArray := prog_7_method_19_code
def yX5_ends : MethodName := ⟨RX5, "ends", "()I"⟩
abbrev cX5_close : ByteArray := prog_7_method_20_code
def yX5_close : MethodName := ⟨RX5, "close", "()I"⟩
abbrev cX5_pay : ByteArray := prog_7_method_21_code
def yX5_pay : MethodName := ⟨RX5, "pay", "(II)I"⟩
abbrev cX5_repair : ByteArray := prog_7_method_22_code
def yX5_repair : MethodName := ⟨RX5, "repair", "(I)I"⟩
abbrev cX5_set : ByteArray := prog_7_method_23_code
def yX5_set : MethodName := ⟨RX5, "set", "(II)I"⟩
abbrev cX5_memberOf : ByteArray := prog_7_method_24_code
def yX5_memberOf : MethodName := ⟨RX5, "memberOf", "(II)I"⟩
abbrev cX5_count : ByteArray := prog_7_method_25_code
def yX5_count : MethodName := ⟨RX5, "count", "(I)I"⟩
abbrev cX5_seasonOf : ByteArray := prog_7_method_26_code
def yX5_seasonOf : MethodName := ⟨RX5, "seasonOf", "(II)I"⟩
abbrev cX5_gainFor : ByteArray := prog_7_method_27_code
def yX5_gainFor : MethodName := ⟨RX5, "gainFor", "(II)I"⟩
abbrev cX5_gain : ByteArray := prog_7_method_28_code
def yX5_gain : MethodName := ⟨RX5, "gain", "(II)I"⟩
abbrev cX5_best : ByteArray := prog_7_method_29_code
def yX5_best : MethodName := ⟨RX5, "best", "(I)I"⟩
abbrev cX5_bestUse : ByteArray := prog_7_method_30_code
def yX5_bestUse : MethodName := ⟨RX5, "bestUse", "(I)I"⟩
abbrev cX5_turns : ByteArray := prog_7_method_31_code
def yX5_turns : MethodName := ⟨RX5, "turns", "()Z"⟩
abbrev cX5_calm : ByteArray := prog_7_method_32_code
def yX5_calm : MethodName := ⟨RX5, "calm", "(I)I"⟩
abbrev cX5_bestForAll : ByteArray := prog_7_method_33_code
def yX5_bestForAll : MethodName := ⟨RX5, "bestForAll", "(I)I"⟩
abbrev cX5_wouldExclude : ByteArray := prog_7_method_34_code
def yX5_wouldExclude : MethodName := ⟨RX5, "wouldExclude", "()I"⟩
abbrev cX5_canRepair : ByteArray := prog_7_method_35_code
def yX5_canRepair : MethodName := ⟨RX5, "canRepair", "()I"⟩
abbrev cX5_undo : ByteArray := prog_7_method_36_code
def yX5_undo : MethodName := ⟨RX5, "undo", "()I"⟩
abbrev cX5_type : ByteArray := prog_7_method_37_code
def yX5_type : MethodName := ⟨RX5, "type", "(I)I"⟩
abbrev cX5_clearText : ByteArray := prog_7_method_38_code
def yX5_clearText : MethodName := ⟨RX5, "clearText", "()I"⟩
abbrev cX5_isAt : ByteArray := prog_7_method_39_code
def yX5_isAt : MethodName := ⟨RX5, "isAt", "(II)Z"⟩
abbrev cX5_number : ByteArray := prog_7_method_40_code
def yX5_number : MethodName := ⟨RX5, "number", "(II)Z"⟩
abbrev cX5_isForm : ByteArray := prog_7_method_41_code
def yX5_isForm : MethodName := ⟨RX5, "isForm", "(I)Z"⟩
abbrev cX5_calls : ByteArray := prog_7_method_42_code
def yX5_calls : MethodName := ⟨RX5, "calls", "(I)I"⟩
abbrev cX5_plays : ByteArray := prog_7_method_43_code
def yX5_plays : MethodName := ⟨RX5, "plays", "()I"⟩
abbrev cX5_fault : ByteArray := prog_7_method_44_code
def yX5_fault : MethodName := ⟨RX5, "fault", "(I)I"⟩
abbrev cX5_play : ByteArray := prog_7_method_45_code
def yX5_play : MethodName := ⟨RX5, "play", "()I"⟩
def RJ9 : String := "java/lang/Math"
def TJ9 : u_T := fun k => match k with
  | _ => ("", "", "", false)
def tyJ9 : Nat → FieldType := fun k => match k with
  | _ => .int
abbrev wsJ90 : List Cond := u_ws RJ9 TJ9 0
theorem nmJ9 : ∀ a, a < 0 → ∀ b, b < 0 → a ≠ b → (TJ9 a).2.1 ≠ (TJ9 b).2.1 := by decide +kernel
theorem tyJ9_ok : ∀ k, k < 0 → parseFieldDescriptor (TJ9 k).2.2.1 = some (tyJ9 k) := by decide +kernel
abbrev cJ9_max_7cf53 : ByteArray := prog_8_method_65_code
def yJ9_max_7cf53 : MethodName := ⟨RJ9, "max", "(II)I"⟩
abbrev cJ9_min_7cf53 : ByteArray := prog_8_method_69_code
def yJ9_min_7cf53 : MethodName := ⟨RJ9, "min", "(II)I"⟩
def RJ10 : String := "java/lang/System"
def TJ10 : u_T := fun k => match k with
  | _ => ("", "", "", false)
def tyJ10 : Nat → FieldType := fun k => match k with
  | _ => .int
abbrev wsJ100 : List Cond := u_ws RJ10 TJ10 0
theorem nmJ10 : ∀ a, a < 0 → ∀ b, b < 0 → a ≠ b → (TJ10 a).2.1 ≠ (TJ10 b).2.1 := by decide +kernel
theorem tyJ10_ok : ∀ k, k < 0 → parseFieldDescriptor (TJ10 k).2.2.1 = some (tyJ10 k) := by decide +kernel
def RL : String := "CommonsTurnsLaw"
abbrev cL_law : ByteArray := code
def yL_law : MethodName := ⟨RL, "law", "([I)Z"⟩
abbrev vwCl : List vw_C := [(RX0, TX0, 17), (RX1, TX1, 3), (RX2, TX2, 4), (RX3, TX3, 6), (RX4, TX4, 5), (RX5, TX5, 13)]
end
section
/-! the tables' words that stay good in every callee -/
def TT : List Cond := lw_tbl.filter goodWord
theorem tt_mem {i : Nat} {w : Cond} (h : lw_tbl[i]? = some w) (hg : goodWord w = true) : w ∈ TT := List.mem_filter.mpr ⟨List.mem_of_getElem? h, hg⟩
theorem tt_good {w : Cond} (h : w ∈ TT) : (w.onTables && w.keeps) = true ∨ ∃ ty, w = .arrayClass ty := good_of_word (List.mem_filter.mp h).2
theorem tt_law {w : Cond} (h : w ∈ TT) : w ∈ lw_tbl := (List.mem_filter.mp h).1
theorem tt_in {ws : List Cond} (h : ∀ w ∈ ws, w ∈ TT) : GoodIn TT ws := fun w hw => ⟨h w hw, tt_good (h w hw)⟩
theorem tt_code {z : MethodName} {bz : ByteArray} {nz : Nat} {rz : Option FieldType} (h : Cond.code z bz nz rz ∈ TT) : GoodIn TT (Cond.code z bz nz rz :: TT) := tt_in (fun w hw => (List.mem_cons.mp hw).elim (fun e => e ▸ h) id)
theorem goodIn_ap {big a b : List Cond} (ha : GoodIn big a) (hb : GoodIn big b) : GoodIn big (a ++ b) := fun w h => (List.mem_append.mp h).elim (ha w) (hb w)
end
section
theorem dX0_init_0 : decode cX0_init 0 = .ok (.aload_n 0, 1) := by decide +kernel
theorem dX0_init_1 : decode cX0_init 1 = .ok (.invokespecial 3, 3) := by decide +kernel
theorem dX0_init_4 : decode cX0_init 4 = .ok (.aload_n 0, 1) := by decide +kernel
theorem dX0_init_5 : decode cX0_init 5 = .ok (.iconst 5, 1) := by decide +kernel
theorem dX0_init_6 : decode cX0_init 6 = .ok (.newarray .int, 2) := by decide +kernel
theorem dX0_init_8 : decode cX0_init 8 = .ok (.dup, 1) := by decide +kernel
theorem dX0_init_9 : decode cX0_init 9 = .ok (.iconst 0, 1) := by decide +kernel
theorem dX0_init_10 : decode cX0_init 10 = .ok (.bipush 40, 2) := by decide +kernel
theorem dX0_init_12 : decode cX0_init 12 = .ok (.iastore, 1) := by decide +kernel
theorem dX0_init_13 : decode cX0_init 13 = .ok (.dup, 1) := by decide +kernel
theorem dX0_init_14 : decode cX0_init 14 = .ok (.iconst 1, 1) := by decide +kernel
theorem dX0_init_15 : decode cX0_init 15 = .ok (.bipush 40, 2) := by decide +kernel
theorem dX0_init_17 : decode cX0_init 17 = .ok (.iastore, 1) := by decide +kernel
theorem dX0_init_18 : decode cX0_init 18 = .ok (.dup, 1) := by decide +kernel
theorem dX0_init_19 : decode cX0_init 19 = .ok (.iconst 2, 1) := by decide +kernel
theorem dX0_init_20 : decode cX0_init 20 = .ok (.iconst 5, 1) := by decide +kernel
theorem dX0_init_21 : decode cX0_init 21 = .ok (.iastore, 1) := by decide +kernel
theorem dX0_init_22 : decode cX0_init 22 = .ok (.dup, 1) := by decide +kernel
theorem dX0_init_23 : decode cX0_init 23 = .ok (.iconst 3, 1) := by decide +kernel
theorem dX0_init_24 : decode cX0_init 24 = .ok (.bipush 50, 2) := by decide +kernel
theorem dX0_init_26 : decode cX0_init 26 = .ok (.iastore, 1) := by decide +kernel
theorem dX0_init_27 : decode cX0_init 27 = .ok (.dup, 1) := by decide +kernel
theorem dX0_init_28 : decode cX0_init 28 = .ok (.iconst 4, 1) := by decide +kernel
theorem dX0_init_29 : decode cX0_init 29 = .ok (.iconst 3, 1) := by decide +kernel
theorem dX0_init_30 : decode cX0_init 30 = .ok (.iastore, 1) := by decide +kernel
theorem dX0_init_31 : decode cX0_init 31 = .ok (.putfield 9, 3) := by decide +kernel
theorem dX0_init_34 : decode cX0_init 34 = .ok (.aload_n 0, 1) := by decide +kernel
theorem dX0_init_35 : decode cX0_init 35 = .ok (.bipush 8, 2) := by decide +kernel
theorem dX0_init_37 : decode cX0_init 37 = .ok (.newarray .int, 2) := by decide +kernel
theorem dX0_init_39 : decode cX0_init 39 = .ok (.putfield 15, 3) := by decide +kernel
theorem dX0_init_42 : decode cX0_init 42 = .ok (.aload_n 0, 1) := by decide +kernel
theorem dX0_init_43 : decode cX0_init 43 = .ok (.bipush 8, 2) := by decide +kernel
theorem dX0_init_45 : decode cX0_init 45 = .ok (.newarray .int, 2) := by decide +kernel
theorem dX0_init_47 : decode cX0_init 47 = .ok (.putfield 18, 3) := by decide +kernel
theorem dX0_init_50 : decode cX0_init 50 = .ok (.aload_n 0, 1) := by decide +kernel
theorem dX0_init_51 : decode cX0_init 51 = .ok (.bipush 8, 2) := by decide +kernel
theorem dX0_init_53 : decode cX0_init 53 = .ok (.newarray .int, 2) := by decide +kernel
theorem dX0_init_55 : decode cX0_init 55 = .ok (.putfield 21, 3) := by decide +kernel
theorem dX0_init_58 : decode cX0_init 58 = .ok (.aload_n 0, 1) := by decide +kernel
theorem dX0_init_59 : decode cX0_init 59 = .ok (.bipush 8, 2) := by decide +kernel
theorem dX0_init_61 : decode cX0_init 61 = .ok (.newarray .int, 2) := by decide +kernel
theorem dX0_init_63 : decode cX0_init 63 = .ok (.putfield 24, 3) := by decide +kernel
theorem dX0_init_66 : decode cX0_init 66 = .ok (.aload_n 0, 1) := by decide +kernel
theorem dX0_init_67 : decode cX0_init 67 = .ok (.bipush 8, 2) := by decide +kernel
theorem dX0_init_69 : decode cX0_init 69 = .ok (.newarray .int, 2) := by decide +kernel
theorem dX0_init_71 : decode cX0_init 71 = .ok (.putfield 27, 3) := by decide +kernel
theorem dX0_init_74 : decode cX0_init 74 = .ok (.aload_n 0, 1) := by decide +kernel
theorem dX0_init_75 : decode cX0_init 75 = .ok (.bipush 8, 2) := by decide +kernel
theorem dX0_init_77 : decode cX0_init 77 = .ok (.newarray .int, 2) := by decide +kernel
theorem dX0_init_79 : decode cX0_init 79 = .ok (.putfield 30, 3) := by decide +kernel
theorem dX0_init_82 : decode cX0_init 82 = .ok (.aload_n 0, 1) := by decide +kernel
theorem dX0_init_83 : decode cX0_init 83 = .ok (.bipush 8, 2) := by decide +kernel
theorem dX0_init_85 : decode cX0_init 85 = .ok (.newarray .int, 2) := by decide +kernel
theorem dX0_init_87 : decode cX0_init 87 = .ok (.putfield 33, 3) := by decide +kernel
theorem dX0_init_90 : decode cX0_init 90 = .ok (.aload_n 0, 1) := by decide +kernel
theorem dX0_init_91 : decode cX0_init 91 = .ok (.bipush 30, 2) := by decide +kernel
theorem dX0_init_93 : decode cX0_init 93 = .ok (.newarray .int, 2) := by decide +kernel
theorem dX0_init_95 : decode cX0_init 95 = .ok (.putfield 36, 3) := by decide +kernel
theorem dX0_init_98 : decode cX0_init 98 = .ok (.aload_n 0, 1) := by decide +kernel
theorem dX0_init_99 : decode cX0_init 99 = .ok (.bipush 100, 2) := by decide +kernel
theorem dX0_init_101 : decode cX0_init 101 = .ok (.putfield 39, 3) := by decide +kernel
theorem dX0_init_104 : decode cX0_init 104 = .ok (.return_, 1) := by decide +kernel
theorem dX0_takeOver_0 : decode cX0_takeOver 0 = .ok (.aload_n 1, 1) := by decide +kernel
theorem dX0_takeOver_1 : decode cX0_takeOver 1 = .ok (.getfield 9, 3) := by decide +kernel
theorem dX0_takeOver_4 : decode cX0_takeOver 4 = .ok (.aload_n 0, 1) := by decide +kernel
theorem dX0_takeOver_5 : decode cX0_takeOver 5 = .ok (.getfield 9, 3) := by decide +kernel
theorem dX0_takeOver_8 : decode cX0_takeOver 8 = .ok (.invokestatic 43, 3) := by decide +kernel
theorem dX0_takeOver_11 : decode cX0_takeOver 11 = .ok (.aload_n 1, 1) := by decide +kernel
theorem dX0_takeOver_12 : decode cX0_takeOver 12 = .ok (.getfield 15, 3) := by decide +kernel
theorem dX0_takeOver_15 : decode cX0_takeOver 15 = .ok (.aload_n 0, 1) := by decide +kernel
theorem dX0_takeOver_16 : decode cX0_takeOver 16 = .ok (.getfield 15, 3) := by decide +kernel
theorem dX0_takeOver_19 : decode cX0_takeOver 19 = .ok (.invokestatic 43, 3) := by decide +kernel
theorem dX0_takeOver_22 : decode cX0_takeOver 22 = .ok (.aload_n 1, 1) := by decide +kernel
theorem dX0_takeOver_23 : decode cX0_takeOver 23 = .ok (.getfield 18, 3) := by decide +kernel
theorem dX0_takeOver_26 : decode cX0_takeOver 26 = .ok (.aload_n 0, 1) := by decide +kernel
theorem dX0_takeOver_27 : decode cX0_takeOver 27 = .ok (.getfield 18, 3) := by decide +kernel
theorem dX0_takeOver_30 : decode cX0_takeOver 30 = .ok (.invokestatic 43, 3) := by decide +kernel
theorem dX0_takeOver_33 : decode cX0_takeOver 33 = .ok (.aload_n 1, 1) := by decide +kernel
theorem dX0_takeOver_34 : decode cX0_takeOver 34 = .ok (.getfield 21, 3) := by decide +kernel
theorem dX0_takeOver_37 : decode cX0_takeOver 37 = .ok (.aload_n 0, 1) := by decide +kernel
theorem dX0_takeOver_38 : decode cX0_takeOver 38 = .ok (.getfield 21, 3) := by decide +kernel
theorem dX0_takeOver_41 : decode cX0_takeOver 41 = .ok (.invokestatic 43, 3) := by decide +kernel
theorem dX0_takeOver_44 : decode cX0_takeOver 44 = .ok (.aload_n 1, 1) := by decide +kernel
theorem dX0_takeOver_45 : decode cX0_takeOver 45 = .ok (.getfield 24, 3) := by decide +kernel
theorem dX0_takeOver_48 : decode cX0_takeOver 48 = .ok (.aload_n 0, 1) := by decide +kernel
theorem dX0_takeOver_49 : decode cX0_takeOver 49 = .ok (.getfield 24, 3) := by decide +kernel
theorem dX0_takeOver_52 : decode cX0_takeOver 52 = .ok (.invokestatic 43, 3) := by decide +kernel
theorem dX0_takeOver_55 : decode cX0_takeOver 55 = .ok (.aload_n 1, 1) := by decide +kernel
theorem dX0_takeOver_56 : decode cX0_takeOver 56 = .ok (.getfield 27, 3) := by decide +kernel
theorem dX0_takeOver_59 : decode cX0_takeOver 59 = .ok (.aload_n 0, 1) := by decide +kernel
theorem dX0_takeOver_60 : decode cX0_takeOver 60 = .ok (.getfield 27, 3) := by decide +kernel
theorem dX0_takeOver_63 : decode cX0_takeOver 63 = .ok (.invokestatic 43, 3) := by decide +kernel
theorem dX0_takeOver_66 : decode cX0_takeOver 66 = .ok (.aload_n 1, 1) := by decide +kernel
theorem dX0_takeOver_67 : decode cX0_takeOver 67 = .ok (.getfield 30, 3) := by decide +kernel
theorem dX0_takeOver_70 : decode cX0_takeOver 70 = .ok (.aload_n 0, 1) := by decide +kernel
theorem dX0_takeOver_71 : decode cX0_takeOver 71 = .ok (.getfield 30, 3) := by decide +kernel
theorem dX0_takeOver_74 : decode cX0_takeOver 74 = .ok (.invokestatic 43, 3) := by decide +kernel
theorem dX0_takeOver_77 : decode cX0_takeOver 77 = .ok (.aload_n 1, 1) := by decide +kernel
theorem dX0_takeOver_78 : decode cX0_takeOver 78 = .ok (.getfield 33, 3) := by decide +kernel
theorem dX0_takeOver_81 : decode cX0_takeOver 81 = .ok (.aload_n 0, 1) := by decide +kernel
theorem dX0_takeOver_82 : decode cX0_takeOver 82 = .ok (.getfield 33, 3) := by decide +kernel
theorem dX0_takeOver_85 : decode cX0_takeOver 85 = .ok (.invokestatic 43, 3) := by decide +kernel
theorem dX0_takeOver_88 : decode cX0_takeOver 88 = .ok (.aload_n 1, 1) := by decide +kernel
theorem dX0_takeOver_89 : decode cX0_takeOver 89 = .ok (.getfield 36, 3) := by decide +kernel
theorem dX0_takeOver_92 : decode cX0_takeOver 92 = .ok (.aload_n 0, 1) := by decide +kernel
theorem dX0_takeOver_93 : decode cX0_takeOver 93 = .ok (.getfield 36, 3) := by decide +kernel
theorem dX0_takeOver_96 : decode cX0_takeOver 96 = .ok (.invokestatic 43, 3) := by decide +kernel
theorem dX0_takeOver_99 : decode cX0_takeOver 99 = .ok (.aload_n 0, 1) := by decide +kernel
theorem dX0_takeOver_100 : decode cX0_takeOver 100 = .ok (.aload_n 1, 1) := by decide +kernel
theorem dX0_takeOver_101 : decode cX0_takeOver 101 = .ok (.getfield 47, 3) := by decide +kernel
theorem dX0_takeOver_104 : decode cX0_takeOver 104 = .ok (.putfield 47, 3) := by decide +kernel
theorem dX0_takeOver_107 : decode cX0_takeOver 107 = .ok (.aload_n 0, 1) := by decide +kernel
theorem dX0_takeOver_108 : decode cX0_takeOver 108 = .ok (.aload_n 1, 1) := by decide +kernel
theorem dX0_takeOver_109 : decode cX0_takeOver 109 = .ok (.getfield 50, 3) := by decide +kernel
theorem dX0_takeOver_112 : decode cX0_takeOver 112 = .ok (.putfield 50, 3) := by decide +kernel
theorem dX0_takeOver_115 : decode cX0_takeOver 115 = .ok (.aload_n 0, 1) := by decide +kernel
theorem dX0_takeOver_116 : decode cX0_takeOver 116 = .ok (.aload_n 1, 1) := by decide +kernel
theorem dX0_takeOver_117 : decode cX0_takeOver 117 = .ok (.getfield 39, 3) := by decide +kernel
theorem dX0_takeOver_120 : decode cX0_takeOver 120 = .ok (.putfield 39, 3) := by decide +kernel
theorem dX0_takeOver_123 : decode cX0_takeOver 123 = .ok (.aload_n 0, 1) := by decide +kernel
theorem dX0_takeOver_124 : decode cX0_takeOver 124 = .ok (.aload_n 1, 1) := by decide +kernel
theorem dX0_takeOver_125 : decode cX0_takeOver 125 = .ok (.getfield 53, 3) := by decide +kernel
theorem dX0_takeOver_128 : decode cX0_takeOver 128 = .ok (.putfield 53, 3) := by decide +kernel
theorem dX0_takeOver_131 : decode cX0_takeOver 131 = .ok (.aload_n 0, 1) := by decide +kernel
theorem dX0_takeOver_132 : decode cX0_takeOver 132 = .ok (.aload_n 1, 1) := by decide +kernel
theorem dX0_takeOver_133 : decode cX0_takeOver 133 = .ok (.getfield 56, 3) := by decide +kernel
theorem dX0_takeOver_136 : decode cX0_takeOver 136 = .ok (.putfield 56, 3) := by decide +kernel
theorem dX0_takeOver_139 : decode cX0_takeOver 139 = .ok (.aload_n 0, 1) := by decide +kernel
theorem dX0_takeOver_140 : decode cX0_takeOver 140 = .ok (.aload_n 1, 1) := by decide +kernel
theorem dX0_takeOver_141 : decode cX0_takeOver 141 = .ok (.getfield 59, 3) := by decide +kernel
theorem dX0_takeOver_144 : decode cX0_takeOver 144 = .ok (.putfield 59, 3) := by decide +kernel
theorem dX0_takeOver_147 : decode cX0_takeOver 147 = .ok (.aload_n 0, 1) := by decide +kernel
theorem dX0_takeOver_148 : decode cX0_takeOver 148 = .ok (.aload_n 1, 1) := by decide +kernel
theorem dX0_takeOver_149 : decode cX0_takeOver 149 = .ok (.getfield 62, 3) := by decide +kernel
theorem dX0_takeOver_152 : decode cX0_takeOver 152 = .ok (.putfield 62, 3) := by decide +kernel
theorem dX0_takeOver_155 : decode cX0_takeOver 155 = .ok (.aload_n 0, 1) := by decide +kernel
theorem dX0_takeOver_156 : decode cX0_takeOver 156 = .ok (.aload_n 1, 1) := by decide +kernel
theorem dX0_takeOver_157 : decode cX0_takeOver 157 = .ok (.getfield 65, 3) := by decide +kernel
theorem dX0_takeOver_160 : decode cX0_takeOver 160 = .ok (.putfield 65, 3) := by decide +kernel
theorem dX0_takeOver_163 : decode cX0_takeOver 163 = .ok (.return_, 1) := by decide +kernel
theorem dX0_has_0 : decode cX0_has 0 = .ok (.iload_n 1, 1) := by decide +kernel
theorem dX0_has_1 : decode cX0_has 1 = .ok (.ifCond .lt 21, 3) := by decide +kernel
theorem dX0_has_4 : decode cX0_has 4 = .ok (.iload_n 1, 1) := by decide +kernel
theorem dX0_has_5 : decode cX0_has 5 = .ok (.aload_n 0, 1) := by decide +kernel
theorem dX0_has_6 : decode cX0_has 6 = .ok (.getfield 47, 3) := by decide +kernel
theorem dX0_has_9 : decode cX0_has 9 = .ok (.if_icmp .ge 13, 3) := by decide +kernel
theorem dX0_has_12 : decode cX0_has 12 = .ok (.iload_n 1, 1) := by decide +kernel
theorem dX0_has_13 : decode cX0_has 13 = .ok (.bipush 8, 2) := by decide +kernel
theorem dX0_has_15 : decode cX0_has 15 = .ok (.if_icmp .ge 7, 3) := by decide +kernel
theorem dX0_has_18 : decode cX0_has 18 = .ok (.iconst 1, 1) := by decide +kernel
theorem dX0_has_19 : decode cX0_has 19 = .ok (.goto 4, 3) := by decide +kernel
theorem dX0_has_22 : decode cX0_has 22 = .ok (.iconst 0, 1) := by decide +kernel
theorem dX0_has_23 : decode cX0_has 23 = .ok (.ireturn, 1) := by decide +kernel
theorem dX0_isOut_0 : decode cX0_isOut 0 = .ok (.aload_n 0, 1) := by decide +kernel
theorem dX0_isOut_1 : decode cX0_isOut 1 = .ok (.getfield 56, 3) := by decide +kernel
theorem dX0_isOut_4 : decode cX0_isOut 4 = .ok (.iload_n 1, 1) := by decide +kernel
theorem dX0_isOut_5 : decode cX0_isOut 5 = .ok (.ishr, 1) := by decide +kernel
theorem dX0_isOut_6 : decode cX0_isOut 6 = .ok (.iconst 1, 1) := by decide +kernel
theorem dX0_isOut_7 : decode cX0_isOut 7 = .ok (.iand, 1) := by decide +kernel
theorem dX0_isOut_8 : decode cX0_isOut 8 = .ok (.iconst 1, 1) := by decide +kernel
theorem dX0_isOut_9 : decode cX0_isOut 9 = .ok (.if_icmp .ne 7, 3) := by decide +kernel
theorem dX0_isOut_12 : decode cX0_isOut 12 = .ok (.iconst 1, 1) := by decide +kernel
theorem dX0_isOut_13 : decode cX0_isOut 13 = .ok (.goto 4, 3) := by decide +kernel
theorem dX0_isOut_16 : decode cX0_isOut 16 = .ok (.iconst 0, 1) := by decide +kernel
theorem dX0_isOut_17 : decode cX0_isOut 17 = .ok (.ireturn, 1) := by decide +kernel
theorem dX0_allUnits_0 : decode cX0_allUnits 0 = .ok (.aload_n 0, 1) := by decide +kernel
theorem dX0_allUnits_1 : decode cX0_allUnits 1 = .ok (.getfield 18, 3) := by decide +kernel
theorem dX0_allUnits_4 : decode cX0_allUnits 4 = .ok (.invokestatic 68, 3) := by decide +kernel
theorem dX0_allUnits_7 : decode cX0_allUnits 7 = .ok (.ireturn, 1) := by decide +kernel
theorem dX0_damageOf_0 : decode cX0_damageOf 0 = .ok (.aload_n 0, 1) := by decide +kernel
theorem dX0_damageOf_1 : decode cX0_damageOf 1 = .ok (.getfield 9, 3) := by decide +kernel
theorem dX0_damageOf_4 : decode cX0_damageOf 4 = .ok (.iconst 0, 1) := by decide +kernel
theorem dX0_damageOf_5 : decode cX0_damageOf 5 = .ok (.iaload, 1) := by decide +kernel
theorem dX0_damageOf_6 : decode cX0_damageOf 6 = .ok (.istore_n 2, 1) := by decide +kernel
theorem dX0_damageOf_7 : decode cX0_damageOf 7 = .ok (.iload_n 2, 1) := by decide +kernel
theorem dX0_damageOf_8 : decode cX0_damageOf 8 = .ok (.iconst 1, 1) := by decide +kernel
theorem dX0_damageOf_9 : decode cX0_damageOf 9 = .ok (.if_icmp .ge 7, 3) := by decide +kernel
theorem dX0_damageOf_12 : decode cX0_damageOf 12 = .ok (.iconst 0, 1) := by decide +kernel
theorem dX0_damageOf_13 : decode cX0_damageOf 13 = .ok (.goto 8, 3) := by decide +kernel
theorem dX0_damageOf_16 : decode cX0_damageOf 16 = .ok (.iload_n 1, 1) := by decide +kernel
theorem dX0_damageOf_17 : decode cX0_damageOf 17 = .ok (.iload_n 1, 1) := by decide +kernel
theorem dX0_damageOf_18 : decode cX0_damageOf 18 = .ok (.imul, 1) := by decide +kernel
theorem dX0_damageOf_19 : decode cX0_damageOf 19 = .ok (.iload_n 2, 1) := by decide +kernel
theorem dX0_damageOf_20 : decode cX0_damageOf 20 = .ok (.idiv, 1) := by decide +kernel
theorem dX0_damageOf_21 : decode cX0_damageOf 21 = .ok (.ireturn, 1) := by decide +kernel
theorem dX0_placeOf_0 : decode cX0_placeOf 0 = .ok (.aload_n 0, 1) := by decide +kernel
theorem dX0_placeOf_1 : decode cX0_placeOf 1 = .ok (.getfield 47, 3) := by decide +kernel
theorem dX0_placeOf_4 : decode cX0_placeOf 4 = .ok (.iconst 1, 1) := by decide +kernel
theorem dX0_placeOf_5 : decode cX0_placeOf 5 = .ok (.if_icmp .ge 5, 3) := by decide +kernel
theorem dX0_placeOf_8 : decode cX0_placeOf 8 = .ok (.iconst 0, 1) := by decide +kernel
theorem dX0_placeOf_9 : decode cX0_placeOf 9 = .ok (.ireturn, 1) := by decide +kernel
theorem dX0_placeOf_10 : decode cX0_placeOf 10 = .ok (.aload_n 0, 1) := by decide +kernel
theorem dX0_placeOf_11 : decode cX0_placeOf 11 = .ok (.getfield 50, 3) := by decide +kernel
theorem dX0_placeOf_14 : decode cX0_placeOf 14 = .ok (.aload_n 0, 1) := by decide +kernel
theorem dX0_placeOf_15 : decode cX0_placeOf 15 = .ok (.getfield 47, 3) := by decide +kernel
theorem dX0_placeOf_18 : decode cX0_placeOf 18 = .ok (.irem, 1) := by decide +kernel
theorem dX0_placeOf_19 : decode cX0_placeOf 19 = .ok (.istore_n 2, 1) := by decide +kernel
theorem dX0_placeOf_20 : decode cX0_placeOf 20 = .ok (.iload_n 1, 1) := by decide +kernel
theorem dX0_placeOf_21 : decode cX0_placeOf 21 = .ok (.iload_n 2, 1) := by decide +kernel
theorem dX0_placeOf_22 : decode cX0_placeOf 22 = .ok (.if_icmp .lt 9, 3) := by decide +kernel
theorem dX0_placeOf_25 : decode cX0_placeOf 25 = .ok (.iload_n 1, 1) := by decide +kernel
theorem dX0_placeOf_26 : decode cX0_placeOf 26 = .ok (.iload_n 2, 1) := by decide +kernel
theorem dX0_placeOf_27 : decode cX0_placeOf 27 = .ok (.isub, 1) := by decide +kernel
theorem dX0_placeOf_28 : decode cX0_placeOf 28 = .ok (.goto 11, 3) := by decide +kernel
theorem dX0_placeOf_31 : decode cX0_placeOf 31 = .ok (.iload_n 1, 1) := by decide +kernel
theorem dX0_placeOf_32 : decode cX0_placeOf 32 = .ok (.iload_n 2, 1) := by decide +kernel
theorem dX0_placeOf_33 : decode cX0_placeOf 33 = .ok (.isub, 1) := by decide +kernel
theorem dX0_placeOf_34 : decode cX0_placeOf 34 = .ok (.aload_n 0, 1) := by decide +kernel
theorem dX0_placeOf_35 : decode cX0_placeOf 35 = .ok (.getfield 47, 3) := by decide +kernel
theorem dX0_placeOf_38 : decode cX0_placeOf 38 = .ok (.iadd, 1) := by decide +kernel
theorem dX0_placeOf_39 : decode cX0_placeOf 39 = .ok (.ireturn, 1) := by decide +kernel
theorem dX0_unitsAhead_0 : decode cX0_unitsAhead 0 = .ok (.aload_n 0, 1) := by decide +kernel
theorem dX0_unitsAhead_1 : decode cX0_unitsAhead 1 = .ok (.iload_n 1, 1) := by decide +kernel
theorem dX0_unitsAhead_2 : decode cX0_unitsAhead 2 = .ok (.invokevirtual 72, 3) := by decide +kernel
theorem dX0_unitsAhead_5 : decode cX0_unitsAhead 5 = .ok (.istore_n 2, 1) := by decide +kernel
theorem dX0_unitsAhead_6 : decode cX0_unitsAhead 6 = .ok (.iconst 0, 1) := by decide +kernel
theorem dX0_unitsAhead_7 : decode cX0_unitsAhead 7 = .ok (.istore_n 3, 1) := by decide +kernel
theorem dX0_unitsAhead_8 : decode cX0_unitsAhead 8 = .ok (.iconst 0, 1) := by decide +kernel
theorem dX0_unitsAhead_9 : decode cX0_unitsAhead 9 = .ok (.istore 4, 2) := by decide +kernel
theorem dX0_unitsAhead_11 : decode cX0_unitsAhead 11 = .ok (.iload 4, 2) := by decide +kernel
theorem dX0_unitsAhead_13 : decode cX0_unitsAhead 13 = .ok (.bipush 8, 2) := by decide +kernel
theorem dX0_unitsAhead_15 : decode cX0_unitsAhead 15 = .ok (.if_icmp .ge 29, 3) := by decide +kernel
theorem dX0_unitsAhead_18 : decode cX0_unitsAhead 18 = .ok (.aload_n 0, 1) := by decide +kernel
theorem dX0_unitsAhead_19 : decode cX0_unitsAhead 19 = .ok (.iload 4, 2) := by decide +kernel
theorem dX0_unitsAhead_21 : decode cX0_unitsAhead 21 = .ok (.invokevirtual 72, 3) := by decide +kernel
theorem dX0_unitsAhead_24 : decode cX0_unitsAhead 24 = .ok (.iload_n 2, 1) := by decide +kernel
theorem dX0_unitsAhead_25 : decode cX0_unitsAhead 25 = .ok (.if_icmp .ge 13, 3) := by decide +kernel
theorem dX0_unitsAhead_28 : decode cX0_unitsAhead 28 = .ok (.iload_n 3, 1) := by decide +kernel
theorem dX0_unitsAhead_29 : decode cX0_unitsAhead 29 = .ok (.aload_n 0, 1) := by decide +kernel
theorem dX0_unitsAhead_30 : decode cX0_unitsAhead 30 = .ok (.getfield 18, 3) := by decide +kernel
theorem dX0_unitsAhead_33 : decode cX0_unitsAhead 33 = .ok (.iload 4, 2) := by decide +kernel
theorem dX0_unitsAhead_35 : decode cX0_unitsAhead 35 = .ok (.iaload, 1) := by decide +kernel
theorem dX0_unitsAhead_36 : decode cX0_unitsAhead 36 = .ok (.iadd, 1) := by decide +kernel
theorem dX0_unitsAhead_37 : decode cX0_unitsAhead 37 = .ok (.istore_n 3, 1) := by decide +kernel
theorem dX0_unitsAhead_38 : decode cX0_unitsAhead 38 = .ok (.iinc 4 1, 3) := by decide +kernel
theorem dX0_unitsAhead_41 : decode cX0_unitsAhead 41 = .ok (.goto (-30), 3) := by decide +kernel
theorem dX0_unitsAhead_44 : decode cX0_unitsAhead 44 = .ok (.iload_n 3, 1) := by decide +kernel
theorem dX0_unitsAhead_45 : decode cX0_unitsAhead 45 = .ok (.ireturn, 1) := by decide +kernel
theorem dX0_chargeOf_0 : decode cX0_chargeOf 0 = .ok (.aload_n 0, 1) := by decide +kernel
theorem dX0_chargeOf_1 : decode cX0_chargeOf 1 = .ok (.aload_n 0, 1) := by decide +kernel
theorem dX0_chargeOf_2 : decode cX0_chargeOf 2 = .ok (.iload_n 1, 1) := by decide +kernel
theorem dX0_chargeOf_3 : decode cX0_chargeOf 3 = .ok (.invokevirtual 76, 3) := by decide +kernel
theorem dX0_chargeOf_6 : decode cX0_chargeOf 6 = .ok (.aload_n 0, 1) := by decide +kernel
theorem dX0_chargeOf_7 : decode cX0_chargeOf 7 = .ok (.getfield 18, 3) := by decide +kernel
theorem dX0_chargeOf_10 : decode cX0_chargeOf 10 = .ok (.iload_n 1, 1) := by decide +kernel
theorem dX0_chargeOf_11 : decode cX0_chargeOf 11 = .ok (.iaload, 1) := by decide +kernel
theorem dX0_chargeOf_12 : decode cX0_chargeOf 12 = .ok (.invokevirtual 79, 3) := by decide +kernel
theorem dX0_chargeOf_15 : decode cX0_chargeOf 15 = .ok (.ireturn, 1) := by decide +kernel
theorem dX0_damageAdded_0 : decode cX0_damageAdded 0 = .ok (.aload_n 0, 1) := by decide +kernel
theorem dX0_damageAdded_1 : decode cX0_damageAdded 1 = .ok (.iload_n 1, 1) := by decide +kernel
theorem dX0_damageAdded_2 : decode cX0_damageAdded 2 = .ok (.iload_n 2, 1) := by decide +kernel
theorem dX0_damageAdded_3 : decode cX0_damageAdded 3 = .ok (.iadd, 1) := by decide +kernel
theorem dX0_damageAdded_4 : decode cX0_damageAdded 4 = .ok (.invokevirtual 83, 3) := by decide +kernel
theorem dX0_damageAdded_7 : decode cX0_damageAdded 7 = .ok (.aload_n 0, 1) := by decide +kernel
theorem dX0_damageAdded_8 : decode cX0_damageAdded 8 = .ok (.iload_n 1, 1) := by decide +kernel
theorem dX0_damageAdded_9 : decode cX0_damageAdded 9 = .ok (.invokevirtual 83, 3) := by decide +kernel
theorem dX0_damageAdded_12 : decode cX0_damageAdded 12 = .ok (.isub, 1) := by decide +kernel
theorem dX0_damageAdded_13 : decode cX0_damageAdded 13 = .ok (.ireturn, 1) := by decide +kernel
theorem dX0_addMember_0 : decode cX0_addMember 0 = .ok (.iload_n 1, 1) := by decide +kernel
theorem dX0_addMember_1 : decode cX0_addMember 1 = .ok (.ifCond .lt 9, 3) := by decide +kernel
theorem dX0_addMember_4 : decode cX0_addMember 4 = .ok (.iload_n 1, 1) := by decide +kernel
theorem dX0_addMember_5 : decode cX0_addMember 5 = .ok (.bipush 30, 2) := by decide +kernel
theorem dX0_addMember_7 : decode cX0_addMember 7 = .ok (.if_icmp .le 7, 3) := by decide +kernel
theorem dX0_addMember_10 : decode cX0_addMember 10 = .ok (.sipush (-10001), 3) := by decide +kernel
theorem dX0_addMember_13 : decode cX0_addMember 13 = .ok (.ireturn, 1) := by decide +kernel
theorem dX0_addMember_14 : decode cX0_addMember 14 = .ok (.aload_n 0, 1) := by decide +kernel
theorem dX0_addMember_15 : decode cX0_addMember 15 = .ok (.getfield 47, 3) := by decide +kernel
theorem dX0_addMember_18 : decode cX0_addMember 18 = .ok (.bipush 8, 2) := by decide +kernel
theorem dX0_addMember_20 : decode cX0_addMember 20 = .ok (.if_icmp .lt 7, 3) := by decide +kernel
theorem dX0_addMember_23 : decode cX0_addMember 23 = .ok (.sipush (-10003), 3) := by decide +kernel
theorem dX0_addMember_26 : decode cX0_addMember 26 = .ok (.ireturn, 1) := by decide +kernel
theorem dX0_addMember_27 : decode cX0_addMember 27 = .ok (.aload_n 0, 1) := by decide +kernel
theorem dX0_addMember_28 : decode cX0_addMember 28 = .ok (.getfield 15, 3) := by decide +kernel
theorem dX0_addMember_31 : decode cX0_addMember 31 = .ok (.aload_n 0, 1) := by decide +kernel
theorem dX0_addMember_32 : decode cX0_addMember 32 = .ok (.getfield 47, 3) := by decide +kernel
theorem dX0_addMember_35 : decode cX0_addMember 35 = .ok (.iload_n 1, 1) := by decide +kernel
theorem dX0_addMember_36 : decode cX0_addMember 36 = .ok (.iastore, 1) := by decide +kernel
theorem dX0_addMember_37 : decode cX0_addMember 37 = .ok (.aload_n 0, 1) := by decide +kernel
theorem dX0_addMember_38 : decode cX0_addMember 38 = .ok (.dup, 1) := by decide +kernel
theorem dX0_addMember_39 : decode cX0_addMember 39 = .ok (.getfield 47, 3) := by decide +kernel
theorem dX0_addMember_42 : decode cX0_addMember 42 = .ok (.iconst 1, 1) := by decide +kernel
theorem dX0_addMember_43 : decode cX0_addMember 43 = .ok (.iadd, 1) := by decide +kernel
theorem dX0_addMember_44 : decode cX0_addMember 44 = .ok (.putfield 47, 3) := by decide +kernel
theorem dX0_addMember_47 : decode cX0_addMember 47 = .ok (.aload_n 0, 1) := by decide +kernel
theorem dX0_addMember_48 : decode cX0_addMember 48 = .ok (.getfield 47, 3) := by decide +kernel
theorem dX0_addMember_51 : decode cX0_addMember 51 = .ok (.iconst 1, 1) := by decide +kernel
theorem dX0_addMember_52 : decode cX0_addMember 52 = .ok (.isub, 1) := by decide +kernel
theorem dX0_addMember_53 : decode cX0_addMember 53 = .ok (.ireturn, 1) := by decide +kernel
theorem dX0_declareUse_0 : decode cX0_declareUse 0 = .ok (.aload_n 0, 1) := by decide +kernel
theorem dX0_declareUse_1 : decode cX0_declareUse 1 = .ok (.iload_n 1, 1) := by decide +kernel
theorem dX0_declareUse_2 : decode cX0_declareUse 2 = .ok (.invokevirtual 86, 3) := by decide +kernel
theorem dX0_declareUse_5 : decode cX0_declareUse 5 = .ok (.ifCond .eq 10, 3) := by decide +kernel
theorem dX0_declareUse_8 : decode cX0_declareUse 8 = .ok (.iload_n 2, 1) := by decide +kernel
theorem dX0_declareUse_9 : decode cX0_declareUse 9 = .ok (.invokestatic 90, 3) := by decide +kernel
theorem dX0_declareUse_12 : decode cX0_declareUse 12 = .ok (.ifCond .ne 7, 3) := by decide +kernel
theorem dX0_declareUse_15 : decode cX0_declareUse 15 = .ok (.sipush (-10001), 3) := by decide +kernel
theorem dX0_declareUse_18 : decode cX0_declareUse 18 = .ok (.ireturn, 1) := by decide +kernel
theorem dX0_declareUse_19 : decode cX0_declareUse 19 = .ok (.aload_n 0, 1) := by decide +kernel
theorem dX0_declareUse_20 : decode cX0_declareUse 20 = .ok (.iload_n 1, 1) := by decide +kernel
theorem dX0_declareUse_21 : decode cX0_declareUse 21 = .ok (.invokevirtual 93, 3) := by decide +kernel
theorem dX0_declareUse_24 : decode cX0_declareUse 24 = .ok (.ifCond .eq 7, 3) := by decide +kernel
theorem dX0_declareUse_27 : decode cX0_declareUse 27 = .ok (.sipush (-10002), 3) := by decide +kernel
theorem dX0_declareUse_30 : decode cX0_declareUse 30 = .ok (.ireturn, 1) := by decide +kernel
theorem dX0_declareUse_31 : decode cX0_declareUse 31 = .ok (.aload_n 0, 1) := by decide +kernel
theorem dX0_declareUse_32 : decode cX0_declareUse 32 = .ok (.getfield 18, 3) := by decide +kernel
theorem dX0_declareUse_35 : decode cX0_declareUse 35 = .ok (.iload_n 1, 1) := by decide +kernel
theorem dX0_declareUse_36 : decode cX0_declareUse 36 = .ok (.iload_n 2, 1) := by decide +kernel
theorem dX0_declareUse_37 : decode cX0_declareUse 37 = .ok (.iastore, 1) := by decide +kernel
theorem dX0_declareUse_38 : decode cX0_declareUse 38 = .ok (.aload_n 0, 1) := by decide +kernel
theorem dX0_declareUse_39 : decode cX0_declareUse 39 = .ok (.iload_n 1, 1) := by decide +kernel
theorem dX0_declareUse_40 : decode cX0_declareUse 40 = .ok (.invokevirtual 96, 3) := by decide +kernel
theorem dX0_declareUse_43 : decode cX0_declareUse 43 = .ok (.ireturn, 1) := by decide +kernel
theorem dX0_payCoins_0 : decode cX0_payCoins 0 = .ok (.aload_n 0, 1) := by decide +kernel
theorem dX0_payCoins_1 : decode cX0_payCoins 1 = .ok (.iload_n 1, 1) := by decide +kernel
theorem dX0_payCoins_2 : decode cX0_payCoins 2 = .ok (.invokevirtual 86, 3) := by decide +kernel
theorem dX0_payCoins_5 : decode cX0_payCoins 5 = .ok (.ifCond .eq 15, 3) := by decide +kernel
theorem dX0_payCoins_8 : decode cX0_payCoins 8 = .ok (.iload_n 2, 1) := by decide +kernel
theorem dX0_payCoins_9 : decode cX0_payCoins 9 = .ok (.iconst 1, 1) := by decide +kernel
theorem dX0_payCoins_10 : decode cX0_payCoins 10 = .ok (.if_icmp .lt 10, 3) := by decide +kernel
theorem dX0_payCoins_13 : decode cX0_payCoins 13 = .ok (.iload_n 2, 1) := by decide +kernel
theorem dX0_payCoins_14 : decode cX0_payCoins 14 = .ok (.sipush 999, 3) := by decide +kernel
theorem dX0_payCoins_17 : decode cX0_payCoins 17 = .ok (.if_icmp .le 7, 3) := by decide +kernel
theorem dX0_payCoins_20 : decode cX0_payCoins 20 = .ok (.sipush (-10001), 3) := by decide +kernel
theorem dX0_payCoins_23 : decode cX0_payCoins 23 = .ok (.ireturn, 1) := by decide +kernel
theorem dX0_payCoins_24 : decode cX0_payCoins 24 = .ok (.aload_n 0, 1) := by decide +kernel
theorem dX0_payCoins_25 : decode cX0_payCoins 25 = .ok (.getfield 21, 3) := by decide +kernel
theorem dX0_payCoins_28 : decode cX0_payCoins 28 = .ok (.iload_n 1, 1) := by decide +kernel
theorem dX0_payCoins_29 : decode cX0_payCoins 29 = .ok (.iaload, 1) := by decide +kernel
theorem dX0_payCoins_30 : decode cX0_payCoins 30 = .ok (.iload_n 2, 1) := by decide +kernel
theorem dX0_payCoins_31 : decode cX0_payCoins 31 = .ok (.if_icmp .ge 7, 3) := by decide +kernel
theorem dX0_payCoins_34 : decode cX0_payCoins 34 = .ok (.sipush (-10002), 3) := by decide +kernel
theorem dX0_payCoins_37 : decode cX0_payCoins 37 = .ok (.ireturn, 1) := by decide +kernel
theorem dX0_payCoins_38 : decode cX0_payCoins 38 = .ok (.aload_n 0, 1) := by decide +kernel
theorem dX0_payCoins_39 : decode cX0_payCoins 39 = .ok (.getfield 21, 3) := by decide +kernel
theorem dX0_payCoins_42 : decode cX0_payCoins 42 = .ok (.iload_n 1, 1) := by decide +kernel
theorem dX0_payCoins_43 : decode cX0_payCoins 43 = .ok (.dup2, 1) := by decide +kernel
theorem dX0_payCoins_44 : decode cX0_payCoins 44 = .ok (.iaload, 1) := by decide +kernel
theorem dX0_payCoins_45 : decode cX0_payCoins 45 = .ok (.iload_n 2, 1) := by decide +kernel
theorem dX0_payCoins_46 : decode cX0_payCoins 46 = .ok (.isub, 1) := by decide +kernel
theorem dX0_payCoins_47 : decode cX0_payCoins 47 = .ok (.iastore, 1) := by decide +kernel
theorem dX0_payCoins_48 : decode cX0_payCoins 48 = .ok (.aload_n 0, 1) := by decide +kernel
theorem dX0_payCoins_49 : decode cX0_payCoins 49 = .ok (.getfield 24, 3) := by decide +kernel
theorem dX0_payCoins_52 : decode cX0_payCoins 52 = .ok (.iload_n 1, 1) := by decide +kernel
theorem dX0_payCoins_53 : decode cX0_payCoins 53 = .ok (.dup2, 1) := by decide +kernel
theorem dX0_payCoins_54 : decode cX0_payCoins 54 = .ok (.iaload, 1) := by decide +kernel
theorem dX0_payCoins_55 : decode cX0_payCoins 55 = .ok (.iload_n 2, 1) := by decide +kernel
theorem dX0_payCoins_56 : decode cX0_payCoins 56 = .ok (.iadd, 1) := by decide +kernel
theorem dX0_payCoins_57 : decode cX0_payCoins 57 = .ok (.iastore, 1) := by decide +kernel
theorem dX0_payCoins_58 : decode cX0_payCoins 58 = .ok (.aload_n 0, 1) := by decide +kernel
theorem dX0_payCoins_59 : decode cX0_payCoins 59 = .ok (.dup, 1) := by decide +kernel
theorem dX0_payCoins_60 : decode cX0_payCoins 60 = .ok (.getfield 53, 3) := by decide +kernel
theorem dX0_payCoins_63 : decode cX0_payCoins 63 = .ok (.iload_n 2, 1) := by decide +kernel
theorem dX0_payCoins_64 : decode cX0_payCoins 64 = .ok (.iadd, 1) := by decide +kernel
theorem dX0_payCoins_65 : decode cX0_payCoins 65 = .ok (.putfield 53, 3) := by decide +kernel
theorem dX0_payCoins_68 : decode cX0_payCoins 68 = .ok (.aload_n 0, 1) := by decide +kernel
theorem dX0_payCoins_69 : decode cX0_payCoins 69 = .ok (.getfield 21, 3) := by decide +kernel
theorem dX0_payCoins_72 : decode cX0_payCoins 72 = .ok (.iload_n 1, 1) := by decide +kernel
theorem dX0_payCoins_73 : decode cX0_payCoins 73 = .ok (.iaload, 1) := by decide +kernel
theorem dX0_payCoins_74 : decode cX0_payCoins 74 = .ok (.ireturn, 1) := by decide +kernel
theorem dX0_changeSetting_0 : decode cX0_changeSetting 0 = .ok (.iload_n 1, 1) := by decide +kernel
theorem dX0_changeSetting_1 : decode cX0_changeSetting 1 = .ok (.ifCond .lt 8, 3) := by decide +kernel
theorem dX0_changeSetting_4 : decode cX0_changeSetting 4 = .ok (.iload_n 1, 1) := by decide +kernel
theorem dX0_changeSetting_5 : decode cX0_changeSetting 5 = .ok (.iconst 5, 1) := by decide +kernel
theorem dX0_changeSetting_6 : decode cX0_changeSetting 6 = .ok (.if_icmp .lt 7, 3) := by decide +kernel
theorem dX0_changeSetting_9 : decode cX0_changeSetting 9 = .ok (.sipush (-10001), 3) := by decide +kernel
theorem dX0_changeSetting_12 : decode cX0_changeSetting 12 = .ok (.ireturn, 1) := by decide +kernel
theorem dX0_changeSetting_13 : decode cX0_changeSetting 13 = .ok (.iload_n 2, 1) := by decide +kernel
theorem dX0_changeSetting_14 : decode cX0_changeSetting 14 = .ok (.getstatic 99, 3) := by decide +kernel
theorem dX0_changeSetting_17 : decode cX0_changeSetting 17 = .ok (.iload_n 1, 1) := by decide +kernel
theorem dX0_changeSetting_18 : decode cX0_changeSetting 18 = .ok (.iaload, 1) := by decide +kernel
theorem dX0_changeSetting_19 : decode cX0_changeSetting 19 = .ok (.if_icmp .lt 12, 3) := by decide +kernel
theorem dX0_changeSetting_22 : decode cX0_changeSetting 22 = .ok (.iload_n 2, 1) := by decide +kernel
theorem dX0_changeSetting_23 : decode cX0_changeSetting 23 = .ok (.getstatic 102, 3) := by decide +kernel
theorem dX0_changeSetting_26 : decode cX0_changeSetting 26 = .ok (.iload_n 1, 1) := by decide +kernel
theorem dX0_changeSetting_27 : decode cX0_changeSetting 27 = .ok (.iaload, 1) := by decide +kernel
theorem dX0_changeSetting_28 : decode cX0_changeSetting 28 = .ok (.if_icmp .le 7, 3) := by decide +kernel
theorem dX0_changeSetting_31 : decode cX0_changeSetting 31 = .ok (.sipush (-10001), 3) := by decide +kernel
theorem dX0_changeSetting_34 : decode cX0_changeSetting 34 = .ok (.ireturn, 1) := by decide +kernel
theorem dX0_changeSetting_35 : decode cX0_changeSetting 35 = .ok (.aload_n 0, 1) := by decide +kernel
theorem dX0_changeSetting_36 : decode cX0_changeSetting 36 = .ok (.getfield 9, 3) := by decide +kernel
theorem dX0_changeSetting_39 : decode cX0_changeSetting 39 = .ok (.iload_n 1, 1) := by decide +kernel
theorem dX0_changeSetting_40 : decode cX0_changeSetting 40 = .ok (.iaload, 1) := by decide +kernel
theorem dX0_changeSetting_41 : decode cX0_changeSetting 41 = .ok (.istore_n 3, 1) := by decide +kernel
theorem dX0_changeSetting_42 : decode cX0_changeSetting 42 = .ok (.aload_n 0, 1) := by decide +kernel
theorem dX0_changeSetting_43 : decode cX0_changeSetting 43 = .ok (.getfield 9, 3) := by decide +kernel
theorem dX0_changeSetting_46 : decode cX0_changeSetting 46 = .ok (.iload_n 1, 1) := by decide +kernel
theorem dX0_changeSetting_47 : decode cX0_changeSetting 47 = .ok (.iload_n 2, 1) := by decide +kernel
theorem dX0_changeSetting_48 : decode cX0_changeSetting 48 = .ok (.iastore, 1) := by decide +kernel
theorem dX0_changeSetting_49 : decode cX0_changeSetting 49 = .ok (.iload_n 3, 1) := by decide +kernel
theorem dX0_changeSetting_50 : decode cX0_changeSetting 50 = .ok (.ireturn, 1) := by decide +kernel
theorem dX0_repairPoints_0 : decode cX0_repairPoints 0 = .ok (.iload_n 1, 1) := by decide +kernel
theorem dX0_repairPoints_1 : decode cX0_repairPoints 1 = .ok (.iconst 1, 1) := by decide +kernel
theorem dX0_repairPoints_2 : decode cX0_repairPoints 2 = .ok (.if_icmp .lt 9, 3) := by decide +kernel
theorem dX0_repairPoints_5 : decode cX0_repairPoints 5 = .ok (.iload_n 1, 1) := by decide +kernel
theorem dX0_repairPoints_6 : decode cX0_repairPoints 6 = .ok (.bipush 100, 2) := by decide +kernel
theorem dX0_repairPoints_8 : decode cX0_repairPoints 8 = .ok (.if_icmp .le 7, 3) := by decide +kernel
theorem dX0_repairPoints_11 : decode cX0_repairPoints 11 = .ok (.sipush (-10001), 3) := by decide +kernel
theorem dX0_repairPoints_14 : decode cX0_repairPoints 14 = .ok (.ireturn, 1) := by decide +kernel
theorem dX0_repairPoints_15 : decode cX0_repairPoints 15 = .ok (.iload_n 1, 1) := by decide +kernel
theorem dX0_repairPoints_16 : decode cX0_repairPoints 16 = .ok (.aload_n 0, 1) := by decide +kernel
theorem dX0_repairPoints_17 : decode cX0_repairPoints 17 = .ok (.getfield 9, 3) := by decide +kernel
theorem dX0_repairPoints_20 : decode cX0_repairPoints 20 = .ok (.iconst 4, 1) := by decide +kernel
theorem dX0_repairPoints_21 : decode cX0_repairPoints 21 = .ok (.iaload, 1) := by decide +kernel
theorem dX0_repairPoints_22 : decode cX0_repairPoints 22 = .ok (.imul, 1) := by decide +kernel
theorem dX0_repairPoints_23 : decode cX0_repairPoints 23 = .ok (.istore_n 2, 1) := by decide +kernel
theorem dX0_repairPoints_24 : decode cX0_repairPoints 24 = .ok (.iload_n 2, 1) := by decide +kernel
theorem dX0_repairPoints_25 : decode cX0_repairPoints 25 = .ok (.aload_n 0, 1) := by decide +kernel
theorem dX0_repairPoints_26 : decode cX0_repairPoints 26 = .ok (.getfield 53, 3) := by decide +kernel
theorem dX0_repairPoints_29 : decode cX0_repairPoints 29 = .ok (.invokestatic 105, 3) := by decide +kernel
theorem dX0_repairPoints_32 : decode cX0_repairPoints 32 = .ok (.istore_n 3, 1) := by decide +kernel
theorem dX0_repairPoints_33 : decode cX0_repairPoints 33 = .ok (.iload_n 2, 1) := by decide +kernel
theorem dX0_repairPoints_34 : decode cX0_repairPoints 34 = .ok (.iload_n 3, 1) := by decide +kernel
theorem dX0_repairPoints_35 : decode cX0_repairPoints 35 = .ok (.isub, 1) := by decide +kernel
theorem dX0_repairPoints_36 : decode cX0_repairPoints 36 = .ok (.istore 4, 2) := by decide +kernel
theorem dX0_repairPoints_38 : decode cX0_repairPoints 38 = .ok (.aload_n 0, 1) := by decide +kernel
theorem dX0_repairPoints_39 : decode cX0_repairPoints 39 = .ok (.getfield 39, 3) := by decide +kernel
theorem dX0_repairPoints_42 : decode cX0_repairPoints 42 = .ok (.iload_n 1, 1) := by decide +kernel
theorem dX0_repairPoints_43 : decode cX0_repairPoints 43 = .ok (.iadd, 1) := by decide +kernel
theorem dX0_repairPoints_44 : decode cX0_repairPoints 44 = .ok (.bipush 100, 2) := by decide +kernel
theorem dX0_repairPoints_46 : decode cX0_repairPoints 46 = .ok (.if_icmp .gt 18, 3) := by decide +kernel
theorem dX0_repairPoints_49 : decode cX0_repairPoints 49 = .ok (.iload 4, 2) := by decide +kernel
theorem dX0_repairPoints_51 : decode cX0_repairPoints 51 = .ok (.ifCond .le 17, 3) := by decide +kernel
theorem dX0_repairPoints_54 : decode cX0_repairPoints 54 = .ok (.aload_n 0, 1) := by decide +kernel
theorem dX0_repairPoints_55 : decode cX0_repairPoints 55 = .ok (.getfield 27, 3) := by decide +kernel
theorem dX0_repairPoints_58 : decode cX0_repairPoints 58 = .ok (.invokestatic 68, 3) := by decide +kernel
theorem dX0_repairPoints_61 : decode cX0_repairPoints 61 = .ok (.ifCond .ne 7, 3) := by decide +kernel
theorem dX0_repairPoints_64 : decode cX0_repairPoints 64 = .ok (.sipush (-10002), 3) := by decide +kernel
theorem dX0_repairPoints_67 : decode cX0_repairPoints 67 = .ok (.ireturn, 1) := by decide +kernel
theorem dX0_repairPoints_68 : decode cX0_repairPoints 68 = .ok (.aload_n 0, 1) := by decide +kernel
theorem dX0_repairPoints_69 : decode cX0_repairPoints 69 = .ok (.dup, 1) := by decide +kernel
theorem dX0_repairPoints_70 : decode cX0_repairPoints 70 = .ok (.getfield 53, 3) := by decide +kernel
theorem dX0_repairPoints_73 : decode cX0_repairPoints 73 = .ok (.iload_n 3, 1) := by decide +kernel
theorem dX0_repairPoints_74 : decode cX0_repairPoints 74 = .ok (.isub, 1) := by decide +kernel
theorem dX0_repairPoints_75 : decode cX0_repairPoints 75 = .ok (.putfield 53, 3) := by decide +kernel
theorem dX0_repairPoints_78 : decode cX0_repairPoints 78 = .ok (.aload_n 0, 1) := by decide +kernel
theorem dX0_repairPoints_79 : decode cX0_repairPoints 79 = .ok (.dup, 1) := by decide +kernel
theorem dX0_repairPoints_80 : decode cX0_repairPoints 80 = .ok (.getfield 39, 3) := by decide +kernel
theorem dX0_repairPoints_83 : decode cX0_repairPoints 83 = .ok (.iload_n 1, 1) := by decide +kernel
theorem dX0_repairPoints_84 : decode cX0_repairPoints 84 = .ok (.iadd, 1) := by decide +kernel
theorem dX0_repairPoints_85 : decode cX0_repairPoints 85 = .ok (.putfield 39, 3) := by decide +kernel
theorem dX0_repairPoints_88 : decode cX0_repairPoints 88 = .ok (.aload_n 0, 1) := by decide +kernel
theorem dX0_repairPoints_89 : decode cX0_repairPoints 89 = .ok (.dup, 1) := by decide +kernel
theorem dX0_repairPoints_90 : decode cX0_repairPoints 90 = .ok (.getfield 65, 3) := by decide +kernel
theorem dX0_repairPoints_93 : decode cX0_repairPoints 93 = .ok (.iload_n 1, 1) := by decide +kernel
theorem dX0_repairPoints_94 : decode cX0_repairPoints 94 = .ok (.iadd, 1) := by decide +kernel
theorem dX0_repairPoints_95 : decode cX0_repairPoints 95 = .ok (.putfield 65, 3) := by decide +kernel
theorem dX0_repairPoints_98 : decode cX0_repairPoints 98 = .ok (.aload_n 0, 1) := by decide +kernel
theorem dX0_repairPoints_99 : decode cX0_repairPoints 99 = .ok (.iload 4, 2) := by decide +kernel
theorem dX0_repairPoints_101 : decode cX0_repairPoints 101 = .ok (.invokevirtual 110, 3) := by decide +kernel
theorem dX0_repairPoints_104 : decode cX0_repairPoints 104 = .ok (.iload 4, 2) := by decide +kernel
theorem dX0_repairPoints_106 : decode cX0_repairPoints 106 = .ok (.ireturn, 1) := by decide +kernel
theorem dX0_oweByUses_0 : decode cX0_oweByUses 0 = .ok (.aload_n 0, 1) := by decide +kernel
theorem dX0_oweByUses_1 : decode cX0_oweByUses 1 = .ok (.getfield 27, 3) := by decide +kernel
theorem dX0_oweByUses_4 : decode cX0_oweByUses 4 = .ok (.invokestatic 68, 3) := by decide +kernel
theorem dX0_oweByUses_7 : decode cX0_oweByUses 7 = .ok (.istore_n 2, 1) := by decide +kernel
theorem dX0_oweByUses_8 : decode cX0_oweByUses 8 = .ok (.iload_n 1, 1) := by decide +kernel
theorem dX0_oweByUses_9 : decode cX0_oweByUses 9 = .ok (.istore_n 3, 1) := by decide +kernel
theorem dX0_oweByUses_10 : decode cX0_oweByUses 10 = .ok (.iconst 0, 1) := by decide +kernel
theorem dX0_oweByUses_11 : decode cX0_oweByUses 11 = .ok (.istore 4, 2) := by decide +kernel
theorem dX0_oweByUses_13 : decode cX0_oweByUses 13 = .ok (.iload 4, 2) := by decide +kernel
theorem dX0_oweByUses_15 : decode cX0_oweByUses 15 = .ok (.bipush 8, 2) := by decide +kernel
theorem dX0_oweByUses_17 : decode cX0_oweByUses 17 = .ok (.if_icmp .ge 41, 3) := by decide +kernel
theorem dX0_oweByUses_20 : decode cX0_oweByUses 20 = .ok (.iload_n 1, 1) := by decide +kernel
theorem dX0_oweByUses_21 : decode cX0_oweByUses 21 = .ok (.aload_n 0, 1) := by decide +kernel
theorem dX0_oweByUses_22 : decode cX0_oweByUses 22 = .ok (.getfield 27, 3) := by decide +kernel
theorem dX0_oweByUses_25 : decode cX0_oweByUses 25 = .ok (.iload 4, 2) := by decide +kernel
theorem dX0_oweByUses_27 : decode cX0_oweByUses 27 = .ok (.iaload, 1) := by decide +kernel
theorem dX0_oweByUses_28 : decode cX0_oweByUses 28 = .ok (.imul, 1) := by decide +kernel
theorem dX0_oweByUses_29 : decode cX0_oweByUses 29 = .ok (.iload_n 2, 1) := by decide +kernel
theorem dX0_oweByUses_30 : decode cX0_oweByUses 30 = .ok (.invokestatic 114, 3) := by decide +kernel
theorem dX0_oweByUses_33 : decode cX0_oweByUses 33 = .ok (.istore 5, 2) := by decide +kernel
theorem dX0_oweByUses_35 : decode cX0_oweByUses 35 = .ok (.aload_n 0, 1) := by decide +kernel
theorem dX0_oweByUses_36 : decode cX0_oweByUses 36 = .ok (.getfield 21, 3) := by decide +kernel
theorem dX0_oweByUses_39 : decode cX0_oweByUses 39 = .ok (.iload 4, 2) := by decide +kernel
theorem dX0_oweByUses_41 : decode cX0_oweByUses 41 = .ok (.dup2, 1) := by decide +kernel
theorem dX0_oweByUses_42 : decode cX0_oweByUses 42 = .ok (.iaload, 1) := by decide +kernel
theorem dX0_oweByUses_43 : decode cX0_oweByUses 43 = .ok (.iload 5, 2) := by decide +kernel
theorem dX0_oweByUses_45 : decode cX0_oweByUses 45 = .ok (.iadd, 1) := by decide +kernel
theorem dX0_oweByUses_46 : decode cX0_oweByUses 46 = .ok (.iastore, 1) := by decide +kernel
theorem dX0_oweByUses_47 : decode cX0_oweByUses 47 = .ok (.iload_n 3, 1) := by decide +kernel
theorem dX0_oweByUses_48 : decode cX0_oweByUses 48 = .ok (.iload 5, 2) := by decide +kernel
theorem dX0_oweByUses_50 : decode cX0_oweByUses 50 = .ok (.isub, 1) := by decide +kernel
theorem dX0_oweByUses_51 : decode cX0_oweByUses 51 = .ok (.istore_n 3, 1) := by decide +kernel
theorem dX0_oweByUses_52 : decode cX0_oweByUses 52 = .ok (.iinc 4 1, 3) := by decide +kernel
theorem dX0_oweByUses_55 : decode cX0_oweByUses 55 = .ok (.goto (-42), 3) := by decide +kernel
theorem dX0_oweByUses_58 : decode cX0_oweByUses 58 = .ok (.iconst 0, 1) := by decide +kernel
theorem dX0_oweByUses_59 : decode cX0_oweByUses 59 = .ok (.istore 4, 2) := by decide +kernel
theorem dX0_oweByUses_61 : decode cX0_oweByUses 61 = .ok (.iload 4, 2) := by decide +kernel
theorem dX0_oweByUses_63 : decode cX0_oweByUses 63 = .ok (.bipush 8, 2) := by decide +kernel
theorem dX0_oweByUses_65 : decode cX0_oweByUses 65 = .ok (.if_icmp .ge 37, 3) := by decide +kernel
theorem dX0_oweByUses_68 : decode cX0_oweByUses 68 = .ok (.aload_n 0, 1) := by decide +kernel
theorem dX0_oweByUses_69 : decode cX0_oweByUses 69 = .ok (.getfield 27, 3) := by decide +kernel
theorem dX0_oweByUses_72 : decode cX0_oweByUses 72 = .ok (.iload 4, 2) := by decide +kernel
theorem dX0_oweByUses_74 : decode cX0_oweByUses 74 = .ok (.iaload, 1) := by decide +kernel
theorem dX0_oweByUses_75 : decode cX0_oweByUses 75 = .ok (.ifCond .le 21, 3) := by decide +kernel
theorem dX0_oweByUses_78 : decode cX0_oweByUses 78 = .ok (.iload_n 3, 1) := by decide +kernel
theorem dX0_oweByUses_79 : decode cX0_oweByUses 79 = .ok (.ifCond .le 17, 3) := by decide +kernel
theorem dX0_oweByUses_82 : decode cX0_oweByUses 82 = .ok (.aload_n 0, 1) := by decide +kernel
theorem dX0_oweByUses_83 : decode cX0_oweByUses 83 = .ok (.getfield 21, 3) := by decide +kernel
theorem dX0_oweByUses_86 : decode cX0_oweByUses 86 = .ok (.iload 4, 2) := by decide +kernel
theorem dX0_oweByUses_88 : decode cX0_oweByUses 88 = .ok (.dup2, 1) := by decide +kernel
theorem dX0_oweByUses_89 : decode cX0_oweByUses 89 = .ok (.iaload, 1) := by decide +kernel
theorem dX0_oweByUses_90 : decode cX0_oweByUses 90 = .ok (.iconst 1, 1) := by decide +kernel
theorem dX0_oweByUses_91 : decode cX0_oweByUses 91 = .ok (.iadd, 1) := by decide +kernel
theorem dX0_oweByUses_92 : decode cX0_oweByUses 92 = .ok (.iastore, 1) := by decide +kernel
theorem dX0_oweByUses_93 : decode cX0_oweByUses 93 = .ok (.iinc 3 (-1), 3) := by decide +kernel
theorem dX0_oweByUses_96 : decode cX0_oweByUses 96 = .ok (.iinc 4 1, 3) := by decide +kernel
theorem dX0_oweByUses_99 : decode cX0_oweByUses 99 = .ok (.goto (-38), 3) := by decide +kernel
theorem dX0_oweByUses_102 : decode cX0_oweByUses 102 = .ok (.return_, 1) := by decide +kernel
theorem dX0_pointsFromFund_0 : decode cX0_pointsFromFund 0 = .ok (.bipush 100, 2) := by decide +kernel
theorem dX0_pointsFromFund_2 : decode cX0_pointsFromFund 2 = .ok (.aload_n 0, 1) := by decide +kernel
theorem dX0_pointsFromFund_3 : decode cX0_pointsFromFund 3 = .ok (.getfield 39, 3) := by decide +kernel
theorem dX0_pointsFromFund_6 : decode cX0_pointsFromFund 6 = .ok (.isub, 1) := by decide +kernel
theorem dX0_pointsFromFund_7 : decode cX0_pointsFromFund 7 = .ok (.aload_n 0, 1) := by decide +kernel
theorem dX0_pointsFromFund_8 : decode cX0_pointsFromFund 8 = .ok (.getfield 53, 3) := by decide +kernel
theorem dX0_pointsFromFund_11 : decode cX0_pointsFromFund 11 = .ok (.aload_n 0, 1) := by decide +kernel
theorem dX0_pointsFromFund_12 : decode cX0_pointsFromFund 12 = .ok (.getfield 9, 3) := by decide +kernel
theorem dX0_pointsFromFund_15 : decode cX0_pointsFromFund 15 = .ok (.iconst 4, 1) := by decide +kernel
theorem dX0_pointsFromFund_16 : decode cX0_pointsFromFund 16 = .ok (.iaload, 1) := by decide +kernel
theorem dX0_pointsFromFund_17 : decode cX0_pointsFromFund 17 = .ok (.invokestatic 114, 3) := by decide +kernel
theorem dX0_pointsFromFund_20 : decode cX0_pointsFromFund 20 = .ok (.invokestatic 105, 3) := by decide +kernel
theorem dX0_pointsFromFund_23 : decode cX0_pointsFromFund 23 = .ok (.ireturn, 1) := by decide +kernel
theorem dX0_closeSeason_0 : decode cX0_closeSeason 0 = .ok (.aload_n 0, 1) := by decide +kernel
theorem dX0_closeSeason_1 : decode cX0_closeSeason 1 = .ok (.getfield 47, 3) := by decide +kernel
theorem dX0_closeSeason_4 : decode cX0_closeSeason 4 = .ok (.ifCond .ne 7, 3) := by decide +kernel
theorem dX0_closeSeason_7 : decode cX0_closeSeason 7 = .ok (.sipush (-10002), 3) := by decide +kernel
theorem dX0_closeSeason_10 : decode cX0_closeSeason 10 = .ok (.ireturn, 1) := by decide +kernel
theorem dX0_closeSeason_11 : decode cX0_closeSeason 11 = .ok (.aload_n 0, 1) := by decide +kernel
theorem dX0_closeSeason_12 : decode cX0_closeSeason 12 = .ok (.getfield 50, 3) := by decide +kernel
theorem dX0_closeSeason_15 : decode cX0_closeSeason 15 = .ok (.sipush 999, 3) := by decide +kernel
theorem dX0_closeSeason_18 : decode cX0_closeSeason 18 = .ok (.if_icmp .lt 7, 3) := by decide +kernel
theorem dX0_closeSeason_21 : decode cX0_closeSeason 21 = .ok (.sipush (-10003), 3) := by decide +kernel
theorem dX0_closeSeason_24 : decode cX0_closeSeason 24 = .ok (.ireturn, 1) := by decide +kernel
theorem dX0_closeSeason_25 : decode cX0_closeSeason 25 = .ok (.aload_n 0, 1) := by decide +kernel
theorem dX0_closeSeason_26 : decode cX0_closeSeason 26 = .ok (.invokevirtual 117, 3) := by decide +kernel
theorem dX0_closeSeason_29 : decode cX0_closeSeason 29 = .ok (.ireturn, 1) := by decide +kernel
theorem dX0_endSeason_0 : decode cX0_endSeason 0 = .ok (.aload_n 0, 1) := by decide +kernel
theorem dX0_endSeason_1 : decode cX0_endSeason 1 = .ok (.invokevirtual 121, 3) := by decide +kernel
theorem dX0_endSeason_4 : decode cX0_endSeason 4 = .ok (.istore_n 1, 1) := by decide +kernel
theorem dX0_endSeason_5 : decode cX0_endSeason 5 = .ok (.aload_n 0, 1) := by decide +kernel
theorem dX0_endSeason_6 : decode cX0_endSeason 6 = .ok (.iload_n 1, 1) := by decide +kernel
theorem dX0_endSeason_7 : decode cX0_endSeason 7 = .ok (.invokevirtual 83, 3) := by decide +kernel
theorem dX0_endSeason_10 : decode cX0_endSeason 10 = .ok (.istore_n 2, 1) := by decide +kernel
theorem dX0_endSeason_11 : decode cX0_endSeason 11 = .ok (.aload_n 0, 1) := by decide +kernel
theorem dX0_endSeason_12 : decode cX0_endSeason 12 = .ok (.getfield 56, 3) := by decide +kernel
theorem dX0_endSeason_15 : decode cX0_endSeason 15 = .ok (.istore_n 3, 1) := by decide +kernel
theorem dX0_endSeason_16 : decode cX0_endSeason 16 = .ok (.aload_n 0, 1) := by decide +kernel
theorem dX0_endSeason_17 : decode cX0_endSeason 17 = .ok (.invokevirtual 124, 3) := by decide +kernel
theorem dX0_endSeason_20 : decode cX0_endSeason 20 = .ok (.aload_n 0, 1) := by decide +kernel
theorem dX0_endSeason_21 : decode cX0_endSeason 21 = .ok (.dup, 1) := by decide +kernel
theorem dX0_endSeason_22 : decode cX0_endSeason 22 = .ok (.getfield 59, 3) := by decide +kernel
theorem dX0_endSeason_25 : decode cX0_endSeason 25 = .ok (.iload_n 2, 1) := by decide +kernel
theorem dX0_endSeason_26 : decode cX0_endSeason 26 = .ok (.iadd, 1) := by decide +kernel
theorem dX0_endSeason_27 : decode cX0_endSeason 27 = .ok (.putfield 59, 3) := by decide +kernel
theorem dX0_endSeason_30 : decode cX0_endSeason 30 = .ok (.aload_n 0, 1) := by decide +kernel
theorem dX0_endSeason_31 : decode cX0_endSeason 31 = .ok (.dup, 1) := by decide +kernel
theorem dX0_endSeason_32 : decode cX0_endSeason 32 = .ok (.getfield 62, 3) := by decide +kernel
theorem dX0_endSeason_35 : decode cX0_endSeason 35 = .ok (.iconst 0, 1) := by decide +kernel
theorem dX0_endSeason_36 : decode cX0_endSeason 36 = .ok (.iload_n 2, 1) := by decide +kernel
theorem dX0_endSeason_37 : decode cX0_endSeason 37 = .ok (.aload_n 0, 1) := by decide +kernel
theorem dX0_endSeason_38 : decode cX0_endSeason 38 = .ok (.getfield 39, 3) := by decide +kernel
theorem dX0_endSeason_41 : decode cX0_endSeason 41 = .ok (.isub, 1) := by decide +kernel
theorem dX0_endSeason_42 : decode cX0_endSeason 42 = .ok (.invokestatic 127, 3) := by decide +kernel
theorem dX0_endSeason_45 : decode cX0_endSeason 45 = .ok (.iadd, 1) := by decide +kernel
theorem dX0_endSeason_46 : decode cX0_endSeason 46 = .ok (.putfield 62, 3) := by decide +kernel
theorem dX0_endSeason_49 : decode cX0_endSeason 49 = .ok (.aload_n 0, 1) := by decide +kernel
theorem dX0_endSeason_50 : decode cX0_endSeason 50 = .ok (.iconst 0, 1) := by decide +kernel
theorem dX0_endSeason_51 : decode cX0_endSeason 51 = .ok (.aload_n 0, 1) := by decide +kernel
theorem dX0_endSeason_52 : decode cX0_endSeason 52 = .ok (.getfield 39, 3) := by decide +kernel
theorem dX0_endSeason_55 : decode cX0_endSeason 55 = .ok (.iload_n 2, 1) := by decide +kernel
theorem dX0_endSeason_56 : decode cX0_endSeason 56 = .ok (.isub, 1) := by decide +kernel
theorem dX0_endSeason_57 : decode cX0_endSeason 57 = .ok (.invokestatic 127, 3) := by decide +kernel
theorem dX0_endSeason_60 : decode cX0_endSeason 60 = .ok (.putfield 39, 3) := by decide +kernel
theorem dX0_endSeason_63 : decode cX0_endSeason 63 = .ok (.aload_n 0, 1) := by decide +kernel
theorem dX0_endSeason_64 : decode cX0_endSeason 64 = .ok (.bipush 100, 2) := by decide +kernel
theorem dX0_endSeason_66 : decode cX0_endSeason 66 = .ok (.aload_n 0, 1) := by decide +kernel
theorem dX0_endSeason_67 : decode cX0_endSeason 67 = .ok (.getfield 39, 3) := by decide +kernel
theorem dX0_endSeason_70 : decode cX0_endSeason 70 = .ok (.aload_n 0, 1) := by decide +kernel
theorem dX0_endSeason_71 : decode cX0_endSeason 71 = .ok (.getfield 9, 3) := by decide +kernel
theorem dX0_endSeason_74 : decode cX0_endSeason 74 = .ok (.iconst 2, 1) := by decide +kernel
theorem dX0_endSeason_75 : decode cX0_endSeason 75 = .ok (.iaload, 1) := by decide +kernel
theorem dX0_endSeason_76 : decode cX0_endSeason 76 = .ok (.iadd, 1) := by decide +kernel
theorem dX0_endSeason_77 : decode cX0_endSeason 77 = .ok (.invokestatic 105, 3) := by decide +kernel
theorem dX0_endSeason_80 : decode cX0_endSeason 80 = .ok (.putfield 39, 3) := by decide +kernel
theorem dX0_endSeason_83 : decode cX0_endSeason 83 = .ok (.aload_n 0, 1) := by decide +kernel
theorem dX0_endSeason_84 : decode cX0_endSeason 84 = .ok (.iload_n 1, 1) := by decide +kernel
theorem dX0_endSeason_85 : decode cX0_endSeason 85 = .ok (.iload_n 2, 1) := by decide +kernel
theorem dX0_endSeason_86 : decode cX0_endSeason 86 = .ok (.invokevirtual 130, 3) := by decide +kernel
theorem dX0_endSeason_89 : decode cX0_endSeason 89 = .ok (.aload_n 0, 1) := by decide +kernel
theorem dX0_endSeason_90 : decode cX0_endSeason 90 = .ok (.invokevirtual 134, 3) := by decide +kernel
theorem dX0_endSeason_93 : decode cX0_endSeason 93 = .ok (.aload_n 0, 1) := by decide +kernel
theorem dX0_endSeason_94 : decode cX0_endSeason 94 = .ok (.dup, 1) := by decide +kernel
theorem dX0_endSeason_95 : decode cX0_endSeason 95 = .ok (.getfield 50, 3) := by decide +kernel
theorem dX0_endSeason_98 : decode cX0_endSeason 98 = .ok (.iconst 1, 1) := by decide +kernel
theorem dX0_endSeason_99 : decode cX0_endSeason 99 = .ok (.iadd, 1) := by decide +kernel
theorem dX0_endSeason_100 : decode cX0_endSeason 100 = .ok (.putfield 50, 3) := by decide +kernel
theorem dX0_endSeason_103 : decode cX0_endSeason 103 = .ok (.aload_n 0, 1) := by decide +kernel
theorem dX0_endSeason_104 : decode cX0_endSeason 104 = .ok (.iconst 0, 1) := by decide +kernel
theorem dX0_endSeason_105 : decode cX0_endSeason 105 = .ok (.putfield 56, 3) := by decide +kernel
theorem dX0_endSeason_108 : decode cX0_endSeason 108 = .ok (.aload_n 0, 1) := by decide +kernel
theorem dX0_endSeason_109 : decode cX0_endSeason 109 = .ok (.iload_n 3, 1) := by decide +kernel
theorem dX0_endSeason_110 : decode cX0_endSeason 110 = .ok (.invokevirtual 137, 3) := by decide +kernel
theorem dX0_endSeason_113 : decode cX0_endSeason 113 = .ok (.aload_n 0, 1) := by decide +kernel
theorem dX0_endSeason_114 : decode cX0_endSeason 114 = .ok (.invokevirtual 140, 3) := by decide +kernel
theorem dX0_endSeason_117 : decode cX0_endSeason 117 = .ok (.aload_n 0, 1) := by decide +kernel
theorem dX0_endSeason_118 : decode cX0_endSeason 118 = .ok (.invokevirtual 143, 3) := by decide +kernel
theorem dX0_endSeason_121 : decode cX0_endSeason 121 = .ok (.iload_n 2, 1) := by decide +kernel
theorem dX0_endSeason_122 : decode cX0_endSeason 122 = .ok (.ireturn, 1) := by decide +kernel
theorem dX0_oweCharges_0 : decode cX0_oweCharges 0 = .ok (.iconst 0, 1) := by decide +kernel
theorem dX0_oweCharges_1 : decode cX0_oweCharges 1 = .ok (.istore_n 1, 1) := by decide +kernel
theorem dX0_oweCharges_2 : decode cX0_oweCharges 2 = .ok (.iconst 0, 1) := by decide +kernel
theorem dX0_oweCharges_3 : decode cX0_oweCharges 3 = .ok (.istore_n 2, 1) := by decide +kernel
theorem dX0_oweCharges_4 : decode cX0_oweCharges 4 = .ok (.aload_n 0, 1) := by decide +kernel
theorem dX0_oweCharges_5 : decode cX0_oweCharges 5 = .ok (.getfield 47, 3) := by decide +kernel
theorem dX0_oweCharges_8 : decode cX0_oweCharges 8 = .ok (.iconst 1, 1) := by decide +kernel
theorem dX0_oweCharges_9 : decode cX0_oweCharges 9 = .ok (.if_icmp .ge 7, 3) := by decide +kernel
theorem dX0_oweCharges_12 : decode cX0_oweCharges 12 = .ok (.iconst 0, 1) := by decide +kernel
theorem dX0_oweCharges_13 : decode cX0_oweCharges 13 = .ok (.goto 12, 3) := by decide +kernel
theorem dX0_oweCharges_16 : decode cX0_oweCharges 16 = .ok (.aload_n 0, 1) := by decide +kernel
theorem dX0_oweCharges_17 : decode cX0_oweCharges 17 = .ok (.getfield 50, 3) := by decide +kernel
theorem dX0_oweCharges_20 : decode cX0_oweCharges 20 = .ok (.aload_n 0, 1) := by decide +kernel
theorem dX0_oweCharges_21 : decode cX0_oweCharges 21 = .ok (.getfield 47, 3) := by decide +kernel
theorem dX0_oweCharges_24 : decode cX0_oweCharges 24 = .ok (.irem, 1) := by decide +kernel
theorem dX0_oweCharges_25 : decode cX0_oweCharges 25 = .ok (.istore_n 3, 1) := by decide +kernel
theorem dX0_oweCharges_26 : decode cX0_oweCharges 26 = .ok (.iconst 0, 1) := by decide +kernel
theorem dX0_oweCharges_27 : decode cX0_oweCharges 27 = .ok (.istore 4, 2) := by decide +kernel
theorem dX0_oweCharges_29 : decode cX0_oweCharges 29 = .ok (.iload 4, 2) := by decide +kernel
theorem dX0_oweCharges_31 : decode cX0_oweCharges 31 = .ok (.aload_n 0, 1) := by decide +kernel
theorem dX0_oweCharges_32 : decode cX0_oweCharges 32 = .ok (.getfield 47, 3) := by decide +kernel
theorem dX0_oweCharges_35 : decode cX0_oweCharges 35 = .ok (.if_icmp .ge 66, 3) := by decide +kernel
theorem dX0_oweCharges_38 : decode cX0_oweCharges 38 = .ok (.aload_n 0, 1) := by decide +kernel
theorem dX0_oweCharges_39 : decode cX0_oweCharges 39 = .ok (.iload_n 3, 1) := by decide +kernel
theorem dX0_oweCharges_40 : decode cX0_oweCharges 40 = .ok (.invokevirtual 86, 3) := by decide +kernel
theorem dX0_oweCharges_43 : decode cX0_oweCharges 43 = .ok (.ifCond .eq 34, 3) := by decide +kernel
theorem dX0_oweCharges_46 : decode cX0_oweCharges 46 = .ok (.iload_n 1, 1) := by decide +kernel
theorem dX0_oweCharges_47 : decode cX0_oweCharges 47 = .ok (.aload_n 0, 1) := by decide +kernel
theorem dX0_oweCharges_48 : decode cX0_oweCharges 48 = .ok (.getfield 18, 3) := by decide +kernel
theorem dX0_oweCharges_51 : decode cX0_oweCharges 51 = .ok (.iload_n 3, 1) := by decide +kernel
theorem dX0_oweCharges_52 : decode cX0_oweCharges 52 = .ok (.iaload, 1) := by decide +kernel
theorem dX0_oweCharges_53 : decode cX0_oweCharges 53 = .ok (.iadd, 1) := by decide +kernel
theorem dX0_oweCharges_54 : decode cX0_oweCharges 54 = .ok (.istore_n 1, 1) := by decide +kernel
theorem dX0_oweCharges_55 : decode cX0_oweCharges 55 = .ok (.aload_n 0, 1) := by decide +kernel
theorem dX0_oweCharges_56 : decode cX0_oweCharges 56 = .ok (.getfield 21, 3) := by decide +kernel
theorem dX0_oweCharges_59 : decode cX0_oweCharges 59 = .ok (.iload_n 3, 1) := by decide +kernel
theorem dX0_oweCharges_60 : decode cX0_oweCharges 60 = .ok (.dup2, 1) := by decide +kernel
theorem dX0_oweCharges_61 : decode cX0_oweCharges 61 = .ok (.iaload, 1) := by decide +kernel
theorem dX0_oweCharges_62 : decode cX0_oweCharges 62 = .ok (.aload_n 0, 1) := by decide +kernel
theorem dX0_oweCharges_63 : decode cX0_oweCharges 63 = .ok (.iload_n 1, 1) := by decide +kernel
theorem dX0_oweCharges_64 : decode cX0_oweCharges 64 = .ok (.invokevirtual 83, 3) := by decide +kernel
theorem dX0_oweCharges_67 : decode cX0_oweCharges 67 = .ok (.iload_n 2, 1) := by decide +kernel
theorem dX0_oweCharges_68 : decode cX0_oweCharges 68 = .ok (.isub, 1) := by decide +kernel
theorem dX0_oweCharges_69 : decode cX0_oweCharges 69 = .ok (.iadd, 1) := by decide +kernel
theorem dX0_oweCharges_70 : decode cX0_oweCharges 70 = .ok (.iastore, 1) := by decide +kernel
theorem dX0_oweCharges_71 : decode cX0_oweCharges 71 = .ok (.aload_n 0, 1) := by decide +kernel
theorem dX0_oweCharges_72 : decode cX0_oweCharges 72 = .ok (.iload_n 1, 1) := by decide +kernel
theorem dX0_oweCharges_73 : decode cX0_oweCharges 73 = .ok (.invokevirtual 83, 3) := by decide +kernel
theorem dX0_oweCharges_76 : decode cX0_oweCharges 76 = .ok (.istore_n 2, 1) := by decide +kernel
theorem dX0_oweCharges_77 : decode cX0_oweCharges 77 = .ok (.iload_n 3, 1) := by decide +kernel
theorem dX0_oweCharges_78 : decode cX0_oweCharges 78 = .ok (.iconst 1, 1) := by decide +kernel
theorem dX0_oweCharges_79 : decode cX0_oweCharges 79 = .ok (.iadd, 1) := by decide +kernel
theorem dX0_oweCharges_80 : decode cX0_oweCharges 80 = .ok (.aload_n 0, 1) := by decide +kernel
theorem dX0_oweCharges_81 : decode cX0_oweCharges 81 = .ok (.getfield 47, 3) := by decide +kernel
theorem dX0_oweCharges_84 : decode cX0_oweCharges 84 = .ok (.if_icmp .ge 9, 3) := by decide +kernel
theorem dX0_oweCharges_87 : decode cX0_oweCharges 87 = .ok (.iload_n 3, 1) := by decide +kernel
theorem dX0_oweCharges_88 : decode cX0_oweCharges 88 = .ok (.iconst 1, 1) := by decide +kernel
theorem dX0_oweCharges_89 : decode cX0_oweCharges 89 = .ok (.iadd, 1) := by decide +kernel
theorem dX0_oweCharges_90 : decode cX0_oweCharges 90 = .ok (.goto 4, 3) := by decide +kernel
theorem dX0_oweCharges_93 : decode cX0_oweCharges 93 = .ok (.iconst 0, 1) := by decide +kernel
theorem dX0_oweCharges_94 : decode cX0_oweCharges 94 = .ok (.istore_n 3, 1) := by decide +kernel
theorem dX0_oweCharges_95 : decode cX0_oweCharges 95 = .ok (.iinc 4 1, 3) := by decide +kernel
theorem dX0_oweCharges_98 : decode cX0_oweCharges 98 = .ok (.goto (-69), 3) := by decide +kernel
theorem dX0_oweCharges_101 : decode cX0_oweCharges 101 = .ok (.return_, 1) := by decide +kernel
theorem dX0_keepSeason_0 : decode cX0_keepSeason 0 = .ok (.aload_n 0, 1) := by decide +kernel
theorem dX0_keepSeason_1 : decode cX0_keepSeason 1 = .ok (.getfield 50, 3) := by decide +kernel
theorem dX0_keepSeason_4 : decode cX0_keepSeason 4 = .ok (.bipush 6, 2) := by decide +kernel
theorem dX0_keepSeason_6 : decode cX0_keepSeason 6 = .ok (.irem, 1) := by decide +kernel
theorem dX0_keepSeason_7 : decode cX0_keepSeason 7 = .ok (.iconst 5, 1) := by decide +kernel
theorem dX0_keepSeason_8 : decode cX0_keepSeason 8 = .ok (.imul, 1) := by decide +kernel
theorem dX0_keepSeason_9 : decode cX0_keepSeason 9 = .ok (.istore_n 3, 1) := by decide +kernel
theorem dX0_keepSeason_10 : decode cX0_keepSeason 10 = .ok (.aload_n 0, 1) := by decide +kernel
theorem dX0_keepSeason_11 : decode cX0_keepSeason 11 = .ok (.getfield 36, 3) := by decide +kernel
theorem dX0_keepSeason_14 : decode cX0_keepSeason 14 = .ok (.iload_n 3, 1) := by decide +kernel
theorem dX0_keepSeason_15 : decode cX0_keepSeason 15 = .ok (.aload_n 0, 1) := by decide +kernel
theorem dX0_keepSeason_16 : decode cX0_keepSeason 16 = .ok (.getfield 50, 3) := by decide +kernel
theorem dX0_keepSeason_19 : decode cX0_keepSeason 19 = .ok (.iastore, 1) := by decide +kernel
theorem dX0_keepSeason_20 : decode cX0_keepSeason 20 = .ok (.aload_n 0, 1) := by decide +kernel
theorem dX0_keepSeason_21 : decode cX0_keepSeason 21 = .ok (.getfield 36, 3) := by decide +kernel
theorem dX0_keepSeason_24 : decode cX0_keepSeason 24 = .ok (.iload_n 3, 1) := by decide +kernel
theorem dX0_keepSeason_25 : decode cX0_keepSeason 25 = .ok (.iconst 1, 1) := by decide +kernel
theorem dX0_keepSeason_26 : decode cX0_keepSeason 26 = .ok (.iadd, 1) := by decide +kernel
theorem dX0_keepSeason_27 : decode cX0_keepSeason 27 = .ok (.iload_n 1, 1) := by decide +kernel
theorem dX0_keepSeason_28 : decode cX0_keepSeason 28 = .ok (.iastore, 1) := by decide +kernel
theorem dX0_keepSeason_29 : decode cX0_keepSeason 29 = .ok (.aload_n 0, 1) := by decide +kernel
theorem dX0_keepSeason_30 : decode cX0_keepSeason 30 = .ok (.getfield 36, 3) := by decide +kernel
theorem dX0_keepSeason_33 : decode cX0_keepSeason 33 = .ok (.iload_n 3, 1) := by decide +kernel
theorem dX0_keepSeason_34 : decode cX0_keepSeason 34 = .ok (.iconst 2, 1) := by decide +kernel
theorem dX0_keepSeason_35 : decode cX0_keepSeason 35 = .ok (.iadd, 1) := by decide +kernel
theorem dX0_keepSeason_36 : decode cX0_keepSeason 36 = .ok (.iload_n 2, 1) := by decide +kernel
theorem dX0_keepSeason_37 : decode cX0_keepSeason 37 = .ok (.iastore, 1) := by decide +kernel
theorem dX0_keepSeason_38 : decode cX0_keepSeason 38 = .ok (.aload_n 0, 1) := by decide +kernel
theorem dX0_keepSeason_39 : decode cX0_keepSeason 39 = .ok (.getfield 36, 3) := by decide +kernel
theorem dX0_keepSeason_42 : decode cX0_keepSeason 42 = .ok (.iload_n 3, 1) := by decide +kernel
theorem dX0_keepSeason_43 : decode cX0_keepSeason 43 = .ok (.iconst 3, 1) := by decide +kernel
theorem dX0_keepSeason_44 : decode cX0_keepSeason 44 = .ok (.iadd, 1) := by decide +kernel
theorem dX0_keepSeason_45 : decode cX0_keepSeason 45 = .ok (.aload_n 0, 1) := by decide +kernel
theorem dX0_keepSeason_46 : decode cX0_keepSeason 46 = .ok (.getfield 39, 3) := by decide +kernel
theorem dX0_keepSeason_49 : decode cX0_keepSeason 49 = .ok (.iastore, 1) := by decide +kernel
theorem dX0_keepSeason_50 : decode cX0_keepSeason 50 = .ok (.aload_n 0, 1) := by decide +kernel
theorem dX0_keepSeason_51 : decode cX0_keepSeason 51 = .ok (.getfield 36, 3) := by decide +kernel
theorem dX0_keepSeason_54 : decode cX0_keepSeason 54 = .ok (.iload_n 3, 1) := by decide +kernel
theorem dX0_keepSeason_55 : decode cX0_keepSeason 55 = .ok (.iconst 4, 1) := by decide +kernel
theorem dX0_keepSeason_56 : decode cX0_keepSeason 56 = .ok (.iadd, 1) := by decide +kernel
theorem dX0_keepSeason_57 : decode cX0_keepSeason 57 = .ok (.aload_n 0, 1) := by decide +kernel
theorem dX0_keepSeason_58 : decode cX0_keepSeason 58 = .ok (.getfield 56, 3) := by decide +kernel
theorem dX0_keepSeason_61 : decode cX0_keepSeason 61 = .ok (.iastore, 1) := by decide +kernel
theorem dX0_keepSeason_62 : decode cX0_keepSeason 62 = .ok (.return_, 1) := by decide +kernel
theorem dX0_bookUses_0 : decode cX0_bookUses 0 = .ok (.iconst 0, 1) := by decide +kernel
theorem dX0_bookUses_1 : decode cX0_bookUses 1 = .ok (.istore_n 1, 1) := by decide +kernel
theorem dX0_bookUses_2 : decode cX0_bookUses 2 = .ok (.iload_n 1, 1) := by decide +kernel
theorem dX0_bookUses_3 : decode cX0_bookUses 3 = .ok (.bipush 8, 2) := by decide +kernel
theorem dX0_bookUses_5 : decode cX0_bookUses 5 = .ok (.if_icmp .ge 46, 3) := by decide +kernel
theorem dX0_bookUses_8 : decode cX0_bookUses 8 = .ok (.aload_n 0, 1) := by decide +kernel
theorem dX0_bookUses_9 : decode cX0_bookUses 9 = .ok (.getfield 27, 3) := by decide +kernel
theorem dX0_bookUses_12 : decode cX0_bookUses 12 = .ok (.iload_n 1, 1) := by decide +kernel
theorem dX0_bookUses_13 : decode cX0_bookUses 13 = .ok (.dup2, 1) := by decide +kernel
theorem dX0_bookUses_14 : decode cX0_bookUses 14 = .ok (.iaload, 1) := by decide +kernel
theorem dX0_bookUses_15 : decode cX0_bookUses 15 = .ok (.aload_n 0, 1) := by decide +kernel
theorem dX0_bookUses_16 : decode cX0_bookUses 16 = .ok (.getfield 18, 3) := by decide +kernel
theorem dX0_bookUses_19 : decode cX0_bookUses 19 = .ok (.iload_n 1, 1) := by decide +kernel
theorem dX0_bookUses_20 : decode cX0_bookUses 20 = .ok (.iaload, 1) := by decide +kernel
theorem dX0_bookUses_21 : decode cX0_bookUses 21 = .ok (.iadd, 1) := by decide +kernel
theorem dX0_bookUses_22 : decode cX0_bookUses 22 = .ok (.iastore, 1) := by decide +kernel
theorem dX0_bookUses_23 : decode cX0_bookUses 23 = .ok (.aload_n 0, 1) := by decide +kernel
theorem dX0_bookUses_24 : decode cX0_bookUses 24 = .ok (.getfield 30, 3) := by decide +kernel
theorem dX0_bookUses_27 : decode cX0_bookUses 27 = .ok (.iload_n 1, 1) := by decide +kernel
theorem dX0_bookUses_28 : decode cX0_bookUses 28 = .ok (.dup2, 1) := by decide +kernel
theorem dX0_bookUses_29 : decode cX0_bookUses 29 = .ok (.iaload, 1) := by decide +kernel
theorem dX0_bookUses_30 : decode cX0_bookUses 30 = .ok (.aload_n 0, 1) := by decide +kernel
theorem dX0_bookUses_31 : decode cX0_bookUses 31 = .ok (.getfield 18, 3) := by decide +kernel
theorem dX0_bookUses_34 : decode cX0_bookUses 34 = .ok (.iload_n 1, 1) := by decide +kernel
theorem dX0_bookUses_35 : decode cX0_bookUses 35 = .ok (.iaload, 1) := by decide +kernel
theorem dX0_bookUses_36 : decode cX0_bookUses 36 = .ok (.iadd, 1) := by decide +kernel
theorem dX0_bookUses_37 : decode cX0_bookUses 37 = .ok (.iastore, 1) := by decide +kernel
theorem dX0_bookUses_38 : decode cX0_bookUses 38 = .ok (.aload_n 0, 1) := by decide +kernel
theorem dX0_bookUses_39 : decode cX0_bookUses 39 = .ok (.getfield 18, 3) := by decide +kernel
theorem dX0_bookUses_42 : decode cX0_bookUses 42 = .ok (.iload_n 1, 1) := by decide +kernel
theorem dX0_bookUses_43 : decode cX0_bookUses 43 = .ok (.iconst 0, 1) := by decide +kernel
theorem dX0_bookUses_44 : decode cX0_bookUses 44 = .ok (.iastore, 1) := by decide +kernel
theorem dX0_bookUses_45 : decode cX0_bookUses 45 = .ok (.iinc 1 1, 3) := by decide +kernel
theorem dX0_bookUses_48 : decode cX0_bookUses 48 = .ok (.goto (-46), 3) := by decide +kernel
theorem dX0_bookUses_51 : decode cX0_bookUses 51 = .ok (.return_, 1) := by decide +kernel
theorem dX0_noteSeasonsOut_0 : decode cX0_noteSeasonsOut 0 = .ok (.iconst 0, 1) := by decide +kernel
theorem dX0_noteSeasonsOut_1 : decode cX0_noteSeasonsOut 1 = .ok (.istore_n 1, 1) := by decide +kernel
theorem dX0_noteSeasonsOut_2 : decode cX0_noteSeasonsOut 2 = .ok (.iload_n 1, 1) := by decide +kernel
theorem dX0_noteSeasonsOut_3 : decode cX0_noteSeasonsOut 3 = .ok (.bipush 8, 2) := by decide +kernel
theorem dX0_noteSeasonsOut_5 : decode cX0_noteSeasonsOut 5 = .ok (.if_icmp .ge 27, 3) := by decide +kernel
theorem dX0_noteSeasonsOut_8 : decode cX0_noteSeasonsOut 8 = .ok (.aload_n 0, 1) := by decide +kernel
theorem dX0_noteSeasonsOut_9 : decode cX0_noteSeasonsOut 9 = .ok (.iload_n 1, 1) := by decide +kernel
theorem dX0_noteSeasonsOut_10 : decode cX0_noteSeasonsOut 10 = .ok (.invokevirtual 93, 3) := by decide +kernel
theorem dX0_noteSeasonsOut_13 : decode cX0_noteSeasonsOut 13 = .ok (.ifCond .eq 13, 3) := by decide +kernel
theorem dX0_noteSeasonsOut_16 : decode cX0_noteSeasonsOut 16 = .ok (.aload_n 0, 1) := by decide +kernel
theorem dX0_noteSeasonsOut_17 : decode cX0_noteSeasonsOut 17 = .ok (.getfield 33, 3) := by decide +kernel
theorem dX0_noteSeasonsOut_20 : decode cX0_noteSeasonsOut 20 = .ok (.iload_n 1, 1) := by decide +kernel
theorem dX0_noteSeasonsOut_21 : decode cX0_noteSeasonsOut 21 = .ok (.dup2, 1) := by decide +kernel
theorem dX0_noteSeasonsOut_22 : decode cX0_noteSeasonsOut 22 = .ok (.iaload, 1) := by decide +kernel
theorem dX0_noteSeasonsOut_23 : decode cX0_noteSeasonsOut 23 = .ok (.iconst 1, 1) := by decide +kernel
theorem dX0_noteSeasonsOut_24 : decode cX0_noteSeasonsOut 24 = .ok (.iadd, 1) := by decide +kernel
theorem dX0_noteSeasonsOut_25 : decode cX0_noteSeasonsOut 25 = .ok (.iastore, 1) := by decide +kernel
theorem dX0_noteSeasonsOut_26 : decode cX0_noteSeasonsOut 26 = .ok (.iinc 1 1, 3) := by decide +kernel
theorem dX0_noteSeasonsOut_29 : decode cX0_noteSeasonsOut 29 = .ok (.goto (-27), 3) := by decide +kernel
theorem dX0_noteSeasonsOut_32 : decode cX0_noteSeasonsOut 32 = .ok (.return_, 1) := by decide +kernel
theorem dX0_excludeInTurn_0 : decode cX0_excludeInTurn 0 = .ok (.aload_n 0, 1) := by decide +kernel
theorem dX0_excludeInTurn_1 : decode cX0_excludeInTurn 1 = .ok (.invokevirtual 146, 3) := by decide +kernel
theorem dX0_excludeInTurn_4 : decode cX0_excludeInTurn 4 = .ok (.istore_n 2, 1) := by decide +kernel
theorem dX0_excludeInTurn_5 : decode cX0_excludeInTurn 5 = .ok (.iconst 0, 1) := by decide +kernel
theorem dX0_excludeInTurn_6 : decode cX0_excludeInTurn 6 = .ok (.istore_n 3, 1) := by decide +kernel
theorem dX0_excludeInTurn_7 : decode cX0_excludeInTurn 7 = .ok (.iload_n 3, 1) := by decide +kernel
theorem dX0_excludeInTurn_8 : decode cX0_excludeInTurn 8 = .ok (.iload_n 2, 1) := by decide +kernel
theorem dX0_excludeInTurn_9 : decode cX0_excludeInTurn 9 = .ok (.if_icmp .ge 52, 3) := by decide +kernel
theorem dX0_excludeInTurn_12 : decode cX0_excludeInTurn 12 = .ok (.aload_n 0, 1) := by decide +kernel
theorem dX0_excludeInTurn_13 : decode cX0_excludeInTurn 13 = .ok (.iload_n 1, 1) := by decide +kernel
theorem dX0_excludeInTurn_14 : decode cX0_excludeInTurn 14 = .ok (.aload_n 0, 1) := by decide +kernel
theorem dX0_excludeInTurn_15 : decode cX0_excludeInTurn 15 = .ok (.getfield 56, 3) := by decide +kernel
theorem dX0_excludeInTurn_18 : decode cX0_excludeInTurn 18 = .ok (.ior, 1) := by decide +kernel
theorem dX0_excludeInTurn_19 : decode cX0_excludeInTurn 19 = .ok (.invokevirtual 149, 3) := by decide +kernel
theorem dX0_excludeInTurn_22 : decode cX0_excludeInTurn 22 = .ok (.istore 4, 2) := by decide +kernel
theorem dX0_excludeInTurn_24 : decode cX0_excludeInTurn 24 = .ok (.aload_n 0, 1) := by decide +kernel
theorem dX0_excludeInTurn_25 : decode cX0_excludeInTurn 25 = .ok (.iload 4, 2) := by decide +kernel
theorem dX0_excludeInTurn_27 : decode cX0_excludeInTurn 27 = .ok (.invokevirtual 86, 3) := by decide +kernel
theorem dX0_excludeInTurn_30 : decode cX0_excludeInTurn 30 = .ok (.ifCond .ne 4, 3) := by decide +kernel
theorem dX0_excludeInTurn_33 : decode cX0_excludeInTurn 33 = .ok (.return_, 1) := by decide +kernel
theorem dX0_excludeInTurn_34 : decode cX0_excludeInTurn 34 = .ok (.aload_n 0, 1) := by decide +kernel
theorem dX0_excludeInTurn_35 : decode cX0_excludeInTurn 35 = .ok (.dup, 1) := by decide +kernel
theorem dX0_excludeInTurn_36 : decode cX0_excludeInTurn 36 = .ok (.getfield 56, 3) := by decide +kernel
theorem dX0_excludeInTurn_39 : decode cX0_excludeInTurn 39 = .ok (.iconst 1, 1) := by decide +kernel
theorem dX0_excludeInTurn_40 : decode cX0_excludeInTurn 40 = .ok (.iload 4, 2) := by decide +kernel
theorem dX0_excludeInTurn_42 : decode cX0_excludeInTurn 42 = .ok (.ishl, 1) := by decide +kernel
theorem dX0_excludeInTurn_43 : decode cX0_excludeInTurn 43 = .ok (.ior, 1) := by decide +kernel
theorem dX0_excludeInTurn_44 : decode cX0_excludeInTurn 44 = .ok (.putfield 56, 3) := by decide +kernel
theorem dX0_excludeInTurn_47 : decode cX0_excludeInTurn 47 = .ok (.aload_n 0, 1) := by decide +kernel
theorem dX0_excludeInTurn_48 : decode cX0_excludeInTurn 48 = .ok (.getfield 30, 3) := by decide +kernel
theorem dX0_excludeInTurn_51 : decode cX0_excludeInTurn 51 = .ok (.iload 4, 2) := by decide +kernel
theorem dX0_excludeInTurn_53 : decode cX0_excludeInTurn 53 = .ok (.iconst 0, 1) := by decide +kernel
theorem dX0_excludeInTurn_54 : decode cX0_excludeInTurn 54 = .ok (.iastore, 1) := by decide +kernel
theorem dX0_excludeInTurn_55 : decode cX0_excludeInTurn 55 = .ok (.iinc 3 1, 3) := by decide +kernel
theorem dX0_excludeInTurn_58 : decode cX0_excludeInTurn 58 = .ok (.goto (-51), 3) := by decide +kernel
theorem dX0_excludeInTurn_61 : decode cX0_excludeInTurn 61 = .ok (.return_, 1) := by decide +kernel
theorem dX0_turnsNeeded_0 : decode cX0_turnsNeeded 0 = .ok (.aload_n 0, 1) := by decide +kernel
theorem dX0_turnsNeeded_1 : decode cX0_turnsNeeded 1 = .ok (.getfield 9, 3) := by decide +kernel
theorem dX0_turnsNeeded_4 : decode cX0_turnsNeeded 4 = .ok (.iconst 1, 1) := by decide +kernel
theorem dX0_turnsNeeded_5 : decode cX0_turnsNeeded 5 = .ok (.iaload, 1) := by decide +kernel
theorem dX0_turnsNeeded_6 : decode cX0_turnsNeeded 6 = .ok (.aload_n 0, 1) := by decide +kernel
theorem dX0_turnsNeeded_7 : decode cX0_turnsNeeded 7 = .ok (.getfield 39, 3) := by decide +kernel
theorem dX0_turnsNeeded_10 : decode cX0_turnsNeeded 10 = .ok (.isub, 1) := by decide +kernel
theorem dX0_turnsNeeded_11 : decode cX0_turnsNeeded 11 = .ok (.istore_n 1, 1) := by decide +kernel
theorem dX0_turnsNeeded_12 : decode cX0_turnsNeeded 12 = .ok (.iload_n 1, 1) := by decide +kernel
theorem dX0_turnsNeeded_13 : decode cX0_turnsNeeded 13 = .ok (.ifCond .gt 5, 3) := by decide +kernel
theorem dX0_turnsNeeded_16 : decode cX0_turnsNeeded 16 = .ok (.iconst 0, 1) := by decide +kernel
theorem dX0_turnsNeeded_17 : decode cX0_turnsNeeded 17 = .ok (.ireturn, 1) := by decide +kernel
theorem dX0_turnsNeeded_18 : decode cX0_turnsNeeded 18 = .ok (.iload_n 1, 1) := by decide +kernel
theorem dX0_turnsNeeded_19 : decode cX0_turnsNeeded 19 = .ok (.bipush 10, 2) := by decide +kernel
theorem dX0_turnsNeeded_21 : decode cX0_turnsNeeded 21 = .ok (.iadd, 1) := by decide +kernel
theorem dX0_turnsNeeded_22 : decode cX0_turnsNeeded 22 = .ok (.iconst 1, 1) := by decide +kernel
theorem dX0_turnsNeeded_23 : decode cX0_turnsNeeded 23 = .ok (.isub, 1) := by decide +kernel
theorem dX0_turnsNeeded_24 : decode cX0_turnsNeeded 24 = .ok (.bipush 10, 2) := by decide +kernel
theorem dX0_turnsNeeded_26 : decode cX0_turnsNeeded 26 = .ok (.idiv, 1) := by decide +kernel
theorem dX0_turnsNeeded_27 : decode cX0_turnsNeeded 27 = .ok (.istore_n 2, 1) := by decide +kernel
theorem dX0_turnsNeeded_28 : decode cX0_turnsNeeded 28 = .ok (.iload_n 2, 1) := by decide +kernel
theorem dX0_turnsNeeded_29 : decode cX0_turnsNeeded 29 = .ok (.aload_n 0, 1) := by decide +kernel
theorem dX0_turnsNeeded_30 : decode cX0_turnsNeeded 30 = .ok (.getfield 47, 3) := by decide +kernel
theorem dX0_turnsNeeded_33 : decode cX0_turnsNeeded 33 = .ok (.iconst 1, 1) := by decide +kernel
theorem dX0_turnsNeeded_34 : decode cX0_turnsNeeded 34 = .ok (.isub, 1) := by decide +kernel
theorem dX0_turnsNeeded_35 : decode cX0_turnsNeeded 35 = .ok (.invokestatic 105, 3) := by decide +kernel
theorem dX0_turnsNeeded_38 : decode cX0_turnsNeeded 38 = .ok (.ireturn, 1) := by decide +kernel
theorem dX0_heaviestNotIn_0 : decode cX0_heaviestNotIn 0 = .ok (.iconst (-1), 1) := by decide +kernel
theorem dX0_heaviestNotIn_1 : decode cX0_heaviestNotIn 1 = .ok (.istore_n 2, 1) := by decide +kernel
theorem dX0_heaviestNotIn_2 : decode cX0_heaviestNotIn 2 = .ok (.iconst (-1), 1) := by decide +kernel
theorem dX0_heaviestNotIn_3 : decode cX0_heaviestNotIn 3 = .ok (.istore_n 3, 1) := by decide +kernel
theorem dX0_heaviestNotIn_4 : decode cX0_heaviestNotIn 4 = .ok (.iconst 0, 1) := by decide +kernel
theorem dX0_heaviestNotIn_5 : decode cX0_heaviestNotIn 5 = .ok (.istore 4, 2) := by decide +kernel
theorem dX0_heaviestNotIn_7 : decode cX0_heaviestNotIn 7 = .ok (.iload 4, 2) := by decide +kernel
theorem dX0_heaviestNotIn_9 : decode cX0_heaviestNotIn 9 = .ok (.bipush 8, 2) := by decide +kernel
theorem dX0_heaviestNotIn_11 : decode cX0_heaviestNotIn 11 = .ok (.if_icmp .ge 49, 3) := by decide +kernel
theorem dX0_heaviestNotIn_14 : decode cX0_heaviestNotIn 14 = .ok (.iload 4, 2) := by decide +kernel
theorem dX0_heaviestNotIn_16 : decode cX0_heaviestNotIn 16 = .ok (.aload_n 0, 1) := by decide +kernel
theorem dX0_heaviestNotIn_17 : decode cX0_heaviestNotIn 17 = .ok (.getfield 47, 3) := by decide +kernel
theorem dX0_heaviestNotIn_20 : decode cX0_heaviestNotIn 20 = .ok (.if_icmp .ge 40, 3) := by decide +kernel
theorem dX0_heaviestNotIn_23 : decode cX0_heaviestNotIn 23 = .ok (.iload_n 1, 1) := by decide +kernel
theorem dX0_heaviestNotIn_24 : decode cX0_heaviestNotIn 24 = .ok (.iload 4, 2) := by decide +kernel
theorem dX0_heaviestNotIn_26 : decode cX0_heaviestNotIn 26 = .ok (.ishr, 1) := by decide +kernel
theorem dX0_heaviestNotIn_27 : decode cX0_heaviestNotIn 27 = .ok (.iconst 1, 1) := by decide +kernel
theorem dX0_heaviestNotIn_28 : decode cX0_heaviestNotIn 28 = .ok (.iand, 1) := by decide +kernel
theorem dX0_heaviestNotIn_29 : decode cX0_heaviestNotIn 29 = .ok (.ifCond .ne 25, 3) := by decide +kernel
theorem dX0_heaviestNotIn_32 : decode cX0_heaviestNotIn 32 = .ok (.aload_n 0, 1) := by decide +kernel
theorem dX0_heaviestNotIn_33 : decode cX0_heaviestNotIn 33 = .ok (.getfield 30, 3) := by decide +kernel
theorem dX0_heaviestNotIn_36 : decode cX0_heaviestNotIn 36 = .ok (.iload 4, 2) := by decide +kernel
theorem dX0_heaviestNotIn_38 : decode cX0_heaviestNotIn 38 = .ok (.iaload, 1) := by decide +kernel
theorem dX0_heaviestNotIn_39 : decode cX0_heaviestNotIn 39 = .ok (.iload_n 3, 1) := by decide +kernel
theorem dX0_heaviestNotIn_40 : decode cX0_heaviestNotIn 40 = .ok (.if_icmp .le 14, 3) := by decide +kernel
theorem dX0_heaviestNotIn_43 : decode cX0_heaviestNotIn 43 = .ok (.aload_n 0, 1) := by decide +kernel
theorem dX0_heaviestNotIn_44 : decode cX0_heaviestNotIn 44 = .ok (.getfield 30, 3) := by decide +kernel
theorem dX0_heaviestNotIn_47 : decode cX0_heaviestNotIn 47 = .ok (.iload 4, 2) := by decide +kernel
theorem dX0_heaviestNotIn_49 : decode cX0_heaviestNotIn 49 = .ok (.iaload, 1) := by decide +kernel
theorem dX0_heaviestNotIn_50 : decode cX0_heaviestNotIn 50 = .ok (.istore_n 3, 1) := by decide +kernel
theorem dX0_heaviestNotIn_51 : decode cX0_heaviestNotIn 51 = .ok (.iload 4, 2) := by decide +kernel
theorem dX0_heaviestNotIn_53 : decode cX0_heaviestNotIn 53 = .ok (.istore_n 2, 1) := by decide +kernel
theorem dX0_heaviestNotIn_54 : decode cX0_heaviestNotIn 54 = .ok (.iinc 4 1, 3) := by decide +kernel
theorem dX0_heaviestNotIn_57 : decode cX0_heaviestNotIn 57 = .ok (.goto (-50), 3) := by decide +kernel
theorem dX0_heaviestNotIn_60 : decode cX0_heaviestNotIn 60 = .ok (.iload_n 2, 1) := by decide +kernel
theorem dX0_heaviestNotIn_61 : decode cX0_heaviestNotIn 61 = .ok (.ireturn, 1) := by decide +kernel
theorem dX0_excludeDebtors_0 : decode cX0_excludeDebtors 0 = .ok (.iconst 0, 1) := by decide +kernel
theorem dX0_excludeDebtors_1 : decode cX0_excludeDebtors 1 = .ok (.istore_n 1, 1) := by decide +kernel
theorem dX0_excludeDebtors_2 : decode cX0_excludeDebtors 2 = .ok (.iload_n 1, 1) := by decide +kernel
theorem dX0_excludeDebtors_3 : decode cX0_excludeDebtors 3 = .ok (.bipush 8, 2) := by decide +kernel
theorem dX0_excludeDebtors_5 : decode cX0_excludeDebtors 5 = .ok (.if_icmp .ge 36, 3) := by decide +kernel
theorem dX0_excludeDebtors_8 : decode cX0_excludeDebtors 8 = .ok (.aload_n 0, 1) := by decide +kernel
theorem dX0_excludeDebtors_9 : decode cX0_excludeDebtors 9 = .ok (.getfield 21, 3) := by decide +kernel
theorem dX0_excludeDebtors_12 : decode cX0_excludeDebtors 12 = .ok (.iload_n 1, 1) := by decide +kernel
theorem dX0_excludeDebtors_13 : decode cX0_excludeDebtors 13 = .ok (.iaload, 1) := by decide +kernel
theorem dX0_excludeDebtors_14 : decode cX0_excludeDebtors 14 = .ok (.aload_n 0, 1) := by decide +kernel
theorem dX0_excludeDebtors_15 : decode cX0_excludeDebtors 15 = .ok (.getfield 9, 3) := by decide +kernel
theorem dX0_excludeDebtors_18 : decode cX0_excludeDebtors 18 = .ok (.iconst 3, 1) := by decide +kernel
theorem dX0_excludeDebtors_19 : decode cX0_excludeDebtors 19 = .ok (.iaload, 1) := by decide +kernel
theorem dX0_excludeDebtors_20 : decode cX0_excludeDebtors 20 = .ok (.if_icmp .le 15, 3) := by decide +kernel
theorem dX0_excludeDebtors_23 : decode cX0_excludeDebtors 23 = .ok (.aload_n 0, 1) := by decide +kernel
theorem dX0_excludeDebtors_24 : decode cX0_excludeDebtors 24 = .ok (.dup, 1) := by decide +kernel
theorem dX0_excludeDebtors_25 : decode cX0_excludeDebtors 25 = .ok (.getfield 56, 3) := by decide +kernel
theorem dX0_excludeDebtors_28 : decode cX0_excludeDebtors 28 = .ok (.iconst 1, 1) := by decide +kernel
theorem dX0_excludeDebtors_29 : decode cX0_excludeDebtors 29 = .ok (.iload_n 1, 1) := by decide +kernel
theorem dX0_excludeDebtors_30 : decode cX0_excludeDebtors 30 = .ok (.ishl, 1) := by decide +kernel
theorem dX0_excludeDebtors_31 : decode cX0_excludeDebtors 31 = .ok (.ior, 1) := by decide +kernel
theorem dX0_excludeDebtors_32 : decode cX0_excludeDebtors 32 = .ok (.putfield 56, 3) := by decide +kernel
theorem dX0_excludeDebtors_35 : decode cX0_excludeDebtors 35 = .ok (.iinc 1 1, 3) := by decide +kernel
theorem dX0_excludeDebtors_38 : decode cX0_excludeDebtors 38 = .ok (.goto (-36), 3) := by decide +kernel
theorem dX0_excludeDebtors_41 : decode cX0_excludeDebtors 41 = .ok (.return_, 1) := by decide +kernel
theorem dX0_liftedGain_0 : decode cX0_liftedGain 0 = .ok (.aload_n 0, 1) := by decide +kernel
theorem dX0_liftedGain_1 : decode cX0_liftedGain 1 = .ok (.iload_n 1, 1) := by decide +kernel
theorem dX0_liftedGain_2 : decode cX0_liftedGain 2 = .ok (.invokevirtual 86, 3) := by decide +kernel
theorem dX0_liftedGain_5 : decode cX0_liftedGain 5 = .ok (.ifCond .eq 10, 3) := by decide +kernel
theorem dX0_liftedGain_8 : decode cX0_liftedGain 8 = .ok (.iload_n 2, 1) := by decide +kernel
theorem dX0_liftedGain_9 : decode cX0_liftedGain 9 = .ok (.invokestatic 90, 3) := by decide +kernel
theorem dX0_liftedGain_12 : decode cX0_liftedGain 12 = .ok (.ifCond .ne 7, 3) := by decide +kernel
theorem dX0_liftedGain_15 : decode cX0_liftedGain 15 = .ok (.sipush (-10001), 3) := by decide +kernel
theorem dX0_liftedGain_18 : decode cX0_liftedGain 18 = .ok (.ireturn, 1) := by decide +kernel
theorem dX0_liftedGain_19 : decode cX0_liftedGain 19 = .ok (.aload_n 0, 1) := by decide +kernel
theorem dX0_liftedGain_20 : decode cX0_liftedGain 20 = .ok (.iload_n 1, 1) := by decide +kernel
theorem dX0_liftedGain_21 : decode cX0_liftedGain 21 = .ok (.invokevirtual 93, 3) := by decide +kernel
theorem dX0_liftedGain_24 : decode cX0_liftedGain 24 = .ok (.ifCond .eq 11, 3) := by decide +kernel
theorem dX0_liftedGain_27 : decode cX0_liftedGain 27 = .ok (.iload_n 2, 1) := by decide +kernel
theorem dX0_liftedGain_28 : decode cX0_liftedGain 28 = .ok (.ifCond .eq 7, 3) := by decide +kernel
theorem dX0_liftedGain_31 : decode cX0_liftedGain 31 = .ok (.sipush (-10002), 3) := by decide +kernel
theorem dX0_liftedGain_34 : decode cX0_liftedGain 34 = .ok (.ireturn, 1) := by decide +kernel
theorem dX0_liftedGain_35 : decode cX0_liftedGain 35 = .ok (.aload_n 0, 1) := by decide +kernel
theorem dX0_liftedGain_36 : decode cX0_liftedGain 36 = .ok (.aload_n 0, 1) := by decide +kernel
theorem dX0_liftedGain_37 : decode cX0_liftedGain 37 = .ok (.iload_n 1, 1) := by decide +kernel
theorem dX0_liftedGain_38 : decode cX0_liftedGain 38 = .ok (.invokevirtual 76, 3) := by decide +kernel
theorem dX0_liftedGain_41 : decode cX0_liftedGain 41 = .ok (.aload_n 0, 1) := by decide +kernel
theorem dX0_liftedGain_42 : decode cX0_liftedGain 42 = .ok (.getfield 15, 3) := by decide +kernel
theorem dX0_liftedGain_45 : decode cX0_liftedGain 45 = .ok (.iload_n 1, 1) := by decide +kernel
theorem dX0_liftedGain_46 : decode cX0_liftedGain 46 = .ok (.iaload, 1) := by decide +kernel
theorem dX0_liftedGain_47 : decode cX0_liftedGain 47 = .ok (.iload_n 2, 1) := by decide +kernel
theorem dX0_liftedGain_48 : decode cX0_liftedGain 48 = .ok (.invokevirtual 152, 3) := by decide +kernel
theorem dX0_liftedGain_51 : decode cX0_liftedGain 51 = .ok (.sipush 10000, 3) := by decide +kernel
theorem dX0_liftedGain_54 : decode cX0_liftedGain 54 = .ok (.iadd, 1) := by decide +kernel
theorem dX0_liftedGain_55 : decode cX0_liftedGain 55 = .ok (.ireturn, 1) := by decide +kernel
theorem dX0_gainBehind_0 : decode cX0_gainBehind 0 = .ok (.iload_n 2, 1) := by decide +kernel
theorem dX0_gainBehind_1 : decode cX0_gainBehind 1 = .ok (.iload_n 3, 1) := by decide +kernel
theorem dX0_gainBehind_2 : decode cX0_gainBehind 2 = .ok (.imul, 1) := by decide +kernel
theorem dX0_gainBehind_3 : decode cX0_gainBehind 3 = .ok (.aload_n 0, 1) := by decide +kernel
theorem dX0_gainBehind_4 : decode cX0_gainBehind 4 = .ok (.iload_n 1, 1) := by decide +kernel
theorem dX0_gainBehind_5 : decode cX0_gainBehind 5 = .ok (.iload_n 3, 1) := by decide +kernel
theorem dX0_gainBehind_6 : decode cX0_gainBehind 6 = .ok (.invokevirtual 79, 3) := by decide +kernel
theorem dX0_gainBehind_9 : decode cX0_gainBehind 9 = .ok (.isub, 1) := by decide +kernel
theorem dX0_gainBehind_10 : decode cX0_gainBehind 10 = .ok (.ireturn, 1) := by decide +kernel
theorem dX0_bestUnits_0 : decode cX0_bestUnits 0 = .ok (.aload_n 0, 1) := by decide +kernel
theorem dX0_bestUnits_1 : decode cX0_bestUnits 1 = .ok (.iload_n 1, 1) := by decide +kernel
theorem dX0_bestUnits_2 : decode cX0_bestUnits 2 = .ok (.invokevirtual 86, 3) := by decide +kernel
theorem dX0_bestUnits_5 : decode cX0_bestUnits 5 = .ok (.ifCond .eq 11, 3) := by decide +kernel
theorem dX0_bestUnits_8 : decode cX0_bestUnits 8 = .ok (.aload_n 0, 1) := by decide +kernel
theorem dX0_bestUnits_9 : decode cX0_bestUnits 9 = .ok (.iload_n 1, 1) := by decide +kernel
theorem dX0_bestUnits_10 : decode cX0_bestUnits 10 = .ok (.invokevirtual 93, 3) := by decide +kernel
theorem dX0_bestUnits_13 : decode cX0_bestUnits 13 = .ok (.ifCond .eq 5, 3) := by decide +kernel
theorem dX0_bestUnits_16 : decode cX0_bestUnits 16 = .ok (.iconst 0, 1) := by decide +kernel
theorem dX0_bestUnits_17 : decode cX0_bestUnits 17 = .ok (.ireturn, 1) := by decide +kernel
theorem dX0_bestUnits_18 : decode cX0_bestUnits 18 = .ok (.aload_n 0, 1) := by decide +kernel
theorem dX0_bestUnits_19 : decode cX0_bestUnits 19 = .ok (.iload_n 1, 1) := by decide +kernel
theorem dX0_bestUnits_20 : decode cX0_bestUnits 20 = .ok (.invokevirtual 76, 3) := by decide +kernel
theorem dX0_bestUnits_23 : decode cX0_bestUnits 23 = .ok (.istore_n 2, 1) := by decide +kernel
theorem dX0_bestUnits_24 : decode cX0_bestUnits 24 = .ok (.iconst 0, 1) := by decide +kernel
theorem dX0_bestUnits_25 : decode cX0_bestUnits 25 = .ok (.istore_n 3, 1) := by decide +kernel
theorem dX0_bestUnits_26 : decode cX0_bestUnits 26 = .ok (.iconst 0, 1) := by decide +kernel
theorem dX0_bestUnits_27 : decode cX0_bestUnits 27 = .ok (.istore 4, 2) := by decide +kernel
theorem dX0_bestUnits_29 : decode cX0_bestUnits 29 = .ok (.iconst 1, 1) := by decide +kernel
theorem dX0_bestUnits_30 : decode cX0_bestUnits 30 = .ok (.istore 5, 2) := by decide +kernel
theorem dX0_bestUnits_32 : decode cX0_bestUnits 32 = .ok (.iload 5, 2) := by decide +kernel
theorem dX0_bestUnits_34 : decode cX0_bestUnits 34 = .ok (.bipush 20, 2) := by decide +kernel
theorem dX0_bestUnits_36 : decode cX0_bestUnits 36 = .ok (.if_icmp .gt 38, 3) := by decide +kernel
theorem dX0_bestUnits_39 : decode cX0_bestUnits 39 = .ok (.aload_n 0, 1) := by decide +kernel
theorem dX0_bestUnits_40 : decode cX0_bestUnits 40 = .ok (.iload_n 2, 1) := by decide +kernel
theorem dX0_bestUnits_41 : decode cX0_bestUnits 41 = .ok (.aload_n 0, 1) := by decide +kernel
theorem dX0_bestUnits_42 : decode cX0_bestUnits 42 = .ok (.getfield 15, 3) := by decide +kernel
theorem dX0_bestUnits_45 : decode cX0_bestUnits 45 = .ok (.iload_n 1, 1) := by decide +kernel
theorem dX0_bestUnits_46 : decode cX0_bestUnits 46 = .ok (.iaload, 1) := by decide +kernel
theorem dX0_bestUnits_47 : decode cX0_bestUnits 47 = .ok (.iload 5, 2) := by decide +kernel
theorem dX0_bestUnits_49 : decode cX0_bestUnits 49 = .ok (.invokevirtual 152, 3) := by decide +kernel
theorem dX0_bestUnits_52 : decode cX0_bestUnits 52 = .ok (.istore 6, 2) := by decide +kernel
theorem dX0_bestUnits_54 : decode cX0_bestUnits 54 = .ok (.iload 6, 2) := by decide +kernel
theorem dX0_bestUnits_56 : decode cX0_bestUnits 56 = .ok (.iload 4, 2) := by decide +kernel
theorem dX0_bestUnits_58 : decode cX0_bestUnits 58 = .ok (.if_icmp .le 10, 3) := by decide +kernel
theorem dX0_bestUnits_61 : decode cX0_bestUnits 61 = .ok (.iload 6, 2) := by decide +kernel
theorem dX0_bestUnits_63 : decode cX0_bestUnits 63 = .ok (.istore 4, 2) := by decide +kernel
theorem dX0_bestUnits_65 : decode cX0_bestUnits 65 = .ok (.iload 5, 2) := by decide +kernel
theorem dX0_bestUnits_67 : decode cX0_bestUnits 67 = .ok (.istore_n 3, 1) := by decide +kernel
theorem dX0_bestUnits_68 : decode cX0_bestUnits 68 = .ok (.iinc 5 1, 3) := by decide +kernel
theorem dX0_bestUnits_71 : decode cX0_bestUnits 71 = .ok (.goto (-39), 3) := by decide +kernel
theorem dX0_bestUnits_74 : decode cX0_bestUnits 74 = .ok (.iload_n 3, 1) := by decide +kernel
theorem dX0_bestUnits_75 : decode cX0_bestUnits 75 = .ok (.ireturn, 1) := by decide +kernel
theorem dX0_calmDown_0 : decode cX0_calmDown 0 = .ok (.iconst 1, 1) := by decide +kernel
theorem dX0_calmDown_1 : decode cX0_calmDown 1 = .ok (.istore_n 1, 1) := by decide +kernel
theorem dX0_calmDown_2 : decode cX0_calmDown 2 = .ok (.iload_n 1, 1) := by decide +kernel
theorem dX0_calmDown_3 : decode cX0_calmDown 3 = .ok (.bipush 40, 2) := by decide +kernel
theorem dX0_calmDown_5 : decode cX0_calmDown 5 = .ok (.if_icmp .gt 18, 3) := by decide +kernel
theorem dX0_calmDown_8 : decode cX0_calmDown 8 = .ok (.aload_n 0, 1) := by decide +kernel
theorem dX0_calmDown_9 : decode cX0_calmDown 9 = .ok (.invokevirtual 156, 3) := by decide +kernel
theorem dX0_calmDown_12 : decode cX0_calmDown 12 = .ok (.ifCond .ne 5, 3) := by decide +kernel
theorem dX0_calmDown_15 : decode cX0_calmDown 15 = .ok (.iload_n 1, 1) := by decide +kernel
theorem dX0_calmDown_16 : decode cX0_calmDown 16 = .ok (.ireturn, 1) := by decide +kernel
theorem dX0_calmDown_17 : decode cX0_calmDown 17 = .ok (.iinc 1 1, 3) := by decide +kernel
theorem dX0_calmDown_20 : decode cX0_calmDown 20 = .ok (.goto (-18), 3) := by decide +kernel
theorem dX0_calmDown_23 : decode cX0_calmDown 23 = .ok (.sipush (-10004), 3) := by decide +kernel
theorem dX0_calmDown_26 : decode cX0_calmDown 26 = .ok (.ireturn, 1) := by decide +kernel
theorem dX0_roundChanges_0 : decode cX0_roundChanges 0 = .ok (.iconst 0, 1) := by decide +kernel
theorem dX0_roundChanges_1 : decode cX0_roundChanges 1 = .ok (.istore_n 1, 1) := by decide +kernel
theorem dX0_roundChanges_2 : decode cX0_roundChanges 2 = .ok (.iconst 0, 1) := by decide +kernel
theorem dX0_roundChanges_3 : decode cX0_roundChanges 3 = .ok (.istore_n 2, 1) := by decide +kernel
theorem dX0_roundChanges_4 : decode cX0_roundChanges 4 = .ok (.iload_n 2, 1) := by decide +kernel
theorem dX0_roundChanges_5 : decode cX0_roundChanges 5 = .ok (.bipush 8, 2) := by decide +kernel
theorem dX0_roundChanges_7 : decode cX0_roundChanges 7 = .ok (.if_icmp .ge 42, 3) := by decide +kernel
theorem dX0_roundChanges_10 : decode cX0_roundChanges 10 = .ok (.aload_n 0, 1) := by decide +kernel
theorem dX0_roundChanges_11 : decode cX0_roundChanges 11 = .ok (.iload_n 2, 1) := by decide +kernel
theorem dX0_roundChanges_12 : decode cX0_roundChanges 12 = .ok (.invokevirtual 160, 3) := by decide +kernel
theorem dX0_roundChanges_15 : decode cX0_roundChanges 15 = .ok (.istore_n 3, 1) := by decide +kernel
theorem dX0_roundChanges_16 : decode cX0_roundChanges 16 = .ok (.iload_n 1, 1) := by decide +kernel
theorem dX0_roundChanges_17 : decode cX0_roundChanges 17 = .ok (.ifCond .ne 13, 3) := by decide +kernel
theorem dX0_roundChanges_20 : decode cX0_roundChanges 20 = .ok (.iload_n 3, 1) := by decide +kernel
theorem dX0_roundChanges_21 : decode cX0_roundChanges 21 = .ok (.aload_n 0, 1) := by decide +kernel
theorem dX0_roundChanges_22 : decode cX0_roundChanges 22 = .ok (.getfield 18, 3) := by decide +kernel
theorem dX0_roundChanges_25 : decode cX0_roundChanges 25 = .ok (.iload_n 2, 1) := by decide +kernel
theorem dX0_roundChanges_26 : decode cX0_roundChanges 26 = .ok (.iaload, 1) := by decide +kernel
theorem dX0_roundChanges_27 : decode cX0_roundChanges 27 = .ok (.if_icmp .eq 7, 3) := by decide +kernel
theorem dX0_roundChanges_30 : decode cX0_roundChanges 30 = .ok (.iconst 1, 1) := by decide +kernel
theorem dX0_roundChanges_31 : decode cX0_roundChanges 31 = .ok (.goto 4, 3) := by decide +kernel
theorem dX0_roundChanges_34 : decode cX0_roundChanges 34 = .ok (.iconst 0, 1) := by decide +kernel
theorem dX0_roundChanges_35 : decode cX0_roundChanges 35 = .ok (.istore_n 1, 1) := by decide +kernel
theorem dX0_roundChanges_36 : decode cX0_roundChanges 36 = .ok (.aload_n 0, 1) := by decide +kernel
theorem dX0_roundChanges_37 : decode cX0_roundChanges 37 = .ok (.getfield 18, 3) := by decide +kernel
theorem dX0_roundChanges_40 : decode cX0_roundChanges 40 = .ok (.iload_n 2, 1) := by decide +kernel
theorem dX0_roundChanges_41 : decode cX0_roundChanges 41 = .ok (.iload_n 3, 1) := by decide +kernel
theorem dX0_roundChanges_42 : decode cX0_roundChanges 42 = .ok (.iastore, 1) := by decide +kernel
theorem dX0_roundChanges_43 : decode cX0_roundChanges 43 = .ok (.iinc 2 1, 3) := by decide +kernel
theorem dX0_roundChanges_46 : decode cX0_roundChanges 46 = .ok (.goto (-42), 3) := by decide +kernel
theorem dX0_roundChanges_49 : decode cX0_roundChanges 49 = .ok (.iload_n 1, 1) := by decide +kernel
theorem dX0_roundChanges_50 : decode cX0_roundChanges 50 = .ok (.ireturn, 1) := by decide +kernel
theorem dX0_useBestForAll_0 : decode cX0_useBestForAll 0 = .ok (.iconst 0, 1) := by decide +kernel
theorem dX0_useBestForAll_1 : decode cX0_useBestForAll 1 = .ok (.istore_n 1, 1) := by decide +kernel
theorem dX0_useBestForAll_2 : decode cX0_useBestForAll 2 = .ok (.iload_n 1, 1) := by decide +kernel
theorem dX0_useBestForAll_3 : decode cX0_useBestForAll 3 = .ok (.bipush 8, 2) := by decide +kernel
theorem dX0_useBestForAll_5 : decode cX0_useBestForAll 5 = .ok (.if_icmp .ge 16, 3) := by decide +kernel
theorem dX0_useBestForAll_8 : decode cX0_useBestForAll 8 = .ok (.aload_n 0, 1) := by decide +kernel
theorem dX0_useBestForAll_9 : decode cX0_useBestForAll 9 = .ok (.getfield 18, 3) := by decide +kernel
theorem dX0_useBestForAll_12 : decode cX0_useBestForAll 12 = .ok (.iload_n 1, 1) := by decide +kernel
theorem dX0_useBestForAll_13 : decode cX0_useBestForAll 13 = .ok (.iconst 0, 1) := by decide +kernel
theorem dX0_useBestForAll_14 : decode cX0_useBestForAll 14 = .ok (.iastore, 1) := by decide +kernel
theorem dX0_useBestForAll_15 : decode cX0_useBestForAll 15 = .ok (.iinc 1 1, 3) := by decide +kernel
theorem dX0_useBestForAll_18 : decode cX0_useBestForAll 18 = .ok (.goto (-16), 3) := by decide +kernel
theorem dX0_useBestForAll_21 : decode cX0_useBestForAll 21 = .ok (.iconst 0, 1) := by decide +kernel
theorem dX0_useBestForAll_22 : decode cX0_useBestForAll 22 = .ok (.istore_n 1, 1) := by decide +kernel
theorem dX0_useBestForAll_23 : decode cX0_useBestForAll 23 = .ok (.iconst 0, 1) := by decide +kernel
theorem dX0_useBestForAll_24 : decode cX0_useBestForAll 24 = .ok (.istore_n 2, 1) := by decide +kernel
theorem dX0_useBestForAll_25 : decode cX0_useBestForAll 25 = .ok (.iload_n 2, 1) := by decide +kernel
theorem dX0_useBestForAll_26 : decode cX0_useBestForAll 26 = .ok (.sipush 160, 3) := by decide +kernel
theorem dX0_useBestForAll_29 : decode cX0_useBestForAll 29 = .ok (.if_icmp .ge 64, 3) := by decide +kernel
theorem dX0_useBestForAll_32 : decode cX0_useBestForAll 32 = .ok (.aload_n 0, 1) := by decide +kernel
theorem dX0_useBestForAll_33 : decode cX0_useBestForAll 33 = .ok (.invokevirtual 163, 3) := by decide +kernel
theorem dX0_useBestForAll_36 : decode cX0_useBestForAll 36 = .ok (.istore_n 3, 1) := by decide +kernel
theorem dX0_useBestForAll_37 : decode cX0_useBestForAll 37 = .ok (.aload_n 0, 1) := by decide +kernel
theorem dX0_useBestForAll_38 : decode cX0_useBestForAll 38 = .ok (.iload_n 3, 1) := by decide +kernel
theorem dX0_useBestForAll_39 : decode cX0_useBestForAll 39 = .ok (.invokevirtual 86, 3) := by decide +kernel
theorem dX0_useBestForAll_42 : decode cX0_useBestForAll 42 = .ok (.ifCond .eq 18, 3) := by decide +kernel
theorem dX0_useBestForAll_45 : decode cX0_useBestForAll 45 = .ok (.aload_n 0, 1) := by decide +kernel
theorem dX0_useBestForAll_46 : decode cX0_useBestForAll 46 = .ok (.getfield 15, 3) := by decide +kernel
theorem dX0_useBestForAll_49 : decode cX0_useBestForAll 49 = .ok (.iload_n 3, 1) := by decide +kernel
theorem dX0_useBestForAll_50 : decode cX0_useBestForAll 50 = .ok (.iaload, 1) := by decide +kernel
theorem dX0_useBestForAll_51 : decode cX0_useBestForAll 51 = .ok (.aload_n 0, 1) := by decide +kernel
theorem dX0_useBestForAll_52 : decode cX0_useBestForAll 52 = .ok (.iload_n 2, 1) := by decide +kernel
theorem dX0_useBestForAll_53 : decode cX0_useBestForAll 53 = .ok (.iconst 1, 1) := by decide +kernel
theorem dX0_useBestForAll_54 : decode cX0_useBestForAll 54 = .ok (.invokevirtual 79, 3) := by decide +kernel
theorem dX0_useBestForAll_57 : decode cX0_useBestForAll 57 = .ok (.if_icmp .gt 11, 3) := by decide +kernel
theorem dX0_useBestForAll_60 : decode cX0_useBestForAll 60 = .ok (.iload_n 1, 1) := by decide +kernel
theorem dX0_useBestForAll_61 : decode cX0_useBestForAll 61 = .ok (.aload_n 0, 1) := by decide +kernel
theorem dX0_useBestForAll_62 : decode cX0_useBestForAll 62 = .ok (.iload_n 2, 1) := by decide +kernel
theorem dX0_useBestForAll_63 : decode cX0_useBestForAll 63 = .ok (.invokevirtual 83, 3) := by decide +kernel
theorem dX0_useBestForAll_66 : decode cX0_useBestForAll 66 = .ok (.isub, 1) := by decide +kernel
theorem dX0_useBestForAll_67 : decode cX0_useBestForAll 67 = .ok (.ireturn, 1) := by decide +kernel
theorem dX0_useBestForAll_68 : decode cX0_useBestForAll 68 = .ok (.aload_n 0, 1) := by decide +kernel
theorem dX0_useBestForAll_69 : decode cX0_useBestForAll 69 = .ok (.getfield 18, 3) := by decide +kernel
theorem dX0_useBestForAll_72 : decode cX0_useBestForAll 72 = .ok (.iload_n 3, 1) := by decide +kernel
theorem dX0_useBestForAll_73 : decode cX0_useBestForAll 73 = .ok (.dup2, 1) := by decide +kernel
theorem dX0_useBestForAll_74 : decode cX0_useBestForAll 74 = .ok (.iaload, 1) := by decide +kernel
theorem dX0_useBestForAll_75 : decode cX0_useBestForAll 75 = .ok (.iconst 1, 1) := by decide +kernel
theorem dX0_useBestForAll_76 : decode cX0_useBestForAll 76 = .ok (.iadd, 1) := by decide +kernel
theorem dX0_useBestForAll_77 : decode cX0_useBestForAll 77 = .ok (.iastore, 1) := by decide +kernel
theorem dX0_useBestForAll_78 : decode cX0_useBestForAll 78 = .ok (.iload_n 1, 1) := by decide +kernel
theorem dX0_useBestForAll_79 : decode cX0_useBestForAll 79 = .ok (.aload_n 0, 1) := by decide +kernel
theorem dX0_useBestForAll_80 : decode cX0_useBestForAll 80 = .ok (.getfield 15, 3) := by decide +kernel
theorem dX0_useBestForAll_83 : decode cX0_useBestForAll 83 = .ok (.iload_n 3, 1) := by decide +kernel
theorem dX0_useBestForAll_84 : decode cX0_useBestForAll 84 = .ok (.iaload, 1) := by decide +kernel
theorem dX0_useBestForAll_85 : decode cX0_useBestForAll 85 = .ok (.iadd, 1) := by decide +kernel
theorem dX0_useBestForAll_86 : decode cX0_useBestForAll 86 = .ok (.istore_n 1, 1) := by decide +kernel
theorem dX0_useBestForAll_87 : decode cX0_useBestForAll 87 = .ok (.iinc 2 1, 3) := by decide +kernel
theorem dX0_useBestForAll_90 : decode cX0_useBestForAll 90 = .ok (.goto (-65), 3) := by decide +kernel
theorem dX0_useBestForAll_93 : decode cX0_useBestForAll 93 = .ok (.iload_n 1, 1) := by decide +kernel
theorem dX0_useBestForAll_94 : decode cX0_useBestForAll 94 = .ok (.aload_n 0, 1) := by decide +kernel
theorem dX0_useBestForAll_95 : decode cX0_useBestForAll 95 = .ok (.sipush 160, 3) := by decide +kernel
theorem dX0_useBestForAll_98 : decode cX0_useBestForAll 98 = .ok (.invokevirtual 83, 3) := by decide +kernel
theorem dX0_useBestForAll_101 : decode cX0_useBestForAll 101 = .ok (.isub, 1) := by decide +kernel
theorem dX0_useBestForAll_102 : decode cX0_useBestForAll 102 = .ok (.ireturn, 1) := by decide +kernel
theorem dX0_worthiestWithRoom_0 : decode cX0_worthiestWithRoom 0 = .ok (.iconst (-1), 1) := by decide +kernel
theorem dX0_worthiestWithRoom_1 : decode cX0_worthiestWithRoom 1 = .ok (.istore_n 1, 1) := by decide +kernel
theorem dX0_worthiestWithRoom_2 : decode cX0_worthiestWithRoom 2 = .ok (.iconst (-1), 1) := by decide +kernel
theorem dX0_worthiestWithRoom_3 : decode cX0_worthiestWithRoom 3 = .ok (.istore_n 2, 1) := by decide +kernel
theorem dX0_worthiestWithRoom_4 : decode cX0_worthiestWithRoom 4 = .ok (.iconst 0, 1) := by decide +kernel
theorem dX0_worthiestWithRoom_5 : decode cX0_worthiestWithRoom 5 = .ok (.istore_n 3, 1) := by decide +kernel
theorem dX0_worthiestWithRoom_6 : decode cX0_worthiestWithRoom 6 = .ok (.iload_n 3, 1) := by decide +kernel
theorem dX0_worthiestWithRoom_7 : decode cX0_worthiestWithRoom 7 = .ok (.bipush 8, 2) := by decide +kernel
theorem dX0_worthiestWithRoom_9 : decode cX0_worthiestWithRoom 9 = .ok (.if_icmp .ge 55, 3) := by decide +kernel
theorem dX0_worthiestWithRoom_12 : decode cX0_worthiestWithRoom 12 = .ok (.iload_n 3, 1) := by decide +kernel
theorem dX0_worthiestWithRoom_13 : decode cX0_worthiestWithRoom 13 = .ok (.aload_n 0, 1) := by decide +kernel
theorem dX0_worthiestWithRoom_14 : decode cX0_worthiestWithRoom 14 = .ok (.getfield 47, 3) := by decide +kernel
theorem dX0_worthiestWithRoom_17 : decode cX0_worthiestWithRoom 17 = .ok (.if_icmp .ge 47, 3) := by decide +kernel
theorem dX0_worthiestWithRoom_20 : decode cX0_worthiestWithRoom 20 = .ok (.aload_n 0, 1) := by decide +kernel
theorem dX0_worthiestWithRoom_21 : decode cX0_worthiestWithRoom 21 = .ok (.getfield 18, 3) := by decide +kernel
theorem dX0_worthiestWithRoom_24 : decode cX0_worthiestWithRoom 24 = .ok (.iload_n 3, 1) := by decide +kernel
theorem dX0_worthiestWithRoom_25 : decode cX0_worthiestWithRoom 25 = .ok (.iaload, 1) := by decide +kernel
theorem dX0_worthiestWithRoom_26 : decode cX0_worthiestWithRoom 26 = .ok (.bipush 20, 2) := by decide +kernel
theorem dX0_worthiestWithRoom_28 : decode cX0_worthiestWithRoom 28 = .ok (.if_icmp .ge 30, 3) := by decide +kernel
theorem dX0_worthiestWithRoom_31 : decode cX0_worthiestWithRoom 31 = .ok (.aload_n 0, 1) := by decide +kernel
theorem dX0_worthiestWithRoom_32 : decode cX0_worthiestWithRoom 32 = .ok (.iload_n 3, 1) := by decide +kernel
theorem dX0_worthiestWithRoom_33 : decode cX0_worthiestWithRoom 33 = .ok (.invokevirtual 93, 3) := by decide +kernel
theorem dX0_worthiestWithRoom_36 : decode cX0_worthiestWithRoom 36 = .ok (.ifCond .ne 22, 3) := by decide +kernel
theorem dX0_worthiestWithRoom_39 : decode cX0_worthiestWithRoom 39 = .ok (.aload_n 0, 1) := by decide +kernel
theorem dX0_worthiestWithRoom_40 : decode cX0_worthiestWithRoom 40 = .ok (.getfield 15, 3) := by decide +kernel
theorem dX0_worthiestWithRoom_43 : decode cX0_worthiestWithRoom 43 = .ok (.iload_n 3, 1) := by decide +kernel
theorem dX0_worthiestWithRoom_44 : decode cX0_worthiestWithRoom 44 = .ok (.iaload, 1) := by decide +kernel
theorem dX0_worthiestWithRoom_45 : decode cX0_worthiestWithRoom 45 = .ok (.iload_n 2, 1) := by decide +kernel
theorem dX0_worthiestWithRoom_46 : decode cX0_worthiestWithRoom 46 = .ok (.if_icmp .le 12, 3) := by decide +kernel
theorem dX0_worthiestWithRoom_49 : decode cX0_worthiestWithRoom 49 = .ok (.aload_n 0, 1) := by decide +kernel
theorem dX0_worthiestWithRoom_50 : decode cX0_worthiestWithRoom 50 = .ok (.getfield 15, 3) := by decide +kernel
theorem dX0_worthiestWithRoom_53 : decode cX0_worthiestWithRoom 53 = .ok (.iload_n 3, 1) := by decide +kernel
theorem dX0_worthiestWithRoom_54 : decode cX0_worthiestWithRoom 54 = .ok (.iaload, 1) := by decide +kernel
theorem dX0_worthiestWithRoom_55 : decode cX0_worthiestWithRoom 55 = .ok (.istore_n 2, 1) := by decide +kernel
theorem dX0_worthiestWithRoom_56 : decode cX0_worthiestWithRoom 56 = .ok (.iload_n 3, 1) := by decide +kernel
theorem dX0_worthiestWithRoom_57 : decode cX0_worthiestWithRoom 57 = .ok (.istore_n 1, 1) := by decide +kernel
theorem dX0_worthiestWithRoom_58 : decode cX0_worthiestWithRoom 58 = .ok (.iinc 3 1, 3) := by decide +kernel
theorem dX0_worthiestWithRoom_61 : decode cX0_worthiestWithRoom 61 = .ok (.goto (-55), 3) := by decide +kernel
theorem dX0_worthiestWithRoom_64 : decode cX0_worthiestWithRoom 64 = .ok (.iload_n 1, 1) := by decide +kernel
theorem dX0_worthiestWithRoom_65 : decode cX0_worthiestWithRoom 65 = .ok (.ireturn, 1) := by decide +kernel
theorem dX0_numberOfMember_0 : decode cX0_numberOfMember 0 = .ok (.aload_n 0, 1) := by decide +kernel
theorem dX0_numberOfMember_1 : decode cX0_numberOfMember 1 = .ok (.iload_n 1, 1) := by decide +kernel
theorem dX0_numberOfMember_2 : decode cX0_numberOfMember 2 = .ok (.invokevirtual 86, 3) := by decide +kernel
theorem dX0_numberOfMember_5 : decode cX0_numberOfMember 5 = .ok (.ifCond .ne 7, 3) := by decide +kernel
theorem dX0_numberOfMember_8 : decode cX0_numberOfMember 8 = .ok (.sipush (-10001), 3) := by decide +kernel
theorem dX0_numberOfMember_11 : decode cX0_numberOfMember 11 = .ok (.ireturn, 1) := by decide +kernel
theorem dX0_numberOfMember_12 : decode cX0_numberOfMember 12 = .ok (.iload_n 2, 1) := by decide +kernel
theorem dX0_numberOfMember_13 : decode cX0_numberOfMember 13 = .ok (.tableswitch 130 0 9 #[55, 62, 69, 75, 82, 89, 96, 103, 117, 124], 55) := by decide +kernel
theorem dX0_numberOfMember_68 : decode cX0_numberOfMember 68 = .ok (.aload_n 0, 1) := by decide +kernel
theorem dX0_numberOfMember_69 : decode cX0_numberOfMember 69 = .ok (.getfield 15, 3) := by decide +kernel
theorem dX0_numberOfMember_72 : decode cX0_numberOfMember 72 = .ok (.iload_n 1, 1) := by decide +kernel
theorem dX0_numberOfMember_73 : decode cX0_numberOfMember 73 = .ok (.iaload, 1) := by decide +kernel
theorem dX0_numberOfMember_74 : decode cX0_numberOfMember 74 = .ok (.ireturn, 1) := by decide +kernel
theorem dX0_numberOfMember_75 : decode cX0_numberOfMember 75 = .ok (.aload_n 0, 1) := by decide +kernel
theorem dX0_numberOfMember_76 : decode cX0_numberOfMember 76 = .ok (.getfield 18, 3) := by decide +kernel
theorem dX0_numberOfMember_79 : decode cX0_numberOfMember 79 = .ok (.iload_n 1, 1) := by decide +kernel
theorem dX0_numberOfMember_80 : decode cX0_numberOfMember 80 = .ok (.iaload, 1) := by decide +kernel
theorem dX0_numberOfMember_81 : decode cX0_numberOfMember 81 = .ok (.ireturn, 1) := by decide +kernel
theorem dX0_numberOfMember_82 : decode cX0_numberOfMember 82 = .ok (.aload_n 0, 1) := by decide +kernel
theorem dX0_numberOfMember_83 : decode cX0_numberOfMember 83 = .ok (.iload_n 1, 1) := by decide +kernel
theorem dX0_numberOfMember_84 : decode cX0_numberOfMember 84 = .ok (.invokevirtual 96, 3) := by decide +kernel
theorem dX0_numberOfMember_87 : decode cX0_numberOfMember 87 = .ok (.ireturn, 1) := by decide +kernel
theorem dX0_numberOfMember_88 : decode cX0_numberOfMember 88 = .ok (.aload_n 0, 1) := by decide +kernel
theorem dX0_numberOfMember_89 : decode cX0_numberOfMember 89 = .ok (.getfield 21, 3) := by decide +kernel
theorem dX0_numberOfMember_92 : decode cX0_numberOfMember 92 = .ok (.iload_n 1, 1) := by decide +kernel
theorem dX0_numberOfMember_93 : decode cX0_numberOfMember 93 = .ok (.iaload, 1) := by decide +kernel
theorem dX0_numberOfMember_94 : decode cX0_numberOfMember 94 = .ok (.ireturn, 1) := by decide +kernel
theorem dX0_numberOfMember_95 : decode cX0_numberOfMember 95 = .ok (.aload_n 0, 1) := by decide +kernel
theorem dX0_numberOfMember_96 : decode cX0_numberOfMember 96 = .ok (.getfield 24, 3) := by decide +kernel
theorem dX0_numberOfMember_99 : decode cX0_numberOfMember 99 = .ok (.iload_n 1, 1) := by decide +kernel
theorem dX0_numberOfMember_100 : decode cX0_numberOfMember 100 = .ok (.iaload, 1) := by decide +kernel
theorem dX0_numberOfMember_101 : decode cX0_numberOfMember 101 = .ok (.ireturn, 1) := by decide +kernel
theorem dX0_numberOfMember_102 : decode cX0_numberOfMember 102 = .ok (.aload_n 0, 1) := by decide +kernel
theorem dX0_numberOfMember_103 : decode cX0_numberOfMember 103 = .ok (.getfield 27, 3) := by decide +kernel
theorem dX0_numberOfMember_106 : decode cX0_numberOfMember 106 = .ok (.iload_n 1, 1) := by decide +kernel
theorem dX0_numberOfMember_107 : decode cX0_numberOfMember 107 = .ok (.iaload, 1) := by decide +kernel
theorem dX0_numberOfMember_108 : decode cX0_numberOfMember 108 = .ok (.ireturn, 1) := by decide +kernel
theorem dX0_numberOfMember_109 : decode cX0_numberOfMember 109 = .ok (.aload_n 0, 1) := by decide +kernel
theorem dX0_numberOfMember_110 : decode cX0_numberOfMember 110 = .ok (.getfield 30, 3) := by decide +kernel
theorem dX0_numberOfMember_113 : decode cX0_numberOfMember 113 = .ok (.iload_n 1, 1) := by decide +kernel
theorem dX0_numberOfMember_114 : decode cX0_numberOfMember 114 = .ok (.iaload, 1) := by decide +kernel
theorem dX0_numberOfMember_115 : decode cX0_numberOfMember 115 = .ok (.ireturn, 1) := by decide +kernel
theorem dX0_numberOfMember_116 : decode cX0_numberOfMember 116 = .ok (.aload_n 0, 1) := by decide +kernel
theorem dX0_numberOfMember_117 : decode cX0_numberOfMember 117 = .ok (.iload_n 1, 1) := by decide +kernel
theorem dX0_numberOfMember_118 : decode cX0_numberOfMember 118 = .ok (.invokevirtual 93, 3) := by decide +kernel
theorem dX0_numberOfMember_121 : decode cX0_numberOfMember 121 = .ok (.ifCond .eq 7, 3) := by decide +kernel
theorem dX0_numberOfMember_124 : decode cX0_numberOfMember 124 = .ok (.iconst 1, 1) := by decide +kernel
theorem dX0_numberOfMember_125 : decode cX0_numberOfMember 125 = .ok (.goto 4, 3) := by decide +kernel
theorem dX0_numberOfMember_128 : decode cX0_numberOfMember 128 = .ok (.iconst 0, 1) := by decide +kernel
theorem dX0_numberOfMember_129 : decode cX0_numberOfMember 129 = .ok (.ireturn, 1) := by decide +kernel
theorem dX0_numberOfMember_130 : decode cX0_numberOfMember 130 = .ok (.aload_n 0, 1) := by decide +kernel
theorem dX0_numberOfMember_131 : decode cX0_numberOfMember 131 = .ok (.getfield 33, 3) := by decide +kernel
theorem dX0_numberOfMember_134 : decode cX0_numberOfMember 134 = .ok (.iload_n 1, 1) := by decide +kernel
theorem dX0_numberOfMember_135 : decode cX0_numberOfMember 135 = .ok (.iaload, 1) := by decide +kernel
theorem dX0_numberOfMember_136 : decode cX0_numberOfMember 136 = .ok (.ireturn, 1) := by decide +kernel
theorem dX0_numberOfMember_137 : decode cX0_numberOfMember 137 = .ok (.aload_n 0, 1) := by decide +kernel
theorem dX0_numberOfMember_138 : decode cX0_numberOfMember 138 = .ok (.iload_n 1, 1) := by decide +kernel
theorem dX0_numberOfMember_139 : decode cX0_numberOfMember 139 = .ok (.invokevirtual 72, 3) := by decide +kernel
theorem dX0_numberOfMember_142 : decode cX0_numberOfMember 142 = .ok (.ireturn, 1) := by decide +kernel
theorem dX0_numberOfMember_143 : decode cX0_numberOfMember 143 = .ok (.sipush (-10001), 3) := by decide +kernel
theorem dX0_numberOfMember_146 : decode cX0_numberOfMember 146 = .ok (.ireturn, 1) := by decide +kernel
theorem dX0_numberOfAll_0 : decode cX0_numberOfAll 0 = .ok (.iload_n 1, 1) := by decide +kernel
theorem dX0_numberOfAll_1 : decode cX0_numberOfAll 1 = .ok (.tableswitch 121 0 10 #[59, 64, 69, 74, 79, 88, 93, 101, 106, 111, 116], 59) := by decide +kernel
theorem dX0_numberOfAll_60 : decode cX0_numberOfAll 60 = .ok (.aload_n 0, 1) := by decide +kernel
theorem dX0_numberOfAll_61 : decode cX0_numberOfAll 61 = .ok (.getfield 47, 3) := by decide +kernel
theorem dX0_numberOfAll_64 : decode cX0_numberOfAll 64 = .ok (.ireturn, 1) := by decide +kernel
theorem dX0_numberOfAll_65 : decode cX0_numberOfAll 65 = .ok (.aload_n 0, 1) := by decide +kernel
theorem dX0_numberOfAll_66 : decode cX0_numberOfAll 66 = .ok (.getfield 50, 3) := by decide +kernel
theorem dX0_numberOfAll_69 : decode cX0_numberOfAll 69 = .ok (.ireturn, 1) := by decide +kernel
theorem dX0_numberOfAll_70 : decode cX0_numberOfAll 70 = .ok (.aload_n 0, 1) := by decide +kernel
theorem dX0_numberOfAll_71 : decode cX0_numberOfAll 71 = .ok (.getfield 39, 3) := by decide +kernel
theorem dX0_numberOfAll_74 : decode cX0_numberOfAll 74 = .ok (.ireturn, 1) := by decide +kernel
theorem dX0_numberOfAll_75 : decode cX0_numberOfAll 75 = .ok (.aload_n 0, 1) := by decide +kernel
theorem dX0_numberOfAll_76 : decode cX0_numberOfAll 76 = .ok (.invokevirtual 121, 3) := by decide +kernel
theorem dX0_numberOfAll_79 : decode cX0_numberOfAll 79 = .ok (.ireturn, 1) := by decide +kernel
theorem dX0_numberOfAll_80 : decode cX0_numberOfAll 80 = .ok (.aload_n 0, 1) := by decide +kernel
theorem dX0_numberOfAll_81 : decode cX0_numberOfAll 81 = .ok (.aload_n 0, 1) := by decide +kernel
theorem dX0_numberOfAll_82 : decode cX0_numberOfAll 82 = .ok (.invokevirtual 121, 3) := by decide +kernel
theorem dX0_numberOfAll_85 : decode cX0_numberOfAll 85 = .ok (.invokevirtual 83, 3) := by decide +kernel
theorem dX0_numberOfAll_88 : decode cX0_numberOfAll 88 = .ok (.ireturn, 1) := by decide +kernel
theorem dX0_numberOfAll_89 : decode cX0_numberOfAll 89 = .ok (.aload_n 0, 1) := by decide +kernel
theorem dX0_numberOfAll_90 : decode cX0_numberOfAll 90 = .ok (.getfield 53, 3) := by decide +kernel
theorem dX0_numberOfAll_93 : decode cX0_numberOfAll 93 = .ok (.ireturn, 1) := by decide +kernel
theorem dX0_numberOfAll_94 : decode cX0_numberOfAll 94 = .ok (.aload_n 0, 1) := by decide +kernel
theorem dX0_numberOfAll_95 : decode cX0_numberOfAll 95 = .ok (.getfield 21, 3) := by decide +kernel
theorem dX0_numberOfAll_98 : decode cX0_numberOfAll 98 = .ok (.invokestatic 68, 3) := by decide +kernel
theorem dX0_numberOfAll_101 : decode cX0_numberOfAll 101 = .ok (.ireturn, 1) := by decide +kernel
theorem dX0_numberOfAll_102 : decode cX0_numberOfAll 102 = .ok (.aload_n 0, 1) := by decide +kernel
theorem dX0_numberOfAll_103 : decode cX0_numberOfAll 103 = .ok (.getfield 56, 3) := by decide +kernel
theorem dX0_numberOfAll_106 : decode cX0_numberOfAll 106 = .ok (.ireturn, 1) := by decide +kernel
theorem dX0_numberOfAll_107 : decode cX0_numberOfAll 107 = .ok (.aload_n 0, 1) := by decide +kernel
theorem dX0_numberOfAll_108 : decode cX0_numberOfAll 108 = .ok (.getfield 59, 3) := by decide +kernel
theorem dX0_numberOfAll_111 : decode cX0_numberOfAll 111 = .ok (.ireturn, 1) := by decide +kernel
theorem dX0_numberOfAll_112 : decode cX0_numberOfAll 112 = .ok (.aload_n 0, 1) := by decide +kernel
theorem dX0_numberOfAll_113 : decode cX0_numberOfAll 113 = .ok (.getfield 62, 3) := by decide +kernel
theorem dX0_numberOfAll_116 : decode cX0_numberOfAll 116 = .ok (.ireturn, 1) := by decide +kernel
theorem dX0_numberOfAll_117 : decode cX0_numberOfAll 117 = .ok (.aload_n 0, 1) := by decide +kernel
theorem dX0_numberOfAll_118 : decode cX0_numberOfAll 118 = .ok (.getfield 65, 3) := by decide +kernel
theorem dX0_numberOfAll_121 : decode cX0_numberOfAll 121 = .ok (.ireturn, 1) := by decide +kernel
theorem dX0_numberOfAll_122 : decode cX0_numberOfAll 122 = .ok (.iload_n 1, 1) := by decide +kernel
theorem dX0_numberOfAll_123 : decode cX0_numberOfAll 123 = .ok (.bipush 20, 2) := by decide +kernel
theorem dX0_numberOfAll_125 : decode cX0_numberOfAll 125 = .ok (.if_icmp .lt 21, 3) := by decide +kernel
theorem dX0_numberOfAll_128 : decode cX0_numberOfAll 128 = .ok (.iload_n 1, 1) := by decide +kernel
theorem dX0_numberOfAll_129 : decode cX0_numberOfAll 129 = .ok (.bipush 25, 2) := by decide +kernel
theorem dX0_numberOfAll_131 : decode cX0_numberOfAll 131 = .ok (.if_icmp .ge 15, 3) := by decide +kernel
theorem dX0_numberOfAll_134 : decode cX0_numberOfAll 134 = .ok (.aload_n 0, 1) := by decide +kernel
theorem dX0_numberOfAll_135 : decode cX0_numberOfAll 135 = .ok (.getfield 9, 3) := by decide +kernel
theorem dX0_numberOfAll_138 : decode cX0_numberOfAll 138 = .ok (.iload_n 1, 1) := by decide +kernel
theorem dX0_numberOfAll_139 : decode cX0_numberOfAll 139 = .ok (.bipush 20, 2) := by decide +kernel
theorem dX0_numberOfAll_141 : decode cX0_numberOfAll 141 = .ok (.isub, 1) := by decide +kernel
theorem dX0_numberOfAll_142 : decode cX0_numberOfAll 142 = .ok (.iaload, 1) := by decide +kernel
theorem dX0_numberOfAll_143 : decode cX0_numberOfAll 143 = .ok (.goto 6, 3) := by decide +kernel
theorem dX0_numberOfAll_146 : decode cX0_numberOfAll 146 = .ok (.sipush (-10001), 3) := by decide +kernel
theorem dX0_numberOfAll_149 : decode cX0_numberOfAll 149 = .ok (.ireturn, 1) := by decide +kernel
theorem dX0_numberOfSeason_0 : decode cX0_numberOfSeason 0 = .ok (.iload_n 1, 1) := by decide +kernel
theorem dX0_numberOfSeason_1 : decode cX0_numberOfSeason 1 = .ok (.ifCond .lt 12, 3) := by decide +kernel
theorem dX0_numberOfSeason_4 : decode cX0_numberOfSeason 4 = .ok (.iload_n 2, 1) := by decide +kernel
theorem dX0_numberOfSeason_5 : decode cX0_numberOfSeason 5 = .ok (.ifCond .lt 8, 3) := by decide +kernel
theorem dX0_numberOfSeason_8 : decode cX0_numberOfSeason 8 = .ok (.iload_n 2, 1) := by decide +kernel
theorem dX0_numberOfSeason_9 : decode cX0_numberOfSeason 9 = .ok (.iconst 5, 1) := by decide +kernel
theorem dX0_numberOfSeason_10 : decode cX0_numberOfSeason 10 = .ok (.if_icmp .lt 7, 3) := by decide +kernel
theorem dX0_numberOfSeason_13 : decode cX0_numberOfSeason 13 = .ok (.sipush (-10001), 3) := by decide +kernel
theorem dX0_numberOfSeason_16 : decode cX0_numberOfSeason 16 = .ok (.ireturn, 1) := by decide +kernel
theorem dX0_numberOfSeason_17 : decode cX0_numberOfSeason 17 = .ok (.iload_n 1, 1) := by decide +kernel
theorem dX0_numberOfSeason_18 : decode cX0_numberOfSeason 18 = .ok (.aload_n 0, 1) := by decide +kernel
theorem dX0_numberOfSeason_19 : decode cX0_numberOfSeason 19 = .ok (.getfield 50, 3) := by decide +kernel
theorem dX0_numberOfSeason_22 : decode cX0_numberOfSeason 22 = .ok (.if_icmp .ge 9, 3) := by decide +kernel
theorem dX0_numberOfSeason_25 : decode cX0_numberOfSeason 25 = .ok (.iload_n 1, 1) := by decide +kernel
theorem dX0_numberOfSeason_26 : decode cX0_numberOfSeason 26 = .ok (.bipush 6, 2) := by decide +kernel
theorem dX0_numberOfSeason_28 : decode cX0_numberOfSeason 28 = .ok (.if_icmp .lt 7, 3) := by decide +kernel
theorem dX0_numberOfSeason_31 : decode cX0_numberOfSeason 31 = .ok (.sipush (-10004), 3) := by decide +kernel
theorem dX0_numberOfSeason_34 : decode cX0_numberOfSeason 34 = .ok (.ireturn, 1) := by decide +kernel
theorem dX0_numberOfSeason_35 : decode cX0_numberOfSeason 35 = .ok (.aload_n 0, 1) := by decide +kernel
theorem dX0_numberOfSeason_36 : decode cX0_numberOfSeason 36 = .ok (.getfield 36, 3) := by decide +kernel
theorem dX0_numberOfSeason_39 : decode cX0_numberOfSeason 39 = .ok (.aload_n 0, 1) := by decide +kernel
theorem dX0_numberOfSeason_40 : decode cX0_numberOfSeason 40 = .ok (.getfield 50, 3) := by decide +kernel
theorem dX0_numberOfSeason_43 : decode cX0_numberOfSeason 43 = .ok (.iconst 1, 1) := by decide +kernel
theorem dX0_numberOfSeason_44 : decode cX0_numberOfSeason 44 = .ok (.isub, 1) := by decide +kernel
theorem dX0_numberOfSeason_45 : decode cX0_numberOfSeason 45 = .ok (.iload_n 1, 1) := by decide +kernel
theorem dX0_numberOfSeason_46 : decode cX0_numberOfSeason 46 = .ok (.isub, 1) := by decide +kernel
theorem dX0_numberOfSeason_47 : decode cX0_numberOfSeason 47 = .ok (.bipush 6, 2) := by decide +kernel
theorem dX0_numberOfSeason_49 : decode cX0_numberOfSeason 49 = .ok (.irem, 1) := by decide +kernel
theorem dX0_numberOfSeason_50 : decode cX0_numberOfSeason 50 = .ok (.iconst 5, 1) := by decide +kernel
theorem dX0_numberOfSeason_51 : decode cX0_numberOfSeason 51 = .ok (.imul, 1) := by decide +kernel
theorem dX0_numberOfSeason_52 : decode cX0_numberOfSeason 52 = .ok (.iload_n 2, 1) := by decide +kernel
theorem dX0_numberOfSeason_53 : decode cX0_numberOfSeason 53 = .ok (.iadd, 1) := by decide +kernel
theorem dX0_numberOfSeason_54 : decode cX0_numberOfSeason 54 = .ok (.iaload, 1) := by decide +kernel
theorem dX0_numberOfSeason_55 : decode cX0_numberOfSeason 55 = .ok (.ireturn, 1) := by decide +kernel
theorem dX1_init_0 : decode cX1_init 0 = .ok (.aload_n 0, 1) := by decide +kernel
theorem dX1_init_1 : decode cX1_init 1 = .ok (.invokespecial 3, 3) := by decide +kernel
theorem dX1_init_4 : decode cX1_init 4 = .ok (.aload_n 0, 1) := by decide +kernel
theorem dX1_init_5 : decode cX1_init 5 = .ok (.iconst 4, 1) := by decide +kernel
theorem dX1_init_6 : decode cX1_init 6 = .ok (.anewarray 9, 3) := by decide +kernel
theorem dX1_init_9 : decode cX1_init 9 = .ok (.putfield 11, 3) := by decide +kernel
theorem dX1_init_12 : decode cX1_init 12 = .ok (.iconst 0, 1) := by decide +kernel
theorem dX1_init_13 : decode cX1_init 13 = .ok (.istore_n 1, 1) := by decide +kernel
theorem dX1_init_14 : decode cX1_init 14 = .ok (.iload_n 1, 1) := by decide +kernel
theorem dX1_init_15 : decode cX1_init 15 = .ok (.aload_n 0, 1) := by decide +kernel
theorem dX1_init_16 : decode cX1_init 16 = .ok (.getfield 11, 3) := by decide +kernel
theorem dX1_init_19 : decode cX1_init 19 = .ok (.arraylength, 1) := by decide +kernel
theorem dX1_init_20 : decode cX1_init 20 = .ok (.if_icmp .ge 22, 3) := by decide +kernel
theorem dX1_init_23 : decode cX1_init 23 = .ok (.aload_n 0, 1) := by decide +kernel
theorem dX1_init_24 : decode cX1_init 24 = .ok (.getfield 11, 3) := by decide +kernel
theorem dX1_init_27 : decode cX1_init 27 = .ok (.iload_n 1, 1) := by decide +kernel
theorem dX1_init_28 : decode cX1_init 28 = .ok (.new 9, 3) := by decide +kernel
theorem dX1_init_31 : decode cX1_init 31 = .ok (.dup, 1) := by decide +kernel
theorem dX1_init_32 : decode cX1_init 32 = .ok (.invokespecial 17, 3) := by decide +kernel
theorem dX1_init_35 : decode cX1_init 35 = .ok (.aastore, 1) := by decide +kernel
theorem dX1_init_36 : decode cX1_init 36 = .ok (.iinc 1 1, 3) := by decide +kernel
theorem dX1_init_39 : decode cX1_init 39 = .ok (.goto (-25), 3) := by decide +kernel
theorem dX1_init_42 : decode cX1_init 42 = .ok (.return_, 1) := by decide +kernel
theorem dX1_record_0 : decode cX1_record 0 = .ok (.aload_n 0, 1) := by decide +kernel
theorem dX1_record_1 : decode cX1_record 1 = .ok (.getfield 18, 3) := by decide +kernel
theorem dX1_record_4 : decode cX1_record 4 = .ok (.iconst 4, 1) := by decide +kernel
theorem dX1_record_5 : decode cX1_record 5 = .ok (.if_icmp .ne 25, 3) := by decide +kernel
theorem dX1_record_8 : decode cX1_record 8 = .ok (.aload_n 0, 1) := by decide +kernel
theorem dX1_record_9 : decode cX1_record 9 = .ok (.aload_n 0, 1) := by decide +kernel
theorem dX1_record_10 : decode cX1_record 10 = .ok (.getfield 22, 3) := by decide +kernel
theorem dX1_record_13 : decode cX1_record 13 = .ok (.iconst 1, 1) := by decide +kernel
theorem dX1_record_14 : decode cX1_record 14 = .ok (.iadd, 1) := by decide +kernel
theorem dX1_record_15 : decode cX1_record 15 = .ok (.iconst 4, 1) := by decide +kernel
theorem dX1_record_16 : decode cX1_record 16 = .ok (.irem, 1) := by decide +kernel
theorem dX1_record_17 : decode cX1_record 17 = .ok (.putfield 22, 3) := by decide +kernel
theorem dX1_record_20 : decode cX1_record 20 = .ok (.aload_n 0, 1) := by decide +kernel
theorem dX1_record_21 : decode cX1_record 21 = .ok (.dup, 1) := by decide +kernel
theorem dX1_record_22 : decode cX1_record 22 = .ok (.getfield 18, 3) := by decide +kernel
theorem dX1_record_25 : decode cX1_record 25 = .ok (.iconst 1, 1) := by decide +kernel
theorem dX1_record_26 : decode cX1_record 26 = .ok (.isub, 1) := by decide +kernel
theorem dX1_record_27 : decode cX1_record 27 = .ok (.putfield 18, 3) := by decide +kernel
theorem dX1_record_30 : decode cX1_record 30 = .ok (.aload_n 0, 1) := by decide +kernel
theorem dX1_record_31 : decode cX1_record 31 = .ok (.getfield 11, 3) := by decide +kernel
theorem dX1_record_34 : decode cX1_record 34 = .ok (.aload_n 0, 1) := by decide +kernel
theorem dX1_record_35 : decode cX1_record 35 = .ok (.getfield 22, 3) := by decide +kernel
theorem dX1_record_38 : decode cX1_record 38 = .ok (.aload_n 0, 1) := by decide +kernel
theorem dX1_record_39 : decode cX1_record 39 = .ok (.getfield 18, 3) := by decide +kernel
theorem dX1_record_42 : decode cX1_record 42 = .ok (.iadd, 1) := by decide +kernel
theorem dX1_record_43 : decode cX1_record 43 = .ok (.iconst 4, 1) := by decide +kernel
theorem dX1_record_44 : decode cX1_record 44 = .ok (.irem, 1) := by decide +kernel
theorem dX1_record_45 : decode cX1_record 45 = .ok (.aaload, 1) := by decide +kernel
theorem dX1_record_46 : decode cX1_record 46 = .ok (.astore_n 2, 1) := by decide +kernel
theorem dX1_record_47 : decode cX1_record 47 = .ok (.aload_n 2, 1) := by decide +kernel
theorem dX1_record_48 : decode cX1_record 48 = .ok (.ifnull 8, 3) := by decide +kernel
theorem dX1_record_51 : decode cX1_record 51 = .ok (.aload_n 2, 1) := by decide +kernel
theorem dX1_record_52 : decode cX1_record 52 = .ok (.aload_n 1, 1) := by decide +kernel
theorem dX1_record_53 : decode cX1_record 53 = .ok (.invokevirtual 25, 3) := by decide +kernel
theorem dX1_record_56 : decode cX1_record 56 = .ok (.aload_n 0, 1) := by decide +kernel
theorem dX1_record_57 : decode cX1_record 57 = .ok (.dup, 1) := by decide +kernel
theorem dX1_record_58 : decode cX1_record 58 = .ok (.getfield 18, 3) := by decide +kernel
theorem dX1_record_61 : decode cX1_record 61 = .ok (.iconst 1, 1) := by decide +kernel
theorem dX1_record_62 : decode cX1_record 62 = .ok (.iadd, 1) := by decide +kernel
theorem dX1_record_63 : decode cX1_record 63 = .ok (.putfield 18, 3) := by decide +kernel
theorem dX1_record_66 : decode cX1_record 66 = .ok (.return_, 1) := by decide +kernel
theorem dX1_restoreLatest_0 : decode cX1_restoreLatest 0 = .ok (.aload_n 0, 1) := by decide +kernel
theorem dX1_restoreLatest_1 : decode cX1_restoreLatest 1 = .ok (.getfield 18, 3) := by decide +kernel
theorem dX1_restoreLatest_4 : decode cX1_restoreLatest 4 = .ok (.iconst 1, 1) := by decide +kernel
theorem dX1_restoreLatest_5 : decode cX1_restoreLatest 5 = .ok (.if_icmp .ge 4, 3) := by decide +kernel
theorem dX1_restoreLatest_8 : decode cX1_restoreLatest 8 = .ok (.return_, 1) := by decide +kernel
theorem dX1_restoreLatest_9 : decode cX1_restoreLatest 9 = .ok (.aload_n 0, 1) := by decide +kernel
theorem dX1_restoreLatest_10 : decode cX1_restoreLatest 10 = .ok (.dup, 1) := by decide +kernel
theorem dX1_restoreLatest_11 : decode cX1_restoreLatest 11 = .ok (.getfield 18, 3) := by decide +kernel
theorem dX1_restoreLatest_14 : decode cX1_restoreLatest 14 = .ok (.iconst 1, 1) := by decide +kernel
theorem dX1_restoreLatest_15 : decode cX1_restoreLatest 15 = .ok (.isub, 1) := by decide +kernel
theorem dX1_restoreLatest_16 : decode cX1_restoreLatest 16 = .ok (.putfield 18, 3) := by decide +kernel
theorem dX1_restoreLatest_19 : decode cX1_restoreLatest 19 = .ok (.aload_n 0, 1) := by decide +kernel
theorem dX1_restoreLatest_20 : decode cX1_restoreLatest 20 = .ok (.getfield 11, 3) := by decide +kernel
theorem dX1_restoreLatest_23 : decode cX1_restoreLatest 23 = .ok (.aload_n 0, 1) := by decide +kernel
theorem dX1_restoreLatest_24 : decode cX1_restoreLatest 24 = .ok (.getfield 22, 3) := by decide +kernel
theorem dX1_restoreLatest_27 : decode cX1_restoreLatest 27 = .ok (.aload_n 0, 1) := by decide +kernel
theorem dX1_restoreLatest_28 : decode cX1_restoreLatest 28 = .ok (.getfield 18, 3) := by decide +kernel
theorem dX1_restoreLatest_31 : decode cX1_restoreLatest 31 = .ok (.iadd, 1) := by decide +kernel
theorem dX1_restoreLatest_32 : decode cX1_restoreLatest 32 = .ok (.iconst 4, 1) := by decide +kernel
theorem dX1_restoreLatest_33 : decode cX1_restoreLatest 33 = .ok (.irem, 1) := by decide +kernel
theorem dX1_restoreLatest_34 : decode cX1_restoreLatest 34 = .ok (.aaload, 1) := by decide +kernel
theorem dX1_restoreLatest_35 : decode cX1_restoreLatest 35 = .ok (.astore_n 2, 1) := by decide +kernel
theorem dX1_restoreLatest_36 : decode cX1_restoreLatest 36 = .ok (.aload_n 2, 1) := by decide +kernel
theorem dX1_restoreLatest_37 : decode cX1_restoreLatest 37 = .ok (.ifnull 8, 3) := by decide +kernel
theorem dX1_restoreLatest_40 : decode cX1_restoreLatest 40 = .ok (.aload_n 1, 1) := by decide +kernel
theorem dX1_restoreLatest_41 : decode cX1_restoreLatest 41 = .ok (.aload_n 2, 1) := by decide +kernel
theorem dX1_restoreLatest_42 : decode cX1_restoreLatest 42 = .ok (.invokevirtual 25, 3) := by decide +kernel
theorem dX1_restoreLatest_45 : decode cX1_restoreLatest 45 = .ok (.return_, 1) := by decide +kernel
theorem dX2_init_0 : decode cX2_init 0 = .ok (.aload_n 0, 1) := by decide +kernel
theorem dX2_init_1 : decode cX2_init 1 = .ok (.invokespecial 3, 3) := by decide +kernel
theorem dX2_init_4 : decode cX2_init 4 = .ok (.return_, 1) := by decide +kernel
theorem dX2_begin_0 : decode cX2_begin 0 = .ok (.aload_n 0, 1) := by decide +kernel
theorem dX2_begin_1 : decode cX2_begin 1 = .ok (.iconst 0, 1) := by decide +kernel
theorem dX2_begin_2 : decode cX2_begin 2 = .ok (.putfield 9, 3) := by decide +kernel
theorem dX2_begin_5 : decode cX2_begin 5 = .ok (.aload_n 0, 1) := by decide +kernel
theorem dX2_begin_6 : decode cX2_begin 6 = .ok (.iconst 0, 1) := by decide +kernel
theorem dX2_begin_7 : decode cX2_begin 7 = .ok (.putfield 15, 3) := by decide +kernel
theorem dX2_begin_10 : decode cX2_begin 10 = .ok (.aload_n 0, 1) := by decide +kernel
theorem dX2_begin_11 : decode cX2_begin 11 = .ok (.iconst 0, 1) := by decide +kernel
theorem dX2_begin_12 : decode cX2_begin 12 = .ok (.putfield 18, 3) := by decide +kernel
theorem dX2_begin_15 : decode cX2_begin 15 = .ok (.aload_n 0, 1) := by decide +kernel
theorem dX2_begin_16 : decode cX2_begin 16 = .ok (.iconst 0, 1) := by decide +kernel
theorem dX2_begin_17 : decode cX2_begin 17 = .ok (.putfield 21, 3) := by decide +kernel
theorem dX2_begin_20 : decode cX2_begin 20 = .ok (.return_, 1) := by decide +kernel
theorem dX2_isStoppedBy_0 : decode cX2_isStoppedBy 0 = .ok (.iload_n 1, 1) := by decide +kernel
theorem dX2_isStoppedBy_1 : decode cX2_isStoppedBy 1 = .ok (.ifCond .lt 15, 3) := by decide +kernel
theorem dX2_isStoppedBy_4 : decode cX2_isStoppedBy 4 = .ok (.aload_n 0, 1) := by decide +kernel
theorem dX2_isStoppedBy_5 : decode cX2_isStoppedBy 5 = .ok (.dup, 1) := by decide +kernel
theorem dX2_isStoppedBy_6 : decode cX2_isStoppedBy 6 = .ok (.getfield 21, 3) := by decide +kernel
theorem dX2_isStoppedBy_9 : decode cX2_isStoppedBy 9 = .ok (.iconst 1, 1) := by decide +kernel
theorem dX2_isStoppedBy_10 : decode cX2_isStoppedBy 10 = .ok (.iadd, 1) := by decide +kernel
theorem dX2_isStoppedBy_11 : decode cX2_isStoppedBy 11 = .ok (.putfield 21, 3) := by decide +kernel
theorem dX2_isStoppedBy_14 : decode cX2_isStoppedBy 14 = .ok (.iconst 0, 1) := by decide +kernel
theorem dX2_isStoppedBy_15 : decode cX2_isStoppedBy 15 = .ok (.ireturn, 1) := by decide +kernel
theorem dX2_isStoppedBy_16 : decode cX2_isStoppedBy 16 = .ok (.aload_n 0, 1) := by decide +kernel
theorem dX2_isStoppedBy_17 : decode cX2_isStoppedBy 17 = .ok (.iconst 2, 1) := by decide +kernel
theorem dX2_isStoppedBy_18 : decode cX2_isStoppedBy 18 = .ok (.putfield 15, 3) := by decide +kernel
theorem dX2_isStoppedBy_21 : decode cX2_isStoppedBy 21 = .ok (.aload_n 0, 1) := by decide +kernel
theorem dX2_isStoppedBy_22 : decode cX2_isStoppedBy 22 = .ok (.iload_n 1, 1) := by decide +kernel
theorem dX2_isStoppedBy_23 : decode cX2_isStoppedBy 23 = .ok (.putfield 18, 3) := by decide +kernel
theorem dX2_isStoppedBy_26 : decode cX2_isStoppedBy 26 = .ok (.iconst 1, 1) := by decide +kernel
theorem dX2_isStoppedBy_27 : decode cX2_isStoppedBy 27 = .ok (.ireturn, 1) := by decide +kernel
theorem dX3_init_0 : decode cX3_init 0 = .ok (.aload_n 0, 1) := by decide +kernel
theorem dX3_init_1 : decode cX3_init 1 = .ok (.invokespecial 3, 3) := by decide +kernel
theorem dX3_init_4 : decode cX3_init 4 = .ok (.aload_n 0, 1) := by decide +kernel
theorem dX3_init_5 : decode cX3_init 5 = .ok (.bipush 60, 2) := by decide +kernel
theorem dX3_init_7 : decode cX3_init 7 = .ok (.newarray .char, 2) := by decide +kernel
theorem dX3_init_9 : decode cX3_init 9 = .ok (.putfield 9, 3) := by decide +kernel
theorem dX3_init_12 : decode cX3_init 12 = .ok (.return_, 1) := by decide +kernel
theorem dX3_append_0 : decode cX3_append 0 = .ok (.iload_n 1, 1) := by decide +kernel
theorem dX3_append_1 : decode cX3_append 1 = .ok (.bipush 32, 2) := by decide +kernel
theorem dX3_append_3 : decode cX3_append 3 = .ok (.if_icmp .lt 9, 3) := by decide +kernel
theorem dX3_append_6 : decode cX3_append 6 = .ok (.iload_n 1, 1) := by decide +kernel
theorem dX3_append_7 : decode cX3_append 7 = .ok (.bipush 126, 2) := by decide +kernel
theorem dX3_append_9 : decode cX3_append 9 = .ok (.if_icmp .le 7, 3) := by decide +kernel
theorem dX3_append_12 : decode cX3_append 12 = .ok (.sipush (-10001), 3) := by decide +kernel
theorem dX3_append_15 : decode cX3_append 15 = .ok (.ireturn, 1) := by decide +kernel
theorem dX3_append_16 : decode cX3_append 16 = .ok (.aload_n 0, 1) := by decide +kernel
theorem dX3_append_17 : decode cX3_append 17 = .ok (.getfield 15, 3) := by decide +kernel
theorem dX3_append_20 : decode cX3_append 20 = .ok (.bipush 60, 2) := by decide +kernel
theorem dX3_append_22 : decode cX3_append 22 = .ok (.if_icmp .lt 7, 3) := by decide +kernel
theorem dX3_append_25 : decode cX3_append 25 = .ok (.sipush (-10003), 3) := by decide +kernel
theorem dX3_append_28 : decode cX3_append 28 = .ok (.ireturn, 1) := by decide +kernel
theorem dX3_append_29 : decode cX3_append 29 = .ok (.aload_n 0, 1) := by decide +kernel
theorem dX3_append_30 : decode cX3_append 30 = .ok (.getfield 9, 3) := by decide +kernel
theorem dX3_append_33 : decode cX3_append 33 = .ok (.aload_n 0, 1) := by decide +kernel
theorem dX3_append_34 : decode cX3_append 34 = .ok (.getfield 15, 3) := by decide +kernel
theorem dX3_append_37 : decode cX3_append 37 = .ok (.iload_n 1, 1) := by decide +kernel
theorem dX3_append_38 : decode cX3_append 38 = .ok (.i2c, 1) := by decide +kernel
theorem dX3_append_39 : decode cX3_append 39 = .ok (.castore, 1) := by decide +kernel
theorem dX3_append_40 : decode cX3_append 40 = .ok (.aload_n 0, 1) := by decide +kernel
theorem dX3_append_41 : decode cX3_append 41 = .ok (.dup, 1) := by decide +kernel
theorem dX3_append_42 : decode cX3_append 42 = .ok (.getfield 15, 3) := by decide +kernel
theorem dX3_append_45 : decode cX3_append 45 = .ok (.iconst 1, 1) := by decide +kernel
theorem dX3_append_46 : decode cX3_append 46 = .ok (.iadd, 1) := by decide +kernel
theorem dX3_append_47 : decode cX3_append 47 = .ok (.putfield 15, 3) := by decide +kernel
theorem dX3_append_50 : decode cX3_append 50 = .ok (.aload_n 0, 1) := by decide +kernel
theorem dX3_append_51 : decode cX3_append 51 = .ok (.getfield 15, 3) := by decide +kernel
theorem dX3_append_54 : decode cX3_append 54 = .ok (.ireturn, 1) := by decide +kernel
theorem dX3_readCommand_0 : decode cX3_readCommand 0 = .ok (.aload_n 0, 1) := by decide +kernel
theorem dX3_readCommand_1 : decode cX3_readCommand 1 = .ok (.aload_n 0, 1) := by decide +kernel
theorem dX3_readCommand_2 : decode cX3_readCommand 2 = .ok (.invokevirtual 19, 3) := by decide +kernel
theorem dX3_readCommand_5 : decode cX3_readCommand 5 = .ok (.putfield 23, 3) := by decide +kernel
theorem dX3_readCommand_8 : decode cX3_readCommand 8 = .ok (.aload_n 0, 1) := by decide +kernel
theorem dX3_readCommand_9 : decode cX3_readCommand 9 = .ok (.dup, 1) := by decide +kernel
theorem dX3_readCommand_10 : decode cX3_readCommand 10 = .ok (.getfield 26, 3) := by decide +kernel
theorem dX3_readCommand_13 : decode cX3_readCommand 13 = .ok (.iconst 1, 1) := by decide +kernel
theorem dX3_readCommand_14 : decode cX3_readCommand 14 = .ok (.iadd, 1) := by decide +kernel
theorem dX3_readCommand_15 : decode cX3_readCommand 15 = .ok (.putfield 26, 3) := by decide +kernel
theorem dX3_readCommand_18 : decode cX3_readCommand 18 = .ok (.aload_n 0, 1) := by decide +kernel
theorem dX3_readCommand_19 : decode cX3_readCommand 19 = .ok (.iconst 0, 1) := by decide +kernel
theorem dX3_readCommand_20 : decode cX3_readCommand 20 = .ok (.putfield 29, 3) := by decide +kernel
theorem dX3_readCommand_23 : decode cX3_readCommand 23 = .ok (.aload_n 0, 1) := by decide +kernel
theorem dX3_readCommand_24 : decode cX3_readCommand 24 = .ok (.iconst 0, 1) := by decide +kernel
theorem dX3_readCommand_25 : decode cX3_readCommand 25 = .ok (.putfield 32, 3) := by decide +kernel
theorem dX3_readCommand_28 : decode cX3_readCommand 28 = .ok (.aload_n 0, 1) := by decide +kernel
theorem dX3_readCommand_29 : decode cX3_readCommand 29 = .ok (.getfield 23, 3) := by decide +kernel
theorem dX3_readCommand_32 : decode cX3_readCommand 32 = .ok (.lookupswitch 96 #[(99, 52), (109, 55), (112, 66), (114, 55), (117, 66)], 52) := by decide +kernel
theorem dX3_readCommand_84 : decode cX3_readCommand 84 = .ok (.goto 46, 3) := by decide +kernel
theorem dX3_readCommand_87 : decode cX3_readCommand 87 = .ok (.aload_n 0, 1) := by decide +kernel
theorem dX3_readCommand_88 : decode cX3_readCommand 88 = .ok (.aload_n 0, 1) := by decide +kernel
theorem dX3_readCommand_89 : decode cX3_readCommand 89 = .ok (.invokevirtual 35, 3) := by decide +kernel
theorem dX3_readCommand_92 : decode cX3_readCommand 92 = .ok (.putfield 29, 3) := by decide +kernel
theorem dX3_readCommand_95 : decode cX3_readCommand 95 = .ok (.goto 35, 3) := by decide +kernel
theorem dX3_readCommand_98 : decode cX3_readCommand 98 = .ok (.aload_n 0, 1) := by decide +kernel
theorem dX3_readCommand_99 : decode cX3_readCommand 99 = .ok (.aload_n 0, 1) := by decide +kernel
theorem dX3_readCommand_100 : decode cX3_readCommand 100 = .ok (.invokevirtual 35, 3) := by decide +kernel
theorem dX3_readCommand_103 : decode cX3_readCommand 103 = .ok (.putfield 29, 3) := by decide +kernel
theorem dX3_readCommand_106 : decode cX3_readCommand 106 = .ok (.aload_n 0, 1) := by decide +kernel
theorem dX3_readCommand_107 : decode cX3_readCommand 107 = .ok (.bipush 44, 2) := by decide +kernel
theorem dX3_readCommand_109 : decode cX3_readCommand 109 = .ok (.invokevirtual 38, 3) := by decide +kernel
theorem dX3_readCommand_112 : decode cX3_readCommand 112 = .ok (.ifCond .ne 5, 3) := by decide +kernel
theorem dX3_readCommand_115 : decode cX3_readCommand 115 = .ok (.iconst 0, 1) := by decide +kernel
theorem dX3_readCommand_116 : decode cX3_readCommand 116 = .ok (.ireturn, 1) := by decide +kernel
theorem dX3_readCommand_117 : decode cX3_readCommand 117 = .ok (.aload_n 0, 1) := by decide +kernel
theorem dX3_readCommand_118 : decode cX3_readCommand 118 = .ok (.aload_n 0, 1) := by decide +kernel
theorem dX3_readCommand_119 : decode cX3_readCommand 119 = .ok (.invokevirtual 35, 3) := by decide +kernel
theorem dX3_readCommand_122 : decode cX3_readCommand 122 = .ok (.putfield 32, 3) := by decide +kernel
theorem dX3_readCommand_125 : decode cX3_readCommand 125 = .ok (.goto 5, 3) := by decide +kernel
theorem dX3_readCommand_128 : decode cX3_readCommand 128 = .ok (.iconst 0, 1) := by decide +kernel
theorem dX3_readCommand_129 : decode cX3_readCommand 129 = .ok (.ireturn, 1) := by decide +kernel
theorem dX3_readCommand_130 : decode cX3_readCommand 130 = .ok (.aload_n 0, 1) := by decide +kernel
theorem dX3_readCommand_131 : decode cX3_readCommand 131 = .ok (.getfield 29, 3) := by decide +kernel
theorem dX3_readCommand_134 : decode cX3_readCommand 134 = .ok (.ifCond .lt 23, 3) := by decide +kernel
theorem dX3_readCommand_137 : decode cX3_readCommand 137 = .ok (.aload_n 0, 1) := by decide +kernel
theorem dX3_readCommand_138 : decode cX3_readCommand 138 = .ok (.getfield 32, 3) := by decide +kernel
theorem dX3_readCommand_141 : decode cX3_readCommand 141 = .ok (.ifCond .lt 16, 3) := by decide +kernel
theorem dX3_readCommand_144 : decode cX3_readCommand 144 = .ok (.aload_n 0, 1) := by decide +kernel
theorem dX3_readCommand_145 : decode cX3_readCommand 145 = .ok (.bipush 59, 2) := by decide +kernel
theorem dX3_readCommand_147 : decode cX3_readCommand 147 = .ok (.invokevirtual 38, 3) := by decide +kernel
theorem dX3_readCommand_150 : decode cX3_readCommand 150 = .ok (.ifCond .eq 7, 3) := by decide +kernel
theorem dX3_readCommand_153 : decode cX3_readCommand 153 = .ok (.iconst 1, 1) := by decide +kernel
theorem dX3_readCommand_154 : decode cX3_readCommand 154 = .ok (.goto 4, 3) := by decide +kernel
theorem dX3_readCommand_157 : decode cX3_readCommand 157 = .ok (.iconst 0, 1) := by decide +kernel
theorem dX3_readCommand_158 : decode cX3_readCommand 158 = .ok (.ireturn, 1) := by decide +kernel
theorem dX3_signAhead_0 : decode cX3_signAhead 0 = .ok (.aload_n 0, 1) := by decide +kernel
theorem dX3_signAhead_1 : decode cX3_signAhead 1 = .ok (.getfield 26, 3) := by decide +kernel
theorem dX3_signAhead_4 : decode cX3_signAhead 4 = .ok (.ifCond .lt 35, 3) := by decide +kernel
theorem dX3_signAhead_7 : decode cX3_signAhead 7 = .ok (.aload_n 0, 1) := by decide +kernel
theorem dX3_signAhead_8 : decode cX3_signAhead 8 = .ok (.getfield 26, 3) := by decide +kernel
theorem dX3_signAhead_11 : decode cX3_signAhead 11 = .ok (.aload_n 0, 1) := by decide +kernel
theorem dX3_signAhead_12 : decode cX3_signAhead 12 = .ok (.getfield 15, 3) := by decide +kernel
theorem dX3_signAhead_15 : decode cX3_signAhead 15 = .ok (.if_icmp .ge 24, 3) := by decide +kernel
theorem dX3_signAhead_18 : decode cX3_signAhead 18 = .ok (.aload_n 0, 1) := by decide +kernel
theorem dX3_signAhead_19 : decode cX3_signAhead 19 = .ok (.getfield 26, 3) := by decide +kernel
theorem dX3_signAhead_22 : decode cX3_signAhead 22 = .ok (.bipush 60, 2) := by decide +kernel
theorem dX3_signAhead_24 : decode cX3_signAhead 24 = .ok (.if_icmp .ge 15, 3) := by decide +kernel
theorem dX3_signAhead_27 : decode cX3_signAhead 27 = .ok (.aload_n 0, 1) := by decide +kernel
theorem dX3_signAhead_28 : decode cX3_signAhead 28 = .ok (.getfield 9, 3) := by decide +kernel
theorem dX3_signAhead_31 : decode cX3_signAhead 31 = .ok (.aload_n 0, 1) := by decide +kernel
theorem dX3_signAhead_32 : decode cX3_signAhead 32 = .ok (.getfield 26, 3) := by decide +kernel
theorem dX3_signAhead_35 : decode cX3_signAhead 35 = .ok (.caload, 1) := by decide +kernel
theorem dX3_signAhead_36 : decode cX3_signAhead 36 = .ok (.goto 4, 3) := by decide +kernel
theorem dX3_signAhead_39 : decode cX3_signAhead 39 = .ok (.iconst (-1), 1) := by decide +kernel
theorem dX3_signAhead_40 : decode cX3_signAhead 40 = .ok (.ireturn, 1) := by decide +kernel
theorem dX3_passes_0 : decode cX3_passes 0 = .ok (.aload_n 0, 1) := by decide +kernel
theorem dX3_passes_1 : decode cX3_passes 1 = .ok (.invokevirtual 19, 3) := by decide +kernel
theorem dX3_passes_4 : decode cX3_passes 4 = .ok (.iload_n 1, 1) := by decide +kernel
theorem dX3_passes_5 : decode cX3_passes 5 = .ok (.if_icmp .eq 5, 3) := by decide +kernel
theorem dX3_passes_8 : decode cX3_passes 8 = .ok (.iconst 0, 1) := by decide +kernel
theorem dX3_passes_9 : decode cX3_passes 9 = .ok (.ireturn, 1) := by decide +kernel
theorem dX3_passes_10 : decode cX3_passes 10 = .ok (.aload_n 0, 1) := by decide +kernel
theorem dX3_passes_11 : decode cX3_passes 11 = .ok (.dup, 1) := by decide +kernel
theorem dX3_passes_12 : decode cX3_passes 12 = .ok (.getfield 26, 3) := by decide +kernel
theorem dX3_passes_15 : decode cX3_passes 15 = .ok (.iconst 1, 1) := by decide +kernel
theorem dX3_passes_16 : decode cX3_passes 16 = .ok (.iadd, 1) := by decide +kernel
theorem dX3_passes_17 : decode cX3_passes 17 = .ok (.putfield 26, 3) := by decide +kernel
theorem dX3_passes_20 : decode cX3_passes 20 = .ok (.iconst 1, 1) := by decide +kernel
theorem dX3_passes_21 : decode cX3_passes 21 = .ok (.ireturn, 1) := by decide +kernel
theorem dX3_readNumber_0 : decode cX3_readNumber 0 = .ok (.iconst (-1), 1) := by decide +kernel
theorem dX3_readNumber_1 : decode cX3_readNumber 1 = .ok (.istore_n 1, 1) := by decide +kernel
theorem dX3_readNumber_2 : decode cX3_readNumber 2 = .ok (.iconst 0, 1) := by decide +kernel
theorem dX3_readNumber_3 : decode cX3_readNumber 3 = .ok (.istore_n 2, 1) := by decide +kernel
theorem dX3_readNumber_4 : decode cX3_readNumber 4 = .ok (.iload_n 2, 1) := by decide +kernel
theorem dX3_readNumber_5 : decode cX3_readNumber 5 = .ok (.iconst 3, 1) := by decide +kernel
theorem dX3_readNumber_6 : decode cX3_readNumber 6 = .ok (.if_icmp .ge 52, 3) := by decide +kernel
theorem dX3_readNumber_9 : decode cX3_readNumber 9 = .ok (.aload_n 0, 1) := by decide +kernel
theorem dX3_readNumber_10 : decode cX3_readNumber 10 = .ok (.invokevirtual 19, 3) := by decide +kernel
theorem dX3_readNumber_13 : decode cX3_readNumber 13 = .ok (.istore_n 3, 1) := by decide +kernel
theorem dX3_readNumber_14 : decode cX3_readNumber 14 = .ok (.iload_n 3, 1) := by decide +kernel
theorem dX3_readNumber_15 : decode cX3_readNumber 15 = .ok (.bipush 48, 2) := by decide +kernel
theorem dX3_readNumber_17 : decode cX3_readNumber 17 = .ok (.if_icmp .lt 9, 3) := by decide +kernel
theorem dX3_readNumber_20 : decode cX3_readNumber 20 = .ok (.iload_n 3, 1) := by decide +kernel
theorem dX3_readNumber_21 : decode cX3_readNumber 21 = .ok (.bipush 57, 2) := by decide +kernel
theorem dX3_readNumber_23 : decode cX3_readNumber 23 = .ok (.if_icmp .le 5, 3) := by decide +kernel
theorem dX3_readNumber_26 : decode cX3_readNumber 26 = .ok (.iload_n 1, 1) := by decide +kernel
theorem dX3_readNumber_27 : decode cX3_readNumber 27 = .ok (.ireturn, 1) := by decide +kernel
theorem dX3_readNumber_28 : decode cX3_readNumber 28 = .ok (.iload_n 1, 1) := by decide +kernel
theorem dX3_readNumber_29 : decode cX3_readNumber 29 = .ok (.iconst 0, 1) := by decide +kernel
theorem dX3_readNumber_30 : decode cX3_readNumber 30 = .ok (.invokestatic 42, 3) := by decide +kernel
theorem dX3_readNumber_33 : decode cX3_readNumber 33 = .ok (.bipush 10, 2) := by decide +kernel
theorem dX3_readNumber_35 : decode cX3_readNumber 35 = .ok (.imul, 1) := by decide +kernel
theorem dX3_readNumber_36 : decode cX3_readNumber 36 = .ok (.iload_n 3, 1) := by decide +kernel
theorem dX3_readNumber_37 : decode cX3_readNumber 37 = .ok (.bipush 48, 2) := by decide +kernel
theorem dX3_readNumber_39 : decode cX3_readNumber 39 = .ok (.isub, 1) := by decide +kernel
theorem dX3_readNumber_40 : decode cX3_readNumber 40 = .ok (.iadd, 1) := by decide +kernel
theorem dX3_readNumber_41 : decode cX3_readNumber 41 = .ok (.istore_n 1, 1) := by decide +kernel
theorem dX3_readNumber_42 : decode cX3_readNumber 42 = .ok (.aload_n 0, 1) := by decide +kernel
theorem dX3_readNumber_43 : decode cX3_readNumber 43 = .ok (.dup, 1) := by decide +kernel
theorem dX3_readNumber_44 : decode cX3_readNumber 44 = .ok (.getfield 26, 3) := by decide +kernel
theorem dX3_readNumber_47 : decode cX3_readNumber 47 = .ok (.iconst 1, 1) := by decide +kernel
theorem dX3_readNumber_48 : decode cX3_readNumber 48 = .ok (.iadd, 1) := by decide +kernel
theorem dX3_readNumber_49 : decode cX3_readNumber 49 = .ok (.putfield 26, 3) := by decide +kernel
theorem dX3_readNumber_52 : decode cX3_readNumber 52 = .ok (.iinc 2 1, 3) := by decide +kernel
theorem dX3_readNumber_55 : decode cX3_readNumber 55 = .ok (.goto (-51), 3) := by decide +kernel
theorem dX3_readNumber_58 : decode cX3_readNumber 58 = .ok (.iload_n 1, 1) := by decide +kernel
theorem dX3_readNumber_59 : decode cX3_readNumber 59 = .ok (.ireturn, 1) := by decide +kernel
theorem dX4_init_0 : decode cX4_init 0 = .ok (.aload_n 0, 1) := by decide +kernel
theorem dX4_init_1 : decode cX4_init 1 = .ok (.invokespecial 1, 3) := by decide +kernel
theorem dX4_init_4 : decode cX4_init 4 = .ok (.aload_n 0, 1) := by decide +kernel
theorem dX4_init_5 : decode cX4_init 5 = .ok (.new 7, 3) := by decide +kernel
theorem dX4_init_8 : decode cX4_init 8 = .ok (.dup, 1) := by decide +kernel
theorem dX4_init_9 : decode cX4_init 9 = .ok (.invokespecial 9, 3) := by decide +kernel
theorem dX4_init_12 : decode cX4_init 12 = .ok (.putfield 10, 3) := by decide +kernel
theorem dX4_init_15 : decode cX4_init 15 = .ok (.aload_n 0, 1) := by decide +kernel
theorem dX4_init_16 : decode cX4_init 16 = .ok (.new 7, 3) := by decide +kernel
theorem dX4_init_19 : decode cX4_init 19 = .ok (.dup, 1) := by decide +kernel
theorem dX4_init_20 : decode cX4_init 20 = .ok (.invokespecial 9, 3) := by decide +kernel
theorem dX4_init_23 : decode cX4_init 23 = .ok (.putfield 16, 3) := by decide +kernel
theorem dX4_init_26 : decode cX4_init 26 = .ok (.aload_n 0, 1) := by decide +kernel
theorem dX4_init_27 : decode cX4_init 27 = .ok (.new 19, 3) := by decide +kernel
theorem dX4_init_30 : decode cX4_init 30 = .ok (.dup, 1) := by decide +kernel
theorem dX4_init_31 : decode cX4_init 31 = .ok (.invokespecial 21, 3) := by decide +kernel
theorem dX4_init_34 : decode cX4_init 34 = .ok (.putfield 22, 3) := by decide +kernel
theorem dX4_init_37 : decode cX4_init 37 = .ok (.aload_n 0, 1) := by decide +kernel
theorem dX4_init_38 : decode cX4_init 38 = .ok (.new 26, 3) := by decide +kernel
theorem dX4_init_41 : decode cX4_init 41 = .ok (.dup, 1) := by decide +kernel
theorem dX4_init_42 : decode cX4_init 42 = .ok (.invokespecial 28, 3) := by decide +kernel
theorem dX4_init_45 : decode cX4_init 45 = .ok (.putfield 29, 3) := by decide +kernel
theorem dX4_init_48 : decode cX4_init 48 = .ok (.aload_n 0, 1) := by decide +kernel
theorem dX4_init_49 : decode cX4_init 49 = .ok (.new 33, 3) := by decide +kernel
theorem dX4_init_52 : decode cX4_init 52 = .ok (.dup, 1) := by decide +kernel
theorem dX4_init_53 : decode cX4_init 53 = .ok (.invokespecial 35, 3) := by decide +kernel
theorem dX4_init_56 : decode cX4_init 56 = .ok (.putfield 36, 3) := by decide +kernel
theorem dX4_init_59 : decode cX4_init 59 = .ok (.return_, 1) := by decide +kernel
theorem dX4_member_0 : decode cX4_member 0 = .ok (.aload_n 0, 1) := by decide +kernel
theorem dX4_member_1 : decode cX4_member 1 = .ok (.getfield 16, 3) := by decide +kernel
theorem dX4_member_4 : decode cX4_member 4 = .ok (.aload_n 0, 1) := by decide +kernel
theorem dX4_member_5 : decode cX4_member 5 = .ok (.getfield 10, 3) := by decide +kernel
theorem dX4_member_8 : decode cX4_member 8 = .ok (.invokevirtual 40, 3) := by decide +kernel
theorem dX4_member_11 : decode cX4_member 11 = .ok (.aload_n 0, 1) := by decide +kernel
theorem dX4_member_12 : decode cX4_member 12 = .ok (.aload_n 0, 1) := by decide +kernel
theorem dX4_member_13 : decode cX4_member 13 = .ok (.getfield 16, 3) := by decide +kernel
theorem dX4_member_16 : decode cX4_member 16 = .ok (.iload_n 1, 1) := by decide +kernel
theorem dX4_member_17 : decode cX4_member 17 = .ok (.invokevirtual 44, 3) := by decide +kernel
theorem dX4_member_20 : decode cX4_member 20 = .ok (.invokevirtual 48, 3) := by decide +kernel
theorem dX4_member_23 : decode cX4_member 23 = .ok (.ireturn, 1) := by decide +kernel
theorem dX4_use_0 : decode cX4_use 0 = .ok (.aload_n 0, 1) := by decide +kernel
theorem dX4_use_1 : decode cX4_use 1 = .ok (.getfield 16, 3) := by decide +kernel
theorem dX4_use_4 : decode cX4_use 4 = .ok (.aload_n 0, 1) := by decide +kernel
theorem dX4_use_5 : decode cX4_use 5 = .ok (.getfield 10, 3) := by decide +kernel
theorem dX4_use_8 : decode cX4_use 8 = .ok (.invokevirtual 40, 3) := by decide +kernel
theorem dX4_use_11 : decode cX4_use 11 = .ok (.aload_n 0, 1) := by decide +kernel
theorem dX4_use_12 : decode cX4_use 12 = .ok (.aload_n 0, 1) := by decide +kernel
theorem dX4_use_13 : decode cX4_use 13 = .ok (.getfield 16, 3) := by decide +kernel
theorem dX4_use_16 : decode cX4_use 16 = .ok (.iload_n 1, 1) := by decide +kernel
theorem dX4_use_17 : decode cX4_use 17 = .ok (.iload_n 2, 1) := by decide +kernel
theorem dX4_use_18 : decode cX4_use 18 = .ok (.invokevirtual 51, 3) := by decide +kernel
theorem dX4_use_21 : decode cX4_use 21 = .ok (.invokevirtual 48, 3) := by decide +kernel
theorem dX4_use_24 : decode cX4_use 24 = .ok (.ireturn, 1) := by decide +kernel
theorem dX4_close_0 : decode cX4_close 0 = .ok (.aload_n 0, 1) := by decide +kernel
theorem dX4_close_1 : decode cX4_close 1 = .ok (.getfield 16, 3) := by decide +kernel
theorem dX4_close_4 : decode cX4_close 4 = .ok (.aload_n 0, 1) := by decide +kernel
theorem dX4_close_5 : decode cX4_close 5 = .ok (.getfield 10, 3) := by decide +kernel
theorem dX4_close_8 : decode cX4_close 8 = .ok (.invokevirtual 40, 3) := by decide +kernel
theorem dX4_close_11 : decode cX4_close 11 = .ok (.aload_n 0, 1) := by decide +kernel
theorem dX4_close_12 : decode cX4_close 12 = .ok (.aload_n 0, 1) := by decide +kernel
theorem dX4_close_13 : decode cX4_close 13 = .ok (.getfield 16, 3) := by decide +kernel
theorem dX4_close_16 : decode cX4_close 16 = .ok (.invokevirtual 55, 3) := by decide +kernel
theorem dX4_close_19 : decode cX4_close 19 = .ok (.invokevirtual 48, 3) := by decide +kernel
theorem dX4_close_22 : decode cX4_close 22 = .ok (.ireturn, 1) := by decide +kernel
theorem dX4_pay_0 : decode cX4_pay 0 = .ok (.aload_n 0, 1) := by decide +kernel
theorem dX4_pay_1 : decode cX4_pay 1 = .ok (.getfield 16, 3) := by decide +kernel
theorem dX4_pay_4 : decode cX4_pay 4 = .ok (.aload_n 0, 1) := by decide +kernel
theorem dX4_pay_5 : decode cX4_pay 5 = .ok (.getfield 10, 3) := by decide +kernel
theorem dX4_pay_8 : decode cX4_pay 8 = .ok (.invokevirtual 40, 3) := by decide +kernel
theorem dX4_pay_11 : decode cX4_pay 11 = .ok (.aload_n 0, 1) := by decide +kernel
theorem dX4_pay_12 : decode cX4_pay 12 = .ok (.aload_n 0, 1) := by decide +kernel
theorem dX4_pay_13 : decode cX4_pay 13 = .ok (.getfield 16, 3) := by decide +kernel
theorem dX4_pay_16 : decode cX4_pay 16 = .ok (.iload_n 1, 1) := by decide +kernel
theorem dX4_pay_17 : decode cX4_pay 17 = .ok (.iload_n 2, 1) := by decide +kernel
theorem dX4_pay_18 : decode cX4_pay 18 = .ok (.invokevirtual 59, 3) := by decide +kernel
theorem dX4_pay_21 : decode cX4_pay 21 = .ok (.invokevirtual 48, 3) := by decide +kernel
theorem dX4_pay_24 : decode cX4_pay 24 = .ok (.ireturn, 1) := by decide +kernel
theorem dX4_repair_0 : decode cX4_repair 0 = .ok (.aload_n 0, 1) := by decide +kernel
theorem dX4_repair_1 : decode cX4_repair 1 = .ok (.getfield 16, 3) := by decide +kernel
theorem dX4_repair_4 : decode cX4_repair 4 = .ok (.aload_n 0, 1) := by decide +kernel
theorem dX4_repair_5 : decode cX4_repair 5 = .ok (.getfield 10, 3) := by decide +kernel
theorem dX4_repair_8 : decode cX4_repair 8 = .ok (.invokevirtual 40, 3) := by decide +kernel
theorem dX4_repair_11 : decode cX4_repair 11 = .ok (.aload_n 0, 1) := by decide +kernel
theorem dX4_repair_12 : decode cX4_repair 12 = .ok (.aload_n 0, 1) := by decide +kernel
theorem dX4_repair_13 : decode cX4_repair 13 = .ok (.getfield 16, 3) := by decide +kernel
theorem dX4_repair_16 : decode cX4_repair 16 = .ok (.iload_n 1, 1) := by decide +kernel
theorem dX4_repair_17 : decode cX4_repair 17 = .ok (.invokevirtual 62, 3) := by decide +kernel
theorem dX4_repair_20 : decode cX4_repair 20 = .ok (.invokevirtual 48, 3) := by decide +kernel
theorem dX4_repair_23 : decode cX4_repair 23 = .ok (.ireturn, 1) := by decide +kernel
theorem dX4_set_0 : decode cX4_set 0 = .ok (.aload_n 0, 1) := by decide +kernel
theorem dX4_set_1 : decode cX4_set 1 = .ok (.getfield 16, 3) := by decide +kernel
theorem dX4_set_4 : decode cX4_set 4 = .ok (.aload_n 0, 1) := by decide +kernel
theorem dX4_set_5 : decode cX4_set 5 = .ok (.getfield 10, 3) := by decide +kernel
theorem dX4_set_8 : decode cX4_set 8 = .ok (.invokevirtual 40, 3) := by decide +kernel
theorem dX4_set_11 : decode cX4_set 11 = .ok (.aload_n 0, 1) := by decide +kernel
theorem dX4_set_12 : decode cX4_set 12 = .ok (.aload_n 0, 1) := by decide +kernel
theorem dX4_set_13 : decode cX4_set 13 = .ok (.getfield 16, 3) := by decide +kernel
theorem dX4_set_16 : decode cX4_set 16 = .ok (.iload_n 1, 1) := by decide +kernel
theorem dX4_set_17 : decode cX4_set 17 = .ok (.iload_n 2, 1) := by decide +kernel
theorem dX4_set_18 : decode cX4_set 18 = .ok (.invokevirtual 65, 3) := by decide +kernel
theorem dX4_set_21 : decode cX4_set 21 = .ok (.invokevirtual 48, 3) := by decide +kernel
theorem dX4_set_24 : decode cX4_set 24 = .ok (.ireturn, 1) := by decide +kernel
theorem dX4_memberOf_0 : decode cX4_memberOf 0 = .ok (.aload_n 0, 1) := by decide +kernel
theorem dX4_memberOf_1 : decode cX4_memberOf 1 = .ok (.getfield 10, 3) := by decide +kernel
theorem dX4_memberOf_4 : decode cX4_memberOf 4 = .ok (.iload_n 1, 1) := by decide +kernel
theorem dX4_memberOf_5 : decode cX4_memberOf 5 = .ok (.iload_n 2, 1) := by decide +kernel
theorem dX4_memberOf_6 : decode cX4_memberOf 6 = .ok (.invokevirtual 68, 3) := by decide +kernel
theorem dX4_memberOf_9 : decode cX4_memberOf 9 = .ok (.ireturn, 1) := by decide +kernel
theorem dX4_count_0 : decode cX4_count 0 = .ok (.iload_n 1, 1) := by decide +kernel
theorem dX4_count_1 : decode cX4_count 1 = .ok (.bipush 11, 2) := by decide +kernel
theorem dX4_count_3 : decode cX4_count 3 = .ok (.if_icmp .ne 11, 3) := by decide +kernel
theorem dX4_count_6 : decode cX4_count 6 = .ok (.aload_n 0, 1) := by decide +kernel
theorem dX4_count_7 : decode cX4_count 7 = .ok (.getfield 22, 3) := by decide +kernel
theorem dX4_count_10 : decode cX4_count 10 = .ok (.getfield 71, 3) := by decide +kernel
theorem dX4_count_13 : decode cX4_count 13 = .ok (.ireturn, 1) := by decide +kernel
theorem dX4_count_14 : decode cX4_count 14 = .ok (.iload_n 1, 1) := by decide +kernel
theorem dX4_count_15 : decode cX4_count 15 = .ok (.bipush 12, 2) := by decide +kernel
theorem dX4_count_17 : decode cX4_count 17 = .ok (.if_icmp .ne 11, 3) := by decide +kernel
theorem dX4_count_20 : decode cX4_count 20 = .ok (.aload_n 0, 1) := by decide +kernel
theorem dX4_count_21 : decode cX4_count 21 = .ok (.getfield 29, 3) := by decide +kernel
theorem dX4_count_24 : decode cX4_count 24 = .ok (.getfield 75, 3) := by decide +kernel
theorem dX4_count_27 : decode cX4_count 27 = .ok (.ireturn, 1) := by decide +kernel
theorem dX4_count_28 : decode cX4_count 28 = .ok (.aload_n 0, 1) := by decide +kernel
theorem dX4_count_29 : decode cX4_count 29 = .ok (.getfield 10, 3) := by decide +kernel
theorem dX4_count_32 : decode cX4_count 32 = .ok (.iload_n 1, 1) := by decide +kernel
theorem dX4_count_33 : decode cX4_count 33 = .ok (.invokevirtual 76, 3) := by decide +kernel
theorem dX4_count_36 : decode cX4_count 36 = .ok (.ireturn, 1) := by decide +kernel
theorem dX4_seasonOf_0 : decode cX4_seasonOf 0 = .ok (.aload_n 0, 1) := by decide +kernel
theorem dX4_seasonOf_1 : decode cX4_seasonOf 1 = .ok (.getfield 10, 3) := by decide +kernel
theorem dX4_seasonOf_4 : decode cX4_seasonOf 4 = .ok (.iload_n 1, 1) := by decide +kernel
theorem dX4_seasonOf_5 : decode cX4_seasonOf 5 = .ok (.iload_n 2, 1) := by decide +kernel
theorem dX4_seasonOf_6 : decode cX4_seasonOf 6 = .ok (.invokevirtual 79, 3) := by decide +kernel
theorem dX4_seasonOf_9 : decode cX4_seasonOf 9 = .ok (.ireturn, 1) := by decide +kernel
theorem dX4_gain_0 : decode cX4_gain 0 = .ok (.aload_n 0, 1) := by decide +kernel
theorem dX4_gain_1 : decode cX4_gain 1 = .ok (.getfield 10, 3) := by decide +kernel
theorem dX4_gain_4 : decode cX4_gain 4 = .ok (.iload_n 1, 1) := by decide +kernel
theorem dX4_gain_5 : decode cX4_gain 5 = .ok (.iload_n 2, 1) := by decide +kernel
theorem dX4_gain_6 : decode cX4_gain 6 = .ok (.invokevirtual 82, 3) := by decide +kernel
theorem dX4_gain_9 : decode cX4_gain 9 = .ok (.ireturn, 1) := by decide +kernel
theorem dX4_bestUse_0 : decode cX4_bestUse 0 = .ok (.aload_n 0, 1) := by decide +kernel
theorem dX4_bestUse_1 : decode cX4_bestUse 1 = .ok (.getfield 10, 3) := by decide +kernel
theorem dX4_bestUse_4 : decode cX4_bestUse 4 = .ok (.iload_n 1, 1) := by decide +kernel
theorem dX4_bestUse_5 : decode cX4_bestUse 5 = .ok (.invokevirtual 85, 3) := by decide +kernel
theorem dX4_bestUse_8 : decode cX4_bestUse 8 = .ok (.ifCond .eq 14, 3) := by decide +kernel
theorem dX4_bestUse_11 : decode cX4_bestUse 11 = .ok (.aload_n 0, 1) := by decide +kernel
theorem dX4_bestUse_12 : decode cX4_bestUse 12 = .ok (.getfield 10, 3) := by decide +kernel
theorem dX4_bestUse_15 : decode cX4_bestUse 15 = .ok (.iload_n 1, 1) := by decide +kernel
theorem dX4_bestUse_16 : decode cX4_bestUse 16 = .ok (.invokevirtual 89, 3) := by decide +kernel
theorem dX4_bestUse_19 : decode cX4_bestUse 19 = .ok (.goto 6, 3) := by decide +kernel
theorem dX4_bestUse_22 : decode cX4_bestUse 22 = .ok (.sipush (-10001), 3) := by decide +kernel
theorem dX4_bestUse_25 : decode cX4_bestUse 25 = .ok (.ireturn, 1) := by decide +kernel
theorem dX4_calm_0 : decode cX4_calm 0 = .ok (.aload_n 0, 1) := by decide +kernel
theorem dX4_calm_1 : decode cX4_calm 1 = .ok (.getfield 10, 3) := by decide +kernel
theorem dX4_calm_4 : decode cX4_calm 4 = .ok (.iload_n 1, 1) := by decide +kernel
theorem dX4_calm_5 : decode cX4_calm 5 = .ok (.invokevirtual 85, 3) := by decide +kernel
theorem dX4_calm_8 : decode cX4_calm 8 = .ok (.ifCond .ne 18, 3) := by decide +kernel
theorem dX4_calm_11 : decode cX4_calm 11 = .ok (.iload_n 1, 1) := by decide +kernel
theorem dX4_calm_12 : decode cX4_calm 12 = .ok (.iconst (-1), 1) := by decide +kernel
theorem dX4_calm_13 : decode cX4_calm 13 = .ok (.if_icmp .eq 13, 3) := by decide +kernel
theorem dX4_calm_16 : decode cX4_calm 16 = .ok (.iload_n 1, 1) := by decide +kernel
theorem dX4_calm_17 : decode cX4_calm 17 = .ok (.bipush (-2), 2) := by decide +kernel
theorem dX4_calm_19 : decode cX4_calm 19 = .ok (.if_icmp .eq 7, 3) := by decide +kernel
theorem dX4_calm_22 : decode cX4_calm 22 = .ok (.sipush (-10001), 3) := by decide +kernel
theorem dX4_calm_25 : decode cX4_calm 25 = .ok (.ireturn, 1) := by decide +kernel
theorem dX4_calm_26 : decode cX4_calm 26 = .ok (.aload_n 0, 1) := by decide +kernel
theorem dX4_calm_27 : decode cX4_calm 27 = .ok (.getfield 16, 3) := by decide +kernel
theorem dX4_calm_30 : decode cX4_calm 30 = .ok (.aload_n 0, 1) := by decide +kernel
theorem dX4_calm_31 : decode cX4_calm 31 = .ok (.getfield 10, 3) := by decide +kernel
theorem dX4_calm_34 : decode cX4_calm 34 = .ok (.invokevirtual 40, 3) := by decide +kernel
theorem dX4_calm_37 : decode cX4_calm 37 = .ok (.aload_n 0, 1) := by decide +kernel
theorem dX4_calm_38 : decode cX4_calm 38 = .ok (.getfield 16, 3) := by decide +kernel
theorem dX4_calm_41 : decode cX4_calm 41 = .ok (.invokevirtual 92, 3) := by decide +kernel
theorem dX4_calm_44 : decode cX4_calm 44 = .ok (.istore_n 2, 1) := by decide +kernel
theorem dX4_calm_45 : decode cX4_calm 45 = .ok (.iload_n 2, 1) := by decide +kernel
theorem dX4_calm_46 : decode cX4_calm 46 = .ok (.sipush (-10004), 3) := by decide +kernel
theorem dX4_calm_49 : decode cX4_calm 49 = .ok (.if_icmp .eq 9, 3) := by decide +kernel
theorem dX4_calm_52 : decode cX4_calm 52 = .ok (.iload_n 1, 1) := by decide +kernel
theorem dX4_calm_53 : decode cX4_calm 53 = .ok (.bipush (-2), 2) := by decide +kernel
theorem dX4_calm_55 : decode cX4_calm 55 = .ok (.if_icmp .ne 5, 3) := by decide +kernel
theorem dX4_calm_58 : decode cX4_calm 58 = .ok (.iload_n 2, 1) := by decide +kernel
theorem dX4_calm_59 : decode cX4_calm 59 = .ok (.ireturn, 1) := by decide +kernel
theorem dX4_calm_60 : decode cX4_calm 60 = .ok (.aload_n 0, 1) := by decide +kernel
theorem dX4_calm_61 : decode cX4_calm 61 = .ok (.getfield 16, 3) := by decide +kernel
theorem dX4_calm_64 : decode cX4_calm 64 = .ok (.iload_n 1, 1) := by decide +kernel
theorem dX4_calm_65 : decode cX4_calm 65 = .ok (.invokevirtual 85, 3) := by decide +kernel
theorem dX4_calm_68 : decode cX4_calm 68 = .ok (.ifCond .eq 15, 3) := by decide +kernel
theorem dX4_calm_71 : decode cX4_calm 71 = .ok (.aload_n 0, 1) := by decide +kernel
theorem dX4_calm_72 : decode cX4_calm 72 = .ok (.getfield 16, 3) := by decide +kernel
theorem dX4_calm_75 : decode cX4_calm 75 = .ok (.getfield 95, 3) := by decide +kernel
theorem dX4_calm_78 : decode cX4_calm 78 = .ok (.iload_n 1, 1) := by decide +kernel
theorem dX4_calm_79 : decode cX4_calm 79 = .ok (.iaload, 1) := by decide +kernel
theorem dX4_calm_80 : decode cX4_calm 80 = .ok (.goto 10, 3) := by decide +kernel
theorem dX4_calm_83 : decode cX4_calm 83 = .ok (.aload_n 0, 1) := by decide +kernel
theorem dX4_calm_84 : decode cX4_calm 84 = .ok (.getfield 16, 3) := by decide +kernel
theorem dX4_calm_87 : decode cX4_calm 87 = .ok (.invokevirtual 99, 3) := by decide +kernel
theorem dX4_calm_90 : decode cX4_calm 90 = .ok (.ireturn, 1) := by decide +kernel
theorem dX4_bestForAll_0 : decode cX4_bestForAll 0 = .ok (.iload_n 1, 1) := by decide +kernel
theorem dX4_bestForAll_1 : decode cX4_bestForAll 1 = .ok (.ifCond .eq 12, 3) := by decide +kernel
theorem dX4_bestForAll_4 : decode cX4_bestForAll 4 = .ok (.iload_n 1, 1) := by decide +kernel
theorem dX4_bestForAll_5 : decode cX4_bestForAll 5 = .ok (.iconst 1, 1) := by decide +kernel
theorem dX4_bestForAll_6 : decode cX4_bestForAll 6 = .ok (.if_icmp .eq 7, 3) := by decide +kernel
theorem dX4_bestForAll_9 : decode cX4_bestForAll 9 = .ok (.sipush (-10001), 3) := by decide +kernel
theorem dX4_bestForAll_12 : decode cX4_bestForAll 12 = .ok (.ireturn, 1) := by decide +kernel
theorem dX4_bestForAll_13 : decode cX4_bestForAll 13 = .ok (.aload_n 0, 1) := by decide +kernel
theorem dX4_bestForAll_14 : decode cX4_bestForAll 14 = .ok (.getfield 16, 3) := by decide +kernel
theorem dX4_bestForAll_17 : decode cX4_bestForAll 17 = .ok (.aload_n 0, 1) := by decide +kernel
theorem dX4_bestForAll_18 : decode cX4_bestForAll 18 = .ok (.getfield 10, 3) := by decide +kernel
theorem dX4_bestForAll_21 : decode cX4_bestForAll 21 = .ok (.invokevirtual 40, 3) := by decide +kernel
theorem dX4_bestForAll_24 : decode cX4_bestForAll 24 = .ok (.aload_n 0, 1) := by decide +kernel
theorem dX4_bestForAll_25 : decode cX4_bestForAll 25 = .ok (.getfield 16, 3) := by decide +kernel
theorem dX4_bestForAll_28 : decode cX4_bestForAll 28 = .ok (.invokevirtual 102, 3) := by decide +kernel
theorem dX4_bestForAll_31 : decode cX4_bestForAll 31 = .ok (.istore_n 2, 1) := by decide +kernel
theorem dX4_bestForAll_32 : decode cX4_bestForAll 32 = .ok (.iload_n 1, 1) := by decide +kernel
theorem dX4_bestForAll_33 : decode cX4_bestForAll 33 = .ok (.ifCond .ne 13, 3) := by decide +kernel
theorem dX4_bestForAll_36 : decode cX4_bestForAll 36 = .ok (.aload_n 0, 1) := by decide +kernel
theorem dX4_bestForAll_37 : decode cX4_bestForAll 37 = .ok (.getfield 16, 3) := by decide +kernel
theorem dX4_bestForAll_40 : decode cX4_bestForAll 40 = .ok (.invokevirtual 99, 3) := by decide +kernel
theorem dX4_bestForAll_43 : decode cX4_bestForAll 43 = .ok (.goto 4, 3) := by decide +kernel
theorem dX4_bestForAll_46 : decode cX4_bestForAll 46 = .ok (.iload_n 2, 1) := by decide +kernel
theorem dX4_bestForAll_47 : decode cX4_bestForAll 47 = .ok (.ireturn, 1) := by decide +kernel
theorem dX4_wouldExclude_0 : decode cX4_wouldExclude 0 = .ok (.aload_n 0, 1) := by decide +kernel
theorem dX4_wouldExclude_1 : decode cX4_wouldExclude 1 = .ok (.getfield 16, 3) := by decide +kernel
theorem dX4_wouldExclude_4 : decode cX4_wouldExclude 4 = .ok (.aload_n 0, 1) := by decide +kernel
theorem dX4_wouldExclude_5 : decode cX4_wouldExclude 5 = .ok (.getfield 10, 3) := by decide +kernel
theorem dX4_wouldExclude_8 : decode cX4_wouldExclude 8 = .ok (.invokevirtual 40, 3) := by decide +kernel
theorem dX4_wouldExclude_11 : decode cX4_wouldExclude 11 = .ok (.aload_n 0, 1) := by decide +kernel
theorem dX4_wouldExclude_12 : decode cX4_wouldExclude 12 = .ok (.getfield 16, 3) := by decide +kernel
theorem dX4_wouldExclude_15 : decode cX4_wouldExclude 15 = .ok (.invokevirtual 105, 3) := by decide +kernel
theorem dX4_wouldExclude_18 : decode cX4_wouldExclude 18 = .ok (.pop, 1) := by decide +kernel
theorem dX4_wouldExclude_19 : decode cX4_wouldExclude 19 = .ok (.aload_n 0, 1) := by decide +kernel
theorem dX4_wouldExclude_20 : decode cX4_wouldExclude 20 = .ok (.getfield 16, 3) := by decide +kernel
theorem dX4_wouldExclude_23 : decode cX4_wouldExclude 23 = .ok (.getfield 108, 3) := by decide +kernel
theorem dX4_wouldExclude_26 : decode cX4_wouldExclude 26 = .ok (.ireturn, 1) := by decide +kernel
theorem dX4_canRepair_0 : decode cX4_canRepair 0 = .ok (.aload_n 0, 1) := by decide +kernel
theorem dX4_canRepair_1 : decode cX4_canRepair 1 = .ok (.getfield 10, 3) := by decide +kernel
theorem dX4_canRepair_4 : decode cX4_canRepair 4 = .ok (.invokevirtual 111, 3) := by decide +kernel
theorem dX4_canRepair_7 : decode cX4_canRepair 7 = .ok (.ireturn, 1) := by decide +kernel
theorem dX4_undo_0 : decode cX4_undo 0 = .ok (.aload_n 0, 1) := by decide +kernel
theorem dX4_undo_1 : decode cX4_undo 1 = .ok (.getfield 22, 3) := by decide +kernel
theorem dX4_undo_4 : decode cX4_undo 4 = .ok (.getfield 71, 3) := by decide +kernel
theorem dX4_undo_7 : decode cX4_undo 7 = .ok (.ifCond .ne 7, 3) := by decide +kernel
theorem dX4_undo_10 : decode cX4_undo 10 = .ok (.sipush (-10002), 3) := by decide +kernel
theorem dX4_undo_13 : decode cX4_undo 13 = .ok (.ireturn, 1) := by decide +kernel
theorem dX4_undo_14 : decode cX4_undo 14 = .ok (.aload_n 0, 1) := by decide +kernel
theorem dX4_undo_15 : decode cX4_undo 15 = .ok (.getfield 22, 3) := by decide +kernel
theorem dX4_undo_18 : decode cX4_undo 18 = .ok (.aload_n 0, 1) := by decide +kernel
theorem dX4_undo_19 : decode cX4_undo 19 = .ok (.getfield 10, 3) := by decide +kernel
theorem dX4_undo_22 : decode cX4_undo 22 = .ok (.invokevirtual 114, 3) := by decide +kernel
theorem dX4_undo_25 : decode cX4_undo 25 = .ok (.aload_n 0, 1) := by decide +kernel
theorem dX4_undo_26 : decode cX4_undo 26 = .ok (.getfield 22, 3) := by decide +kernel
theorem dX4_undo_29 : decode cX4_undo 29 = .ok (.getfield 71, 3) := by decide +kernel
theorem dX4_undo_32 : decode cX4_undo 32 = .ok (.ireturn, 1) := by decide +kernel
theorem dX4_type_0 : decode cX4_type 0 = .ok (.aload_n 0, 1) := by decide +kernel
theorem dX4_type_1 : decode cX4_type 1 = .ok (.getfield 29, 3) := by decide +kernel
theorem dX4_type_4 : decode cX4_type 4 = .ok (.iload_n 1, 1) := by decide +kernel
theorem dX4_type_5 : decode cX4_type 5 = .ok (.invokevirtual 117, 3) := by decide +kernel
theorem dX4_type_8 : decode cX4_type 8 = .ok (.ireturn, 1) := by decide +kernel
theorem dX4_clearText_0 : decode cX4_clearText 0 = .ok (.aload_n 0, 1) := by decide +kernel
theorem dX4_clearText_1 : decode cX4_clearText 1 = .ok (.getfield 29, 3) := by decide +kernel
theorem dX4_clearText_4 : decode cX4_clearText 4 = .ok (.getfield 75, 3) := by decide +kernel
theorem dX4_clearText_7 : decode cX4_clearText 7 = .ok (.istore_n 1, 1) := by decide +kernel
theorem dX4_clearText_8 : decode cX4_clearText 8 = .ok (.aload_n 0, 1) := by decide +kernel
theorem dX4_clearText_9 : decode cX4_clearText 9 = .ok (.getfield 29, 3) := by decide +kernel
theorem dX4_clearText_12 : decode cX4_clearText 12 = .ok (.iconst 0, 1) := by decide +kernel
theorem dX4_clearText_13 : decode cX4_clearText 13 = .ok (.putfield 75, 3) := by decide +kernel
theorem dX4_clearText_16 : decode cX4_clearText 16 = .ok (.iload_n 1, 1) := by decide +kernel
theorem dX4_clearText_17 : decode cX4_clearText 17 = .ok (.ireturn, 1) := by decide +kernel
theorem dX4_fault_0 : decode cX4_fault 0 = .ok (.iload_n 1, 1) := by decide +kernel
theorem dX4_fault_1 : decode cX4_fault 1 = .ok (.ifCond .lt 8, 3) := by decide +kernel
theorem dX4_fault_4 : decode cX4_fault 4 = .ok (.iload_n 1, 1) := by decide +kernel
theorem dX4_fault_5 : decode cX4_fault 5 = .ok (.iconst 2, 1) := by decide +kernel
theorem dX4_fault_6 : decode cX4_fault 6 = .ok (.if_icmp .le 7, 3) := by decide +kernel
theorem dX4_fault_9 : decode cX4_fault 9 = .ok (.sipush (-10001), 3) := by decide +kernel
theorem dX4_fault_12 : decode cX4_fault 12 = .ok (.ireturn, 1) := by decide +kernel
theorem dX4_fault_13 : decode cX4_fault 13 = .ok (.aload_n 0, 1) := by decide +kernel
theorem dX4_fault_14 : decode cX4_fault 14 = .ok (.invokevirtual 120, 3) := by decide +kernel
theorem dX4_fault_17 : decode cX4_fault 17 = .ok (.aload_n 0, 1) := by decide +kernel
theorem dX4_fault_18 : decode cX4_fault 18 = .ok (.getfield 36, 3) := by decide +kernel
theorem dX4_fault_21 : decode cX4_fault 21 = .ok (.getfield 123, 3) := by decide +kernel
theorem dX4_fault_24 : decode cX4_fault 24 = .ok (.ifCond .ne 7, 3) := by decide +kernel
theorem dX4_fault_27 : decode cX4_fault 27 = .ok (.sipush (-10004), 3) := by decide +kernel
theorem dX4_fault_30 : decode cX4_fault 30 = .ok (.ireturn, 1) := by decide +kernel
theorem dX4_fault_31 : decode cX4_fault 31 = .ok (.iload_n 1, 1) := by decide +kernel
theorem dX4_fault_32 : decode cX4_fault 32 = .ok (.ifCond .ne 11, 3) := by decide +kernel
theorem dX4_fault_35 : decode cX4_fault 35 = .ok (.aload_n 0, 1) := by decide +kernel
theorem dX4_fault_36 : decode cX4_fault 36 = .ok (.getfield 36, 3) := by decide +kernel
theorem dX4_fault_39 : decode cX4_fault 39 = .ok (.getfield 126, 3) := by decide +kernel
theorem dX4_fault_42 : decode cX4_fault 42 = .ok (.ireturn, 1) := by decide +kernel
theorem dX4_fault_43 : decode cX4_fault 43 = .ok (.iload_n 1, 1) := by decide +kernel
theorem dX4_fault_44 : decode cX4_fault 44 = .ok (.iconst 1, 1) := by decide +kernel
theorem dX4_fault_45 : decode cX4_fault 45 = .ok (.if_icmp .ne 11, 3) := by decide +kernel
theorem dX4_fault_48 : decode cX4_fault 48 = .ok (.aload_n 0, 1) := by decide +kernel
theorem dX4_fault_49 : decode cX4_fault 49 = .ok (.getfield 36, 3) := by decide +kernel
theorem dX4_fault_52 : decode cX4_fault 52 = .ok (.getfield 123, 3) := by decide +kernel
theorem dX4_fault_55 : decode cX4_fault 55 = .ok (.ireturn, 1) := by decide +kernel
theorem dX4_fault_56 : decode cX4_fault 56 = .ok (.aload_n 0, 1) := by decide +kernel
theorem dX4_fault_57 : decode cX4_fault 57 = .ok (.getfield 36, 3) := by decide +kernel
theorem dX4_fault_60 : decode cX4_fault 60 = .ok (.getfield 123, 3) := by decide +kernel
theorem dX4_fault_63 : decode cX4_fault 63 = .ok (.iconst 1, 1) := by decide +kernel
theorem dX4_fault_64 : decode cX4_fault 64 = .ok (.if_icmp .ne 9, 3) := by decide +kernel
theorem dX4_fault_67 : decode cX4_fault 67 = .ok (.sipush (-10004), 3) := by decide +kernel
theorem dX4_fault_70 : decode cX4_fault 70 = .ok (.goto 10, 3) := by decide +kernel
theorem dX4_fault_73 : decode cX4_fault 73 = .ok (.aload_n 0, 1) := by decide +kernel
theorem dX4_fault_74 : decode cX4_fault 74 = .ok (.getfield 36, 3) := by decide +kernel
theorem dX4_fault_77 : decode cX4_fault 77 = .ok (.getfield 129, 3) := by decide +kernel
theorem dX4_fault_80 : decode cX4_fault 80 = .ok (.ireturn, 1) := by decide +kernel
theorem dX4_play_0 : decode cX4_play 0 = .ok (.aload_n 0, 1) := by decide +kernel
theorem dX4_play_1 : decode cX4_play 1 = .ok (.invokevirtual 120, 3) := by decide +kernel
theorem dX4_play_4 : decode cX4_play 4 = .ok (.aload_n 0, 1) := by decide +kernel
theorem dX4_play_5 : decode cX4_play 5 = .ok (.aload_n 0, 1) := by decide +kernel
theorem dX4_play_6 : decode cX4_play 6 = .ok (.getfield 36, 3) := by decide +kernel
theorem dX4_play_9 : decode cX4_play 9 = .ok (.getfield 123, 3) := by decide +kernel
theorem dX4_play_12 : decode cX4_play 12 = .ok (.ifCond .ne 13, 3) := by decide +kernel
theorem dX4_play_15 : decode cX4_play 15 = .ok (.aload_n 0, 1) := by decide +kernel
theorem dX4_play_16 : decode cX4_play 16 = .ok (.getfield 36, 3) := by decide +kernel
theorem dX4_play_19 : decode cX4_play 19 = .ok (.getfield 132, 3) := by decide +kernel
theorem dX4_play_22 : decode cX4_play 22 = .ok (.goto 6, 3) := by decide +kernel
theorem dX4_play_25 : decode cX4_play 25 = .ok (.sipush (-10002), 3) := by decide +kernel
theorem dX4_play_28 : decode cX4_play 28 = .ok (.invokevirtual 48, 3) := by decide +kernel
theorem dX4_play_31 : decode cX4_play 31 = .ok (.ireturn, 1) := by decide +kernel
theorem dX4_keptIfDone_0 : decode cX4_keptIfDone 0 = .ok (.iload_n 1, 1) := by decide +kernel
theorem dX4_keptIfDone_1 : decode cX4_keptIfDone 1 = .ok (.ifCond .lt 25, 3) := by decide +kernel
theorem dX4_keptIfDone_4 : decode cX4_keptIfDone 4 = .ok (.aload_n 0, 1) := by decide +kernel
theorem dX4_keptIfDone_5 : decode cX4_keptIfDone 5 = .ok (.getfield 22, 3) := by decide +kernel
theorem dX4_keptIfDone_8 : decode cX4_keptIfDone 8 = .ok (.aload_n 0, 1) := by decide +kernel
theorem dX4_keptIfDone_9 : decode cX4_keptIfDone 9 = .ok (.getfield 10, 3) := by decide +kernel
theorem dX4_keptIfDone_12 : decode cX4_keptIfDone 12 = .ok (.invokevirtual 135, 3) := by decide +kernel
theorem dX4_keptIfDone_15 : decode cX4_keptIfDone 15 = .ok (.aload_n 0, 1) := by decide +kernel
theorem dX4_keptIfDone_16 : decode cX4_keptIfDone 16 = .ok (.getfield 10, 3) := by decide +kernel
theorem dX4_keptIfDone_19 : decode cX4_keptIfDone 19 = .ok (.aload_n 0, 1) := by decide +kernel
theorem dX4_keptIfDone_20 : decode cX4_keptIfDone 20 = .ok (.getfield 16, 3) := by decide +kernel
theorem dX4_keptIfDone_23 : decode cX4_keptIfDone 23 = .ok (.invokevirtual 40, 3) := by decide +kernel
theorem dX4_keptIfDone_26 : decode cX4_keptIfDone 26 = .ok (.iload_n 1, 1) := by decide +kernel
theorem dX4_keptIfDone_27 : decode cX4_keptIfDone 27 = .ok (.ireturn, 1) := by decide +kernel
theorem dX4_rehearse_0 : decode cX4_rehearse 0 = .ok (.aload_n 0, 1) := by decide +kernel
theorem dX4_rehearse_1 : decode cX4_rehearse 1 = .ok (.getfield 16, 3) := by decide +kernel
theorem dX4_rehearse_4 : decode cX4_rehearse 4 = .ok (.aload_n 0, 1) := by decide +kernel
theorem dX4_rehearse_5 : decode cX4_rehearse 5 = .ok (.getfield 10, 3) := by decide +kernel
theorem dX4_rehearse_8 : decode cX4_rehearse 8 = .ok (.invokevirtual 40, 3) := by decide +kernel
theorem dX4_rehearse_11 : decode cX4_rehearse 11 = .ok (.aload_n 0, 1) := by decide +kernel
theorem dX4_rehearse_12 : decode cX4_rehearse 12 = .ok (.getfield 36, 3) := by decide +kernel
theorem dX4_rehearse_15 : decode cX4_rehearse 15 = .ok (.invokevirtual 138, 3) := by decide +kernel
theorem dX4_rehearse_18 : decode cX4_rehearse 18 = .ok (.aload_n 0, 1) := by decide +kernel
theorem dX4_rehearse_19 : decode cX4_rehearse 19 = .ok (.getfield 29, 3) := by decide +kernel
theorem dX4_rehearse_22 : decode cX4_rehearse 22 = .ok (.iconst 0, 1) := by decide +kernel
theorem dX4_rehearse_23 : decode cX4_rehearse 23 = .ok (.putfield 141, 3) := by decide +kernel
theorem dX4_rehearse_26 : decode cX4_rehearse 26 = .ok (.iconst 0, 1) := by decide +kernel
theorem dX4_rehearse_27 : decode cX4_rehearse 27 = .ok (.istore_n 1, 1) := by decide +kernel
theorem dX4_rehearse_28 : decode cX4_rehearse 28 = .ok (.iload_n 1, 1) := by decide +kernel
theorem dX4_rehearse_29 : decode cX4_rehearse 29 = .ok (.bipush 60, 2) := by decide +kernel
theorem dX4_rehearse_31 : decode cX4_rehearse 31 = .ok (.if_icmp .ge 74, 3) := by decide +kernel
theorem dX4_rehearse_34 : decode cX4_rehearse 34 = .ok (.aload_n 0, 1) := by decide +kernel
theorem dX4_rehearse_35 : decode cX4_rehearse 35 = .ok (.getfield 29, 3) := by decide +kernel
theorem dX4_rehearse_38 : decode cX4_rehearse 38 = .ok (.getfield 141, 3) := by decide +kernel
theorem dX4_rehearse_41 : decode cX4_rehearse 41 = .ok (.aload_n 0, 1) := by decide +kernel
theorem dX4_rehearse_42 : decode cX4_rehearse 42 = .ok (.getfield 29, 3) := by decide +kernel
theorem dX4_rehearse_45 : decode cX4_rehearse 45 = .ok (.getfield 75, 3) := by decide +kernel
theorem dX4_rehearse_48 : decode cX4_rehearse 48 = .ok (.if_icmp .ge 57, 3) := by decide +kernel
theorem dX4_rehearse_51 : decode cX4_rehearse 51 = .ok (.aload_n 0, 1) := by decide +kernel
theorem dX4_rehearse_52 : decode cX4_rehearse 52 = .ok (.getfield 36, 3) := by decide +kernel
theorem dX4_rehearse_55 : decode cX4_rehearse 55 = .ok (.aload_n 0, 1) := by decide +kernel
theorem dX4_rehearse_56 : decode cX4_rehearse 56 = .ok (.getfield 29, 3) := by decide +kernel
theorem dX4_rehearse_59 : decode cX4_rehearse 59 = .ok (.getfield 141, 3) := by decide +kernel
theorem dX4_rehearse_62 : decode cX4_rehearse 62 = .ok (.putfield 126, 3) := by decide +kernel
theorem dX4_rehearse_65 : decode cX4_rehearse 65 = .ok (.aload_n 0, 1) := by decide +kernel
theorem dX4_rehearse_66 : decode cX4_rehearse 66 = .ok (.getfield 29, 3) := by decide +kernel
theorem dX4_rehearse_69 : decode cX4_rehearse 69 = .ok (.invokevirtual 144, 3) := by decide +kernel
theorem dX4_rehearse_72 : decode cX4_rehearse 72 = .ok (.ifCond .ne 12, 3) := by decide +kernel
theorem dX4_rehearse_75 : decode cX4_rehearse 75 = .ok (.aload_n 0, 1) := by decide +kernel
theorem dX4_rehearse_76 : decode cX4_rehearse 76 = .ok (.getfield 36, 3) := by decide +kernel
theorem dX4_rehearse_79 : decode cX4_rehearse 79 = .ok (.iconst 1, 1) := by decide +kernel
theorem dX4_rehearse_80 : decode cX4_rehearse 80 = .ok (.putfield 123, 3) := by decide +kernel
theorem dX4_rehearse_83 : decode cX4_rehearse 83 = .ok (.return_, 1) := by decide +kernel
theorem dX4_rehearse_84 : decode cX4_rehearse 84 = .ok (.aload_n 0, 1) := by decide +kernel
theorem dX4_rehearse_85 : decode cX4_rehearse 85 = .ok (.getfield 36, 3) := by decide +kernel
theorem dX4_rehearse_88 : decode cX4_rehearse 88 = .ok (.aload_n 0, 1) := by decide +kernel
theorem dX4_rehearse_89 : decode cX4_rehearse 89 = .ok (.invokevirtual 148, 3) := by decide +kernel
theorem dX4_rehearse_92 : decode cX4_rehearse 92 = .ok (.invokevirtual 151, 3) := by decide +kernel
theorem dX4_rehearse_95 : decode cX4_rehearse 95 = .ok (.ifCond .eq 4, 3) := by decide +kernel
theorem dX4_rehearse_98 : decode cX4_rehearse 98 = .ok (.return_, 1) := by decide +kernel
theorem dX4_rehearse_99 : decode cX4_rehearse 99 = .ok (.iinc 1 1, 3) := by decide +kernel
theorem dX4_rehearse_102 : decode cX4_rehearse 102 = .ok (.goto (-74), 3) := by decide +kernel
theorem dX4_rehearse_105 : decode cX4_rehearse 105 = .ok (.return_, 1) := by decide +kernel
theorem dX4_commandOnTrial_0 : decode cX4_commandOnTrial 0 = .ok (.aload_n 0, 1) := by decide +kernel
theorem dX4_commandOnTrial_1 : decode cX4_commandOnTrial 1 = .ok (.getfield 29, 3) := by decide +kernel
theorem dX4_commandOnTrial_4 : decode cX4_commandOnTrial 4 = .ok (.getfield 154, 3) := by decide +kernel
theorem dX4_commandOnTrial_7 : decode cX4_commandOnTrial 7 = .ok (.lookupswitch 131 #[(99, 86), (109, 49), (112, 94), (114, 116), (117, 64)], 49) := by decide +kernel
theorem dX4_commandOnTrial_56 : decode cX4_commandOnTrial 56 = .ok (.aload_n 0, 1) := by decide +kernel
theorem dX4_commandOnTrial_57 : decode cX4_commandOnTrial 57 = .ok (.getfield 16, 3) := by decide +kernel
theorem dX4_commandOnTrial_60 : decode cX4_commandOnTrial 60 = .ok (.aload_n 0, 1) := by decide +kernel
theorem dX4_commandOnTrial_61 : decode cX4_commandOnTrial 61 = .ok (.getfield 29, 3) := by decide +kernel
theorem dX4_commandOnTrial_64 : decode cX4_commandOnTrial 64 = .ok (.getfield 157, 3) := by decide +kernel
theorem dX4_commandOnTrial_67 : decode cX4_commandOnTrial 67 = .ok (.invokevirtual 44, 3) := by decide +kernel
theorem dX4_commandOnTrial_70 : decode cX4_commandOnTrial 70 = .ok (.ireturn, 1) := by decide +kernel
theorem dX4_commandOnTrial_71 : decode cX4_commandOnTrial 71 = .ok (.aload_n 0, 1) := by decide +kernel
theorem dX4_commandOnTrial_72 : decode cX4_commandOnTrial 72 = .ok (.getfield 16, 3) := by decide +kernel
theorem dX4_commandOnTrial_75 : decode cX4_commandOnTrial 75 = .ok (.aload_n 0, 1) := by decide +kernel
theorem dX4_commandOnTrial_76 : decode cX4_commandOnTrial 76 = .ok (.getfield 29, 3) := by decide +kernel
theorem dX4_commandOnTrial_79 : decode cX4_commandOnTrial 79 = .ok (.getfield 157, 3) := by decide +kernel
theorem dX4_commandOnTrial_82 : decode cX4_commandOnTrial 82 = .ok (.aload_n 0, 1) := by decide +kernel
theorem dX4_commandOnTrial_83 : decode cX4_commandOnTrial 83 = .ok (.getfield 29, 3) := by decide +kernel
theorem dX4_commandOnTrial_86 : decode cX4_commandOnTrial 86 = .ok (.getfield 160, 3) := by decide +kernel
theorem dX4_commandOnTrial_89 : decode cX4_commandOnTrial 89 = .ok (.invokevirtual 51, 3) := by decide +kernel
theorem dX4_commandOnTrial_92 : decode cX4_commandOnTrial 92 = .ok (.ireturn, 1) := by decide +kernel
theorem dX4_commandOnTrial_93 : decode cX4_commandOnTrial 93 = .ok (.aload_n 0, 1) := by decide +kernel
theorem dX4_commandOnTrial_94 : decode cX4_commandOnTrial 94 = .ok (.getfield 16, 3) := by decide +kernel
theorem dX4_commandOnTrial_97 : decode cX4_commandOnTrial 97 = .ok (.invokevirtual 55, 3) := by decide +kernel
theorem dX4_commandOnTrial_100 : decode cX4_commandOnTrial 100 = .ok (.ireturn, 1) := by decide +kernel
theorem dX4_commandOnTrial_101 : decode cX4_commandOnTrial 101 = .ok (.aload_n 0, 1) := by decide +kernel
theorem dX4_commandOnTrial_102 : decode cX4_commandOnTrial 102 = .ok (.getfield 16, 3) := by decide +kernel
theorem dX4_commandOnTrial_105 : decode cX4_commandOnTrial 105 = .ok (.aload_n 0, 1) := by decide +kernel
theorem dX4_commandOnTrial_106 : decode cX4_commandOnTrial 106 = .ok (.getfield 29, 3) := by decide +kernel
theorem dX4_commandOnTrial_109 : decode cX4_commandOnTrial 109 = .ok (.getfield 157, 3) := by decide +kernel
theorem dX4_commandOnTrial_112 : decode cX4_commandOnTrial 112 = .ok (.aload_n 0, 1) := by decide +kernel
theorem dX4_commandOnTrial_113 : decode cX4_commandOnTrial 113 = .ok (.getfield 29, 3) := by decide +kernel
theorem dX4_commandOnTrial_116 : decode cX4_commandOnTrial 116 = .ok (.getfield 160, 3) := by decide +kernel
theorem dX4_commandOnTrial_119 : decode cX4_commandOnTrial 119 = .ok (.invokevirtual 59, 3) := by decide +kernel
theorem dX4_commandOnTrial_122 : decode cX4_commandOnTrial 122 = .ok (.ireturn, 1) := by decide +kernel
theorem dX4_commandOnTrial_123 : decode cX4_commandOnTrial 123 = .ok (.aload_n 0, 1) := by decide +kernel
theorem dX4_commandOnTrial_124 : decode cX4_commandOnTrial 124 = .ok (.getfield 16, 3) := by decide +kernel
theorem dX4_commandOnTrial_127 : decode cX4_commandOnTrial 127 = .ok (.aload_n 0, 1) := by decide +kernel
theorem dX4_commandOnTrial_128 : decode cX4_commandOnTrial 128 = .ok (.getfield 29, 3) := by decide +kernel
theorem dX4_commandOnTrial_131 : decode cX4_commandOnTrial 131 = .ok (.getfield 157, 3) := by decide +kernel
theorem dX4_commandOnTrial_134 : decode cX4_commandOnTrial 134 = .ok (.invokevirtual 62, 3) := by decide +kernel
theorem dX4_commandOnTrial_137 : decode cX4_commandOnTrial 137 = .ok (.ireturn, 1) := by decide +kernel
theorem dX4_commandOnTrial_138 : decode cX4_commandOnTrial 138 = .ok (.sipush (-10002), 3) := by decide +kernel
theorem dX4_commandOnTrial_141 : decode cX4_commandOnTrial 141 = .ok (.ireturn, 1) := by decide +kernel
theorem dX4_isUnits_0 : decode cX4_isUnits 0 = .ok (.iload_n 0, 1) := by decide +kernel
theorem dX4_isUnits_1 : decode cX4_isUnits 1 = .ok (.ifCond .lt 13, 3) := by decide +kernel
theorem dX4_isUnits_4 : decode cX4_isUnits 4 = .ok (.iload_n 0, 1) := by decide +kernel
theorem dX4_isUnits_5 : decode cX4_isUnits 5 = .ok (.bipush 20, 2) := by decide +kernel
theorem dX4_isUnits_7 : decode cX4_isUnits 7 = .ok (.if_icmp .gt 7, 3) := by decide +kernel
theorem dX4_isUnits_10 : decode cX4_isUnits 10 = .ok (.iconst 1, 1) := by decide +kernel
theorem dX4_isUnits_11 : decode cX4_isUnits 11 = .ok (.goto 4, 3) := by decide +kernel
theorem dX4_isUnits_14 : decode cX4_isUnits 14 = .ok (.iconst 0, 1) := by decide +kernel
theorem dX4_isUnits_15 : decode cX4_isUnits 15 = .ok (.ireturn, 1) := by decide +kernel
theorem dX4_quotient_0 : decode cX4_quotient 0 = .ok (.iload_n 1, 1) := by decide +kernel
theorem dX4_quotient_1 : decode cX4_quotient 1 = .ok (.iconst 1, 1) := by decide +kernel
theorem dX4_quotient_2 : decode cX4_quotient 2 = .ok (.if_icmp .ge 7, 3) := by decide +kernel
theorem dX4_quotient_5 : decode cX4_quotient 5 = .ok (.iconst 0, 1) := by decide +kernel
theorem dX4_quotient_6 : decode cX4_quotient 6 = .ok (.goto 6, 3) := by decide +kernel
theorem dX4_quotient_9 : decode cX4_quotient 9 = .ok (.iload_n 0, 1) := by decide +kernel
theorem dX4_quotient_10 : decode cX4_quotient 10 = .ok (.iload_n 1, 1) := by decide +kernel
theorem dX4_quotient_11 : decode cX4_quotient 11 = .ok (.idiv, 1) := by decide +kernel
theorem dX4_quotient_12 : decode cX4_quotient 12 = .ok (.ireturn, 1) := by decide +kernel
theorem dX4_copyRow_0 : decode cX4_copyRow 0 = .ok (.aload_n 0, 1) := by decide +kernel
theorem dX4_copyRow_1 : decode cX4_copyRow 1 = .ok (.iconst 0, 1) := by decide +kernel
theorem dX4_copyRow_2 : decode cX4_copyRow 2 = .ok (.aload_n 1, 1) := by decide +kernel
theorem dX4_copyRow_3 : decode cX4_copyRow 3 = .ok (.iconst 0, 1) := by decide +kernel
theorem dX4_copyRow_4 : decode cX4_copyRow 4 = .ok (.aload_n 0, 1) := by decide +kernel
theorem dX4_copyRow_5 : decode cX4_copyRow 5 = .ok (.arraylength, 1) := by decide +kernel
theorem dX4_copyRow_6 : decode cX4_copyRow 6 = .ok (.aload_n 1, 1) := by decide +kernel
theorem dX4_copyRow_7 : decode cX4_copyRow 7 = .ok (.arraylength, 1) := by decide +kernel
theorem dX4_copyRow_8 : decode cX4_copyRow 8 = .ok (.invokestatic 163, 3) := by decide +kernel
theorem dX4_copyRow_11 : decode cX4_copyRow 11 = .ok (.invokestatic 168, 3) := by decide +kernel
theorem dX4_copyRow_14 : decode cX4_copyRow 14 = .ok (.return_, 1) := by decide +kernel
theorem dX4_sumOf_0 : decode cX4_sumOf 0 = .ok (.iconst 0, 1) := by decide +kernel
theorem dX4_sumOf_1 : decode cX4_sumOf 1 = .ok (.istore_n 1, 1) := by decide +kernel
theorem dX4_sumOf_2 : decode cX4_sumOf 2 = .ok (.iconst 0, 1) := by decide +kernel
theorem dX4_sumOf_3 : decode cX4_sumOf 3 = .ok (.istore_n 2, 1) := by decide +kernel
theorem dX4_sumOf_4 : decode cX4_sumOf 4 = .ok (.iload_n 2, 1) := by decide +kernel
theorem dX4_sumOf_5 : decode cX4_sumOf 5 = .ok (.aload_n 0, 1) := by decide +kernel
theorem dX4_sumOf_6 : decode cX4_sumOf 6 = .ok (.arraylength, 1) := by decide +kernel
theorem dX4_sumOf_7 : decode cX4_sumOf 7 = .ok (.if_icmp .ge 15, 3) := by decide +kernel
theorem dX4_sumOf_10 : decode cX4_sumOf 10 = .ok (.iload_n 1, 1) := by decide +kernel
theorem dX4_sumOf_11 : decode cX4_sumOf 11 = .ok (.aload_n 0, 1) := by decide +kernel
theorem dX4_sumOf_12 : decode cX4_sumOf 12 = .ok (.iload_n 2, 1) := by decide +kernel
theorem dX4_sumOf_13 : decode cX4_sumOf 13 = .ok (.iaload, 1) := by decide +kernel
theorem dX4_sumOf_14 : decode cX4_sumOf 14 = .ok (.iadd, 1) := by decide +kernel
theorem dX4_sumOf_15 : decode cX4_sumOf 15 = .ok (.istore_n 1, 1) := by decide +kernel
theorem dX4_sumOf_16 : decode cX4_sumOf 16 = .ok (.iinc 2 1, 3) := by decide +kernel
theorem dX4_sumOf_19 : decode cX4_sumOf 19 = .ok (.goto (-15), 3) := by decide +kernel
theorem dX4_sumOf_22 : decode cX4_sumOf 22 = .ok (.iload_n 1, 1) := by decide +kernel
theorem dX4_sumOf_23 : decode cX4_sumOf 23 = .ok (.ireturn, 1) := by decide +kernel
theorem dX5_init_0 : decode cX5_init 0 = .ok (.aload_n 0, 1) := by decide +kernel
theorem dX5_init_1 : decode cX5_init 1 = .ok (.invokespecial 1, 3) := by decide +kernel
theorem dX5_init_4 : decode cX5_init 4 = .ok (.aload_n 0, 1) := by decide +kernel
theorem dX5_init_5 : decode cX5_init 5 = .ok (.bipush 107, 2) := by decide +kernel
theorem dX5_init_7 : decode cX5_init 7 = .ok (.newarray .int, 2) := by decide +kernel
theorem dX5_init_9 : decode cX5_init 9 = .ok (.putfield 7, 3) := by decide +kernel
theorem dX5_init_12 : decode cX5_init 12 = .ok (.aload_n 0, 1) := by decide +kernel
theorem dX5_init_13 : decode cX5_init 13 = .ok (.sipush 428, 3) := by decide +kernel
theorem dX5_init_16 : decode cX5_init 16 = .ok (.newarray .int, 2) := by decide +kernel
theorem dX5_init_18 : decode cX5_init 18 = .ok (.putfield 13, 3) := by decide +kernel
theorem dX5_init_21 : decode cX5_init 21 = .ok (.aload_n 0, 1) := by decide +kernel
theorem dX5_init_22 : decode cX5_init 22 = .ok (.bipush 107, 2) := by decide +kernel
theorem dX5_init_24 : decode cX5_init 24 = .ok (.newarray .int, 2) := by decide +kernel
theorem dX5_init_26 : decode cX5_init 26 = .ok (.putfield 16, 3) := by decide +kernel
theorem dX5_init_29 : decode cX5_init 29 = .ok (.aload_n 0, 1) := by decide +kernel
theorem dX5_init_30 : decode cX5_init 30 = .ok (.bipush 60, 2) := by decide +kernel
theorem dX5_init_32 : decode cX5_init 32 = .ok (.newarray .int, 2) := by decide +kernel
theorem dX5_init_34 : decode cX5_init 34 = .ok (.putfield 19, 3) := by decide +kernel
theorem dX5_init_37 : decode cX5_init 37 = .ok (.aload_n 0, 1) := by decide +kernel
theorem dX5_init_38 : decode cX5_init 38 = .ok (.bipush 8, 2) := by decide +kernel
theorem dX5_init_40 : decode cX5_init 40 = .ok (.newarray .int, 2) := by decide +kernel
theorem dX5_init_42 : decode cX5_init 42 = .ok (.putfield 22, 3) := by decide +kernel
theorem dX5_init_45 : decode cX5_init 45 = .ok (.aload_n 0, 1) := by decide +kernel
theorem dX5_init_46 : decode cX5_init 46 = .ok (.iconst 2, 1) := by decide +kernel
theorem dX5_init_47 : decode cX5_init 47 = .ok (.newarray .int, 2) := by decide +kernel
theorem dX5_init_49 : decode cX5_init 49 = .ok (.putfield 25, 3) := by decide +kernel
theorem dX5_init_52 : decode cX5_init 52 = .ok (.aload_n 0, 1) := by decide +kernel
theorem dX5_init_53 : decode cX5_init 53 = .ok (.bipush 107, 2) := by decide +kernel
theorem dX5_init_55 : decode cX5_init 55 = .ok (.newarray .int, 2) := by decide +kernel
theorem dX5_init_57 : decode cX5_init 57 = .ok (.putfield 28, 3) := by decide +kernel
theorem dX5_init_60 : decode cX5_init 60 = .ok (.aload_n 0, 1) := by decide +kernel
theorem dX5_init_61 : decode cX5_init 61 = .ok (.getfield 7, 3) := by decide +kernel
theorem dX5_init_64 : decode cX5_init 64 = .ok (.iconst 0, 1) := by decide +kernel
theorem dX5_init_65 : decode cX5_init 65 = .ok (.bipush 40, 2) := by decide +kernel
theorem dX5_init_67 : decode cX5_init 67 = .ok (.iastore, 1) := by decide +kernel
theorem dX5_init_68 : decode cX5_init 68 = .ok (.aload_n 0, 1) := by decide +kernel
theorem dX5_init_69 : decode cX5_init 69 = .ok (.getfield 7, 3) := by decide +kernel
theorem dX5_init_72 : decode cX5_init 72 = .ok (.iconst 1, 1) := by decide +kernel
theorem dX5_init_73 : decode cX5_init 73 = .ok (.bipush 40, 2) := by decide +kernel
theorem dX5_init_75 : decode cX5_init 75 = .ok (.iastore, 1) := by decide +kernel
theorem dX5_init_76 : decode cX5_init 76 = .ok (.aload_n 0, 1) := by decide +kernel
theorem dX5_init_77 : decode cX5_init 77 = .ok (.getfield 7, 3) := by decide +kernel
theorem dX5_init_80 : decode cX5_init 80 = .ok (.iconst 2, 1) := by decide +kernel
theorem dX5_init_81 : decode cX5_init 81 = .ok (.iconst 5, 1) := by decide +kernel
theorem dX5_init_82 : decode cX5_init 82 = .ok (.iastore, 1) := by decide +kernel
theorem dX5_init_83 : decode cX5_init 83 = .ok (.aload_n 0, 1) := by decide +kernel
theorem dX5_init_84 : decode cX5_init 84 = .ok (.getfield 7, 3) := by decide +kernel
theorem dX5_init_87 : decode cX5_init 87 = .ok (.iconst 3, 1) := by decide +kernel
theorem dX5_init_88 : decode cX5_init 88 = .ok (.bipush 50, 2) := by decide +kernel
theorem dX5_init_90 : decode cX5_init 90 = .ok (.iastore, 1) := by decide +kernel
theorem dX5_init_91 : decode cX5_init 91 = .ok (.aload_n 0, 1) := by decide +kernel
theorem dX5_init_92 : decode cX5_init 92 = .ok (.getfield 7, 3) := by decide +kernel
theorem dX5_init_95 : decode cX5_init 95 = .ok (.iconst 4, 1) := by decide +kernel
theorem dX5_init_96 : decode cX5_init 96 = .ok (.iconst 3, 1) := by decide +kernel
theorem dX5_init_97 : decode cX5_init 97 = .ok (.iastore, 1) := by decide +kernel
theorem dX5_init_98 : decode cX5_init 98 = .ok (.aload_n 0, 1) := by decide +kernel
theorem dX5_init_99 : decode cX5_init 99 = .ok (.getfield 7, 3) := by decide +kernel
theorem dX5_init_102 : decode cX5_init 102 = .ok (.bipush 7, 2) := by decide +kernel
theorem dX5_init_104 : decode cX5_init 104 = .ok (.bipush 100, 2) := by decide +kernel
theorem dX5_init_106 : decode cX5_init 106 = .ok (.iastore, 1) := by decide +kernel
theorem dX5_init_107 : decode cX5_init 107 = .ok (.return_, 1) := by decide +kernel
theorem dX5_in_0 : decode cX5_in 0 = .ok (.iload_n 0, 1) := by decide +kernel
theorem dX5_in_1 : decode cX5_in 1 = .ok (.iload_n 1, 1) := by decide +kernel
theorem dX5_in_2 : decode cX5_in 2 = .ok (.if_icmp .lt 12, 3) := by decide +kernel
theorem dX5_in_5 : decode cX5_in 5 = .ok (.iload_n 0, 1) := by decide +kernel
theorem dX5_in_6 : decode cX5_in 6 = .ok (.iload_n 2, 1) := by decide +kernel
theorem dX5_in_7 : decode cX5_in 7 = .ok (.if_icmp .gt 7, 3) := by decide +kernel
theorem dX5_in_10 : decode cX5_in 10 = .ok (.iconst 1, 1) := by decide +kernel
theorem dX5_in_11 : decode cX5_in 11 = .ok (.goto 4, 3) := by decide +kernel
theorem dX5_in_14 : decode cX5_in 14 = .ok (.iconst 0, 1) := by decide +kernel
theorem dX5_in_15 : decode cX5_in 15 = .ok (.ireturn, 1) := by decide +kernel
theorem dX5_copies_0 : decode cX5_copies 0 = .ok (.iconst 0, 1) := by decide +kernel
theorem dX5_copies_1 : decode cX5_copies 1 = .ok (.istore_n 2, 1) := by decide +kernel
theorem dX5_copies_2 : decode cX5_copies 2 = .ok (.iload_n 2, 1) := by decide +kernel
theorem dX5_copies_3 : decode cX5_copies 3 = .ok (.bipush 107, 2) := by decide +kernel
theorem dX5_copies_5 : decode cX5_copies 5 = .ok (.if_icmp .ge 15, 3) := by decide +kernel
theorem dX5_copies_8 : decode cX5_copies 8 = .ok (.aload_n 1, 1) := by decide +kernel
theorem dX5_copies_9 : decode cX5_copies 9 = .ok (.iload_n 2, 1) := by decide +kernel
theorem dX5_copies_10 : decode cX5_copies 10 = .ok (.aload_n 0, 1) := by decide +kernel
theorem dX5_copies_11 : decode cX5_copies 11 = .ok (.iload_n 2, 1) := by decide +kernel
theorem dX5_copies_12 : decode cX5_copies 12 = .ok (.iaload, 1) := by decide +kernel
theorem dX5_copies_13 : decode cX5_copies 13 = .ok (.iastore, 1) := by decide +kernel
theorem dX5_copies_14 : decode cX5_copies 14 = .ok (.iinc 2 1, 3) := by decide +kernel
theorem dX5_copies_17 : decode cX5_copies 17 = .ok (.goto (-15), 3) := by decide +kernel
theorem dX5_copies_20 : decode cX5_copies 20 = .ok (.return_, 1) := by decide +kernel
theorem dX5_changes_0 : decode cX5_changes 0 = .ok (.aload_n 0, 1) := by decide +kernel
theorem dX5_changes_1 : decode cX5_changes 1 = .ok (.getfield 31, 3) := by decide +kernel
theorem dX5_changes_4 : decode cX5_changes 4 = .ok (.ifCond .eq 4, 3) := by decide +kernel
theorem dX5_changes_7 : decode cX5_changes 7 = .ok (.return_, 1) := by decide +kernel
theorem dX5_changes_8 : decode cX5_changes 8 = .ok (.aload_n 0, 1) := by decide +kernel
theorem dX5_changes_9 : decode cX5_changes 9 = .ok (.getfield 35, 3) := by decide +kernel
theorem dX5_changes_12 : decode cX5_changes 12 = .ok (.iconst 4, 1) := by decide +kernel
theorem dX5_changes_13 : decode cX5_changes 13 = .ok (.if_icmp .ne 43, 3) := by decide +kernel
theorem dX5_changes_16 : decode cX5_changes 16 = .ok (.iconst 0, 1) := by decide +kernel
theorem dX5_changes_17 : decode cX5_changes 17 = .ok (.istore_n 1, 1) := by decide +kernel
theorem dX5_changes_18 : decode cX5_changes 18 = .ok (.iload_n 1, 1) := by decide +kernel
theorem dX5_changes_19 : decode cX5_changes 19 = .ok (.sipush 321, 3) := by decide +kernel
theorem dX5_changes_22 : decode cX5_changes 22 = .ok (.if_icmp .ge 24, 3) := by decide +kernel
theorem dX5_changes_25 : decode cX5_changes 25 = .ok (.aload_n 0, 1) := by decide +kernel
theorem dX5_changes_26 : decode cX5_changes 26 = .ok (.getfield 13, 3) := by decide +kernel
theorem dX5_changes_29 : decode cX5_changes 29 = .ok (.iload_n 1, 1) := by decide +kernel
theorem dX5_changes_30 : decode cX5_changes 30 = .ok (.aload_n 0, 1) := by decide +kernel
theorem dX5_changes_31 : decode cX5_changes 31 = .ok (.getfield 13, 3) := by decide +kernel
theorem dX5_changes_34 : decode cX5_changes 34 = .ok (.iload_n 1, 1) := by decide +kernel
theorem dX5_changes_35 : decode cX5_changes 35 = .ok (.bipush 107, 2) := by decide +kernel
theorem dX5_changes_37 : decode cX5_changes 37 = .ok (.iadd, 1) := by decide +kernel
theorem dX5_changes_38 : decode cX5_changes 38 = .ok (.iaload, 1) := by decide +kernel
theorem dX5_changes_39 : decode cX5_changes 39 = .ok (.iastore, 1) := by decide +kernel
theorem dX5_changes_40 : decode cX5_changes 40 = .ok (.iinc 1 1, 3) := by decide +kernel
theorem dX5_changes_43 : decode cX5_changes 43 = .ok (.goto (-25), 3) := by decide +kernel
theorem dX5_changes_46 : decode cX5_changes 46 = .ok (.aload_n 0, 1) := by decide +kernel
theorem dX5_changes_47 : decode cX5_changes 47 = .ok (.dup, 1) := by decide +kernel
theorem dX5_changes_48 : decode cX5_changes 48 = .ok (.getfield 35, 3) := by decide +kernel
theorem dX5_changes_51 : decode cX5_changes 51 = .ok (.iconst 1, 1) := by decide +kernel
theorem dX5_changes_52 : decode cX5_changes 52 = .ok (.isub, 1) := by decide +kernel
theorem dX5_changes_53 : decode cX5_changes 53 = .ok (.putfield 35, 3) := by decide +kernel
theorem dX5_changes_56 : decode cX5_changes 56 = .ok (.iconst 0, 1) := by decide +kernel
theorem dX5_changes_57 : decode cX5_changes 57 = .ok (.istore_n 1, 1) := by decide +kernel
theorem dX5_changes_58 : decode cX5_changes 58 = .ok (.iload_n 1, 1) := by decide +kernel
theorem dX5_changes_59 : decode cX5_changes 59 = .ok (.bipush 107, 2) := by decide +kernel
theorem dX5_changes_61 : decode cX5_changes 61 = .ok (.if_icmp .ge 29, 3) := by decide +kernel
theorem dX5_changes_64 : decode cX5_changes 64 = .ok (.aload_n 0, 1) := by decide +kernel
theorem dX5_changes_65 : decode cX5_changes 65 = .ok (.getfield 13, 3) := by decide +kernel
theorem dX5_changes_68 : decode cX5_changes 68 = .ok (.bipush 107, 2) := by decide +kernel
theorem dX5_changes_70 : decode cX5_changes 70 = .ok (.aload_n 0, 1) := by decide +kernel
theorem dX5_changes_71 : decode cX5_changes 71 = .ok (.getfield 35, 3) := by decide +kernel
theorem dX5_changes_74 : decode cX5_changes 74 = .ok (.imul, 1) := by decide +kernel
theorem dX5_changes_75 : decode cX5_changes 75 = .ok (.iload_n 1, 1) := by decide +kernel
theorem dX5_changes_76 : decode cX5_changes 76 = .ok (.iadd, 1) := by decide +kernel
theorem dX5_changes_77 : decode cX5_changes 77 = .ok (.aload_n 0, 1) := by decide +kernel
theorem dX5_changes_78 : decode cX5_changes 78 = .ok (.getfield 7, 3) := by decide +kernel
theorem dX5_changes_81 : decode cX5_changes 81 = .ok (.iload_n 1, 1) := by decide +kernel
theorem dX5_changes_82 : decode cX5_changes 82 = .ok (.iaload, 1) := by decide +kernel
theorem dX5_changes_83 : decode cX5_changes 83 = .ok (.iastore, 1) := by decide +kernel
theorem dX5_changes_84 : decode cX5_changes 84 = .ok (.iinc 1 1, 3) := by decide +kernel
theorem dX5_changes_87 : decode cX5_changes 87 = .ok (.goto (-29), 3) := by decide +kernel
theorem dX5_changes_90 : decode cX5_changes 90 = .ok (.aload_n 0, 1) := by decide +kernel
theorem dX5_changes_91 : decode cX5_changes 91 = .ok (.dup, 1) := by decide +kernel
theorem dX5_changes_92 : decode cX5_changes 92 = .ok (.getfield 35, 3) := by decide +kernel
theorem dX5_changes_95 : decode cX5_changes 95 = .ok (.iconst 1, 1) := by decide +kernel
theorem dX5_changes_96 : decode cX5_changes 96 = .ok (.iadd, 1) := by decide +kernel
theorem dX5_changes_97 : decode cX5_changes 97 = .ok (.putfield 35, 3) := by decide +kernel
theorem dX5_changes_100 : decode cX5_changes 100 = .ok (.return_, 1) := by decide +kernel
theorem dX5_isMember_0 : decode cX5_isMember 0 = .ok (.iload_n 1, 1) := by decide +kernel
theorem dX5_isMember_1 : decode cX5_isMember 1 = .ok (.ifCond .lt 17, 3) := by decide +kernel
theorem dX5_isMember_4 : decode cX5_isMember 4 = .ok (.iload_n 1, 1) := by decide +kernel
theorem dX5_isMember_5 : decode cX5_isMember 5 = .ok (.aload_n 0, 1) := by decide +kernel
theorem dX5_isMember_6 : decode cX5_isMember 6 = .ok (.getfield 7, 3) := by decide +kernel
theorem dX5_isMember_9 : decode cX5_isMember 9 = .ok (.iconst 5, 1) := by decide +kernel
theorem dX5_isMember_10 : decode cX5_isMember 10 = .ok (.iaload, 1) := by decide +kernel
theorem dX5_isMember_11 : decode cX5_isMember 11 = .ok (.if_icmp .ge 7, 3) := by decide +kernel
theorem dX5_isMember_14 : decode cX5_isMember 14 = .ok (.iconst 1, 1) := by decide +kernel
theorem dX5_isMember_15 : decode cX5_isMember 15 = .ok (.goto 4, 3) := by decide +kernel
theorem dX5_isMember_18 : decode cX5_isMember 18 = .ok (.iconst 0, 1) := by decide +kernel
theorem dX5_isMember_19 : decode cX5_isMember 19 = .ok (.ireturn, 1) := by decide +kernel
theorem dX5_of_0 : decode cX5_of 0 = .ok (.aload_n 0, 1) := by decide +kernel
theorem dX5_of_1 : decode cX5_of 1 = .ok (.getfield 7, 3) := by decide +kernel
theorem dX5_of_4 : decode cX5_of 4 = .ok (.bipush 13, 2) := by decide +kernel
theorem dX5_of_6 : decode cX5_of 6 = .ok (.bipush 8, 2) := by decide +kernel
theorem dX5_of_8 : decode cX5_of 8 = .ok (.iload_n 1, 1) := by decide +kernel
theorem dX5_of_9 : decode cX5_of 9 = .ok (.imul, 1) := by decide +kernel
theorem dX5_of_10 : decode cX5_of 10 = .ok (.iadd, 1) := by decide +kernel
theorem dX5_of_11 : decode cX5_of 11 = .ok (.iload_n 2, 1) := by decide +kernel
theorem dX5_of_12 : decode cX5_of 12 = .ok (.iadd, 1) := by decide +kernel
theorem dX5_of_13 : decode cX5_of 13 = .ok (.iaload, 1) := by decide +kernel
theorem dX5_of_14 : decode cX5_of 14 = .ok (.ireturn, 1) := by decide +kernel
theorem dX5_puts_0 : decode cX5_puts 0 = .ok (.aload_n 0, 1) := by decide +kernel
theorem dX5_puts_1 : decode cX5_puts 1 = .ok (.getfield 7, 3) := by decide +kernel
theorem dX5_puts_4 : decode cX5_puts 4 = .ok (.bipush 13, 2) := by decide +kernel
theorem dX5_puts_6 : decode cX5_puts 6 = .ok (.bipush 8, 2) := by decide +kernel
theorem dX5_puts_8 : decode cX5_puts 8 = .ok (.iload_n 1, 1) := by decide +kernel
theorem dX5_puts_9 : decode cX5_puts 9 = .ok (.imul, 1) := by decide +kernel
theorem dX5_puts_10 : decode cX5_puts 10 = .ok (.iadd, 1) := by decide +kernel
theorem dX5_puts_11 : decode cX5_puts 11 = .ok (.iload_n 2, 1) := by decide +kernel
theorem dX5_puts_12 : decode cX5_puts 12 = .ok (.iadd, 1) := by decide +kernel
theorem dX5_puts_13 : decode cX5_puts 13 = .ok (.iload_n 3, 1) := by decide +kernel
theorem dX5_puts_14 : decode cX5_puts 14 = .ok (.iastore, 1) := by decide +kernel
theorem dX5_puts_15 : decode cX5_puts 15 = .ok (.return_, 1) := by decide +kernel
theorem dX5_sum_0 : decode cX5_sum 0 = .ok (.iconst 0, 1) := by decide +kernel
theorem dX5_sum_1 : decode cX5_sum 1 = .ok (.istore_n 2, 1) := by decide +kernel
theorem dX5_sum_2 : decode cX5_sum 2 = .ok (.iconst 0, 1) := by decide +kernel
theorem dX5_sum_3 : decode cX5_sum 3 = .ok (.istore_n 3, 1) := by decide +kernel
theorem dX5_sum_4 : decode cX5_sum 4 = .ok (.iload_n 3, 1) := by decide +kernel
theorem dX5_sum_5 : decode cX5_sum 5 = .ok (.aload_n 0, 1) := by decide +kernel
theorem dX5_sum_6 : decode cX5_sum 6 = .ok (.getfield 7, 3) := by decide +kernel
theorem dX5_sum_9 : decode cX5_sum 9 = .ok (.iconst 5, 1) := by decide +kernel
theorem dX5_sum_10 : decode cX5_sum 10 = .ok (.iaload, 1) := by decide +kernel
theorem dX5_sum_11 : decode cX5_sum 11 = .ok (.if_icmp .ge 18, 3) := by decide +kernel
theorem dX5_sum_14 : decode cX5_sum 14 = .ok (.iload_n 2, 1) := by decide +kernel
theorem dX5_sum_15 : decode cX5_sum 15 = .ok (.aload_n 0, 1) := by decide +kernel
theorem dX5_sum_16 : decode cX5_sum 16 = .ok (.iload_n 3, 1) := by decide +kernel
theorem dX5_sum_17 : decode cX5_sum 17 = .ok (.iload_n 1, 1) := by decide +kernel
theorem dX5_sum_18 : decode cX5_sum 18 = .ok (.invokevirtual 39, 3) := by decide +kernel
theorem dX5_sum_21 : decode cX5_sum 21 = .ok (.iadd, 1) := by decide +kernel
theorem dX5_sum_22 : decode cX5_sum 22 = .ok (.istore_n 2, 1) := by decide +kernel
theorem dX5_sum_23 : decode cX5_sum 23 = .ok (.iinc 3 1, 3) := by decide +kernel
theorem dX5_sum_26 : decode cX5_sum 26 = .ok (.goto (-22), 3) := by decide +kernel
theorem dX5_sum_29 : decode cX5_sum 29 = .ok (.iload_n 2, 1) := by decide +kernel
theorem dX5_sum_30 : decode cX5_sum 30 = .ok (.ireturn, 1) := by decide +kernel
theorem dX5_damage_0 : decode cX5_damage 0 = .ok (.iload_n 1, 1) := by decide +kernel
theorem dX5_damage_1 : decode cX5_damage 1 = .ok (.iload_n 1, 1) := by decide +kernel
theorem dX5_damage_2 : decode cX5_damage 2 = .ok (.imul, 1) := by decide +kernel
theorem dX5_damage_3 : decode cX5_damage 3 = .ok (.aload_n 0, 1) := by decide +kernel
theorem dX5_damage_4 : decode cX5_damage 4 = .ok (.getfield 7, 3) := by decide +kernel
theorem dX5_damage_7 : decode cX5_damage 7 = .ok (.iconst 0, 1) := by decide +kernel
theorem dX5_damage_8 : decode cX5_damage 8 = .ok (.iaload, 1) := by decide +kernel
theorem dX5_damage_9 : decode cX5_damage 9 = .ok (.idiv, 1) := by decide +kernel
theorem dX5_damage_10 : decode cX5_damage 10 = .ok (.ireturn, 1) := by decide +kernel
theorem dX5_placeOf_0 : decode cX5_placeOf 0 = .ok (.iload_n 1, 1) := by decide +kernel
theorem dX5_placeOf_1 : decode cX5_placeOf 1 = .ok (.aload_n 0, 1) := by decide +kernel
theorem dX5_placeOf_2 : decode cX5_placeOf 2 = .ok (.getfield 7, 3) := by decide +kernel
theorem dX5_placeOf_5 : decode cX5_placeOf 5 = .ok (.bipush 6, 2) := by decide +kernel
theorem dX5_placeOf_7 : decode cX5_placeOf 7 = .ok (.iaload, 1) := by decide +kernel
theorem dX5_placeOf_8 : decode cX5_placeOf 8 = .ok (.aload_n 0, 1) := by decide +kernel
theorem dX5_placeOf_9 : decode cX5_placeOf 9 = .ok (.getfield 7, 3) := by decide +kernel
theorem dX5_placeOf_12 : decode cX5_placeOf 12 = .ok (.iconst 5, 1) := by decide +kernel
theorem dX5_placeOf_13 : decode cX5_placeOf 13 = .ok (.iaload, 1) := by decide +kernel
theorem dX5_placeOf_14 : decode cX5_placeOf 14 = .ok (.irem, 1) := by decide +kernel
theorem dX5_placeOf_15 : decode cX5_placeOf 15 = .ok (.isub, 1) := by decide +kernel
theorem dX5_placeOf_16 : decode cX5_placeOf 16 = .ok (.aload_n 0, 1) := by decide +kernel
theorem dX5_placeOf_17 : decode cX5_placeOf 17 = .ok (.getfield 7, 3) := by decide +kernel
theorem dX5_placeOf_20 : decode cX5_placeOf 20 = .ok (.iconst 5, 1) := by decide +kernel
theorem dX5_placeOf_21 : decode cX5_placeOf 21 = .ok (.iaload, 1) := by decide +kernel
theorem dX5_placeOf_22 : decode cX5_placeOf 22 = .ok (.iadd, 1) := by decide +kernel
theorem dX5_placeOf_23 : decode cX5_placeOf 23 = .ok (.aload_n 0, 1) := by decide +kernel
theorem dX5_placeOf_24 : decode cX5_placeOf 24 = .ok (.getfield 7, 3) := by decide +kernel
theorem dX5_placeOf_27 : decode cX5_placeOf 27 = .ok (.iconst 5, 1) := by decide +kernel
theorem dX5_placeOf_28 : decode cX5_placeOf 28 = .ok (.iaload, 1) := by decide +kernel
theorem dX5_placeOf_29 : decode cX5_placeOf 29 = .ok (.irem, 1) := by decide +kernel
theorem dX5_placeOf_30 : decode cX5_placeOf 30 = .ok (.ireturn, 1) := by decide +kernel
theorem dX5_ahead_0 : decode cX5_ahead 0 = .ok (.iconst 0, 1) := by decide +kernel
theorem dX5_ahead_1 : decode cX5_ahead 1 = .ok (.istore_n 2, 1) := by decide +kernel
theorem dX5_ahead_2 : decode cX5_ahead 2 = .ok (.iconst 0, 1) := by decide +kernel
theorem dX5_ahead_3 : decode cX5_ahead 3 = .ok (.istore_n 3, 1) := by decide +kernel
theorem dX5_ahead_4 : decode cX5_ahead 4 = .ok (.iload_n 3, 1) := by decide +kernel
theorem dX5_ahead_5 : decode cX5_ahead 5 = .ok (.aload_n 0, 1) := by decide +kernel
theorem dX5_ahead_6 : decode cX5_ahead 6 = .ok (.getfield 7, 3) := by decide +kernel
theorem dX5_ahead_9 : decode cX5_ahead 9 = .ok (.iconst 5, 1) := by decide +kernel
theorem dX5_ahead_10 : decode cX5_ahead 10 = .ok (.iaload, 1) := by decide +kernel
theorem dX5_ahead_11 : decode cX5_ahead 11 = .ok (.if_icmp .ge 35, 3) := by decide +kernel
theorem dX5_ahead_14 : decode cX5_ahead 14 = .ok (.iload_n 2, 1) := by decide +kernel
theorem dX5_ahead_15 : decode cX5_ahead 15 = .ok (.aload_n 0, 1) := by decide +kernel
theorem dX5_ahead_16 : decode cX5_ahead 16 = .ok (.iload_n 3, 1) := by decide +kernel
theorem dX5_ahead_17 : decode cX5_ahead 17 = .ok (.invokevirtual 43, 3) := by decide +kernel
theorem dX5_ahead_20 : decode cX5_ahead 20 = .ok (.aload_n 0, 1) := by decide +kernel
theorem dX5_ahead_21 : decode cX5_ahead 21 = .ok (.iload_n 1, 1) := by decide +kernel
theorem dX5_ahead_22 : decode cX5_ahead 22 = .ok (.invokevirtual 43, 3) := by decide +kernel
theorem dX5_ahead_25 : decode cX5_ahead 25 = .ok (.if_icmp .ge 12, 3) := by decide +kernel
theorem dX5_ahead_28 : decode cX5_ahead 28 = .ok (.aload_n 0, 1) := by decide +kernel
theorem dX5_ahead_29 : decode cX5_ahead 29 = .ok (.iload_n 3, 1) := by decide +kernel
theorem dX5_ahead_30 : decode cX5_ahead 30 = .ok (.iconst 1, 1) := by decide +kernel
theorem dX5_ahead_31 : decode cX5_ahead 31 = .ok (.invokevirtual 39, 3) := by decide +kernel
theorem dX5_ahead_34 : decode cX5_ahead 34 = .ok (.goto 4, 3) := by decide +kernel
theorem dX5_ahead_37 : decode cX5_ahead 37 = .ok (.iconst 0, 1) := by decide +kernel
theorem dX5_ahead_38 : decode cX5_ahead 38 = .ok (.iadd, 1) := by decide +kernel
theorem dX5_ahead_39 : decode cX5_ahead 39 = .ok (.istore_n 2, 1) := by decide +kernel
theorem dX5_ahead_40 : decode cX5_ahead 40 = .ok (.iinc 3 1, 3) := by decide +kernel
theorem dX5_ahead_43 : decode cX5_ahead 43 = .ok (.goto (-39), 3) := by decide +kernel
theorem dX5_ahead_46 : decode cX5_ahead 46 = .ok (.iload_n 2, 1) := by decide +kernel
theorem dX5_ahead_47 : decode cX5_ahead 47 = .ok (.ireturn, 1) := by decide +kernel
theorem dX5_chargeFor_0 : decode cX5_chargeFor 0 = .ok (.aload_n 0, 1) := by decide +kernel
theorem dX5_chargeFor_1 : decode cX5_chargeFor 1 = .ok (.iload_n 1, 1) := by decide +kernel
theorem dX5_chargeFor_2 : decode cX5_chargeFor 2 = .ok (.invokevirtual 47, 3) := by decide +kernel
theorem dX5_chargeFor_5 : decode cX5_chargeFor 5 = .ok (.istore_n 3, 1) := by decide +kernel
theorem dX5_chargeFor_6 : decode cX5_chargeFor 6 = .ok (.aload_n 0, 1) := by decide +kernel
theorem dX5_chargeFor_7 : decode cX5_chargeFor 7 = .ok (.iload_n 3, 1) := by decide +kernel
theorem dX5_chargeFor_8 : decode cX5_chargeFor 8 = .ok (.iload_n 2, 1) := by decide +kernel
theorem dX5_chargeFor_9 : decode cX5_chargeFor 9 = .ok (.iadd, 1) := by decide +kernel
theorem dX5_chargeFor_10 : decode cX5_chargeFor 10 = .ok (.invokevirtual 50, 3) := by decide +kernel
theorem dX5_chargeFor_13 : decode cX5_chargeFor 13 = .ok (.aload_n 0, 1) := by decide +kernel
theorem dX5_chargeFor_14 : decode cX5_chargeFor 14 = .ok (.iload_n 3, 1) := by decide +kernel
theorem dX5_chargeFor_15 : decode cX5_chargeFor 15 = .ok (.invokevirtual 50, 3) := by decide +kernel
theorem dX5_chargeFor_18 : decode cX5_chargeFor 18 = .ok (.isub, 1) := by decide +kernel
theorem dX5_chargeFor_19 : decode cX5_chargeFor 19 = .ok (.ireturn, 1) := by decide +kernel
theorem dX5_member_0 : decode cX5_member 0 = .ok (.iload_n 1, 1) := by decide +kernel
theorem dX5_member_1 : decode cX5_member 1 = .ok (.iconst 0, 1) := by decide +kernel
theorem dX5_member_2 : decode cX5_member 2 = .ok (.bipush 30, 2) := by decide +kernel
theorem dX5_member_4 : decode cX5_member 4 = .ok (.invokestatic 53, 3) := by decide +kernel
theorem dX5_member_7 : decode cX5_member 7 = .ok (.ifCond .ne 7, 3) := by decide +kernel
theorem dX5_member_10 : decode cX5_member 10 = .ok (.sipush (-10001), 3) := by decide +kernel
theorem dX5_member_13 : decode cX5_member 13 = .ok (.ireturn, 1) := by decide +kernel
theorem dX5_member_14 : decode cX5_member 14 = .ok (.aload_n 0, 1) := by decide +kernel
theorem dX5_member_15 : decode cX5_member 15 = .ok (.getfield 7, 3) := by decide +kernel
theorem dX5_member_18 : decode cX5_member 18 = .ok (.iconst 5, 1) := by decide +kernel
theorem dX5_member_19 : decode cX5_member 19 = .ok (.iaload, 1) := by decide +kernel
theorem dX5_member_20 : decode cX5_member 20 = .ok (.istore_n 2, 1) := by decide +kernel
theorem dX5_member_21 : decode cX5_member 21 = .ok (.iload_n 2, 1) := by decide +kernel
theorem dX5_member_22 : decode cX5_member 22 = .ok (.bipush 8, 2) := by decide +kernel
theorem dX5_member_24 : decode cX5_member 24 = .ok (.if_icmp .ne 7, 3) := by decide +kernel
theorem dX5_member_27 : decode cX5_member 27 = .ok (.sipush (-10003), 3) := by decide +kernel
theorem dX5_member_30 : decode cX5_member 30 = .ok (.ireturn, 1) := by decide +kernel
theorem dX5_member_31 : decode cX5_member 31 = .ok (.aload_n 0, 1) := by decide +kernel
theorem dX5_member_32 : decode cX5_member 32 = .ok (.invokevirtual 57, 3) := by decide +kernel
theorem dX5_member_35 : decode cX5_member 35 = .ok (.iconst 0, 1) := by decide +kernel
theorem dX5_member_36 : decode cX5_member 36 = .ok (.istore_n 3, 1) := by decide +kernel
theorem dX5_member_37 : decode cX5_member 37 = .ok (.iload_n 3, 1) := by decide +kernel
theorem dX5_member_38 : decode cX5_member 38 = .ok (.bipush 8, 2) := by decide +kernel
theorem dX5_member_40 : decode cX5_member 40 = .ok (.if_icmp .ge 16, 3) := by decide +kernel
theorem dX5_member_43 : decode cX5_member 43 = .ok (.aload_n 0, 1) := by decide +kernel
theorem dX5_member_44 : decode cX5_member 44 = .ok (.iload_n 2, 1) := by decide +kernel
theorem dX5_member_45 : decode cX5_member 45 = .ok (.iload_n 3, 1) := by decide +kernel
theorem dX5_member_46 : decode cX5_member 46 = .ok (.iconst 0, 1) := by decide +kernel
theorem dX5_member_47 : decode cX5_member 47 = .ok (.invokevirtual 60, 3) := by decide +kernel
theorem dX5_member_50 : decode cX5_member 50 = .ok (.iinc 3 1, 3) := by decide +kernel
theorem dX5_member_53 : decode cX5_member 53 = .ok (.goto (-16), 3) := by decide +kernel
theorem dX5_member_56 : decode cX5_member 56 = .ok (.aload_n 0, 1) := by decide +kernel
theorem dX5_member_57 : decode cX5_member 57 = .ok (.iload_n 2, 1) := by decide +kernel
theorem dX5_member_58 : decode cX5_member 58 = .ok (.iconst 0, 1) := by decide +kernel
theorem dX5_member_59 : decode cX5_member 59 = .ok (.iload_n 1, 1) := by decide +kernel
theorem dX5_member_60 : decode cX5_member 60 = .ok (.invokevirtual 60, 3) := by decide +kernel
theorem dX5_member_63 : decode cX5_member 63 = .ok (.aload_n 0, 1) := by decide +kernel
theorem dX5_member_64 : decode cX5_member 64 = .ok (.getfield 7, 3) := by decide +kernel
theorem dX5_member_67 : decode cX5_member 67 = .ok (.iconst 5, 1) := by decide +kernel
theorem dX5_member_68 : decode cX5_member 68 = .ok (.dup2, 1) := by decide +kernel
theorem dX5_member_69 : decode cX5_member 69 = .ok (.iaload, 1) := by decide +kernel
theorem dX5_member_70 : decode cX5_member 70 = .ok (.iconst 1, 1) := by decide +kernel
theorem dX5_member_71 : decode cX5_member 71 = .ok (.iadd, 1) := by decide +kernel
theorem dX5_member_72 : decode cX5_member 72 = .ok (.iastore, 1) := by decide +kernel
theorem dX5_member_73 : decode cX5_member 73 = .ok (.iload_n 2, 1) := by decide +kernel
theorem dX5_member_74 : decode cX5_member 74 = .ok (.ireturn, 1) := by decide +kernel
theorem dX5_use_0 : decode cX5_use 0 = .ok (.aload_n 0, 1) := by decide +kernel
theorem dX5_use_1 : decode cX5_use 1 = .ok (.iload_n 1, 1) := by decide +kernel
theorem dX5_use_2 : decode cX5_use 2 = .ok (.invokevirtual 64, 3) := by decide +kernel
theorem dX5_use_5 : decode cX5_use 5 = .ok (.ifCond .eq 13, 3) := by decide +kernel
theorem dX5_use_8 : decode cX5_use 8 = .ok (.iload_n 2, 1) := by decide +kernel
theorem dX5_use_9 : decode cX5_use 9 = .ok (.iconst 0, 1) := by decide +kernel
theorem dX5_use_10 : decode cX5_use 10 = .ok (.bipush 20, 2) := by decide +kernel
theorem dX5_use_12 : decode cX5_use 12 = .ok (.invokestatic 53, 3) := by decide +kernel
theorem dX5_use_15 : decode cX5_use 15 = .ok (.ifCond .ne 7, 3) := by decide +kernel
theorem dX5_use_18 : decode cX5_use 18 = .ok (.sipush (-10001), 3) := by decide +kernel
theorem dX5_use_21 : decode cX5_use 21 = .ok (.ireturn, 1) := by decide +kernel
theorem dX5_use_22 : decode cX5_use 22 = .ok (.aload_n 0, 1) := by decide +kernel
theorem dX5_use_23 : decode cX5_use 23 = .ok (.iload_n 1, 1) := by decide +kernel
theorem dX5_use_24 : decode cX5_use 24 = .ok (.bipush 6, 2) := by decide +kernel
theorem dX5_use_26 : decode cX5_use 26 = .ok (.invokevirtual 39, 3) := by decide +kernel
theorem dX5_use_29 : decode cX5_use 29 = .ok (.iconst 1, 1) := by decide +kernel
theorem dX5_use_30 : decode cX5_use 30 = .ok (.if_icmp .ne 7, 3) := by decide +kernel
theorem dX5_use_33 : decode cX5_use 33 = .ok (.sipush (-10002), 3) := by decide +kernel
theorem dX5_use_36 : decode cX5_use 36 = .ok (.ireturn, 1) := by decide +kernel
theorem dX5_use_37 : decode cX5_use 37 = .ok (.aload_n 0, 1) := by decide +kernel
theorem dX5_use_38 : decode cX5_use 38 = .ok (.invokevirtual 57, 3) := by decide +kernel
theorem dX5_use_41 : decode cX5_use 41 = .ok (.aload_n 0, 1) := by decide +kernel
theorem dX5_use_42 : decode cX5_use 42 = .ok (.iload_n 1, 1) := by decide +kernel
theorem dX5_use_43 : decode cX5_use 43 = .ok (.iconst 1, 1) := by decide +kernel
theorem dX5_use_44 : decode cX5_use 44 = .ok (.iload_n 2, 1) := by decide +kernel
theorem dX5_use_45 : decode cX5_use 45 = .ok (.invokevirtual 60, 3) := by decide +kernel
theorem dX5_use_48 : decode cX5_use 48 = .ok (.aload_n 0, 1) := by decide +kernel
theorem dX5_use_49 : decode cX5_use 49 = .ok (.iload_n 1, 1) := by decide +kernel
theorem dX5_use_50 : decode cX5_use 50 = .ok (.iload_n 2, 1) := by decide +kernel
theorem dX5_use_51 : decode cX5_use 51 = .ok (.invokevirtual 68, 3) := by decide +kernel
theorem dX5_use_54 : decode cX5_use 54 = .ok (.ireturn, 1) := by decide +kernel
theorem dX5_outSet_0 : decode cX5_outSet 0 = .ok (.iconst 0, 1) := by decide +kernel
theorem dX5_outSet_1 : decode cX5_outSet 1 = .ok (.istore_n 1, 1) := by decide +kernel
theorem dX5_outSet_2 : decode cX5_outSet 2 = .ok (.iconst 0, 1) := by decide +kernel
theorem dX5_outSet_3 : decode cX5_outSet 3 = .ok (.istore_n 2, 1) := by decide +kernel
theorem dX5_outSet_4 : decode cX5_outSet 4 = .ok (.iload_n 2, 1) := by decide +kernel
theorem dX5_outSet_5 : decode cX5_outSet 5 = .ok (.aload_n 0, 1) := by decide +kernel
theorem dX5_outSet_6 : decode cX5_outSet 6 = .ok (.getfield 7, 3) := by decide +kernel
theorem dX5_outSet_9 : decode cX5_outSet 9 = .ok (.iconst 5, 1) := by decide +kernel
theorem dX5_outSet_10 : decode cX5_outSet 10 = .ok (.iaload, 1) := by decide +kernel
theorem dX5_outSet_11 : decode cX5_outSet 11 = .ok (.if_icmp .ge 21, 3) := by decide +kernel
theorem dX5_outSet_14 : decode cX5_outSet 14 = .ok (.iload_n 1, 1) := by decide +kernel
theorem dX5_outSet_15 : decode cX5_outSet 15 = .ok (.aload_n 0, 1) := by decide +kernel
theorem dX5_outSet_16 : decode cX5_outSet 16 = .ok (.iload_n 2, 1) := by decide +kernel
theorem dX5_outSet_17 : decode cX5_outSet 17 = .ok (.bipush 6, 2) := by decide +kernel
theorem dX5_outSet_19 : decode cX5_outSet 19 = .ok (.invokevirtual 39, 3) := by decide +kernel
theorem dX5_outSet_22 : decode cX5_outSet 22 = .ok (.iload_n 2, 1) := by decide +kernel
theorem dX5_outSet_23 : decode cX5_outSet 23 = .ok (.ishl, 1) := by decide +kernel
theorem dX5_outSet_24 : decode cX5_outSet 24 = .ok (.ior, 1) := by decide +kernel
theorem dX5_outSet_25 : decode cX5_outSet 25 = .ok (.istore_n 1, 1) := by decide +kernel
theorem dX5_outSet_26 : decode cX5_outSet 26 = .ok (.iinc 2 1, 3) := by decide +kernel
theorem dX5_outSet_29 : decode cX5_outSet 29 = .ok (.goto (-25), 3) := by decide +kernel
theorem dX5_outSet_32 : decode cX5_outSet 32 = .ok (.iload_n 1, 1) := by decide +kernel
theorem dX5_outSet_33 : decode cX5_outSet 33 = .ok (.ireturn, 1) := by decide +kernel
theorem dX5_keeps_0 : decode cX5_keeps 0 = .ok (.bipush 29, 2) := by decide +kernel
theorem dX5_keeps_2 : decode cX5_keeps 2 = .ok (.istore 5, 2) := by decide +kernel
theorem dX5_keeps_4 : decode cX5_keeps 4 = .ok (.iload 5, 2) := by decide +kernel
theorem dX5_keeps_6 : decode cX5_keeps 6 = .ok (.iconst 4, 1) := by decide +kernel
theorem dX5_keeps_7 : decode cX5_keeps 7 = .ok (.if_icmp .le 31, 3) := by decide +kernel
theorem dX5_keeps_10 : decode cX5_keeps 10 = .ok (.aload_n 0, 1) := by decide +kernel
theorem dX5_keeps_11 : decode cX5_keeps 11 = .ok (.getfield 7, 3) := by decide +kernel
theorem dX5_keeps_14 : decode cX5_keeps 14 = .ok (.bipush 77, 2) := by decide +kernel
theorem dX5_keeps_16 : decode cX5_keeps 16 = .ok (.iload 5, 2) := by decide +kernel
theorem dX5_keeps_18 : decode cX5_keeps 18 = .ok (.iadd, 1) := by decide +kernel
theorem dX5_keeps_19 : decode cX5_keeps 19 = .ok (.aload_n 0, 1) := by decide +kernel
theorem dX5_keeps_20 : decode cX5_keeps 20 = .ok (.getfield 7, 3) := by decide +kernel
theorem dX5_keeps_23 : decode cX5_keeps 23 = .ok (.bipush 77, 2) := by decide +kernel
theorem dX5_keeps_25 : decode cX5_keeps 25 = .ok (.iload 5, 2) := by decide +kernel
theorem dX5_keeps_27 : decode cX5_keeps 27 = .ok (.iadd, 1) := by decide +kernel
theorem dX5_keeps_28 : decode cX5_keeps 28 = .ok (.iconst 5, 1) := by decide +kernel
theorem dX5_keeps_29 : decode cX5_keeps 29 = .ok (.isub, 1) := by decide +kernel
theorem dX5_keeps_30 : decode cX5_keeps 30 = .ok (.iaload, 1) := by decide +kernel
theorem dX5_keeps_31 : decode cX5_keeps 31 = .ok (.iastore, 1) := by decide +kernel
theorem dX5_keeps_32 : decode cX5_keeps 32 = .ok (.iinc 5 (-1), 3) := by decide +kernel
theorem dX5_keeps_35 : decode cX5_keeps 35 = .ok (.goto (-31), 3) := by decide +kernel
theorem dX5_keeps_38 : decode cX5_keeps 38 = .ok (.aload_n 0, 1) := by decide +kernel
theorem dX5_keeps_39 : decode cX5_keeps 39 = .ok (.getfield 7, 3) := by decide +kernel
theorem dX5_keeps_42 : decode cX5_keeps 42 = .ok (.bipush 77, 2) := by decide +kernel
theorem dX5_keeps_44 : decode cX5_keeps 44 = .ok (.iload_n 1, 1) := by decide +kernel
theorem dX5_keeps_45 : decode cX5_keeps 45 = .ok (.iastore, 1) := by decide +kernel
theorem dX5_keeps_46 : decode cX5_keeps 46 = .ok (.aload_n 0, 1) := by decide +kernel
theorem dX5_keeps_47 : decode cX5_keeps 47 = .ok (.getfield 7, 3) := by decide +kernel
theorem dX5_keeps_50 : decode cX5_keeps 50 = .ok (.bipush 78, 2) := by decide +kernel
theorem dX5_keeps_52 : decode cX5_keeps 52 = .ok (.iload_n 2, 1) := by decide +kernel
theorem dX5_keeps_53 : decode cX5_keeps 53 = .ok (.iastore, 1) := by decide +kernel
theorem dX5_keeps_54 : decode cX5_keeps 54 = .ok (.aload_n 0, 1) := by decide +kernel
theorem dX5_keeps_55 : decode cX5_keeps 55 = .ok (.getfield 7, 3) := by decide +kernel
theorem dX5_keeps_58 : decode cX5_keeps 58 = .ok (.bipush 79, 2) := by decide +kernel
theorem dX5_keeps_60 : decode cX5_keeps 60 = .ok (.iload_n 3, 1) := by decide +kernel
theorem dX5_keeps_61 : decode cX5_keeps 61 = .ok (.iastore, 1) := by decide +kernel
theorem dX5_keeps_62 : decode cX5_keeps 62 = .ok (.aload_n 0, 1) := by decide +kernel
theorem dX5_keeps_63 : decode cX5_keeps 63 = .ok (.getfield 7, 3) := by decide +kernel
theorem dX5_keeps_66 : decode cX5_keeps 66 = .ok (.bipush 80, 2) := by decide +kernel
theorem dX5_keeps_68 : decode cX5_keeps 68 = .ok (.aload_n 0, 1) := by decide +kernel
theorem dX5_keeps_69 : decode cX5_keeps 69 = .ok (.getfield 7, 3) := by decide +kernel
theorem dX5_keeps_72 : decode cX5_keeps 72 = .ok (.bipush 7, 2) := by decide +kernel
theorem dX5_keeps_74 : decode cX5_keeps 74 = .ok (.iaload, 1) := by decide +kernel
theorem dX5_keeps_75 : decode cX5_keeps 75 = .ok (.iastore, 1) := by decide +kernel
theorem dX5_keeps_76 : decode cX5_keeps 76 = .ok (.aload_n 0, 1) := by decide +kernel
theorem dX5_keeps_77 : decode cX5_keeps 77 = .ok (.getfield 7, 3) := by decide +kernel
theorem dX5_keeps_80 : decode cX5_keeps 80 = .ok (.bipush 81, 2) := by decide +kernel
theorem dX5_keeps_82 : decode cX5_keeps 82 = .ok (.iload 4, 2) := by decide +kernel
theorem dX5_keeps_84 : decode cX5_keeps 84 = .ok (.iastore, 1) := by decide +kernel
theorem dX5_keeps_85 : decode cX5_keeps 85 = .ok (.aload_n 0, 1) := by decide +kernel
theorem dX5_keeps_86 : decode cX5_keeps 86 = .ok (.getfield 7, 3) := by decide +kernel
theorem dX5_keeps_89 : decode cX5_keeps 89 = .ok (.bipush 12, 2) := by decide +kernel
theorem dX5_keeps_91 : decode cX5_keeps 91 = .ok (.aload_n 0, 1) := by decide +kernel
theorem dX5_keeps_92 : decode cX5_keeps 92 = .ok (.getfield 7, 3) := by decide +kernel
theorem dX5_keeps_95 : decode cX5_keeps 95 = .ok (.bipush 12, 2) := by decide +kernel
theorem dX5_keeps_97 : decode cX5_keeps 97 = .ok (.iaload, 1) := by decide +kernel
theorem dX5_keeps_98 : decode cX5_keeps 98 = .ok (.bipush 6, 2) := by decide +kernel
theorem dX5_keeps_100 : decode cX5_keeps 100 = .ok (.if_icmp .ne 8, 3) := by decide +kernel
theorem dX5_keeps_103 : decode cX5_keeps 103 = .ok (.bipush 6, 2) := by decide +kernel
theorem dX5_keeps_105 : decode cX5_keeps 105 = .ok (.goto 12, 3) := by decide +kernel
theorem dX5_keeps_108 : decode cX5_keeps 108 = .ok (.aload_n 0, 1) := by decide +kernel
theorem dX5_keeps_109 : decode cX5_keeps 109 = .ok (.getfield 7, 3) := by decide +kernel
theorem dX5_keeps_112 : decode cX5_keeps 112 = .ok (.bipush 12, 2) := by decide +kernel
theorem dX5_keeps_114 : decode cX5_keeps 114 = .ok (.iaload, 1) := by decide +kernel
theorem dX5_keeps_115 : decode cX5_keeps 115 = .ok (.iconst 1, 1) := by decide +kernel
theorem dX5_keeps_116 : decode cX5_keeps 116 = .ok (.iadd, 1) := by decide +kernel
theorem dX5_keeps_117 : decode cX5_keeps 117 = .ok (.iastore, 1) := by decide +kernel
theorem dX5_keeps_118 : decode cX5_keeps 118 = .ok (.return_, 1) := by decide +kernel
theorem dX5_excludes_0 : decode cX5_excludes 0 = .ok (.aload_n 0, 1) := by decide +kernel
theorem dX5_excludes_1 : decode cX5_excludes 1 = .ok (.getfield 7, 3) := by decide +kernel
theorem dX5_excludes_4 : decode cX5_excludes 4 = .ok (.bipush 7, 2) := by decide +kernel
theorem dX5_excludes_6 : decode cX5_excludes 6 = .ok (.iaload, 1) := by decide +kernel
theorem dX5_excludes_7 : decode cX5_excludes 7 = .ok (.aload_n 0, 1) := by decide +kernel
theorem dX5_excludes_8 : decode cX5_excludes 8 = .ok (.getfield 7, 3) := by decide +kernel
theorem dX5_excludes_11 : decode cX5_excludes 11 = .ok (.iconst 1, 1) := by decide +kernel
theorem dX5_excludes_12 : decode cX5_excludes 12 = .ok (.iaload, 1) := by decide +kernel
theorem dX5_excludes_13 : decode cX5_excludes 13 = .ok (.if_icmp .ge 26, 3) := by decide +kernel
theorem dX5_excludes_16 : decode cX5_excludes 16 = .ok (.aload_n 0, 1) := by decide +kernel
theorem dX5_excludes_17 : decode cX5_excludes 17 = .ok (.getfield 7, 3) := by decide +kernel
theorem dX5_excludes_20 : decode cX5_excludes 20 = .ok (.iconst 1, 1) := by decide +kernel
theorem dX5_excludes_21 : decode cX5_excludes 21 = .ok (.iaload, 1) := by decide +kernel
theorem dX5_excludes_22 : decode cX5_excludes 22 = .ok (.aload_n 0, 1) := by decide +kernel
theorem dX5_excludes_23 : decode cX5_excludes 23 = .ok (.getfield 7, 3) := by decide +kernel
theorem dX5_excludes_26 : decode cX5_excludes 26 = .ok (.bipush 7, 2) := by decide +kernel
theorem dX5_excludes_28 : decode cX5_excludes 28 = .ok (.iaload, 1) := by decide +kernel
theorem dX5_excludes_29 : decode cX5_excludes 29 = .ok (.isub, 1) := by decide +kernel
theorem dX5_excludes_30 : decode cX5_excludes 30 = .ok (.bipush 9, 2) := by decide +kernel
theorem dX5_excludes_32 : decode cX5_excludes 32 = .ok (.iadd, 1) := by decide +kernel
theorem dX5_excludes_33 : decode cX5_excludes 33 = .ok (.bipush 10, 2) := by decide +kernel
theorem dX5_excludes_35 : decode cX5_excludes 35 = .ok (.idiv, 1) := by decide +kernel
theorem dX5_excludes_36 : decode cX5_excludes 36 = .ok (.goto 4, 3) := by decide +kernel
theorem dX5_excludes_39 : decode cX5_excludes 39 = .ok (.iconst 0, 1) := by decide +kernel
theorem dX5_excludes_40 : decode cX5_excludes 40 = .ok (.istore_n 2, 1) := by decide +kernel
theorem dX5_excludes_41 : decode cX5_excludes 41 = .ok (.iload_n 2, 1) := by decide +kernel
theorem dX5_excludes_42 : decode cX5_excludes 42 = .ok (.aload_n 0, 1) := by decide +kernel
theorem dX5_excludes_43 : decode cX5_excludes 43 = .ok (.getfield 7, 3) := by decide +kernel
theorem dX5_excludes_46 : decode cX5_excludes 46 = .ok (.iconst 5, 1) := by decide +kernel
theorem dX5_excludes_47 : decode cX5_excludes 47 = .ok (.iaload, 1) := by decide +kernel
theorem dX5_excludes_48 : decode cX5_excludes 48 = .ok (.iconst 1, 1) := by decide +kernel
theorem dX5_excludes_49 : decode cX5_excludes 49 = .ok (.isub, 1) := by decide +kernel
theorem dX5_excludes_50 : decode cX5_excludes 50 = .ok (.if_icmp .le 14, 3) := by decide +kernel
theorem dX5_excludes_53 : decode cX5_excludes 53 = .ok (.aload_n 0, 1) := by decide +kernel
theorem dX5_excludes_54 : decode cX5_excludes 54 = .ok (.getfield 7, 3) := by decide +kernel
theorem dX5_excludes_57 : decode cX5_excludes 57 = .ok (.iconst 5, 1) := by decide +kernel
theorem dX5_excludes_58 : decode cX5_excludes 58 = .ok (.iaload, 1) := by decide +kernel
theorem dX5_excludes_59 : decode cX5_excludes 59 = .ok (.iconst 1, 1) := by decide +kernel
theorem dX5_excludes_60 : decode cX5_excludes 60 = .ok (.isub, 1) := by decide +kernel
theorem dX5_excludes_61 : decode cX5_excludes 61 = .ok (.goto 4, 3) := by decide +kernel
theorem dX5_excludes_64 : decode cX5_excludes 64 = .ok (.iload_n 2, 1) := by decide +kernel
theorem dX5_excludes_65 : decode cX5_excludes 65 = .ok (.istore_n 2, 1) := by decide +kernel
theorem dX5_excludes_66 : decode cX5_excludes 66 = .ok (.iconst 0, 1) := by decide +kernel
theorem dX5_excludes_67 : decode cX5_excludes 67 = .ok (.istore_n 3, 1) := by decide +kernel
theorem dX5_excludes_68 : decode cX5_excludes 68 = .ok (.iconst 0, 1) := by decide +kernel
theorem dX5_excludes_69 : decode cX5_excludes 69 = .ok (.istore 4, 2) := by decide +kernel
theorem dX5_excludes_71 : decode cX5_excludes 71 = .ok (.iload 4, 2) := by decide +kernel
theorem dX5_excludes_73 : decode cX5_excludes 73 = .ok (.iload_n 2, 1) := by decide +kernel
theorem dX5_excludes_74 : decode cX5_excludes 74 = .ok (.if_icmp .ge 100, 3) := by decide +kernel
theorem dX5_excludes_77 : decode cX5_excludes 77 = .ok (.sipush (-10004), 3) := by decide +kernel
theorem dX5_excludes_80 : decode cX5_excludes 80 = .ok (.istore 5, 2) := by decide +kernel
theorem dX5_excludes_82 : decode cX5_excludes 82 = .ok (.iconst 0, 1) := by decide +kernel
theorem dX5_excludes_83 : decode cX5_excludes 83 = .ok (.istore 6, 2) := by decide +kernel
theorem dX5_excludes_85 : decode cX5_excludes 85 = .ok (.iload 6, 2) := by decide +kernel
theorem dX5_excludes_87 : decode cX5_excludes 87 = .ok (.aload_n 0, 1) := by decide +kernel
theorem dX5_excludes_88 : decode cX5_excludes 88 = .ok (.getfield 7, 3) := by decide +kernel
theorem dX5_excludes_91 : decode cX5_excludes 91 = .ok (.iconst 5, 1) := by decide +kernel
theorem dX5_excludes_92 : decode cX5_excludes 92 = .ok (.iaload, 1) := by decide +kernel
theorem dX5_excludes_93 : decode cX5_excludes 93 = .ok (.if_icmp .ge 63, 3) := by decide +kernel
theorem dX5_excludes_96 : decode cX5_excludes 96 = .ok (.iload_n 1, 1) := by decide +kernel
theorem dX5_excludes_97 : decode cX5_excludes 97 = .ok (.iload_n 3, 1) := by decide +kernel
theorem dX5_excludes_98 : decode cX5_excludes 98 = .ok (.ior, 1) := by decide +kernel
theorem dX5_excludes_99 : decode cX5_excludes 99 = .ok (.iload 6, 2) := by decide +kernel
theorem dX5_excludes_101 : decode cX5_excludes 101 = .ok (.ishr, 1) := by decide +kernel
theorem dX5_excludes_102 : decode cX5_excludes 102 = .ok (.iconst 1, 1) := by decide +kernel
theorem dX5_excludes_103 : decode cX5_excludes 103 = .ok (.iand, 1) := by decide +kernel
theorem dX5_excludes_104 : decode cX5_excludes 104 = .ok (.ifCond .ne 7, 3) := by decide +kernel
theorem dX5_excludes_107 : decode cX5_excludes 107 = .ok (.iconst 1, 1) := by decide +kernel
theorem dX5_excludes_108 : decode cX5_excludes 108 = .ok (.goto 4, 3) := by decide +kernel
theorem dX5_excludes_111 : decode cX5_excludes 111 = .ok (.iconst 0, 1) := by decide +kernel
theorem dX5_excludes_112 : decode cX5_excludes 112 = .ok (.istore 7, 2) := by decide +kernel
theorem dX5_excludes_114 : decode cX5_excludes 114 = .ok (.iload 7, 2) := by decide +kernel
theorem dX5_excludes_116 : decode cX5_excludes 116 = .ok (.ifCond .eq 30, 3) := by decide +kernel
theorem dX5_excludes_119 : decode cX5_excludes 119 = .ok (.iload 5, 2) := by decide +kernel
theorem dX5_excludes_121 : decode cX5_excludes 121 = .ok (.ifCond .lt 20, 3) := by decide +kernel
theorem dX5_excludes_124 : decode cX5_excludes 124 = .ok (.aload_n 0, 1) := by decide +kernel
theorem dX5_excludes_125 : decode cX5_excludes 125 = .ok (.iload 6, 2) := by decide +kernel
theorem dX5_excludes_127 : decode cX5_excludes 127 = .ok (.iconst 5, 1) := by decide +kernel
theorem dX5_excludes_128 : decode cX5_excludes 128 = .ok (.invokevirtual 39, 3) := by decide +kernel
theorem dX5_excludes_131 : decode cX5_excludes 131 = .ok (.aload_n 0, 1) := by decide +kernel
theorem dX5_excludes_132 : decode cX5_excludes 132 = .ok (.iload 5, 2) := by decide +kernel
theorem dX5_excludes_134 : decode cX5_excludes 134 = .ok (.iconst 5, 1) := by decide +kernel
theorem dX5_excludes_135 : decode cX5_excludes 135 = .ok (.invokevirtual 39, 3) := by decide +kernel
theorem dX5_excludes_138 : decode cX5_excludes 138 = .ok (.if_icmp .le 8, 3) := by decide +kernel
theorem dX5_excludes_141 : decode cX5_excludes 141 = .ok (.iload 6, 2) := by decide +kernel
theorem dX5_excludes_143 : decode cX5_excludes 143 = .ok (.goto 5, 3) := by decide +kernel
theorem dX5_excludes_146 : decode cX5_excludes 146 = .ok (.iload 5, 2) := by decide +kernel
theorem dX5_excludes_148 : decode cX5_excludes 148 = .ok (.istore 5, 2) := by decide +kernel
theorem dX5_excludes_150 : decode cX5_excludes 150 = .ok (.iinc 6 1, 3) := by decide +kernel
theorem dX5_excludes_153 : decode cX5_excludes 153 = .ok (.goto (-68), 3) := by decide +kernel
theorem dX5_excludes_156 : decode cX5_excludes 156 = .ok (.iload 5, 2) := by decide +kernel
theorem dX5_excludes_158 : decode cX5_excludes 158 = .ok (.ifCond .lt 10, 3) := by decide +kernel
theorem dX5_excludes_161 : decode cX5_excludes 161 = .ok (.iload_n 3, 1) := by decide +kernel
theorem dX5_excludes_162 : decode cX5_excludes 162 = .ok (.iconst 1, 1) := by decide +kernel
theorem dX5_excludes_163 : decode cX5_excludes 163 = .ok (.iload 5, 2) := by decide +kernel
theorem dX5_excludes_165 : decode cX5_excludes 165 = .ok (.ishl, 1) := by decide +kernel
theorem dX5_excludes_166 : decode cX5_excludes 166 = .ok (.ior, 1) := by decide +kernel
theorem dX5_excludes_167 : decode cX5_excludes 167 = .ok (.istore_n 3, 1) := by decide +kernel
theorem dX5_excludes_168 : decode cX5_excludes 168 = .ok (.iinc 4 1, 3) := by decide +kernel
theorem dX5_excludes_171 : decode cX5_excludes 171 = .ok (.goto (-100), 3) := by decide +kernel
theorem dX5_excludes_174 : decode cX5_excludes 174 = .ok (.iconst 0, 1) := by decide +kernel
theorem dX5_excludes_175 : decode cX5_excludes 175 = .ok (.istore 4, 2) := by decide +kernel
theorem dX5_excludes_177 : decode cX5_excludes 177 = .ok (.iload 4, 2) := by decide +kernel
theorem dX5_excludes_179 : decode cX5_excludes 179 = .ok (.aload_n 0, 1) := by decide +kernel
theorem dX5_excludes_180 : decode cX5_excludes 180 = .ok (.getfield 7, 3) := by decide +kernel
theorem dX5_excludes_183 : decode cX5_excludes 183 = .ok (.iconst 5, 1) := by decide +kernel
theorem dX5_excludes_184 : decode cX5_excludes 184 = .ok (.iaload, 1) := by decide +kernel
theorem dX5_excludes_185 : decode cX5_excludes 185 = .ok (.if_icmp .ge 108, 3) := by decide +kernel
theorem dX5_excludes_188 : decode cX5_excludes 188 = .ok (.iload_n 3, 1) := by decide +kernel
theorem dX5_excludes_189 : decode cX5_excludes 189 = .ok (.iload 4, 2) := by decide +kernel
theorem dX5_excludes_191 : decode cX5_excludes 191 = .ok (.ishr, 1) := by decide +kernel
theorem dX5_excludes_192 : decode cX5_excludes 192 = .ok (.iconst 1, 1) := by decide +kernel
theorem dX5_excludes_193 : decode cX5_excludes 193 = .ok (.iand, 1) := by decide +kernel
theorem dX5_excludes_194 : decode cX5_excludes 194 = .ok (.iconst 1, 1) := by decide +kernel
theorem dX5_excludes_195 : decode cX5_excludes 195 = .ok (.if_icmp .ne 7, 3) := by decide +kernel
theorem dX5_excludes_198 : decode cX5_excludes 198 = .ok (.iconst 1, 1) := by decide +kernel
theorem dX5_excludes_199 : decode cX5_excludes 199 = .ok (.goto 4, 3) := by decide +kernel
theorem dX5_excludes_202 : decode cX5_excludes 202 = .ok (.iconst 0, 1) := by decide +kernel
theorem dX5_excludes_203 : decode cX5_excludes 203 = .ok (.istore 5, 2) := by decide +kernel
theorem dX5_excludes_205 : decode cX5_excludes 205 = .ok (.aload_n 0, 1) := by decide +kernel
theorem dX5_excludes_206 : decode cX5_excludes 206 = .ok (.iload 4, 2) := by decide +kernel
theorem dX5_excludes_208 : decode cX5_excludes 208 = .ok (.iconst 5, 1) := by decide +kernel
theorem dX5_excludes_209 : decode cX5_excludes 209 = .ok (.iload 5, 2) := by decide +kernel
theorem dX5_excludes_211 : decode cX5_excludes 211 = .ok (.ifCond .eq 7, 3) := by decide +kernel
theorem dX5_excludes_214 : decode cX5_excludes 214 = .ok (.iconst 0, 1) := by decide +kernel
theorem dX5_excludes_215 : decode cX5_excludes 215 = .ok (.goto 10, 3) := by decide +kernel
theorem dX5_excludes_218 : decode cX5_excludes 218 = .ok (.aload_n 0, 1) := by decide +kernel
theorem dX5_excludes_219 : decode cX5_excludes 219 = .ok (.iload 4, 2) := by decide +kernel
theorem dX5_excludes_221 : decode cX5_excludes 221 = .ok (.iconst 5, 1) := by decide +kernel
theorem dX5_excludes_222 : decode cX5_excludes 222 = .ok (.invokevirtual 39, 3) := by decide +kernel
theorem dX5_excludes_225 : decode cX5_excludes 225 = .ok (.invokevirtual 60, 3) := by decide +kernel
theorem dX5_excludes_228 : decode cX5_excludes 228 = .ok (.aload_n 0, 1) := by decide +kernel
theorem dX5_excludes_229 : decode cX5_excludes 229 = .ok (.iload 4, 2) := by decide +kernel
theorem dX5_excludes_231 : decode cX5_excludes 231 = .ok (.bipush 6, 2) := by decide +kernel
theorem dX5_excludes_233 : decode cX5_excludes 233 = .ok (.iload 5, 2) := by decide +kernel
theorem dX5_excludes_235 : decode cX5_excludes 235 = .ok (.ifCond .ne 19, 3) := by decide +kernel
theorem dX5_excludes_238 : decode cX5_excludes 238 = .ok (.aload_n 0, 1) := by decide +kernel
theorem dX5_excludes_239 : decode cX5_excludes 239 = .ok (.iload 4, 2) := by decide +kernel
theorem dX5_excludes_241 : decode cX5_excludes 241 = .ok (.iconst 2, 1) := by decide +kernel
theorem dX5_excludes_242 : decode cX5_excludes 242 = .ok (.invokevirtual 39, 3) := by decide +kernel
theorem dX5_excludes_245 : decode cX5_excludes 245 = .ok (.aload_n 0, 1) := by decide +kernel
theorem dX5_excludes_246 : decode cX5_excludes 246 = .ok (.getfield 7, 3) := by decide +kernel
theorem dX5_excludes_249 : decode cX5_excludes 249 = .ok (.iconst 3, 1) := by decide +kernel
theorem dX5_excludes_250 : decode cX5_excludes 250 = .ok (.iaload, 1) := by decide +kernel
theorem dX5_excludes_251 : decode cX5_excludes 251 = .ok (.if_icmp .le 7, 3) := by decide +kernel
theorem dX5_excludes_254 : decode cX5_excludes 254 = .ok (.iconst 1, 1) := by decide +kernel
theorem dX5_excludes_255 : decode cX5_excludes 255 = .ok (.goto 4, 3) := by decide +kernel
theorem dX5_excludes_258 : decode cX5_excludes 258 = .ok (.iconst 0, 1) := by decide +kernel
theorem dX5_excludes_259 : decode cX5_excludes 259 = .ok (.invokevirtual 60, 3) := by decide +kernel
theorem dX5_excludes_262 : decode cX5_excludes 262 = .ok (.aload_n 0, 1) := by decide +kernel
theorem dX5_excludes_263 : decode cX5_excludes 263 = .ok (.iload 4, 2) := by decide +kernel
theorem dX5_excludes_265 : decode cX5_excludes 265 = .ok (.bipush 7, 2) := by decide +kernel
theorem dX5_excludes_267 : decode cX5_excludes 267 = .ok (.aload_n 0, 1) := by decide +kernel
theorem dX5_excludes_268 : decode cX5_excludes 268 = .ok (.iload 4, 2) := by decide +kernel
theorem dX5_excludes_270 : decode cX5_excludes 270 = .ok (.bipush 7, 2) := by decide +kernel
theorem dX5_excludes_272 : decode cX5_excludes 272 = .ok (.invokevirtual 39, 3) := by decide +kernel
theorem dX5_excludes_275 : decode cX5_excludes 275 = .ok (.aload_n 0, 1) := by decide +kernel
theorem dX5_excludes_276 : decode cX5_excludes 276 = .ok (.iload 4, 2) := by decide +kernel
theorem dX5_excludes_278 : decode cX5_excludes 278 = .ok (.bipush 6, 2) := by decide +kernel
theorem dX5_excludes_280 : decode cX5_excludes 280 = .ok (.invokevirtual 39, 3) := by decide +kernel
theorem dX5_excludes_283 : decode cX5_excludes 283 = .ok (.iadd, 1) := by decide +kernel
theorem dX5_excludes_284 : decode cX5_excludes 284 = .ok (.invokevirtual 60, 3) := by decide +kernel
theorem dX5_excludes_287 : decode cX5_excludes 287 = .ok (.iinc 4 1, 3) := by decide +kernel
theorem dX5_excludes_290 : decode cX5_excludes 290 = .ok (.goto (-113), 3) := by decide +kernel
theorem dX5_excludes_293 : decode cX5_excludes 293 = .ok (.return_, 1) := by decide +kernel
theorem dX5_ends_0 : decode cX5_ends 0 = .ok (.aload_n 0, 1) := by decide +kernel
theorem dX5_ends_1 : decode cX5_ends 1 = .ok (.iconst 1, 1) := by decide +kernel
theorem dX5_ends_2 : decode cX5_ends 2 = .ok (.invokevirtual 71, 3) := by decide +kernel
theorem dX5_ends_5 : decode cX5_ends 5 = .ok (.istore_n 1, 1) := by decide +kernel
theorem dX5_ends_6 : decode cX5_ends 6 = .ok (.aload_n 0, 1) := by decide +kernel
theorem dX5_ends_7 : decode cX5_ends 7 = .ok (.iload_n 1, 1) := by decide +kernel
theorem dX5_ends_8 : decode cX5_ends 8 = .ok (.invokevirtual 50, 3) := by decide +kernel
theorem dX5_ends_11 : decode cX5_ends 11 = .ok (.istore_n 2, 1) := by decide +kernel
theorem dX5_ends_12 : decode cX5_ends 12 = .ok (.aload_n 0, 1) := by decide +kernel
theorem dX5_ends_13 : decode cX5_ends 13 = .ok (.invokevirtual 74, 3) := by decide +kernel
theorem dX5_ends_16 : decode cX5_ends 16 = .ok (.istore_n 3, 1) := by decide +kernel
theorem dX5_ends_17 : decode cX5_ends 17 = .ok (.iconst 0, 1) := by decide +kernel
theorem dX5_ends_18 : decode cX5_ends 18 = .ok (.istore 4, 2) := by decide +kernel
theorem dX5_ends_20 : decode cX5_ends 20 = .ok (.iload 4, 2) := by decide +kernel
theorem dX5_ends_22 : decode cX5_ends 22 = .ok (.aload_n 0, 1) := by decide +kernel
theorem dX5_ends_23 : decode cX5_ends 23 = .ok (.getfield 7, 3) := by decide +kernel
theorem dX5_ends_26 : decode cX5_ends 26 = .ok (.iconst 5, 1) := by decide +kernel
theorem dX5_ends_27 : decode cX5_ends 27 = .ok (.iaload, 1) := by decide +kernel
theorem dX5_ends_28 : decode cX5_ends 28 = .ok (.if_icmp .ge 29, 3) := by decide +kernel
theorem dX5_ends_31 : decode cX5_ends 31 = .ok (.aload_n 0, 1) := by decide +kernel
theorem dX5_ends_32 : decode cX5_ends 32 = .ok (.getfield 22, 3) := by decide +kernel
theorem dX5_ends_35 : decode cX5_ends 35 = .ok (.iload 4, 2) := by decide +kernel
theorem dX5_ends_37 : decode cX5_ends 37 = .ok (.aload_n 0, 1) := by decide +kernel
theorem dX5_ends_38 : decode cX5_ends 38 = .ok (.iload 4, 2) := by decide +kernel
theorem dX5_ends_40 : decode cX5_ends 40 = .ok (.aload_n 0, 1) := by decide +kernel
theorem dX5_ends_41 : decode cX5_ends 41 = .ok (.iload 4, 2) := by decide +kernel
theorem dX5_ends_43 : decode cX5_ends 43 = .ok (.iconst 1, 1) := by decide +kernel
theorem dX5_ends_44 : decode cX5_ends 44 = .ok (.invokevirtual 39, 3) := by decide +kernel
theorem dX5_ends_47 : decode cX5_ends 47 = .ok (.invokevirtual 68, 3) := by decide +kernel
theorem dX5_ends_50 : decode cX5_ends 50 = .ok (.iastore, 1) := by decide +kernel
theorem dX5_ends_51 : decode cX5_ends 51 = .ok (.iinc 4 1, 3) := by decide +kernel
theorem dX5_ends_54 : decode cX5_ends 54 = .ok (.goto (-34), 3) := by decide +kernel
theorem dX5_ends_57 : decode cX5_ends 57 = .ok (.iconst 0, 1) := by decide +kernel
theorem dX5_ends_58 : decode cX5_ends 58 = .ok (.istore 4, 2) := by decide +kernel
theorem dX5_ends_60 : decode cX5_ends 60 = .ok (.iload 4, 2) := by decide +kernel
theorem dX5_ends_62 : decode cX5_ends 62 = .ok (.aload_n 0, 1) := by decide +kernel
theorem dX5_ends_63 : decode cX5_ends 63 = .ok (.getfield 7, 3) := by decide +kernel
theorem dX5_ends_66 : decode cX5_ends 66 = .ok (.iconst 5, 1) := by decide +kernel
theorem dX5_ends_67 : decode cX5_ends 67 = .ok (.iaload, 1) := by decide +kernel
theorem dX5_ends_68 : decode cX5_ends 68 = .ok (.if_icmp .ge 83, 3) := by decide +kernel
theorem dX5_ends_71 : decode cX5_ends 71 = .ok (.aload_n 0, 1) := by decide +kernel
theorem dX5_ends_72 : decode cX5_ends 72 = .ok (.iload 4, 2) := by decide +kernel
theorem dX5_ends_74 : decode cX5_ends 74 = .ok (.iconst 2, 1) := by decide +kernel
theorem dX5_ends_75 : decode cX5_ends 75 = .ok (.aload_n 0, 1) := by decide +kernel
theorem dX5_ends_76 : decode cX5_ends 76 = .ok (.iload 4, 2) := by decide +kernel
theorem dX5_ends_78 : decode cX5_ends 78 = .ok (.iconst 2, 1) := by decide +kernel
theorem dX5_ends_79 : decode cX5_ends 79 = .ok (.invokevirtual 39, 3) := by decide +kernel
theorem dX5_ends_82 : decode cX5_ends 82 = .ok (.aload_n 0, 1) := by decide +kernel
theorem dX5_ends_83 : decode cX5_ends 83 = .ok (.getfield 22, 3) := by decide +kernel
theorem dX5_ends_86 : decode cX5_ends 86 = .ok (.iload 4, 2) := by decide +kernel
theorem dX5_ends_88 : decode cX5_ends 88 = .ok (.iaload, 1) := by decide +kernel
theorem dX5_ends_89 : decode cX5_ends 89 = .ok (.iadd, 1) := by decide +kernel
theorem dX5_ends_90 : decode cX5_ends 90 = .ok (.invokevirtual 60, 3) := by decide +kernel
theorem dX5_ends_93 : decode cX5_ends 93 = .ok (.aload_n 0, 1) := by decide +kernel
theorem dX5_ends_94 : decode cX5_ends 94 = .ok (.iload 4, 2) := by decide +kernel
theorem dX5_ends_96 : decode cX5_ends 96 = .ok (.iconst 4, 1) := by decide +kernel
theorem dX5_ends_97 : decode cX5_ends 97 = .ok (.aload_n 0, 1) := by decide +kernel
theorem dX5_ends_98 : decode cX5_ends 98 = .ok (.iload 4, 2) := by decide +kernel
theorem dX5_ends_100 : decode cX5_ends 100 = .ok (.iconst 4, 1) := by decide +kernel
theorem dX5_ends_101 : decode cX5_ends 101 = .ok (.invokevirtual 39, 3) := by decide +kernel
theorem dX5_ends_104 : decode cX5_ends 104 = .ok (.aload_n 0, 1) := by decide +kernel
theorem dX5_ends_105 : decode cX5_ends 105 = .ok (.iload 4, 2) := by decide +kernel
theorem dX5_ends_107 : decode cX5_ends 107 = .ok (.iconst 1, 1) := by decide +kernel
theorem dX5_ends_108 : decode cX5_ends 108 = .ok (.invokevirtual 39, 3) := by decide +kernel
theorem dX5_ends_111 : decode cX5_ends 111 = .ok (.iadd, 1) := by decide +kernel
theorem dX5_ends_112 : decode cX5_ends 112 = .ok (.invokevirtual 60, 3) := by decide +kernel
theorem dX5_ends_115 : decode cX5_ends 115 = .ok (.aload_n 0, 1) := by decide +kernel
theorem dX5_ends_116 : decode cX5_ends 116 = .ok (.iload 4, 2) := by decide +kernel
theorem dX5_ends_118 : decode cX5_ends 118 = .ok (.iconst 5, 1) := by decide +kernel
theorem dX5_ends_119 : decode cX5_ends 119 = .ok (.aload_n 0, 1) := by decide +kernel
theorem dX5_ends_120 : decode cX5_ends 120 = .ok (.iload 4, 2) := by decide +kernel
theorem dX5_ends_122 : decode cX5_ends 122 = .ok (.iconst 5, 1) := by decide +kernel
theorem dX5_ends_123 : decode cX5_ends 123 = .ok (.invokevirtual 39, 3) := by decide +kernel
theorem dX5_ends_126 : decode cX5_ends 126 = .ok (.aload_n 0, 1) := by decide +kernel
theorem dX5_ends_127 : decode cX5_ends 127 = .ok (.iload 4, 2) := by decide +kernel
theorem dX5_ends_129 : decode cX5_ends 129 = .ok (.iconst 1, 1) := by decide +kernel
theorem dX5_ends_130 : decode cX5_ends 130 = .ok (.invokevirtual 39, 3) := by decide +kernel
theorem dX5_ends_133 : decode cX5_ends 133 = .ok (.iadd, 1) := by decide +kernel
theorem dX5_ends_134 : decode cX5_ends 134 = .ok (.invokevirtual 60, 3) := by decide +kernel
theorem dX5_ends_137 : decode cX5_ends 137 = .ok (.aload_n 0, 1) := by decide +kernel
theorem dX5_ends_138 : decode cX5_ends 138 = .ok (.iload 4, 2) := by decide +kernel
theorem dX5_ends_140 : decode cX5_ends 140 = .ok (.iconst 1, 1) := by decide +kernel
theorem dX5_ends_141 : decode cX5_ends 141 = .ok (.iconst 0, 1) := by decide +kernel
theorem dX5_ends_142 : decode cX5_ends 142 = .ok (.invokevirtual 60, 3) := by decide +kernel
theorem dX5_ends_145 : decode cX5_ends 145 = .ok (.iinc 4 1, 3) := by decide +kernel
theorem dX5_ends_148 : decode cX5_ends 148 = .ok (.goto (-88), 3) := by decide +kernel
theorem dX5_ends_151 : decode cX5_ends 151 = .ok (.aload_n 0, 1) := by decide +kernel
theorem dX5_ends_152 : decode cX5_ends 152 = .ok (.getfield 7, 3) := by decide +kernel
theorem dX5_ends_155 : decode cX5_ends 155 = .ok (.bipush 9, 2) := by decide +kernel
theorem dX5_ends_157 : decode cX5_ends 157 = .ok (.dup2, 1) := by decide +kernel
theorem dX5_ends_158 : decode cX5_ends 158 = .ok (.iaload, 1) := by decide +kernel
theorem dX5_ends_159 : decode cX5_ends 159 = .ok (.iload_n 2, 1) := by decide +kernel
theorem dX5_ends_160 : decode cX5_ends 160 = .ok (.iadd, 1) := by decide +kernel
theorem dX5_ends_161 : decode cX5_ends 161 = .ok (.iastore, 1) := by decide +kernel
theorem dX5_ends_162 : decode cX5_ends 162 = .ok (.aload_n 0, 1) := by decide +kernel
theorem dX5_ends_163 : decode cX5_ends 163 = .ok (.getfield 7, 3) := by decide +kernel
theorem dX5_ends_166 : decode cX5_ends 166 = .ok (.bipush 10, 2) := by decide +kernel
theorem dX5_ends_168 : decode cX5_ends 168 = .ok (.dup2, 1) := by decide +kernel
theorem dX5_ends_169 : decode cX5_ends 169 = .ok (.iaload, 1) := by decide +kernel
theorem dX5_ends_170 : decode cX5_ends 170 = .ok (.iload_n 2, 1) := by decide +kernel
theorem dX5_ends_171 : decode cX5_ends 171 = .ok (.aload_n 0, 1) := by decide +kernel
theorem dX5_ends_172 : decode cX5_ends 172 = .ok (.getfield 7, 3) := by decide +kernel
theorem dX5_ends_175 : decode cX5_ends 175 = .ok (.bipush 7, 2) := by decide +kernel
theorem dX5_ends_177 : decode cX5_ends 177 = .ok (.iaload, 1) := by decide +kernel
theorem dX5_ends_178 : decode cX5_ends 178 = .ok (.if_icmp .le 15, 3) := by decide +kernel
theorem dX5_ends_181 : decode cX5_ends 181 = .ok (.iload_n 2, 1) := by decide +kernel
theorem dX5_ends_182 : decode cX5_ends 182 = .ok (.aload_n 0, 1) := by decide +kernel
theorem dX5_ends_183 : decode cX5_ends 183 = .ok (.getfield 7, 3) := by decide +kernel
theorem dX5_ends_186 : decode cX5_ends 186 = .ok (.bipush 7, 2) := by decide +kernel
theorem dX5_ends_188 : decode cX5_ends 188 = .ok (.iaload, 1) := by decide +kernel
theorem dX5_ends_189 : decode cX5_ends 189 = .ok (.isub, 1) := by decide +kernel
theorem dX5_ends_190 : decode cX5_ends 190 = .ok (.goto 4, 3) := by decide +kernel
theorem dX5_ends_193 : decode cX5_ends 193 = .ok (.iconst 0, 1) := by decide +kernel
theorem dX5_ends_194 : decode cX5_ends 194 = .ok (.iadd, 1) := by decide +kernel
theorem dX5_ends_195 : decode cX5_ends 195 = .ok (.iastore, 1) := by decide +kernel
theorem dX5_ends_196 : decode cX5_ends 196 = .ok (.aload_n 0, 1) := by decide +kernel
theorem dX5_ends_197 : decode cX5_ends 197 = .ok (.getfield 7, 3) := by decide +kernel
theorem dX5_ends_200 : decode cX5_ends 200 = .ok (.bipush 7, 2) := by decide +kernel
theorem dX5_ends_202 : decode cX5_ends 202 = .ok (.iload_n 2, 1) := by decide +kernel
theorem dX5_ends_203 : decode cX5_ends 203 = .ok (.aload_n 0, 1) := by decide +kernel
theorem dX5_ends_204 : decode cX5_ends 204 = .ok (.getfield 7, 3) := by decide +kernel
theorem dX5_ends_207 : decode cX5_ends 207 = .ok (.bipush 7, 2) := by decide +kernel
theorem dX5_ends_209 : decode cX5_ends 209 = .ok (.iaload, 1) := by decide +kernel
theorem dX5_ends_210 : decode cX5_ends 210 = .ok (.if_icmp .le 7, 3) := by decide +kernel
theorem dX5_ends_213 : decode cX5_ends 213 = .ok (.iconst 0, 1) := by decide +kernel
theorem dX5_ends_214 : decode cX5_ends 214 = .ok (.goto 12, 3) := by decide +kernel
theorem dX5_ends_217 : decode cX5_ends 217 = .ok (.aload_n 0, 1) := by decide +kernel
theorem dX5_ends_218 : decode cX5_ends 218 = .ok (.getfield 7, 3) := by decide +kernel
theorem dX5_ends_221 : decode cX5_ends 221 = .ok (.bipush 7, 2) := by decide +kernel
theorem dX5_ends_223 : decode cX5_ends 223 = .ok (.iaload, 1) := by decide +kernel
theorem dX5_ends_224 : decode cX5_ends 224 = .ok (.iload_n 2, 1) := by decide +kernel
theorem dX5_ends_225 : decode cX5_ends 225 = .ok (.isub, 1) := by decide +kernel
theorem dX5_ends_226 : decode cX5_ends 226 = .ok (.iastore, 1) := by decide +kernel
theorem dX5_ends_227 : decode cX5_ends 227 = .ok (.aload_n 0, 1) := by decide +kernel
theorem dX5_ends_228 : decode cX5_ends 228 = .ok (.getfield 7, 3) := by decide +kernel
theorem dX5_ends_231 : decode cX5_ends 231 = .ok (.bipush 7, 2) := by decide +kernel
theorem dX5_ends_233 : decode cX5_ends 233 = .ok (.aload_n 0, 1) := by decide +kernel
theorem dX5_ends_234 : decode cX5_ends 234 = .ok (.getfield 7, 3) := by decide +kernel
theorem dX5_ends_237 : decode cX5_ends 237 = .ok (.bipush 7, 2) := by decide +kernel
theorem dX5_ends_239 : decode cX5_ends 239 = .ok (.iaload, 1) := by decide +kernel
theorem dX5_ends_240 : decode cX5_ends 240 = .ok (.aload_n 0, 1) := by decide +kernel
theorem dX5_ends_241 : decode cX5_ends 241 = .ok (.getfield 7, 3) := by decide +kernel
theorem dX5_ends_244 : decode cX5_ends 244 = .ok (.iconst 2, 1) := by decide +kernel
theorem dX5_ends_245 : decode cX5_ends 245 = .ok (.iaload, 1) := by decide +kernel
theorem dX5_ends_246 : decode cX5_ends 246 = .ok (.iadd, 1) := by decide +kernel
theorem dX5_ends_247 : decode cX5_ends 247 = .ok (.bipush 100, 2) := by decide +kernel
theorem dX5_ends_249 : decode cX5_ends 249 = .ok (.if_icmp .le 8, 3) := by decide +kernel
theorem dX5_ends_252 : decode cX5_ends 252 = .ok (.bipush 100, 2) := by decide +kernel
theorem dX5_ends_254 : decode cX5_ends 254 = .ok (.goto 17, 3) := by decide +kernel
theorem dX5_ends_257 : decode cX5_ends 257 = .ok (.aload_n 0, 1) := by decide +kernel
theorem dX5_ends_258 : decode cX5_ends 258 = .ok (.getfield 7, 3) := by decide +kernel
theorem dX5_ends_261 : decode cX5_ends 261 = .ok (.bipush 7, 2) := by decide +kernel
theorem dX5_ends_263 : decode cX5_ends 263 = .ok (.iaload, 1) := by decide +kernel
theorem dX5_ends_264 : decode cX5_ends 264 = .ok (.aload_n 0, 1) := by decide +kernel
theorem dX5_ends_265 : decode cX5_ends 265 = .ok (.getfield 7, 3) := by decide +kernel
theorem dX5_ends_268 : decode cX5_ends 268 = .ok (.iconst 2, 1) := by decide +kernel
theorem dX5_ends_269 : decode cX5_ends 269 = .ok (.iaload, 1) := by decide +kernel
theorem dX5_ends_270 : decode cX5_ends 270 = .ok (.iadd, 1) := by decide +kernel
theorem dX5_ends_271 : decode cX5_ends 271 = .ok (.iastore, 1) := by decide +kernel
theorem dX5_ends_272 : decode cX5_ends 272 = .ok (.aload_n 0, 1) := by decide +kernel
theorem dX5_ends_273 : decode cX5_ends 273 = .ok (.aload_n 0, 1) := by decide +kernel
theorem dX5_ends_274 : decode cX5_ends 274 = .ok (.getfield 7, 3) := by decide +kernel
theorem dX5_ends_277 : decode cX5_ends 277 = .ok (.bipush 6, 2) := by decide +kernel
theorem dX5_ends_279 : decode cX5_ends 279 = .ok (.iaload, 1) := by decide +kernel
theorem dX5_ends_280 : decode cX5_ends 280 = .ok (.iload_n 1, 1) := by decide +kernel
theorem dX5_ends_281 : decode cX5_ends 281 = .ok (.iload_n 2, 1) := by decide +kernel
theorem dX5_ends_282 : decode cX5_ends 282 = .ok (.iload_n 3, 1) := by decide +kernel
theorem dX5_ends_283 : decode cX5_ends 283 = .ok (.invokevirtual 78, 3) := by decide +kernel
theorem dX5_ends_286 : decode cX5_ends 286 = .ok (.aload_n 0, 1) := by decide +kernel
theorem dX5_ends_287 : decode cX5_ends 287 = .ok (.getfield 7, 3) := by decide +kernel
theorem dX5_ends_290 : decode cX5_ends 290 = .ok (.bipush 6, 2) := by decide +kernel
theorem dX5_ends_292 : decode cX5_ends 292 = .ok (.dup2, 1) := by decide +kernel
theorem dX5_ends_293 : decode cX5_ends 293 = .ok (.iaload, 1) := by decide +kernel
theorem dX5_ends_294 : decode cX5_ends 294 = .ok (.iconst 1, 1) := by decide +kernel
theorem dX5_ends_295 : decode cX5_ends 295 = .ok (.iadd, 1) := by decide +kernel
theorem dX5_ends_296 : decode cX5_ends 296 = .ok (.iastore, 1) := by decide +kernel
theorem dX5_ends_297 : decode cX5_ends 297 = .ok (.aload_n 0, 1) := by decide +kernel
theorem dX5_ends_298 : decode cX5_ends 298 = .ok (.iload_n 3, 1) := by decide +kernel
theorem dX5_ends_299 : decode cX5_ends 299 = .ok (.invokevirtual 82, 3) := by decide +kernel
theorem dX5_ends_302 : decode cX5_ends 302 = .ok (.iload_n 2, 1) := by decide +kernel
theorem dX5_ends_303 : decode cX5_ends 303 = .ok (.ireturn, 1) := by decide +kernel
theorem dX5_close_0 : decode cX5_close 0 = .ok (.aload_n 0, 1) := by decide +kernel
theorem dX5_close_1 : decode cX5_close 1 = .ok (.getfield 7, 3) := by decide +kernel
theorem dX5_close_4 : decode cX5_close 4 = .ok (.iconst 5, 1) := by decide +kernel
theorem dX5_close_5 : decode cX5_close 5 = .ok (.iaload, 1) := by decide +kernel
theorem dX5_close_6 : decode cX5_close 6 = .ok (.ifCond .ne 7, 3) := by decide +kernel
theorem dX5_close_9 : decode cX5_close 9 = .ok (.sipush (-10002), 3) := by decide +kernel
theorem dX5_close_12 : decode cX5_close 12 = .ok (.ireturn, 1) := by decide +kernel
theorem dX5_close_13 : decode cX5_close 13 = .ok (.aload_n 0, 1) := by decide +kernel
theorem dX5_close_14 : decode cX5_close 14 = .ok (.getfield 7, 3) := by decide +kernel
theorem dX5_close_17 : decode cX5_close 17 = .ok (.bipush 6, 2) := by decide +kernel
theorem dX5_close_19 : decode cX5_close 19 = .ok (.iaload, 1) := by decide +kernel
theorem dX5_close_20 : decode cX5_close 20 = .ok (.sipush 999, 3) := by decide +kernel
theorem dX5_close_23 : decode cX5_close 23 = .ok (.if_icmp .ne 7, 3) := by decide +kernel
theorem dX5_close_26 : decode cX5_close 26 = .ok (.sipush (-10003), 3) := by decide +kernel
theorem dX5_close_29 : decode cX5_close 29 = .ok (.ireturn, 1) := by decide +kernel
theorem dX5_close_30 : decode cX5_close 30 = .ok (.aload_n 0, 1) := by decide +kernel
theorem dX5_close_31 : decode cX5_close 31 = .ok (.invokevirtual 57, 3) := by decide +kernel
theorem dX5_close_34 : decode cX5_close 34 = .ok (.aload_n 0, 1) := by decide +kernel
theorem dX5_close_35 : decode cX5_close 35 = .ok (.invokevirtual 86, 3) := by decide +kernel
theorem dX5_close_38 : decode cX5_close 38 = .ok (.ireturn, 1) := by decide +kernel
theorem dX5_pay_0 : decode cX5_pay 0 = .ok (.aload_n 0, 1) := by decide +kernel
theorem dX5_pay_1 : decode cX5_pay 1 = .ok (.iload_n 1, 1) := by decide +kernel
theorem dX5_pay_2 : decode cX5_pay 2 = .ok (.invokevirtual 64, 3) := by decide +kernel
theorem dX5_pay_5 : decode cX5_pay 5 = .ok (.ifCond .eq 14, 3) := by decide +kernel
theorem dX5_pay_8 : decode cX5_pay 8 = .ok (.iload_n 2, 1) := by decide +kernel
theorem dX5_pay_9 : decode cX5_pay 9 = .ok (.iconst 1, 1) := by decide +kernel
theorem dX5_pay_10 : decode cX5_pay 10 = .ok (.sipush 999, 3) := by decide +kernel
theorem dX5_pay_13 : decode cX5_pay 13 = .ok (.invokestatic 53, 3) := by decide +kernel
theorem dX5_pay_16 : decode cX5_pay 16 = .ok (.ifCond .ne 7, 3) := by decide +kernel
theorem dX5_pay_19 : decode cX5_pay 19 = .ok (.sipush (-10001), 3) := by decide +kernel
theorem dX5_pay_22 : decode cX5_pay 22 = .ok (.ireturn, 1) := by decide +kernel
theorem dX5_pay_23 : decode cX5_pay 23 = .ok (.aload_n 0, 1) := by decide +kernel
theorem dX5_pay_24 : decode cX5_pay 24 = .ok (.iload_n 1, 1) := by decide +kernel
theorem dX5_pay_25 : decode cX5_pay 25 = .ok (.iconst 2, 1) := by decide +kernel
theorem dX5_pay_26 : decode cX5_pay 26 = .ok (.invokevirtual 39, 3) := by decide +kernel
theorem dX5_pay_29 : decode cX5_pay 29 = .ok (.iload_n 2, 1) := by decide +kernel
theorem dX5_pay_30 : decode cX5_pay 30 = .ok (.if_icmp .ge 7, 3) := by decide +kernel
theorem dX5_pay_33 : decode cX5_pay 33 = .ok (.sipush (-10002), 3) := by decide +kernel
theorem dX5_pay_36 : decode cX5_pay 36 = .ok (.ireturn, 1) := by decide +kernel
theorem dX5_pay_37 : decode cX5_pay 37 = .ok (.aload_n 0, 1) := by decide +kernel
theorem dX5_pay_38 : decode cX5_pay 38 = .ok (.invokevirtual 57, 3) := by decide +kernel
theorem dX5_pay_41 : decode cX5_pay 41 = .ok (.aload_n 0, 1) := by decide +kernel
theorem dX5_pay_42 : decode cX5_pay 42 = .ok (.iload_n 1, 1) := by decide +kernel
theorem dX5_pay_43 : decode cX5_pay 43 = .ok (.iconst 2, 1) := by decide +kernel
theorem dX5_pay_44 : decode cX5_pay 44 = .ok (.aload_n 0, 1) := by decide +kernel
theorem dX5_pay_45 : decode cX5_pay 45 = .ok (.iload_n 1, 1) := by decide +kernel
theorem dX5_pay_46 : decode cX5_pay 46 = .ok (.iconst 2, 1) := by decide +kernel
theorem dX5_pay_47 : decode cX5_pay 47 = .ok (.invokevirtual 39, 3) := by decide +kernel
theorem dX5_pay_50 : decode cX5_pay 50 = .ok (.iload_n 2, 1) := by decide +kernel
theorem dX5_pay_51 : decode cX5_pay 51 = .ok (.isub, 1) := by decide +kernel
theorem dX5_pay_52 : decode cX5_pay 52 = .ok (.invokevirtual 60, 3) := by decide +kernel
theorem dX5_pay_55 : decode cX5_pay 55 = .ok (.aload_n 0, 1) := by decide +kernel
theorem dX5_pay_56 : decode cX5_pay 56 = .ok (.iload_n 1, 1) := by decide +kernel
theorem dX5_pay_57 : decode cX5_pay 57 = .ok (.iconst 3, 1) := by decide +kernel
theorem dX5_pay_58 : decode cX5_pay 58 = .ok (.aload_n 0, 1) := by decide +kernel
theorem dX5_pay_59 : decode cX5_pay 59 = .ok (.iload_n 1, 1) := by decide +kernel
theorem dX5_pay_60 : decode cX5_pay 60 = .ok (.iconst 3, 1) := by decide +kernel
theorem dX5_pay_61 : decode cX5_pay 61 = .ok (.invokevirtual 39, 3) := by decide +kernel
theorem dX5_pay_64 : decode cX5_pay 64 = .ok (.iload_n 2, 1) := by decide +kernel
theorem dX5_pay_65 : decode cX5_pay 65 = .ok (.iadd, 1) := by decide +kernel
theorem dX5_pay_66 : decode cX5_pay 66 = .ok (.invokevirtual 60, 3) := by decide +kernel
theorem dX5_pay_69 : decode cX5_pay 69 = .ok (.aload_n 0, 1) := by decide +kernel
theorem dX5_pay_70 : decode cX5_pay 70 = .ok (.getfield 7, 3) := by decide +kernel
theorem dX5_pay_73 : decode cX5_pay 73 = .ok (.bipush 8, 2) := by decide +kernel
theorem dX5_pay_75 : decode cX5_pay 75 = .ok (.dup2, 1) := by decide +kernel
theorem dX5_pay_76 : decode cX5_pay 76 = .ok (.iaload, 1) := by decide +kernel
theorem dX5_pay_77 : decode cX5_pay 77 = .ok (.iload_n 2, 1) := by decide +kernel
theorem dX5_pay_78 : decode cX5_pay 78 = .ok (.iadd, 1) := by decide +kernel
theorem dX5_pay_79 : decode cX5_pay 79 = .ok (.iastore, 1) := by decide +kernel
theorem dX5_pay_80 : decode cX5_pay 80 = .ok (.aload_n 0, 1) := by decide +kernel
theorem dX5_pay_81 : decode cX5_pay 81 = .ok (.iload_n 1, 1) := by decide +kernel
theorem dX5_pay_82 : decode cX5_pay 82 = .ok (.iconst 2, 1) := by decide +kernel
theorem dX5_pay_83 : decode cX5_pay 83 = .ok (.invokevirtual 39, 3) := by decide +kernel
theorem dX5_pay_86 : decode cX5_pay 86 = .ok (.ireturn, 1) := by decide +kernel
theorem dX5_repair_0 : decode cX5_repair 0 = .ok (.iload_n 1, 1) := by decide +kernel
theorem dX5_repair_1 : decode cX5_repair 1 = .ok (.iconst 1, 1) := by decide +kernel
theorem dX5_repair_2 : decode cX5_repair 2 = .ok (.bipush 100, 2) := by decide +kernel
theorem dX5_repair_4 : decode cX5_repair 4 = .ok (.invokestatic 53, 3) := by decide +kernel
theorem dX5_repair_7 : decode cX5_repair 7 = .ok (.ifCond .ne 7, 3) := by decide +kernel
theorem dX5_repair_10 : decode cX5_repair 10 = .ok (.sipush (-10001), 3) := by decide +kernel
theorem dX5_repair_13 : decode cX5_repair 13 = .ok (.ireturn, 1) := by decide +kernel
theorem dX5_repair_14 : decode cX5_repair 14 = .ok (.iload_n 1, 1) := by decide +kernel
theorem dX5_repair_15 : decode cX5_repair 15 = .ok (.aload_n 0, 1) := by decide +kernel
theorem dX5_repair_16 : decode cX5_repair 16 = .ok (.getfield 7, 3) := by decide +kernel
theorem dX5_repair_19 : decode cX5_repair 19 = .ok (.iconst 4, 1) := by decide +kernel
theorem dX5_repair_20 : decode cX5_repair 20 = .ok (.iaload, 1) := by decide +kernel
theorem dX5_repair_21 : decode cX5_repair 21 = .ok (.imul, 1) := by decide +kernel
theorem dX5_repair_22 : decode cX5_repair 22 = .ok (.istore_n 2, 1) := by decide +kernel
theorem dX5_repair_23 : decode cX5_repair 23 = .ok (.iload_n 2, 1) := by decide +kernel
theorem dX5_repair_24 : decode cX5_repair 24 = .ok (.aload_n 0, 1) := by decide +kernel
theorem dX5_repair_25 : decode cX5_repair 25 = .ok (.getfield 7, 3) := by decide +kernel
theorem dX5_repair_28 : decode cX5_repair 28 = .ok (.bipush 8, 2) := by decide +kernel
theorem dX5_repair_30 : decode cX5_repair 30 = .ok (.iaload, 1) := by decide +kernel
theorem dX5_repair_31 : decode cX5_repair 31 = .ok (.if_icmp .le 15, 3) := by decide +kernel
theorem dX5_repair_34 : decode cX5_repair 34 = .ok (.iload_n 2, 1) := by decide +kernel
theorem dX5_repair_35 : decode cX5_repair 35 = .ok (.aload_n 0, 1) := by decide +kernel
theorem dX5_repair_36 : decode cX5_repair 36 = .ok (.getfield 7, 3) := by decide +kernel
theorem dX5_repair_39 : decode cX5_repair 39 = .ok (.bipush 8, 2) := by decide +kernel
theorem dX5_repair_41 : decode cX5_repair 41 = .ok (.iaload, 1) := by decide +kernel
theorem dX5_repair_42 : decode cX5_repair 42 = .ok (.isub, 1) := by decide +kernel
theorem dX5_repair_43 : decode cX5_repair 43 = .ok (.goto 4, 3) := by decide +kernel
theorem dX5_repair_46 : decode cX5_repair 46 = .ok (.iconst 0, 1) := by decide +kernel
theorem dX5_repair_47 : decode cX5_repair 47 = .ok (.istore_n 3, 1) := by decide +kernel
theorem dX5_repair_48 : decode cX5_repair 48 = .ok (.aload_n 0, 1) := by decide +kernel
theorem dX5_repair_49 : decode cX5_repair 49 = .ok (.iconst 4, 1) := by decide +kernel
theorem dX5_repair_50 : decode cX5_repair 50 = .ok (.invokevirtual 71, 3) := by decide +kernel
theorem dX5_repair_53 : decode cX5_repair 53 = .ok (.istore 4, 2) := by decide +kernel
theorem dX5_repair_55 : decode cX5_repair 55 = .ok (.aload_n 0, 1) := by decide +kernel
theorem dX5_repair_56 : decode cX5_repair 56 = .ok (.getfield 7, 3) := by decide +kernel
theorem dX5_repair_59 : decode cX5_repair 59 = .ok (.bipush 7, 2) := by decide +kernel
theorem dX5_repair_61 : decode cX5_repair 61 = .ok (.iaload, 1) := by decide +kernel
theorem dX5_repair_62 : decode cX5_repair 62 = .ok (.iload_n 1, 1) := by decide +kernel
theorem dX5_repair_63 : decode cX5_repair 63 = .ok (.iadd, 1) := by decide +kernel
theorem dX5_repair_64 : decode cX5_repair 64 = .ok (.bipush 100, 2) := by decide +kernel
theorem dX5_repair_66 : decode cX5_repair 66 = .ok (.if_icmp .gt 12, 3) := by decide +kernel
theorem dX5_repair_69 : decode cX5_repair 69 = .ok (.iload_n 3, 1) := by decide +kernel
theorem dX5_repair_70 : decode cX5_repair 70 = .ok (.ifCond .le 12, 3) := by decide +kernel
theorem dX5_repair_73 : decode cX5_repair 73 = .ok (.iload 4, 2) := by decide +kernel
theorem dX5_repair_75 : decode cX5_repair 75 = .ok (.ifCond .ne 7, 3) := by decide +kernel
theorem dX5_repair_78 : decode cX5_repair 78 = .ok (.sipush (-10002), 3) := by decide +kernel
theorem dX5_repair_81 : decode cX5_repair 81 = .ok (.ireturn, 1) := by decide +kernel
theorem dX5_repair_82 : decode cX5_repair 82 = .ok (.aload_n 0, 1) := by decide +kernel
theorem dX5_repair_83 : decode cX5_repair 83 = .ok (.invokevirtual 57, 3) := by decide +kernel
theorem dX5_repair_86 : decode cX5_repair 86 = .ok (.aload_n 0, 1) := by decide +kernel
theorem dX5_repair_87 : decode cX5_repair 87 = .ok (.getfield 7, 3) := by decide +kernel
theorem dX5_repair_90 : decode cX5_repair 90 = .ok (.bipush 8, 2) := by decide +kernel
theorem dX5_repair_92 : decode cX5_repair 92 = .ok (.dup2, 1) := by decide +kernel
theorem dX5_repair_93 : decode cX5_repair 93 = .ok (.iaload, 1) := by decide +kernel
theorem dX5_repair_94 : decode cX5_repair 94 = .ok (.iload_n 2, 1) := by decide +kernel
theorem dX5_repair_95 : decode cX5_repair 95 = .ok (.iload_n 3, 1) := by decide +kernel
theorem dX5_repair_96 : decode cX5_repair 96 = .ok (.isub, 1) := by decide +kernel
theorem dX5_repair_97 : decode cX5_repair 97 = .ok (.isub, 1) := by decide +kernel
theorem dX5_repair_98 : decode cX5_repair 98 = .ok (.iastore, 1) := by decide +kernel
theorem dX5_repair_99 : decode cX5_repair 99 = .ok (.aload_n 0, 1) := by decide +kernel
theorem dX5_repair_100 : decode cX5_repair 100 = .ok (.getfield 7, 3) := by decide +kernel
theorem dX5_repair_103 : decode cX5_repair 103 = .ok (.bipush 7, 2) := by decide +kernel
theorem dX5_repair_105 : decode cX5_repair 105 = .ok (.dup2, 1) := by decide +kernel
theorem dX5_repair_106 : decode cX5_repair 106 = .ok (.iaload, 1) := by decide +kernel
theorem dX5_repair_107 : decode cX5_repair 107 = .ok (.iload_n 1, 1) := by decide +kernel
theorem dX5_repair_108 : decode cX5_repair 108 = .ok (.iadd, 1) := by decide +kernel
theorem dX5_repair_109 : decode cX5_repair 109 = .ok (.iastore, 1) := by decide +kernel
theorem dX5_repair_110 : decode cX5_repair 110 = .ok (.aload_n 0, 1) := by decide +kernel
theorem dX5_repair_111 : decode cX5_repair 111 = .ok (.getfield 7, 3) := by decide +kernel
theorem dX5_repair_114 : decode cX5_repair 114 = .ok (.bipush 11, 2) := by decide +kernel
theorem dX5_repair_116 : decode cX5_repair 116 = .ok (.dup2, 1) := by decide +kernel
theorem dX5_repair_117 : decode cX5_repair 117 = .ok (.iaload, 1) := by decide +kernel
theorem dX5_repair_118 : decode cX5_repair 118 = .ok (.iload_n 1, 1) := by decide +kernel
theorem dX5_repair_119 : decode cX5_repair 119 = .ok (.iadd, 1) := by decide +kernel
theorem dX5_repair_120 : decode cX5_repair 120 = .ok (.iastore, 1) := by decide +kernel
theorem dX5_repair_121 : decode cX5_repair 121 = .ok (.iload_n 3, 1) := by decide +kernel
theorem dX5_repair_122 : decode cX5_repair 122 = .ok (.istore 5, 2) := by decide +kernel
theorem dX5_repair_124 : decode cX5_repair 124 = .ok (.iconst 0, 1) := by decide +kernel
theorem dX5_repair_125 : decode cX5_repair 125 = .ok (.istore 6, 2) := by decide +kernel
theorem dX5_repair_127 : decode cX5_repair 127 = .ok (.iload 6, 2) := by decide +kernel
theorem dX5_repair_129 : decode cX5_repair 129 = .ok (.aload_n 0, 1) := by decide +kernel
theorem dX5_repair_130 : decode cX5_repair 130 = .ok (.getfield 7, 3) := by decide +kernel
theorem dX5_repair_133 : decode cX5_repair 133 = .ok (.iconst 5, 1) := by decide +kernel
theorem dX5_repair_134 : decode cX5_repair 134 = .ok (.iaload, 1) := by decide +kernel
theorem dX5_repair_135 : decode cX5_repair 135 = .ok (.if_icmp .ge 30, 3) := by decide +kernel
theorem dX5_repair_138 : decode cX5_repair 138 = .ok (.iload_n 3, 1) := by decide +kernel
theorem dX5_repair_139 : decode cX5_repair 139 = .ok (.ifCond .le 26, 3) := by decide +kernel
theorem dX5_repair_142 : decode cX5_repair 142 = .ok (.iload 5, 2) := by decide +kernel
theorem dX5_repair_144 : decode cX5_repair 144 = .ok (.iload_n 3, 1) := by decide +kernel
theorem dX5_repair_145 : decode cX5_repair 145 = .ok (.aload_n 0, 1) := by decide +kernel
theorem dX5_repair_146 : decode cX5_repair 146 = .ok (.iload 6, 2) := by decide +kernel
theorem dX5_repair_148 : decode cX5_repair 148 = .ok (.iconst 4, 1) := by decide +kernel
theorem dX5_repair_149 : decode cX5_repair 149 = .ok (.invokevirtual 39, 3) := by decide +kernel
theorem dX5_repair_152 : decode cX5_repair 152 = .ok (.imul, 1) := by decide +kernel
theorem dX5_repair_153 : decode cX5_repair 153 = .ok (.iload 4, 2) := by decide +kernel
theorem dX5_repair_155 : decode cX5_repair 155 = .ok (.idiv, 1) := by decide +kernel
theorem dX5_repair_156 : decode cX5_repair 156 = .ok (.isub, 1) := by decide +kernel
theorem dX5_repair_157 : decode cX5_repair 157 = .ok (.istore 5, 2) := by decide +kernel
theorem dX5_repair_159 : decode cX5_repair 159 = .ok (.iinc 6 1, 3) := by decide +kernel
theorem dX5_repair_162 : decode cX5_repair 162 = .ok (.goto (-35), 3) := by decide +kernel
theorem dX5_repair_165 : decode cX5_repair 165 = .ok (.iconst 0, 1) := by decide +kernel
theorem dX5_repair_166 : decode cX5_repair 166 = .ok (.istore 6, 2) := by decide +kernel
theorem dX5_repair_168 : decode cX5_repair 168 = .ok (.iload 6, 2) := by decide +kernel
theorem dX5_repair_170 : decode cX5_repair 170 = .ok (.aload_n 0, 1) := by decide +kernel
theorem dX5_repair_171 : decode cX5_repair 171 = .ok (.getfield 7, 3) := by decide +kernel
theorem dX5_repair_174 : decode cX5_repair 174 = .ok (.iconst 5, 1) := by decide +kernel
theorem dX5_repair_175 : decode cX5_repair 175 = .ok (.iaload, 1) := by decide +kernel
theorem dX5_repair_176 : decode cX5_repair 176 = .ok (.if_icmp .ge 88, 3) := by decide +kernel
theorem dX5_repair_179 : decode cX5_repair 179 = .ok (.iload_n 3, 1) := by decide +kernel
theorem dX5_repair_180 : decode cX5_repair 180 = .ok (.ifCond .le 84, 3) := by decide +kernel
theorem dX5_repair_183 : decode cX5_repair 183 = .ok (.iload 5, 2) := by decide +kernel
theorem dX5_repair_185 : decode cX5_repair 185 = .ok (.ifCond .le 17, 3) := by decide +kernel
theorem dX5_repair_188 : decode cX5_repair 188 = .ok (.aload_n 0, 1) := by decide +kernel
theorem dX5_repair_189 : decode cX5_repair 189 = .ok (.iload 6, 2) := by decide +kernel
theorem dX5_repair_191 : decode cX5_repair 191 = .ok (.iconst 4, 1) := by decide +kernel
theorem dX5_repair_192 : decode cX5_repair 192 = .ok (.invokevirtual 39, 3) := by decide +kernel
theorem dX5_repair_195 : decode cX5_repair 195 = .ok (.ifCond .le 7, 3) := by decide +kernel
theorem dX5_repair_198 : decode cX5_repair 198 = .ok (.iconst 1, 1) := by decide +kernel
theorem dX5_repair_199 : decode cX5_repair 199 = .ok (.goto 4, 3) := by decide +kernel
theorem dX5_repair_202 : decode cX5_repair 202 = .ok (.iconst 0, 1) := by decide +kernel
theorem dX5_repair_203 : decode cX5_repair 203 = .ok (.istore 7, 2) := by decide +kernel
theorem dX5_repair_205 : decode cX5_repair 205 = .ok (.iload 5, 2) := by decide +kernel
theorem dX5_repair_207 : decode cX5_repair 207 = .ok (.iload 7, 2) := by decide +kernel
theorem dX5_repair_209 : decode cX5_repair 209 = .ok (.ifCond .eq 7, 3) := by decide +kernel
theorem dX5_repair_212 : decode cX5_repair 212 = .ok (.iconst 1, 1) := by decide +kernel
theorem dX5_repair_213 : decode cX5_repair 213 = .ok (.goto 4, 3) := by decide +kernel
theorem dX5_repair_216 : decode cX5_repair 216 = .ok (.iconst 0, 1) := by decide +kernel
theorem dX5_repair_217 : decode cX5_repair 217 = .ok (.isub, 1) := by decide +kernel
theorem dX5_repair_218 : decode cX5_repair 218 = .ok (.istore 5, 2) := by decide +kernel
theorem dX5_repair_220 : decode cX5_repair 220 = .ok (.aload_n 0, 1) := by decide +kernel
theorem dX5_repair_221 : decode cX5_repair 221 = .ok (.iload 6, 2) := by decide +kernel
theorem dX5_repair_223 : decode cX5_repair 223 = .ok (.iconst 2, 1) := by decide +kernel
theorem dX5_repair_224 : decode cX5_repair 224 = .ok (.aload_n 0, 1) := by decide +kernel
theorem dX5_repair_225 : decode cX5_repair 225 = .ok (.iload 6, 2) := by decide +kernel
theorem dX5_repair_227 : decode cX5_repair 227 = .ok (.iconst 2, 1) := by decide +kernel
theorem dX5_repair_228 : decode cX5_repair 228 = .ok (.invokevirtual 39, 3) := by decide +kernel
theorem dX5_repair_231 : decode cX5_repair 231 = .ok (.iload_n 3, 1) := by decide +kernel
theorem dX5_repair_232 : decode cX5_repair 232 = .ok (.aload_n 0, 1) := by decide +kernel
theorem dX5_repair_233 : decode cX5_repair 233 = .ok (.iload 6, 2) := by decide +kernel
theorem dX5_repair_235 : decode cX5_repair 235 = .ok (.iconst 4, 1) := by decide +kernel
theorem dX5_repair_236 : decode cX5_repair 236 = .ok (.invokevirtual 39, 3) := by decide +kernel
theorem dX5_repair_239 : decode cX5_repair 239 = .ok (.imul, 1) := by decide +kernel
theorem dX5_repair_240 : decode cX5_repair 240 = .ok (.iload 4, 2) := by decide +kernel
theorem dX5_repair_242 : decode cX5_repair 242 = .ok (.idiv, 1) := by decide +kernel
theorem dX5_repair_243 : decode cX5_repair 243 = .ok (.iadd, 1) := by decide +kernel
theorem dX5_repair_244 : decode cX5_repair 244 = .ok (.iload 7, 2) := by decide +kernel
theorem dX5_repair_246 : decode cX5_repair 246 = .ok (.ifCond .eq 7, 3) := by decide +kernel
theorem dX5_repair_249 : decode cX5_repair 249 = .ok (.iconst 1, 1) := by decide +kernel
theorem dX5_repair_250 : decode cX5_repair 250 = .ok (.goto 4, 3) := by decide +kernel
theorem dX5_repair_253 : decode cX5_repair 253 = .ok (.iconst 0, 1) := by decide +kernel
theorem dX5_repair_254 : decode cX5_repair 254 = .ok (.iadd, 1) := by decide +kernel
theorem dX5_repair_255 : decode cX5_repair 255 = .ok (.invokevirtual 60, 3) := by decide +kernel
theorem dX5_repair_258 : decode cX5_repair 258 = .ok (.iinc 6 1, 3) := by decide +kernel
theorem dX5_repair_261 : decode cX5_repair 261 = .ok (.goto (-93), 3) := by decide +kernel
theorem dX5_repair_264 : decode cX5_repair 264 = .ok (.iload_n 3, 1) := by decide +kernel
theorem dX5_repair_265 : decode cX5_repair 265 = .ok (.ireturn, 1) := by decide +kernel
theorem dX5_set_0 : decode cX5_set 0 = .ok (.iload_n 1, 1) := by decide +kernel
theorem dX5_set_1 : decode cX5_set 1 = .ok (.ifCond .eq 8, 3) := by decide +kernel
theorem dX5_set_4 : decode cX5_set 4 = .ok (.iload_n 1, 1) := by decide +kernel
theorem dX5_set_5 : decode cX5_set 5 = .ok (.iconst 4, 1) := by decide +kernel
theorem dX5_set_6 : decode cX5_set 6 = .ok (.if_icmp .ne 7, 3) := by decide +kernel
theorem dX5_set_9 : decode cX5_set 9 = .ok (.iconst 1, 1) := by decide +kernel
theorem dX5_set_10 : decode cX5_set 10 = .ok (.goto 4, 3) := by decide +kernel
theorem dX5_set_13 : decode cX5_set 13 = .ok (.iconst 0, 1) := by decide +kernel
theorem dX5_set_14 : decode cX5_set 14 = .ok (.istore_n 3, 1) := by decide +kernel
theorem dX5_set_15 : decode cX5_set 15 = .ok (.iload_n 1, 1) := by decide +kernel
theorem dX5_set_16 : decode cX5_set 16 = .ok (.ifCond .ne 9, 3) := by decide +kernel
theorem dX5_set_19 : decode cX5_set 19 = .ok (.sipush 200, 3) := by decide +kernel
theorem dX5_set_22 : decode cX5_set 22 = .ok (.goto 36, 3) := by decide +kernel
theorem dX5_set_25 : decode cX5_set 25 = .ok (.iload_n 1, 1) := by decide +kernel
theorem dX5_set_26 : decode cX5_set 26 = .ok (.iconst 1, 1) := by decide +kernel
theorem dX5_set_27 : decode cX5_set 27 = .ok (.if_icmp .ne 8, 3) := by decide +kernel
theorem dX5_set_30 : decode cX5_set 30 = .ok (.bipush 100, 2) := by decide +kernel
theorem dX5_set_32 : decode cX5_set 32 = .ok (.goto 26, 3) := by decide +kernel
theorem dX5_set_35 : decode cX5_set 35 = .ok (.iload_n 1, 1) := by decide +kernel
theorem dX5_set_36 : decode cX5_set 36 = .ok (.iconst 2, 1) := by decide +kernel
theorem dX5_set_37 : decode cX5_set 37 = .ok (.if_icmp .ne 8, 3) := by decide +kernel
theorem dX5_set_40 : decode cX5_set 40 = .ok (.bipush 50, 2) := by decide +kernel
theorem dX5_set_42 : decode cX5_set 42 = .ok (.goto 16, 3) := by decide +kernel
theorem dX5_set_45 : decode cX5_set 45 = .ok (.iload_n 1, 1) := by decide +kernel
theorem dX5_set_46 : decode cX5_set 46 = .ok (.iconst 3, 1) := by decide +kernel
theorem dX5_set_47 : decode cX5_set 47 = .ok (.if_icmp .ne 9, 3) := by decide +kernel
theorem dX5_set_50 : decode cX5_set 50 = .ok (.sipush 999, 3) := by decide +kernel
theorem dX5_set_53 : decode cX5_set 53 = .ok (.goto 5, 3) := by decide +kernel
theorem dX5_set_56 : decode cX5_set 56 = .ok (.bipush 20, 2) := by decide +kernel
theorem dX5_set_58 : decode cX5_set 58 = .ok (.istore 4, 2) := by decide +kernel
theorem dX5_set_60 : decode cX5_set 60 = .ok (.iload_n 1, 1) := by decide +kernel
theorem dX5_set_61 : decode cX5_set 61 = .ok (.iconst 0, 1) := by decide +kernel
theorem dX5_set_62 : decode cX5_set 62 = .ok (.iconst 4, 1) := by decide +kernel
theorem dX5_set_63 : decode cX5_set 63 = .ok (.invokestatic 53, 3) := by decide +kernel
theorem dX5_set_66 : decode cX5_set 66 = .ok (.ifCond .eq 13, 3) := by decide +kernel
theorem dX5_set_69 : decode cX5_set 69 = .ok (.iload_n 2, 1) := by decide +kernel
theorem dX5_set_70 : decode cX5_set 70 = .ok (.iload_n 3, 1) := by decide +kernel
theorem dX5_set_71 : decode cX5_set 71 = .ok (.iload 4, 2) := by decide +kernel
theorem dX5_set_73 : decode cX5_set 73 = .ok (.invokestatic 53, 3) := by decide +kernel
theorem dX5_set_76 : decode cX5_set 76 = .ok (.ifCond .ne 7, 3) := by decide +kernel
theorem dX5_set_79 : decode cX5_set 79 = .ok (.sipush (-10001), 3) := by decide +kernel
theorem dX5_set_82 : decode cX5_set 82 = .ok (.ireturn, 1) := by decide +kernel
theorem dX5_set_83 : decode cX5_set 83 = .ok (.aload_n 0, 1) := by decide +kernel
theorem dX5_set_84 : decode cX5_set 84 = .ok (.invokevirtual 57, 3) := by decide +kernel
theorem dX5_set_87 : decode cX5_set 87 = .ok (.aload_n 0, 1) := by decide +kernel
theorem dX5_set_88 : decode cX5_set 88 = .ok (.getfield 7, 3) := by decide +kernel
theorem dX5_set_91 : decode cX5_set 91 = .ok (.iload_n 1, 1) := by decide +kernel
theorem dX5_set_92 : decode cX5_set 92 = .ok (.iaload, 1) := by decide +kernel
theorem dX5_set_93 : decode cX5_set 93 = .ok (.istore 5, 2) := by decide +kernel
theorem dX5_set_95 : decode cX5_set 95 = .ok (.aload_n 0, 1) := by decide +kernel
theorem dX5_set_96 : decode cX5_set 96 = .ok (.getfield 7, 3) := by decide +kernel
theorem dX5_set_99 : decode cX5_set 99 = .ok (.iload_n 1, 1) := by decide +kernel
theorem dX5_set_100 : decode cX5_set 100 = .ok (.iload_n 2, 1) := by decide +kernel
theorem dX5_set_101 : decode cX5_set 101 = .ok (.iastore, 1) := by decide +kernel
theorem dX5_set_102 : decode cX5_set 102 = .ok (.iload 5, 2) := by decide +kernel
theorem dX5_set_104 : decode cX5_set 104 = .ok (.ireturn, 1) := by decide +kernel
theorem dX5_memberOf_0 : decode cX5_memberOf 0 = .ok (.aload_n 0, 1) := by decide +kernel
theorem dX5_memberOf_1 : decode cX5_memberOf 1 = .ok (.iload_n 1, 1) := by decide +kernel
theorem dX5_memberOf_2 : decode cX5_memberOf 2 = .ok (.invokevirtual 64, 3) := by decide +kernel
theorem dX5_memberOf_5 : decode cX5_memberOf 5 = .ok (.ifCond .eq 13, 3) := by decide +kernel
theorem dX5_memberOf_8 : decode cX5_memberOf 8 = .ok (.iload_n 2, 1) := by decide +kernel
theorem dX5_memberOf_9 : decode cX5_memberOf 9 = .ok (.iconst 0, 1) := by decide +kernel
theorem dX5_memberOf_10 : decode cX5_memberOf 10 = .ok (.bipush 9, 2) := by decide +kernel
theorem dX5_memberOf_12 : decode cX5_memberOf 12 = .ok (.invokestatic 53, 3) := by decide +kernel
theorem dX5_memberOf_15 : decode cX5_memberOf 15 = .ok (.ifCond .ne 7, 3) := by decide +kernel
theorem dX5_memberOf_18 : decode cX5_memberOf 18 = .ok (.sipush (-10001), 3) := by decide +kernel
theorem dX5_memberOf_21 : decode cX5_memberOf 21 = .ok (.ireturn, 1) := by decide +kernel
theorem dX5_memberOf_22 : decode cX5_memberOf 22 = .ok (.iload_n 2, 1) := by decide +kernel
theorem dX5_memberOf_23 : decode cX5_memberOf 23 = .ok (.iconst 2, 1) := by decide +kernel
theorem dX5_memberOf_24 : decode cX5_memberOf 24 = .ok (.if_icmp .ge 12, 3) := by decide +kernel
theorem dX5_memberOf_27 : decode cX5_memberOf 27 = .ok (.aload_n 0, 1) := by decide +kernel
theorem dX5_memberOf_28 : decode cX5_memberOf 28 = .ok (.iload_n 1, 1) := by decide +kernel
theorem dX5_memberOf_29 : decode cX5_memberOf 29 = .ok (.iload_n 2, 1) := by decide +kernel
theorem dX5_memberOf_30 : decode cX5_memberOf 30 = .ok (.invokevirtual 39, 3) := by decide +kernel
theorem dX5_memberOf_33 : decode cX5_memberOf 33 = .ok (.goto 44, 3) := by decide +kernel
theorem dX5_memberOf_36 : decode cX5_memberOf 36 = .ok (.iload_n 2, 1) := by decide +kernel
theorem dX5_memberOf_37 : decode cX5_memberOf 37 = .ok (.iconst 2, 1) := by decide +kernel
theorem dX5_memberOf_38 : decode cX5_memberOf 38 = .ok (.if_icmp .ne 17, 3) := by decide +kernel
theorem dX5_memberOf_41 : decode cX5_memberOf 41 = .ok (.aload_n 0, 1) := by decide +kernel
theorem dX5_memberOf_42 : decode cX5_memberOf 42 = .ok (.iload_n 1, 1) := by decide +kernel
theorem dX5_memberOf_43 : decode cX5_memberOf 43 = .ok (.aload_n 0, 1) := by decide +kernel
theorem dX5_memberOf_44 : decode cX5_memberOf 44 = .ok (.iload_n 1, 1) := by decide +kernel
theorem dX5_memberOf_45 : decode cX5_memberOf 45 = .ok (.iconst 1, 1) := by decide +kernel
theorem dX5_memberOf_46 : decode cX5_memberOf 46 = .ok (.invokevirtual 39, 3) := by decide +kernel
theorem dX5_memberOf_49 : decode cX5_memberOf 49 = .ok (.invokevirtual 68, 3) := by decide +kernel
theorem dX5_memberOf_52 : decode cX5_memberOf 52 = .ok (.goto 25, 3) := by decide +kernel
theorem dX5_memberOf_55 : decode cX5_memberOf 55 = .ok (.iload_n 2, 1) := by decide +kernel
theorem dX5_memberOf_56 : decode cX5_memberOf 56 = .ok (.bipush 9, 2) := by decide +kernel
theorem dX5_memberOf_58 : decode cX5_memberOf 58 = .ok (.if_icmp .ge 14, 3) := by decide +kernel
theorem dX5_memberOf_61 : decode cX5_memberOf 61 = .ok (.aload_n 0, 1) := by decide +kernel
theorem dX5_memberOf_62 : decode cX5_memberOf 62 = .ok (.iload_n 1, 1) := by decide +kernel
theorem dX5_memberOf_63 : decode cX5_memberOf 63 = .ok (.iload_n 2, 1) := by decide +kernel
theorem dX5_memberOf_64 : decode cX5_memberOf 64 = .ok (.iconst 1, 1) := by decide +kernel
theorem dX5_memberOf_65 : decode cX5_memberOf 65 = .ok (.isub, 1) := by decide +kernel
theorem dX5_memberOf_66 : decode cX5_memberOf 66 = .ok (.invokevirtual 39, 3) := by decide +kernel
theorem dX5_memberOf_69 : decode cX5_memberOf 69 = .ok (.goto 8, 3) := by decide +kernel
theorem dX5_memberOf_72 : decode cX5_memberOf 72 = .ok (.aload_n 0, 1) := by decide +kernel
theorem dX5_memberOf_73 : decode cX5_memberOf 73 = .ok (.iload_n 1, 1) := by decide +kernel
theorem dX5_memberOf_74 : decode cX5_memberOf 74 = .ok (.invokevirtual 43, 3) := by decide +kernel
theorem dX5_memberOf_77 : decode cX5_memberOf 77 = .ok (.ireturn, 1) := by decide +kernel
theorem dX5_count_0 : decode cX5_count 0 = .ok (.iload_n 1, 1) := by decide +kernel
theorem dX5_count_1 : decode cX5_count 1 = .ok (.tableswitch 134 0 12 #[67, 67, 67, 76, 82, 92, 100, 106, 111, 111, 111, 124, 129], 67) := by decide +kernel
theorem dX5_count_68 : decode cX5_count 68 = .ok (.aload_n 0, 1) := by decide +kernel
theorem dX5_count_69 : decode cX5_count 69 = .ok (.getfield 7, 3) := by decide +kernel
theorem dX5_count_72 : decode cX5_count 72 = .ok (.iconst 5, 1) := by decide +kernel
theorem dX5_count_73 : decode cX5_count 73 = .ok (.iload_n 1, 1) := by decide +kernel
theorem dX5_count_74 : decode cX5_count 74 = .ok (.iadd, 1) := by decide +kernel
theorem dX5_count_75 : decode cX5_count 75 = .ok (.iaload, 1) := by decide +kernel
theorem dX5_count_76 : decode cX5_count 76 = .ok (.ireturn, 1) := by decide +kernel
theorem dX5_count_77 : decode cX5_count 77 = .ok (.aload_n 0, 1) := by decide +kernel
theorem dX5_count_78 : decode cX5_count 78 = .ok (.iconst 1, 1) := by decide +kernel
theorem dX5_count_79 : decode cX5_count 79 = .ok (.invokevirtual 71, 3) := by decide +kernel
theorem dX5_count_82 : decode cX5_count 82 = .ok (.ireturn, 1) := by decide +kernel
theorem dX5_count_83 : decode cX5_count 83 = .ok (.aload_n 0, 1) := by decide +kernel
theorem dX5_count_84 : decode cX5_count 84 = .ok (.aload_n 0, 1) := by decide +kernel
theorem dX5_count_85 : decode cX5_count 85 = .ok (.iconst 1, 1) := by decide +kernel
theorem dX5_count_86 : decode cX5_count 86 = .ok (.invokevirtual 71, 3) := by decide +kernel
theorem dX5_count_89 : decode cX5_count 89 = .ok (.invokevirtual 50, 3) := by decide +kernel
theorem dX5_count_92 : decode cX5_count 92 = .ok (.ireturn, 1) := by decide +kernel
theorem dX5_count_93 : decode cX5_count 93 = .ok (.aload_n 0, 1) := by decide +kernel
theorem dX5_count_94 : decode cX5_count 94 = .ok (.getfield 7, 3) := by decide +kernel
theorem dX5_count_97 : decode cX5_count 97 = .ok (.bipush 8, 2) := by decide +kernel
theorem dX5_count_99 : decode cX5_count 99 = .ok (.iaload, 1) := by decide +kernel
theorem dX5_count_100 : decode cX5_count 100 = .ok (.ireturn, 1) := by decide +kernel
theorem dX5_count_101 : decode cX5_count 101 = .ok (.aload_n 0, 1) := by decide +kernel
theorem dX5_count_102 : decode cX5_count 102 = .ok (.iconst 2, 1) := by decide +kernel
theorem dX5_count_103 : decode cX5_count 103 = .ok (.invokevirtual 71, 3) := by decide +kernel
theorem dX5_count_106 : decode cX5_count 106 = .ok (.ireturn, 1) := by decide +kernel
theorem dX5_count_107 : decode cX5_count 107 = .ok (.aload_n 0, 1) := by decide +kernel
theorem dX5_count_108 : decode cX5_count 108 = .ok (.invokevirtual 74, 3) := by decide +kernel
theorem dX5_count_111 : decode cX5_count 111 = .ok (.ireturn, 1) := by decide +kernel
theorem dX5_count_112 : decode cX5_count 112 = .ok (.aload_n 0, 1) := by decide +kernel
theorem dX5_count_113 : decode cX5_count 113 = .ok (.getfield 7, 3) := by decide +kernel
theorem dX5_count_116 : decode cX5_count 116 = .ok (.bipush 9, 2) := by decide +kernel
theorem dX5_count_118 : decode cX5_count 118 = .ok (.iload_n 1, 1) := by decide +kernel
theorem dX5_count_119 : decode cX5_count 119 = .ok (.iadd, 1) := by decide +kernel
theorem dX5_count_120 : decode cX5_count 120 = .ok (.bipush 8, 2) := by decide +kernel
theorem dX5_count_122 : decode cX5_count 122 = .ok (.isub, 1) := by decide +kernel
theorem dX5_count_123 : decode cX5_count 123 = .ok (.iaload, 1) := by decide +kernel
theorem dX5_count_124 : decode cX5_count 124 = .ok (.ireturn, 1) := by decide +kernel
theorem dX5_count_125 : decode cX5_count 125 = .ok (.aload_n 0, 1) := by decide +kernel
theorem dX5_count_126 : decode cX5_count 126 = .ok (.getfield 35, 3) := by decide +kernel
theorem dX5_count_129 : decode cX5_count 129 = .ok (.ireturn, 1) := by decide +kernel
theorem dX5_count_130 : decode cX5_count 130 = .ok (.aload_n 0, 1) := by decide +kernel
theorem dX5_count_131 : decode cX5_count 131 = .ok (.getfield 89, 3) := by decide +kernel
theorem dX5_count_134 : decode cX5_count 134 = .ok (.ireturn, 1) := by decide +kernel
theorem dX5_count_135 : decode cX5_count 135 = .ok (.iload_n 1, 1) := by decide +kernel
theorem dX5_count_136 : decode cX5_count 136 = .ok (.bipush 20, 2) := by decide +kernel
theorem dX5_count_138 : decode cX5_count 138 = .ok (.bipush 24, 2) := by decide +kernel
theorem dX5_count_140 : decode cX5_count 140 = .ok (.invokestatic 53, 3) := by decide +kernel
theorem dX5_count_143 : decode cX5_count 143 = .ok (.ifCond .eq 15, 3) := by decide +kernel
theorem dX5_count_146 : decode cX5_count 146 = .ok (.aload_n 0, 1) := by decide +kernel
theorem dX5_count_147 : decode cX5_count 147 = .ok (.getfield 7, 3) := by decide +kernel
theorem dX5_count_150 : decode cX5_count 150 = .ok (.iload_n 1, 1) := by decide +kernel
theorem dX5_count_151 : decode cX5_count 151 = .ok (.bipush 20, 2) := by decide +kernel
theorem dX5_count_153 : decode cX5_count 153 = .ok (.isub, 1) := by decide +kernel
theorem dX5_count_154 : decode cX5_count 154 = .ok (.iaload, 1) := by decide +kernel
theorem dX5_count_155 : decode cX5_count 155 = .ok (.goto 6, 3) := by decide +kernel
theorem dX5_count_158 : decode cX5_count 158 = .ok (.sipush (-10001), 3) := by decide +kernel
theorem dX5_count_161 : decode cX5_count 161 = .ok (.ireturn, 1) := by decide +kernel
theorem dX5_seasonOf_0 : decode cX5_seasonOf 0 = .ok (.iload_n 1, 1) := by decide +kernel
theorem dX5_seasonOf_1 : decode cX5_seasonOf 1 = .ok (.ifCond .lt 12, 3) := by decide +kernel
theorem dX5_seasonOf_4 : decode cX5_seasonOf 4 = .ok (.iload_n 2, 1) := by decide +kernel
theorem dX5_seasonOf_5 : decode cX5_seasonOf 5 = .ok (.iconst 0, 1) := by decide +kernel
theorem dX5_seasonOf_6 : decode cX5_seasonOf 6 = .ok (.iconst 4, 1) := by decide +kernel
theorem dX5_seasonOf_7 : decode cX5_seasonOf 7 = .ok (.invokestatic 53, 3) := by decide +kernel
theorem dX5_seasonOf_10 : decode cX5_seasonOf 10 = .ok (.ifCond .ne 7, 3) := by decide +kernel
theorem dX5_seasonOf_13 : decode cX5_seasonOf 13 = .ok (.sipush (-10001), 3) := by decide +kernel
theorem dX5_seasonOf_16 : decode cX5_seasonOf 16 = .ok (.ireturn, 1) := by decide +kernel
theorem dX5_seasonOf_17 : decode cX5_seasonOf 17 = .ok (.iload_n 1, 1) := by decide +kernel
theorem dX5_seasonOf_18 : decode cX5_seasonOf 18 = .ok (.aload_n 0, 1) := by decide +kernel
theorem dX5_seasonOf_19 : decode cX5_seasonOf 19 = .ok (.getfield 7, 3) := by decide +kernel
theorem dX5_seasonOf_22 : decode cX5_seasonOf 22 = .ok (.bipush 12, 2) := by decide +kernel
theorem dX5_seasonOf_24 : decode cX5_seasonOf 24 = .ok (.iaload, 1) := by decide +kernel
theorem dX5_seasonOf_25 : decode cX5_seasonOf 25 = .ok (.if_icmp .lt 9, 3) := by decide +kernel
theorem dX5_seasonOf_28 : decode cX5_seasonOf 28 = .ok (.sipush (-10004), 3) := by decide +kernel
theorem dX5_seasonOf_31 : decode cX5_seasonOf 31 = .ok (.goto 16, 3) := by decide +kernel
theorem dX5_seasonOf_34 : decode cX5_seasonOf 34 = .ok (.aload_n 0, 1) := by decide +kernel
theorem dX5_seasonOf_35 : decode cX5_seasonOf 35 = .ok (.getfield 7, 3) := by decide +kernel
theorem dX5_seasonOf_38 : decode cX5_seasonOf 38 = .ok (.bipush 77, 2) := by decide +kernel
theorem dX5_seasonOf_40 : decode cX5_seasonOf 40 = .ok (.iconst 5, 1) := by decide +kernel
theorem dX5_seasonOf_41 : decode cX5_seasonOf 41 = .ok (.iload_n 1, 1) := by decide +kernel
theorem dX5_seasonOf_42 : decode cX5_seasonOf 42 = .ok (.imul, 1) := by decide +kernel
theorem dX5_seasonOf_43 : decode cX5_seasonOf 43 = .ok (.iadd, 1) := by decide +kernel
theorem dX5_seasonOf_44 : decode cX5_seasonOf 44 = .ok (.iload_n 2, 1) := by decide +kernel
theorem dX5_seasonOf_45 : decode cX5_seasonOf 45 = .ok (.iadd, 1) := by decide +kernel
theorem dX5_seasonOf_46 : decode cX5_seasonOf 46 = .ok (.iaload, 1) := by decide +kernel
theorem dX5_seasonOf_47 : decode cX5_seasonOf 47 = .ok (.ireturn, 1) := by decide +kernel
theorem dX5_gainFor_0 : decode cX5_gainFor 0 = .ok (.aload_n 0, 1) := by decide +kernel
theorem dX5_gainFor_1 : decode cX5_gainFor 1 = .ok (.iload_n 1, 1) := by decide +kernel
theorem dX5_gainFor_2 : decode cX5_gainFor 2 = .ok (.iconst 0, 1) := by decide +kernel
theorem dX5_gainFor_3 : decode cX5_gainFor 3 = .ok (.invokevirtual 39, 3) := by decide +kernel
theorem dX5_gainFor_6 : decode cX5_gainFor 6 = .ok (.iload_n 2, 1) := by decide +kernel
theorem dX5_gainFor_7 : decode cX5_gainFor 7 = .ok (.imul, 1) := by decide +kernel
theorem dX5_gainFor_8 : decode cX5_gainFor 8 = .ok (.aload_n 0, 1) := by decide +kernel
theorem dX5_gainFor_9 : decode cX5_gainFor 9 = .ok (.iload_n 1, 1) := by decide +kernel
theorem dX5_gainFor_10 : decode cX5_gainFor 10 = .ok (.iload_n 2, 1) := by decide +kernel
theorem dX5_gainFor_11 : decode cX5_gainFor 11 = .ok (.invokevirtual 68, 3) := by decide +kernel
theorem dX5_gainFor_14 : decode cX5_gainFor 14 = .ok (.isub, 1) := by decide +kernel
theorem dX5_gainFor_15 : decode cX5_gainFor 15 = .ok (.ireturn, 1) := by decide +kernel
theorem dX5_gain_0 : decode cX5_gain 0 = .ok (.aload_n 0, 1) := by decide +kernel
theorem dX5_gain_1 : decode cX5_gain 1 = .ok (.iload_n 1, 1) := by decide +kernel
theorem dX5_gain_2 : decode cX5_gain 2 = .ok (.invokevirtual 64, 3) := by decide +kernel
theorem dX5_gain_5 : decode cX5_gain 5 = .ok (.ifCond .eq 13, 3) := by decide +kernel
theorem dX5_gain_8 : decode cX5_gain 8 = .ok (.iload_n 2, 1) := by decide +kernel
theorem dX5_gain_9 : decode cX5_gain 9 = .ok (.iconst 0, 1) := by decide +kernel
theorem dX5_gain_10 : decode cX5_gain 10 = .ok (.bipush 20, 2) := by decide +kernel
theorem dX5_gain_12 : decode cX5_gain 12 = .ok (.invokestatic 53, 3) := by decide +kernel
theorem dX5_gain_15 : decode cX5_gain 15 = .ok (.ifCond .ne 7, 3) := by decide +kernel
theorem dX5_gain_18 : decode cX5_gain 18 = .ok (.sipush (-10001), 3) := by decide +kernel
theorem dX5_gain_21 : decode cX5_gain 21 = .ok (.ireturn, 1) := by decide +kernel
theorem dX5_gain_22 : decode cX5_gain 22 = .ok (.aload_n 0, 1) := by decide +kernel
theorem dX5_gain_23 : decode cX5_gain 23 = .ok (.iload_n 1, 1) := by decide +kernel
theorem dX5_gain_24 : decode cX5_gain 24 = .ok (.bipush 6, 2) := by decide +kernel
theorem dX5_gain_26 : decode cX5_gain 26 = .ok (.invokevirtual 39, 3) := by decide +kernel
theorem dX5_gain_29 : decode cX5_gain 29 = .ok (.iconst 1, 1) := by decide +kernel
theorem dX5_gain_30 : decode cX5_gain 30 = .ok (.if_icmp .ne 13, 3) := by decide +kernel
theorem dX5_gain_33 : decode cX5_gain 33 = .ok (.iload_n 2, 1) := by decide +kernel
theorem dX5_gain_34 : decode cX5_gain 34 = .ok (.ifCond .le 9, 3) := by decide +kernel
theorem dX5_gain_37 : decode cX5_gain 37 = .ok (.sipush (-10002), 3) := by decide +kernel
theorem dX5_gain_40 : decode cX5_gain 40 = .ok (.goto 13, 3) := by decide +kernel
theorem dX5_gain_43 : decode cX5_gain 43 = .ok (.aload_n 0, 1) := by decide +kernel
theorem dX5_gain_44 : decode cX5_gain 44 = .ok (.iload_n 1, 1) := by decide +kernel
theorem dX5_gain_45 : decode cX5_gain 45 = .ok (.iload_n 2, 1) := by decide +kernel
theorem dX5_gain_46 : decode cX5_gain 46 = .ok (.invokevirtual 92, 3) := by decide +kernel
theorem dX5_gain_49 : decode cX5_gain 49 = .ok (.sipush 10000, 3) := by decide +kernel
theorem dX5_gain_52 : decode cX5_gain 52 = .ok (.iadd, 1) := by decide +kernel
theorem dX5_gain_53 : decode cX5_gain 53 = .ok (.ireturn, 1) := by decide +kernel
theorem dX5_best_0 : decode cX5_best 0 = .ok (.iconst 0, 1) := by decide +kernel
theorem dX5_best_1 : decode cX5_best 1 = .ok (.istore_n 2, 1) := by decide +kernel
theorem dX5_best_2 : decode cX5_best 2 = .ok (.iconst 1, 1) := by decide +kernel
theorem dX5_best_3 : decode cX5_best 3 = .ok (.istore_n 3, 1) := by decide +kernel
theorem dX5_best_4 : decode cX5_best 4 = .ok (.iload_n 3, 1) := by decide +kernel
theorem dX5_best_5 : decode cX5_best 5 = .ok (.bipush 20, 2) := by decide +kernel
theorem dX5_best_7 : decode cX5_best 7 = .ok (.if_icmp .gt 40, 3) := by decide +kernel
theorem dX5_best_10 : decode cX5_best 10 = .ok (.aload_n 0, 1) := by decide +kernel
theorem dX5_best_11 : decode cX5_best 11 = .ok (.iload_n 1, 1) := by decide +kernel
theorem dX5_best_12 : decode cX5_best 12 = .ok (.bipush 6, 2) := by decide +kernel
theorem dX5_best_14 : decode cX5_best 14 = .ok (.invokevirtual 39, 3) := by decide +kernel
theorem dX5_best_17 : decode cX5_best 17 = .ok (.ifCond .ne 30, 3) := by decide +kernel
theorem dX5_best_20 : decode cX5_best 20 = .ok (.aload_n 0, 1) := by decide +kernel
theorem dX5_best_21 : decode cX5_best 21 = .ok (.iload_n 1, 1) := by decide +kernel
theorem dX5_best_22 : decode cX5_best 22 = .ok (.iload_n 3, 1) := by decide +kernel
theorem dX5_best_23 : decode cX5_best 23 = .ok (.invokevirtual 92, 3) := by decide +kernel
theorem dX5_best_26 : decode cX5_best 26 = .ok (.aload_n 0, 1) := by decide +kernel
theorem dX5_best_27 : decode cX5_best 27 = .ok (.iload_n 1, 1) := by decide +kernel
theorem dX5_best_28 : decode cX5_best 28 = .ok (.iload_n 2, 1) := by decide +kernel
theorem dX5_best_29 : decode cX5_best 29 = .ok (.invokevirtual 92, 3) := by decide +kernel
theorem dX5_best_32 : decode cX5_best 32 = .ok (.if_icmp .le 7, 3) := by decide +kernel
theorem dX5_best_35 : decode cX5_best 35 = .ok (.iload_n 3, 1) := by decide +kernel
theorem dX5_best_36 : decode cX5_best 36 = .ok (.goto 4, 3) := by decide +kernel
theorem dX5_best_39 : decode cX5_best 39 = .ok (.iload_n 2, 1) := by decide +kernel
theorem dX5_best_40 : decode cX5_best 40 = .ok (.istore_n 2, 1) := by decide +kernel
theorem dX5_best_41 : decode cX5_best 41 = .ok (.iinc 3 1, 3) := by decide +kernel
theorem dX5_best_44 : decode cX5_best 44 = .ok (.goto (-40), 3) := by decide +kernel
theorem dX5_best_47 : decode cX5_best 47 = .ok (.iload_n 2, 1) := by decide +kernel
theorem dX5_best_48 : decode cX5_best 48 = .ok (.ireturn, 1) := by decide +kernel
theorem dX5_bestUse_0 : decode cX5_bestUse 0 = .ok (.aload_n 0, 1) := by decide +kernel
theorem dX5_bestUse_1 : decode cX5_bestUse 1 = .ok (.iload_n 1, 1) := by decide +kernel
theorem dX5_bestUse_2 : decode cX5_bestUse 2 = .ok (.invokevirtual 64, 3) := by decide +kernel
theorem dX5_bestUse_5 : decode cX5_bestUse 5 = .ok (.ifCond .eq 11, 3) := by decide +kernel
theorem dX5_bestUse_8 : decode cX5_bestUse 8 = .ok (.aload_n 0, 1) := by decide +kernel
theorem dX5_bestUse_9 : decode cX5_bestUse 9 = .ok (.iload_n 1, 1) := by decide +kernel
theorem dX5_bestUse_10 : decode cX5_bestUse 10 = .ok (.invokevirtual 95, 3) := by decide +kernel
theorem dX5_bestUse_13 : decode cX5_bestUse 13 = .ok (.goto 6, 3) := by decide +kernel
theorem dX5_bestUse_16 : decode cX5_bestUse 16 = .ok (.sipush (-10001), 3) := by decide +kernel
theorem dX5_bestUse_19 : decode cX5_bestUse 19 = .ok (.ireturn, 1) := by decide +kernel
theorem dX5_turns_0 : decode cX5_turns 0 = .ok (.iconst 0, 1) := by decide +kernel
theorem dX5_turns_1 : decode cX5_turns 1 = .ok (.istore_n 1, 1) := by decide +kernel
theorem dX5_turns_2 : decode cX5_turns 2 = .ok (.iconst 0, 1) := by decide +kernel
theorem dX5_turns_3 : decode cX5_turns 3 = .ok (.istore_n 2, 1) := by decide +kernel
theorem dX5_turns_4 : decode cX5_turns 4 = .ok (.iload_n 2, 1) := by decide +kernel
theorem dX5_turns_5 : decode cX5_turns 5 = .ok (.aload_n 0, 1) := by decide +kernel
theorem dX5_turns_6 : decode cX5_turns 6 = .ok (.getfield 7, 3) := by decide +kernel
theorem dX5_turns_9 : decode cX5_turns 9 = .ok (.iconst 5, 1) := by decide +kernel
theorem dX5_turns_10 : decode cX5_turns 10 = .ok (.iaload, 1) := by decide +kernel
theorem dX5_turns_11 : decode cX5_turns 11 = .ok (.if_icmp .ge 42, 3) := by decide +kernel
theorem dX5_turns_14 : decode cX5_turns 14 = .ok (.aload_n 0, 1) := by decide +kernel
theorem dX5_turns_15 : decode cX5_turns 15 = .ok (.iload_n 2, 1) := by decide +kernel
theorem dX5_turns_16 : decode cX5_turns 16 = .ok (.invokevirtual 95, 3) := by decide +kernel
theorem dX5_turns_19 : decode cX5_turns 19 = .ok (.istore_n 3, 1) := by decide +kernel
theorem dX5_turns_20 : decode cX5_turns 20 = .ok (.iload_n 1, 1) := by decide +kernel
theorem dX5_turns_21 : decode cX5_turns 21 = .ok (.ifCond .ne 13, 3) := by decide +kernel
theorem dX5_turns_24 : decode cX5_turns 24 = .ok (.iload_n 3, 1) := by decide +kernel
theorem dX5_turns_25 : decode cX5_turns 25 = .ok (.aload_n 0, 1) := by decide +kernel
theorem dX5_turns_26 : decode cX5_turns 26 = .ok (.iload_n 2, 1) := by decide +kernel
theorem dX5_turns_27 : decode cX5_turns 27 = .ok (.iconst 1, 1) := by decide +kernel
theorem dX5_turns_28 : decode cX5_turns 28 = .ok (.invokevirtual 39, 3) := by decide +kernel
theorem dX5_turns_31 : decode cX5_turns 31 = .ok (.if_icmp .eq 7, 3) := by decide +kernel
theorem dX5_turns_34 : decode cX5_turns 34 = .ok (.iconst 1, 1) := by decide +kernel
theorem dX5_turns_35 : decode cX5_turns 35 = .ok (.goto 4, 3) := by decide +kernel
theorem dX5_turns_38 : decode cX5_turns 38 = .ok (.iconst 0, 1) := by decide +kernel
theorem dX5_turns_39 : decode cX5_turns 39 = .ok (.istore_n 1, 1) := by decide +kernel
theorem dX5_turns_40 : decode cX5_turns 40 = .ok (.aload_n 0, 1) := by decide +kernel
theorem dX5_turns_41 : decode cX5_turns 41 = .ok (.iload_n 2, 1) := by decide +kernel
theorem dX5_turns_42 : decode cX5_turns 42 = .ok (.iconst 1, 1) := by decide +kernel
theorem dX5_turns_43 : decode cX5_turns 43 = .ok (.iload_n 3, 1) := by decide +kernel
theorem dX5_turns_44 : decode cX5_turns 44 = .ok (.invokevirtual 60, 3) := by decide +kernel
theorem dX5_turns_47 : decode cX5_turns 47 = .ok (.iinc 2 1, 3) := by decide +kernel
theorem dX5_turns_50 : decode cX5_turns 50 = .ok (.goto (-46), 3) := by decide +kernel
theorem dX5_turns_53 : decode cX5_turns 53 = .ok (.iload_n 1, 1) := by decide +kernel
theorem dX5_turns_54 : decode cX5_turns 54 = .ok (.ireturn, 1) := by decide +kernel
theorem dX5_calm_0 : decode cX5_calm 0 = .ok (.aload_n 0, 1) := by decide +kernel
theorem dX5_calm_1 : decode cX5_calm 1 = .ok (.iload_n 1, 1) := by decide +kernel
theorem dX5_calm_2 : decode cX5_calm 2 = .ok (.invokevirtual 64, 3) := by decide +kernel
theorem dX5_calm_5 : decode cX5_calm 5 = .ok (.ifCond .ne 17, 3) := by decide +kernel
theorem dX5_calm_8 : decode cX5_calm 8 = .ok (.iload_n 1, 1) := by decide +kernel
theorem dX5_calm_9 : decode cX5_calm 9 = .ok (.bipush (-2), 2) := by decide +kernel
theorem dX5_calm_11 : decode cX5_calm 11 = .ok (.iconst (-1), 1) := by decide +kernel
theorem dX5_calm_12 : decode cX5_calm 12 = .ok (.invokestatic 53, 3) := by decide +kernel
theorem dX5_calm_15 : decode cX5_calm 15 = .ok (.ifCond .ne 7, 3) := by decide +kernel
theorem dX5_calm_18 : decode cX5_calm 18 = .ok (.sipush (-10001), 3) := by decide +kernel
theorem dX5_calm_21 : decode cX5_calm 21 = .ok (.ireturn, 1) := by decide +kernel
theorem dX5_calm_22 : decode cX5_calm 22 = .ok (.aload_n 0, 1) := by decide +kernel
theorem dX5_calm_23 : decode cX5_calm 23 = .ok (.getfield 7, 3) := by decide +kernel
theorem dX5_calm_26 : decode cX5_calm 26 = .ok (.aload_n 0, 1) := by decide +kernel
theorem dX5_calm_27 : decode cX5_calm 27 = .ok (.getfield 16, 3) := by decide +kernel
theorem dX5_calm_30 : decode cX5_calm 30 = .ok (.invokestatic 98, 3) := by decide +kernel
theorem dX5_calm_33 : decode cX5_calm 33 = .ok (.iconst 0, 1) := by decide +kernel
theorem dX5_calm_34 : decode cX5_calm 34 = .ok (.istore_n 2, 1) := by decide +kernel
theorem dX5_calm_35 : decode cX5_calm 35 = .ok (.iconst 1, 1) := by decide +kernel
theorem dX5_calm_36 : decode cX5_calm 36 = .ok (.istore_n 3, 1) := by decide +kernel
theorem dX5_calm_37 : decode cX5_calm 37 = .ok (.iload_n 3, 1) := by decide +kernel
theorem dX5_calm_38 : decode cX5_calm 38 = .ok (.ifCond .eq 20, 3) := by decide +kernel
theorem dX5_calm_41 : decode cX5_calm 41 = .ok (.iload_n 2, 1) := by decide +kernel
theorem dX5_calm_42 : decode cX5_calm 42 = .ok (.bipush 40, 2) := by decide +kernel
theorem dX5_calm_44 : decode cX5_calm 44 = .ok (.if_icmp .ge 14, 3) := by decide +kernel
theorem dX5_calm_47 : decode cX5_calm 47 = .ok (.aload_n 0, 1) := by decide +kernel
theorem dX5_calm_48 : decode cX5_calm 48 = .ok (.invokevirtual 102, 3) := by decide +kernel
theorem dX5_calm_51 : decode cX5_calm 51 = .ok (.istore_n 3, 1) := by decide +kernel
theorem dX5_calm_52 : decode cX5_calm 52 = .ok (.iinc 2 1, 3) := by decide +kernel
theorem dX5_calm_55 : decode cX5_calm 55 = .ok (.goto (-18), 3) := by decide +kernel
theorem dX5_calm_58 : decode cX5_calm 58 = .ok (.iload_n 1, 1) := by decide +kernel
theorem dX5_calm_59 : decode cX5_calm 59 = .ok (.iconst (-1), 1) := by decide +kernel
theorem dX5_calm_60 : decode cX5_calm 60 = .ok (.if_icmp .ne 11, 3) := by decide +kernel
theorem dX5_calm_63 : decode cX5_calm 63 = .ok (.aload_n 0, 1) := by decide +kernel
theorem dX5_calm_64 : decode cX5_calm 64 = .ok (.iconst 1, 1) := by decide +kernel
theorem dX5_calm_65 : decode cX5_calm 65 = .ok (.invokevirtual 71, 3) := by decide +kernel
theorem dX5_calm_68 : decode cX5_calm 68 = .ok (.goto 19, 3) := by decide +kernel
theorem dX5_calm_71 : decode cX5_calm 71 = .ok (.iload_n 1, 1) := by decide +kernel
theorem dX5_calm_72 : decode cX5_calm 72 = .ok (.bipush (-2), 2) := by decide +kernel
theorem dX5_calm_74 : decode cX5_calm 74 = .ok (.if_icmp .ne 7, 3) := by decide +kernel
theorem dX5_calm_77 : decode cX5_calm 77 = .ok (.iload_n 2, 1) := by decide +kernel
theorem dX5_calm_78 : decode cX5_calm 78 = .ok (.goto 9, 3) := by decide +kernel
theorem dX5_calm_81 : decode cX5_calm 81 = .ok (.aload_n 0, 1) := by decide +kernel
theorem dX5_calm_82 : decode cX5_calm 82 = .ok (.iload_n 1, 1) := by decide +kernel
theorem dX5_calm_83 : decode cX5_calm 83 = .ok (.iconst 1, 1) := by decide +kernel
theorem dX5_calm_84 : decode cX5_calm 84 = .ok (.invokevirtual 39, 3) := by decide +kernel
theorem dX5_calm_87 : decode cX5_calm 87 = .ok (.istore 4, 2) := by decide +kernel
theorem dX5_calm_89 : decode cX5_calm 89 = .ok (.aload_n 0, 1) := by decide +kernel
theorem dX5_calm_90 : decode cX5_calm 90 = .ok (.getfield 16, 3) := by decide +kernel
theorem dX5_calm_93 : decode cX5_calm 93 = .ok (.aload_n 0, 1) := by decide +kernel
theorem dX5_calm_94 : decode cX5_calm 94 = .ok (.getfield 7, 3) := by decide +kernel
theorem dX5_calm_97 : decode cX5_calm 97 = .ok (.invokestatic 98, 3) := by decide +kernel
theorem dX5_calm_100 : decode cX5_calm 100 = .ok (.iload_n 3, 1) := by decide +kernel
theorem dX5_calm_101 : decode cX5_calm 101 = .ok (.ifCond .eq 9, 3) := by decide +kernel
theorem dX5_calm_104 : decode cX5_calm 104 = .ok (.sipush (-10004), 3) := by decide +kernel
theorem dX5_calm_107 : decode cX5_calm 107 = .ok (.goto 5, 3) := by decide +kernel
theorem dX5_calm_110 : decode cX5_calm 110 = .ok (.iload 4, 2) := by decide +kernel
theorem dX5_calm_112 : decode cX5_calm 112 = .ok (.ireturn, 1) := by decide +kernel
theorem dX5_bestForAll_0 : decode cX5_bestForAll 0 = .ok (.iload_n 1, 1) := by decide +kernel
theorem dX5_bestForAll_1 : decode cX5_bestForAll 1 = .ok (.iconst 0, 1) := by decide +kernel
theorem dX5_bestForAll_2 : decode cX5_bestForAll 2 = .ok (.iconst 1, 1) := by decide +kernel
theorem dX5_bestForAll_3 : decode cX5_bestForAll 3 = .ok (.invokestatic 53, 3) := by decide +kernel
theorem dX5_bestForAll_6 : decode cX5_bestForAll 6 = .ok (.ifCond .ne 7, 3) := by decide +kernel
theorem dX5_bestForAll_9 : decode cX5_bestForAll 9 = .ok (.sipush (-10001), 3) := by decide +kernel
theorem dX5_bestForAll_12 : decode cX5_bestForAll 12 = .ok (.ireturn, 1) := by decide +kernel
theorem dX5_bestForAll_13 : decode cX5_bestForAll 13 = .ok (.iconst 0, 1) := by decide +kernel
theorem dX5_bestForAll_14 : decode cX5_bestForAll 14 = .ok (.istore_n 2, 1) := by decide +kernel
theorem dX5_bestForAll_15 : decode cX5_bestForAll 15 = .ok (.iconst 0, 1) := by decide +kernel
theorem dX5_bestForAll_16 : decode cX5_bestForAll 16 = .ok (.istore_n 3, 1) := by decide +kernel
theorem dX5_bestForAll_17 : decode cX5_bestForAll 17 = .ok (.iconst 0, 1) := by decide +kernel
theorem dX5_bestForAll_18 : decode cX5_bestForAll 18 = .ok (.istore 4, 2) := by decide +kernel
theorem dX5_bestForAll_20 : decode cX5_bestForAll 20 = .ok (.iconst 1, 1) := by decide +kernel
theorem dX5_bestForAll_21 : decode cX5_bestForAll 21 = .ok (.istore 5, 2) := by decide +kernel
theorem dX5_bestForAll_23 : decode cX5_bestForAll 23 = .ok (.iload 5, 2) := by decide +kernel
theorem dX5_bestForAll_25 : decode cX5_bestForAll 25 = .ok (.ifCond .eq 219, 3) := by decide +kernel
theorem dX5_bestForAll_28 : decode cX5_bestForAll 28 = .ok (.sipush (-10004), 3) := by decide +kernel
theorem dX5_bestForAll_31 : decode cX5_bestForAll 31 = .ok (.istore 6, 2) := by decide +kernel
theorem dX5_bestForAll_33 : decode cX5_bestForAll 33 = .ok (.iconst 0, 1) := by decide +kernel
theorem dX5_bestForAll_34 : decode cX5_bestForAll 34 = .ok (.istore 7, 2) := by decide +kernel
theorem dX5_bestForAll_36 : decode cX5_bestForAll 36 = .ok (.iload 7, 2) := by decide +kernel
theorem dX5_bestForAll_38 : decode cX5_bestForAll 38 = .ok (.aload_n 0, 1) := by decide +kernel
theorem dX5_bestForAll_39 : decode cX5_bestForAll 39 = .ok (.getfield 7, 3) := by decide +kernel
theorem dX5_bestForAll_42 : decode cX5_bestForAll 42 = .ok (.iconst 5, 1) := by decide +kernel
theorem dX5_bestForAll_43 : decode cX5_bestForAll 43 = .ok (.iaload, 1) := by decide +kernel
theorem dX5_bestForAll_44 : decode cX5_bestForAll 44 = .ok (.if_icmp .ge 72, 3) := by decide +kernel
theorem dX5_bestForAll_47 : decode cX5_bestForAll 47 = .ok (.aload_n 0, 1) := by decide +kernel
theorem dX5_bestForAll_48 : decode cX5_bestForAll 48 = .ok (.iload 7, 2) := by decide +kernel
theorem dX5_bestForAll_50 : decode cX5_bestForAll 50 = .ok (.bipush 6, 2) := by decide +kernel
theorem dX5_bestForAll_52 : decode cX5_bestForAll 52 = .ok (.invokevirtual 39, 3) := by decide +kernel
theorem dX5_bestForAll_55 : decode cX5_bestForAll 55 = .ok (.ifCond .ne 16, 3) := by decide +kernel
theorem dX5_bestForAll_58 : decode cX5_bestForAll 58 = .ok (.iload_n 2, 1) := by decide +kernel
theorem dX5_bestForAll_59 : decode cX5_bestForAll 59 = .ok (.iload 7, 2) := by decide +kernel
theorem dX5_bestForAll_61 : decode cX5_bestForAll 61 = .ok (.ishr, 1) := by decide +kernel
theorem dX5_bestForAll_62 : decode cX5_bestForAll 62 = .ok (.iconst 1, 1) := by decide +kernel
theorem dX5_bestForAll_63 : decode cX5_bestForAll 63 = .ok (.iand, 1) := by decide +kernel
theorem dX5_bestForAll_64 : decode cX5_bestForAll 64 = .ok (.ifCond .ne 7, 3) := by decide +kernel
theorem dX5_bestForAll_67 : decode cX5_bestForAll 67 = .ok (.iconst 1, 1) := by decide +kernel
theorem dX5_bestForAll_68 : decode cX5_bestForAll 68 = .ok (.goto 4, 3) := by decide +kernel
theorem dX5_bestForAll_71 : decode cX5_bestForAll 71 = .ok (.iconst 0, 1) := by decide +kernel
theorem dX5_bestForAll_72 : decode cX5_bestForAll 72 = .ok (.istore 8, 2) := by decide +kernel
theorem dX5_bestForAll_74 : decode cX5_bestForAll 74 = .ok (.iload 8, 2) := by decide +kernel
theorem dX5_bestForAll_76 : decode cX5_bestForAll 76 = .ok (.ifCond .eq 30, 3) := by decide +kernel
theorem dX5_bestForAll_79 : decode cX5_bestForAll 79 = .ok (.iload 6, 2) := by decide +kernel
theorem dX5_bestForAll_81 : decode cX5_bestForAll 81 = .ok (.ifCond .lt 20, 3) := by decide +kernel
theorem dX5_bestForAll_84 : decode cX5_bestForAll 84 = .ok (.aload_n 0, 1) := by decide +kernel
theorem dX5_bestForAll_85 : decode cX5_bestForAll 85 = .ok (.iload 7, 2) := by decide +kernel
theorem dX5_bestForAll_87 : decode cX5_bestForAll 87 = .ok (.iconst 0, 1) := by decide +kernel
theorem dX5_bestForAll_88 : decode cX5_bestForAll 88 = .ok (.invokevirtual 39, 3) := by decide +kernel
theorem dX5_bestForAll_91 : decode cX5_bestForAll 91 = .ok (.aload_n 0, 1) := by decide +kernel
theorem dX5_bestForAll_92 : decode cX5_bestForAll 92 = .ok (.iload 6, 2) := by decide +kernel
theorem dX5_bestForAll_94 : decode cX5_bestForAll 94 = .ok (.iconst 0, 1) := by decide +kernel
theorem dX5_bestForAll_95 : decode cX5_bestForAll 95 = .ok (.invokevirtual 39, 3) := by decide +kernel
theorem dX5_bestForAll_98 : decode cX5_bestForAll 98 = .ok (.if_icmp .le 8, 3) := by decide +kernel
theorem dX5_bestForAll_101 : decode cX5_bestForAll 101 = .ok (.iload 7, 2) := by decide +kernel
theorem dX5_bestForAll_103 : decode cX5_bestForAll 103 = .ok (.goto 5, 3) := by decide +kernel
theorem dX5_bestForAll_106 : decode cX5_bestForAll 106 = .ok (.iload 6, 2) := by decide +kernel
theorem dX5_bestForAll_108 : decode cX5_bestForAll 108 = .ok (.istore 6, 2) := by decide +kernel
theorem dX5_bestForAll_110 : decode cX5_bestForAll 110 = .ok (.iinc 7 1, 3) := by decide +kernel
theorem dX5_bestForAll_113 : decode cX5_bestForAll 113 = .ok (.goto (-77), 3) := by decide +kernel
theorem dX5_bestForAll_116 : decode cX5_bestForAll 116 = .ok (.iload 6, 2) := by decide +kernel
theorem dX5_bestForAll_118 : decode cX5_bestForAll 118 = .ok (.ifCond .lt 7, 3) := by decide +kernel
theorem dX5_bestForAll_121 : decode cX5_bestForAll 121 = .ok (.iconst 1, 1) := by decide +kernel
theorem dX5_bestForAll_122 : decode cX5_bestForAll 122 = .ok (.goto 4, 3) := by decide +kernel
theorem dX5_bestForAll_125 : decode cX5_bestForAll 125 = .ok (.iconst 0, 1) := by decide +kernel
theorem dX5_bestForAll_126 : decode cX5_bestForAll 126 = .ok (.istore 5, 2) := by decide +kernel
theorem dX5_bestForAll_128 : decode cX5_bestForAll 128 = .ok (.iconst 0, 1) := by decide +kernel
theorem dX5_bestForAll_129 : decode cX5_bestForAll 129 = .ok (.istore 7, 2) := by decide +kernel
theorem dX5_bestForAll_131 : decode cX5_bestForAll 131 = .ok (.iload 5, 2) := by decide +kernel
theorem dX5_bestForAll_133 : decode cX5_bestForAll 133 = .ok (.ifCond .eq 92, 3) := by decide +kernel
theorem dX5_bestForAll_136 : decode cX5_bestForAll 136 = .ok (.iload 7, 2) := by decide +kernel
theorem dX5_bestForAll_138 : decode cX5_bestForAll 138 = .ok (.bipush 20, 2) := by decide +kernel
theorem dX5_bestForAll_140 : decode cX5_bestForAll 140 = .ok (.if_icmp .ge 85, 3) := by decide +kernel
theorem dX5_bestForAll_143 : decode cX5_bestForAll 143 = .ok (.aload_n 0, 1) := by decide +kernel
theorem dX5_bestForAll_144 : decode cX5_bestForAll 144 = .ok (.iload 6, 2) := by decide +kernel
theorem dX5_bestForAll_146 : decode cX5_bestForAll 146 = .ok (.iconst 0, 1) := by decide +kernel
theorem dX5_bestForAll_147 : decode cX5_bestForAll 147 = .ok (.invokevirtual 39, 3) := by decide +kernel
theorem dX5_bestForAll_150 : decode cX5_bestForAll 150 = .ok (.aload_n 0, 1) := by decide +kernel
theorem dX5_bestForAll_151 : decode cX5_bestForAll 151 = .ok (.iload_n 3, 1) := by decide +kernel
theorem dX5_bestForAll_152 : decode cX5_bestForAll 152 = .ok (.iconst 1, 1) := by decide +kernel
theorem dX5_bestForAll_153 : decode cX5_bestForAll 153 = .ok (.iadd, 1) := by decide +kernel
theorem dX5_bestForAll_154 : decode cX5_bestForAll 154 = .ok (.invokevirtual 50, 3) := by decide +kernel
theorem dX5_bestForAll_157 : decode cX5_bestForAll 157 = .ok (.aload_n 0, 1) := by decide +kernel
theorem dX5_bestForAll_158 : decode cX5_bestForAll 158 = .ok (.iload_n 3, 1) := by decide +kernel
theorem dX5_bestForAll_159 : decode cX5_bestForAll 159 = .ok (.invokevirtual 50, 3) := by decide +kernel
theorem dX5_bestForAll_162 : decode cX5_bestForAll 162 = .ok (.isub, 1) := by decide +kernel
theorem dX5_bestForAll_163 : decode cX5_bestForAll 163 = .ok (.if_icmp .le 7, 3) := by decide +kernel
theorem dX5_bestForAll_166 : decode cX5_bestForAll 166 = .ok (.iconst 1, 1) := by decide +kernel
theorem dX5_bestForAll_167 : decode cX5_bestForAll 167 = .ok (.goto 4, 3) := by decide +kernel
theorem dX5_bestForAll_170 : decode cX5_bestForAll 170 = .ok (.iconst 0, 1) := by decide +kernel
theorem dX5_bestForAll_171 : decode cX5_bestForAll 171 = .ok (.istore 5, 2) := by decide +kernel
theorem dX5_bestForAll_173 : decode cX5_bestForAll 173 = .ok (.iload_n 3, 1) := by decide +kernel
theorem dX5_bestForAll_174 : decode cX5_bestForAll 174 = .ok (.iload 5, 2) := by decide +kernel
theorem dX5_bestForAll_176 : decode cX5_bestForAll 176 = .ok (.ifCond .eq 7, 3) := by decide +kernel
theorem dX5_bestForAll_179 : decode cX5_bestForAll 179 = .ok (.iconst 1, 1) := by decide +kernel
theorem dX5_bestForAll_180 : decode cX5_bestForAll 180 = .ok (.goto 4, 3) := by decide +kernel
theorem dX5_bestForAll_183 : decode cX5_bestForAll 183 = .ok (.iconst 0, 1) := by decide +kernel
theorem dX5_bestForAll_184 : decode cX5_bestForAll 184 = .ok (.iadd, 1) := by decide +kernel
theorem dX5_bestForAll_185 : decode cX5_bestForAll 185 = .ok (.istore_n 3, 1) := by decide +kernel
theorem dX5_bestForAll_186 : decode cX5_bestForAll 186 = .ok (.iload 4, 2) := by decide +kernel
theorem dX5_bestForAll_188 : decode cX5_bestForAll 188 = .ok (.iload 5, 2) := by decide +kernel
theorem dX5_bestForAll_190 : decode cX5_bestForAll 190 = .ok (.ifCond .eq 13, 3) := by decide +kernel
theorem dX5_bestForAll_193 : decode cX5_bestForAll 193 = .ok (.aload_n 0, 1) := by decide +kernel
theorem dX5_bestForAll_194 : decode cX5_bestForAll 194 = .ok (.iload 6, 2) := by decide +kernel
theorem dX5_bestForAll_196 : decode cX5_bestForAll 196 = .ok (.iconst 0, 1) := by decide +kernel
theorem dX5_bestForAll_197 : decode cX5_bestForAll 197 = .ok (.invokevirtual 39, 3) := by decide +kernel
theorem dX5_bestForAll_200 : decode cX5_bestForAll 200 = .ok (.goto 4, 3) := by decide +kernel
theorem dX5_bestForAll_203 : decode cX5_bestForAll 203 = .ok (.iconst 0, 1) := by decide +kernel
theorem dX5_bestForAll_204 : decode cX5_bestForAll 204 = .ok (.iadd, 1) := by decide +kernel
theorem dX5_bestForAll_205 : decode cX5_bestForAll 205 = .ok (.istore 4, 2) := by decide +kernel
theorem dX5_bestForAll_207 : decode cX5_bestForAll 207 = .ok (.iload 7, 2) := by decide +kernel
theorem dX5_bestForAll_209 : decode cX5_bestForAll 209 = .ok (.iload 5, 2) := by decide +kernel
theorem dX5_bestForAll_211 : decode cX5_bestForAll 211 = .ok (.ifCond .eq 7, 3) := by decide +kernel
theorem dX5_bestForAll_214 : decode cX5_bestForAll 214 = .ok (.iconst 1, 1) := by decide +kernel
theorem dX5_bestForAll_215 : decode cX5_bestForAll 215 = .ok (.goto 4, 3) := by decide +kernel
theorem dX5_bestForAll_218 : decode cX5_bestForAll 218 = .ok (.iconst 0, 1) := by decide +kernel
theorem dX5_bestForAll_219 : decode cX5_bestForAll 219 = .ok (.iadd, 1) := by decide +kernel
theorem dX5_bestForAll_220 : decode cX5_bestForAll 220 = .ok (.istore 7, 2) := by decide +kernel
theorem dX5_bestForAll_222 : decode cX5_bestForAll 222 = .ok (.goto (-91), 3) := by decide +kernel
theorem dX5_bestForAll_225 : decode cX5_bestForAll 225 = .ok (.iload_n 2, 1) := by decide +kernel
theorem dX5_bestForAll_226 : decode cX5_bestForAll 226 = .ok (.iload 5, 2) := by decide +kernel
theorem dX5_bestForAll_228 : decode cX5_bestForAll 228 = .ok (.ifCond .eq 10, 3) := by decide +kernel
theorem dX5_bestForAll_231 : decode cX5_bestForAll 231 = .ok (.iconst 1, 1) := by decide +kernel
theorem dX5_bestForAll_232 : decode cX5_bestForAll 232 = .ok (.iload 6, 2) := by decide +kernel
theorem dX5_bestForAll_234 : decode cX5_bestForAll 234 = .ok (.ishl, 1) := by decide +kernel
theorem dX5_bestForAll_235 : decode cX5_bestForAll 235 = .ok (.goto 4, 3) := by decide +kernel
theorem dX5_bestForAll_238 : decode cX5_bestForAll 238 = .ok (.iconst 0, 1) := by decide +kernel
theorem dX5_bestForAll_239 : decode cX5_bestForAll 239 = .ok (.ior, 1) := by decide +kernel
theorem dX5_bestForAll_240 : decode cX5_bestForAll 240 = .ok (.istore_n 2, 1) := by decide +kernel
theorem dX5_bestForAll_241 : decode cX5_bestForAll 241 = .ok (.goto (-218), 3) := by decide +kernel
theorem dX5_bestForAll_244 : decode cX5_bestForAll 244 = .ok (.iload_n 1, 1) := by decide +kernel
theorem dX5_bestForAll_245 : decode cX5_bestForAll 245 = .ok (.ifCond .ne 7, 3) := by decide +kernel
theorem dX5_bestForAll_248 : decode cX5_bestForAll 248 = .ok (.iload_n 3, 1) := by decide +kernel
theorem dX5_bestForAll_249 : decode cX5_bestForAll 249 = .ok (.goto 11, 3) := by decide +kernel
theorem dX5_bestForAll_252 : decode cX5_bestForAll 252 = .ok (.iload 4, 2) := by decide +kernel
theorem dX5_bestForAll_254 : decode cX5_bestForAll 254 = .ok (.aload_n 0, 1) := by decide +kernel
theorem dX5_bestForAll_255 : decode cX5_bestForAll 255 = .ok (.iload_n 3, 1) := by decide +kernel
theorem dX5_bestForAll_256 : decode cX5_bestForAll 256 = .ok (.invokevirtual 50, 3) := by decide +kernel
theorem dX5_bestForAll_259 : decode cX5_bestForAll 259 = .ok (.isub, 1) := by decide +kernel
theorem dX5_bestForAll_260 : decode cX5_bestForAll 260 = .ok (.ireturn, 1) := by decide +kernel
theorem dX5_wouldExclude_0 : decode cX5_wouldExclude 0 = .ok (.aload_n 0, 1) := by decide +kernel
theorem dX5_wouldExclude_1 : decode cX5_wouldExclude 1 = .ok (.getfield 7, 3) := by decide +kernel
theorem dX5_wouldExclude_4 : decode cX5_wouldExclude 4 = .ok (.iconst 5, 1) := by decide +kernel
theorem dX5_wouldExclude_5 : decode cX5_wouldExclude 5 = .ok (.iaload, 1) := by decide +kernel
theorem dX5_wouldExclude_6 : decode cX5_wouldExclude 6 = .ok (.ifCond .ne 5, 3) := by decide +kernel
theorem dX5_wouldExclude_9 : decode cX5_wouldExclude 9 = .ok (.iconst 0, 1) := by decide +kernel
theorem dX5_wouldExclude_10 : decode cX5_wouldExclude 10 = .ok (.ireturn, 1) := by decide +kernel
theorem dX5_wouldExclude_11 : decode cX5_wouldExclude 11 = .ok (.aload_n 0, 1) := by decide +kernel
theorem dX5_wouldExclude_12 : decode cX5_wouldExclude 12 = .ok (.getfield 7, 3) := by decide +kernel
theorem dX5_wouldExclude_15 : decode cX5_wouldExclude 15 = .ok (.aload_n 0, 1) := by decide +kernel
theorem dX5_wouldExclude_16 : decode cX5_wouldExclude 16 = .ok (.getfield 16, 3) := by decide +kernel
theorem dX5_wouldExclude_19 : decode cX5_wouldExclude 19 = .ok (.invokestatic 98, 3) := by decide +kernel
theorem dX5_wouldExclude_22 : decode cX5_wouldExclude 22 = .ok (.aload_n 0, 1) := by decide +kernel
theorem dX5_wouldExclude_23 : decode cX5_wouldExclude 23 = .ok (.invokevirtual 86, 3) := by decide +kernel
theorem dX5_wouldExclude_26 : decode cX5_wouldExclude 26 = .ok (.pop, 1) := by decide +kernel
theorem dX5_wouldExclude_27 : decode cX5_wouldExclude 27 = .ok (.aload_n 0, 1) := by decide +kernel
theorem dX5_wouldExclude_28 : decode cX5_wouldExclude 28 = .ok (.invokevirtual 74, 3) := by decide +kernel
theorem dX5_wouldExclude_31 : decode cX5_wouldExclude 31 = .ok (.istore_n 1, 1) := by decide +kernel
theorem dX5_wouldExclude_32 : decode cX5_wouldExclude 32 = .ok (.aload_n 0, 1) := by decide +kernel
theorem dX5_wouldExclude_33 : decode cX5_wouldExclude 33 = .ok (.getfield 16, 3) := by decide +kernel
theorem dX5_wouldExclude_36 : decode cX5_wouldExclude 36 = .ok (.aload_n 0, 1) := by decide +kernel
theorem dX5_wouldExclude_37 : decode cX5_wouldExclude 37 = .ok (.getfield 7, 3) := by decide +kernel
theorem dX5_wouldExclude_40 : decode cX5_wouldExclude 40 = .ok (.invokestatic 98, 3) := by decide +kernel
theorem dX5_wouldExclude_43 : decode cX5_wouldExclude 43 = .ok (.iload_n 1, 1) := by decide +kernel
theorem dX5_wouldExclude_44 : decode cX5_wouldExclude 44 = .ok (.ireturn, 1) := by decide +kernel
theorem dX5_canRepair_0 : decode cX5_canRepair 0 = .ok (.aload_n 0, 1) := by decide +kernel
theorem dX5_canRepair_1 : decode cX5_canRepair 1 = .ok (.getfield 7, 3) := by decide +kernel
theorem dX5_canRepair_4 : decode cX5_canRepair 4 = .ok (.bipush 8, 2) := by decide +kernel
theorem dX5_canRepair_6 : decode cX5_canRepair 6 = .ok (.iaload, 1) := by decide +kernel
theorem dX5_canRepair_7 : decode cX5_canRepair 7 = .ok (.aload_n 0, 1) := by decide +kernel
theorem dX5_canRepair_8 : decode cX5_canRepair 8 = .ok (.getfield 7, 3) := by decide +kernel
theorem dX5_canRepair_11 : decode cX5_canRepair 11 = .ok (.iconst 4, 1) := by decide +kernel
theorem dX5_canRepair_12 : decode cX5_canRepair 12 = .ok (.iaload, 1) := by decide +kernel
theorem dX5_canRepair_13 : decode cX5_canRepair 13 = .ok (.idiv, 1) := by decide +kernel
theorem dX5_canRepair_14 : decode cX5_canRepair 14 = .ok (.istore_n 1, 1) := by decide +kernel
theorem dX5_canRepair_15 : decode cX5_canRepair 15 = .ok (.iload_n 1, 1) := by decide +kernel
theorem dX5_canRepair_16 : decode cX5_canRepair 16 = .ok (.bipush 100, 2) := by decide +kernel
theorem dX5_canRepair_18 : decode cX5_canRepair 18 = .ok (.aload_n 0, 1) := by decide +kernel
theorem dX5_canRepair_19 : decode cX5_canRepair 19 = .ok (.getfield 7, 3) := by decide +kernel
theorem dX5_canRepair_22 : decode cX5_canRepair 22 = .ok (.bipush 7, 2) := by decide +kernel
theorem dX5_canRepair_24 : decode cX5_canRepair 24 = .ok (.iaload, 1) := by decide +kernel
theorem dX5_canRepair_25 : decode cX5_canRepair 25 = .ok (.isub, 1) := by decide +kernel
theorem dX5_canRepair_26 : decode cX5_canRepair 26 = .ok (.if_icmp .le 16, 3) := by decide +kernel
theorem dX5_canRepair_29 : decode cX5_canRepair 29 = .ok (.bipush 100, 2) := by decide +kernel
theorem dX5_canRepair_31 : decode cX5_canRepair 31 = .ok (.aload_n 0, 1) := by decide +kernel
theorem dX5_canRepair_32 : decode cX5_canRepair 32 = .ok (.getfield 7, 3) := by decide +kernel
theorem dX5_canRepair_35 : decode cX5_canRepair 35 = .ok (.bipush 7, 2) := by decide +kernel
theorem dX5_canRepair_37 : decode cX5_canRepair 37 = .ok (.iaload, 1) := by decide +kernel
theorem dX5_canRepair_38 : decode cX5_canRepair 38 = .ok (.isub, 1) := by decide +kernel
theorem dX5_canRepair_39 : decode cX5_canRepair 39 = .ok (.goto 4, 3) := by decide +kernel
theorem dX5_canRepair_42 : decode cX5_canRepair 42 = .ok (.iload_n 1, 1) := by decide +kernel
theorem dX5_canRepair_43 : decode cX5_canRepair 43 = .ok (.ireturn, 1) := by decide +kernel
theorem dX5_undo_0 : decode cX5_undo 0 = .ok (.aload_n 0, 1) := by decide +kernel
theorem dX5_undo_1 : decode cX5_undo 1 = .ok (.getfield 35, 3) := by decide +kernel
theorem dX5_undo_4 : decode cX5_undo 4 = .ok (.ifCond .ne 7, 3) := by decide +kernel
theorem dX5_undo_7 : decode cX5_undo 7 = .ok (.sipush (-10002), 3) := by decide +kernel
theorem dX5_undo_10 : decode cX5_undo 10 = .ok (.ireturn, 1) := by decide +kernel
theorem dX5_undo_11 : decode cX5_undo 11 = .ok (.aload_n 0, 1) := by decide +kernel
theorem dX5_undo_12 : decode cX5_undo 12 = .ok (.dup, 1) := by decide +kernel
theorem dX5_undo_13 : decode cX5_undo 13 = .ok (.getfield 35, 3) := by decide +kernel
theorem dX5_undo_16 : decode cX5_undo 16 = .ok (.iconst 1, 1) := by decide +kernel
theorem dX5_undo_17 : decode cX5_undo 17 = .ok (.isub, 1) := by decide +kernel
theorem dX5_undo_18 : decode cX5_undo 18 = .ok (.putfield 35, 3) := by decide +kernel
theorem dX5_undo_21 : decode cX5_undo 21 = .ok (.iconst 0, 1) := by decide +kernel
theorem dX5_undo_22 : decode cX5_undo 22 = .ok (.istore_n 1, 1) := by decide +kernel
theorem dX5_undo_23 : decode cX5_undo 23 = .ok (.iload_n 1, 1) := by decide +kernel
theorem dX5_undo_24 : decode cX5_undo 24 = .ok (.bipush 107, 2) := by decide +kernel
theorem dX5_undo_26 : decode cX5_undo 26 = .ok (.if_icmp .ge 29, 3) := by decide +kernel
theorem dX5_undo_29 : decode cX5_undo 29 = .ok (.aload_n 0, 1) := by decide +kernel
theorem dX5_undo_30 : decode cX5_undo 30 = .ok (.getfield 7, 3) := by decide +kernel
theorem dX5_undo_33 : decode cX5_undo 33 = .ok (.iload_n 1, 1) := by decide +kernel
theorem dX5_undo_34 : decode cX5_undo 34 = .ok (.aload_n 0, 1) := by decide +kernel
theorem dX5_undo_35 : decode cX5_undo 35 = .ok (.getfield 13, 3) := by decide +kernel
theorem dX5_undo_38 : decode cX5_undo 38 = .ok (.bipush 107, 2) := by decide +kernel
theorem dX5_undo_40 : decode cX5_undo 40 = .ok (.aload_n 0, 1) := by decide +kernel
theorem dX5_undo_41 : decode cX5_undo 41 = .ok (.getfield 35, 3) := by decide +kernel
theorem dX5_undo_44 : decode cX5_undo 44 = .ok (.imul, 1) := by decide +kernel
theorem dX5_undo_45 : decode cX5_undo 45 = .ok (.iload_n 1, 1) := by decide +kernel
theorem dX5_undo_46 : decode cX5_undo 46 = .ok (.iadd, 1) := by decide +kernel
theorem dX5_undo_47 : decode cX5_undo 47 = .ok (.iaload, 1) := by decide +kernel
theorem dX5_undo_48 : decode cX5_undo 48 = .ok (.iastore, 1) := by decide +kernel
theorem dX5_undo_49 : decode cX5_undo 49 = .ok (.iinc 1 1, 3) := by decide +kernel
theorem dX5_undo_52 : decode cX5_undo 52 = .ok (.goto (-29), 3) := by decide +kernel
theorem dX5_undo_55 : decode cX5_undo 55 = .ok (.aload_n 0, 1) := by decide +kernel
theorem dX5_undo_56 : decode cX5_undo 56 = .ok (.getfield 35, 3) := by decide +kernel
theorem dX5_undo_59 : decode cX5_undo 59 = .ok (.ireturn, 1) := by decide +kernel
theorem dX5_type_0 : decode cX5_type 0 = .ok (.iload_n 1, 1) := by decide +kernel
theorem dX5_type_1 : decode cX5_type 1 = .ok (.bipush 32, 2) := by decide +kernel
theorem dX5_type_3 : decode cX5_type 3 = .ok (.bipush 126, 2) := by decide +kernel
theorem dX5_type_5 : decode cX5_type 5 = .ok (.invokestatic 53, 3) := by decide +kernel
theorem dX5_type_8 : decode cX5_type 8 = .ok (.ifCond .ne 7, 3) := by decide +kernel
theorem dX5_type_11 : decode cX5_type 11 = .ok (.sipush (-10001), 3) := by decide +kernel
theorem dX5_type_14 : decode cX5_type 14 = .ok (.ireturn, 1) := by decide +kernel
theorem dX5_type_15 : decode cX5_type 15 = .ok (.aload_n 0, 1) := by decide +kernel
theorem dX5_type_16 : decode cX5_type 16 = .ok (.getfield 89, 3) := by decide +kernel
theorem dX5_type_19 : decode cX5_type 19 = .ok (.bipush 60, 2) := by decide +kernel
theorem dX5_type_21 : decode cX5_type 21 = .ok (.if_icmp .ne 7, 3) := by decide +kernel
theorem dX5_type_24 : decode cX5_type 24 = .ok (.sipush (-10003), 3) := by decide +kernel
theorem dX5_type_27 : decode cX5_type 27 = .ok (.ireturn, 1) := by decide +kernel
theorem dX5_type_28 : decode cX5_type 28 = .ok (.aload_n 0, 1) := by decide +kernel
theorem dX5_type_29 : decode cX5_type 29 = .ok (.getfield 19, 3) := by decide +kernel
theorem dX5_type_32 : decode cX5_type 32 = .ok (.aload_n 0, 1) := by decide +kernel
theorem dX5_type_33 : decode cX5_type 33 = .ok (.getfield 89, 3) := by decide +kernel
theorem dX5_type_36 : decode cX5_type 36 = .ok (.iload_n 1, 1) := by decide +kernel
theorem dX5_type_37 : decode cX5_type 37 = .ok (.iastore, 1) := by decide +kernel
theorem dX5_type_38 : decode cX5_type 38 = .ok (.aload_n 0, 1) := by decide +kernel
theorem dX5_type_39 : decode cX5_type 39 = .ok (.dup, 1) := by decide +kernel
theorem dX5_type_40 : decode cX5_type 40 = .ok (.getfield 89, 3) := by decide +kernel
theorem dX5_type_43 : decode cX5_type 43 = .ok (.iconst 1, 1) := by decide +kernel
theorem dX5_type_44 : decode cX5_type 44 = .ok (.iadd, 1) := by decide +kernel
theorem dX5_type_45 : decode cX5_type 45 = .ok (.putfield 89, 3) := by decide +kernel
theorem dX5_type_48 : decode cX5_type 48 = .ok (.aload_n 0, 1) := by decide +kernel
theorem dX5_type_49 : decode cX5_type 49 = .ok (.getfield 89, 3) := by decide +kernel
theorem dX5_type_52 : decode cX5_type 52 = .ok (.ireturn, 1) := by decide +kernel
theorem dX5_clearText_0 : decode cX5_clearText 0 = .ok (.aload_n 0, 1) := by decide +kernel
theorem dX5_clearText_1 : decode cX5_clearText 1 = .ok (.getfield 89, 3) := by decide +kernel
theorem dX5_clearText_4 : decode cX5_clearText 4 = .ok (.istore_n 1, 1) := by decide +kernel
theorem dX5_clearText_5 : decode cX5_clearText 5 = .ok (.aload_n 0, 1) := by decide +kernel
theorem dX5_clearText_6 : decode cX5_clearText 6 = .ok (.iconst 0, 1) := by decide +kernel
theorem dX5_clearText_7 : decode cX5_clearText 7 = .ok (.putfield 89, 3) := by decide +kernel
theorem dX5_clearText_10 : decode cX5_clearText 10 = .ok (.iload_n 1, 1) := by decide +kernel
theorem dX5_clearText_11 : decode cX5_clearText 11 = .ok (.ireturn, 1) := by decide +kernel
theorem dX5_isAt_0 : decode cX5_isAt 0 = .ok (.aload_n 0, 1) := by decide +kernel
theorem dX5_isAt_1 : decode cX5_isAt 1 = .ok (.getfield 106, 3) := by decide +kernel
theorem dX5_isAt_4 : decode cX5_isAt 4 = .ok (.aload_n 0, 1) := by decide +kernel
theorem dX5_isAt_5 : decode cX5_isAt 5 = .ok (.getfield 89, 3) := by decide +kernel
theorem dX5_isAt_8 : decode cX5_isAt 8 = .ok (.if_icmp .ge 24, 3) := by decide +kernel
theorem dX5_isAt_11 : decode cX5_isAt 11 = .ok (.aload_n 0, 1) := by decide +kernel
theorem dX5_isAt_12 : decode cX5_isAt 12 = .ok (.getfield 19, 3) := by decide +kernel
theorem dX5_isAt_15 : decode cX5_isAt 15 = .ok (.aload_n 0, 1) := by decide +kernel
theorem dX5_isAt_16 : decode cX5_isAt 16 = .ok (.getfield 106, 3) := by decide +kernel
theorem dX5_isAt_19 : decode cX5_isAt 19 = .ok (.iaload, 1) := by decide +kernel
theorem dX5_isAt_20 : decode cX5_isAt 20 = .ok (.iload_n 1, 1) := by decide +kernel
theorem dX5_isAt_21 : decode cX5_isAt 21 = .ok (.iload_n 2, 1) := by decide +kernel
theorem dX5_isAt_22 : decode cX5_isAt 22 = .ok (.invokestatic 53, 3) := by decide +kernel
theorem dX5_isAt_25 : decode cX5_isAt 25 = .ok (.ifCond .eq 7, 3) := by decide +kernel
theorem dX5_isAt_28 : decode cX5_isAt 28 = .ok (.iconst 1, 1) := by decide +kernel
theorem dX5_isAt_29 : decode cX5_isAt 29 = .ok (.goto 4, 3) := by decide +kernel
theorem dX5_isAt_32 : decode cX5_isAt 32 = .ok (.iconst 0, 1) := by decide +kernel
theorem dX5_isAt_33 : decode cX5_isAt 33 = .ok (.ireturn, 1) := by decide +kernel
theorem dX5_number_0 : decode cX5_number 0 = .ok (.aload_n 0, 1) := by decide +kernel
theorem dX5_number_1 : decode cX5_number 1 = .ok (.getfield 106, 3) := by decide +kernel
theorem dX5_number_4 : decode cX5_number 4 = .ok (.istore_n 3, 1) := by decide +kernel
theorem dX5_number_5 : decode cX5_number 5 = .ok (.aload_n 0, 1) := by decide +kernel
theorem dX5_number_6 : decode cX5_number 6 = .ok (.getfield 25, 3) := by decide +kernel
theorem dX5_number_9 : decode cX5_number 9 = .ok (.iload_n 1, 1) := by decide +kernel
theorem dX5_number_10 : decode cX5_number 10 = .ok (.iconst 0, 1) := by decide +kernel
theorem dX5_number_11 : decode cX5_number 11 = .ok (.iastore, 1) := by decide +kernel
theorem dX5_number_12 : decode cX5_number 12 = .ok (.aload_n 0, 1) := by decide +kernel
theorem dX5_number_13 : decode cX5_number 13 = .ok (.bipush 48, 2) := by decide +kernel
theorem dX5_number_15 : decode cX5_number 15 = .ok (.bipush 57, 2) := by decide +kernel
theorem dX5_number_17 : decode cX5_number 17 = .ok (.invokevirtual 109, 3) := by decide +kernel
theorem dX5_number_20 : decode cX5_number 20 = .ok (.ifCond .eq 54, 3) := by decide +kernel
theorem dX5_number_23 : decode cX5_number 23 = .ok (.aload_n 0, 1) := by decide +kernel
theorem dX5_number_24 : decode cX5_number 24 = .ok (.getfield 106, 3) := by decide +kernel
theorem dX5_number_27 : decode cX5_number 27 = .ok (.iload_n 3, 1) := by decide +kernel
theorem dX5_number_28 : decode cX5_number 28 = .ok (.isub, 1) := by decide +kernel
theorem dX5_number_29 : decode cX5_number 29 = .ok (.iconst 3, 1) := by decide +kernel
theorem dX5_number_30 : decode cX5_number 30 = .ok (.if_icmp .ge 44, 3) := by decide +kernel
theorem dX5_number_33 : decode cX5_number 33 = .ok (.aload_n 0, 1) := by decide +kernel
theorem dX5_number_34 : decode cX5_number 34 = .ok (.getfield 25, 3) := by decide +kernel
theorem dX5_number_37 : decode cX5_number 37 = .ok (.iload_n 1, 1) := by decide +kernel
theorem dX5_number_38 : decode cX5_number 38 = .ok (.bipush 10, 2) := by decide +kernel
theorem dX5_number_40 : decode cX5_number 40 = .ok (.aload_n 0, 1) := by decide +kernel
theorem dX5_number_41 : decode cX5_number 41 = .ok (.getfield 25, 3) := by decide +kernel
theorem dX5_number_44 : decode cX5_number 44 = .ok (.iload_n 1, 1) := by decide +kernel
theorem dX5_number_45 : decode cX5_number 45 = .ok (.iaload, 1) := by decide +kernel
theorem dX5_number_46 : decode cX5_number 46 = .ok (.imul, 1) := by decide +kernel
theorem dX5_number_47 : decode cX5_number 47 = .ok (.aload_n 0, 1) := by decide +kernel
theorem dX5_number_48 : decode cX5_number 48 = .ok (.getfield 19, 3) := by decide +kernel
theorem dX5_number_51 : decode cX5_number 51 = .ok (.aload_n 0, 1) := by decide +kernel
theorem dX5_number_52 : decode cX5_number 52 = .ok (.getfield 106, 3) := by decide +kernel
theorem dX5_number_55 : decode cX5_number 55 = .ok (.iaload, 1) := by decide +kernel
theorem dX5_number_56 : decode cX5_number 56 = .ok (.iadd, 1) := by decide +kernel
theorem dX5_number_57 : decode cX5_number 57 = .ok (.bipush 48, 2) := by decide +kernel
theorem dX5_number_59 : decode cX5_number 59 = .ok (.isub, 1) := by decide +kernel
theorem dX5_number_60 : decode cX5_number 60 = .ok (.iastore, 1) := by decide +kernel
theorem dX5_number_61 : decode cX5_number 61 = .ok (.aload_n 0, 1) := by decide +kernel
theorem dX5_number_62 : decode cX5_number 62 = .ok (.dup, 1) := by decide +kernel
theorem dX5_number_63 : decode cX5_number 63 = .ok (.getfield 106, 3) := by decide +kernel
theorem dX5_number_66 : decode cX5_number 66 = .ok (.iconst 1, 1) := by decide +kernel
theorem dX5_number_67 : decode cX5_number 67 = .ok (.iadd, 1) := by decide +kernel
theorem dX5_number_68 : decode cX5_number 68 = .ok (.putfield 106, 3) := by decide +kernel
theorem dX5_number_71 : decode cX5_number 71 = .ok (.goto (-59), 3) := by decide +kernel
theorem dX5_number_74 : decode cX5_number 74 = .ok (.aload_n 0, 1) := by decide +kernel
theorem dX5_number_75 : decode cX5_number 75 = .ok (.getfield 106, 3) := by decide +kernel
theorem dX5_number_78 : decode cX5_number 78 = .ok (.iload_n 3, 1) := by decide +kernel
theorem dX5_number_79 : decode cX5_number 79 = .ok (.if_icmp .le 16, 3) := by decide +kernel
theorem dX5_number_82 : decode cX5_number 82 = .ok (.aload_n 0, 1) := by decide +kernel
theorem dX5_number_83 : decode cX5_number 83 = .ok (.iload_n 2, 1) := by decide +kernel
theorem dX5_number_84 : decode cX5_number 84 = .ok (.iload_n 2, 1) := by decide +kernel
theorem dX5_number_85 : decode cX5_number 85 = .ok (.invokevirtual 109, 3) := by decide +kernel
theorem dX5_number_88 : decode cX5_number 88 = .ok (.ifCond .eq 7, 3) := by decide +kernel
theorem dX5_number_91 : decode cX5_number 91 = .ok (.iconst 1, 1) := by decide +kernel
theorem dX5_number_92 : decode cX5_number 92 = .ok (.goto 4, 3) := by decide +kernel
theorem dX5_number_95 : decode cX5_number 95 = .ok (.iconst 0, 1) := by decide +kernel
theorem dX5_number_96 : decode cX5_number 96 = .ok (.istore 4, 2) := by decide +kernel
theorem dX5_number_98 : decode cX5_number 98 = .ok (.aload_n 0, 1) := by decide +kernel
theorem dX5_number_99 : decode cX5_number 99 = .ok (.dup, 1) := by decide +kernel
theorem dX5_number_100 : decode cX5_number 100 = .ok (.getfield 106, 3) := by decide +kernel
theorem dX5_number_103 : decode cX5_number 103 = .ok (.iconst 1, 1) := by decide +kernel
theorem dX5_number_104 : decode cX5_number 104 = .ok (.iadd, 1) := by decide +kernel
theorem dX5_number_105 : decode cX5_number 105 = .ok (.putfield 106, 3) := by decide +kernel
theorem dX5_number_108 : decode cX5_number 108 = .ok (.iload 4, 2) := by decide +kernel
theorem dX5_number_110 : decode cX5_number 110 = .ok (.ireturn, 1) := by decide +kernel
theorem dX5_isForm_0 : decode cX5_isForm 0 = .ok (.aload_n 0, 1) := by decide +kernel
theorem dX5_isForm_1 : decode cX5_isForm 1 = .ok (.dup, 1) := by decide +kernel
theorem dX5_isForm_2 : decode cX5_isForm 2 = .ok (.getfield 106, 3) := by decide +kernel
theorem dX5_isForm_5 : decode cX5_isForm 5 = .ok (.iconst 1, 1) := by decide +kernel
theorem dX5_isForm_6 : decode cX5_isForm 6 = .ok (.iadd, 1) := by decide +kernel
theorem dX5_isForm_7 : decode cX5_isForm 7 = .ok (.putfield 106, 3) := by decide +kernel
theorem dX5_isForm_10 : decode cX5_isForm 10 = .ok (.iload_n 1, 1) := by decide +kernel
theorem dX5_isForm_11 : decode cX5_isForm 11 = .ok (.bipush 99, 2) := by decide +kernel
theorem dX5_isForm_13 : decode cX5_isForm 13 = .ok (.if_icmp .ne 24, 3) := by decide +kernel
theorem dX5_isForm_16 : decode cX5_isForm 16 = .ok (.aload_n 0, 1) := by decide +kernel
theorem dX5_isForm_17 : decode cX5_isForm 17 = .ok (.bipush 59, 2) := by decide +kernel
theorem dX5_isForm_19 : decode cX5_isForm 19 = .ok (.bipush 59, 2) := by decide +kernel
theorem dX5_isForm_21 : decode cX5_isForm 21 = .ok (.invokevirtual 109, 3) := by decide +kernel
theorem dX5_isForm_24 : decode cX5_isForm 24 = .ok (.istore_n 2, 1) := by decide +kernel
theorem dX5_isForm_25 : decode cX5_isForm 25 = .ok (.aload_n 0, 1) := by decide +kernel
theorem dX5_isForm_26 : decode cX5_isForm 26 = .ok (.dup, 1) := by decide +kernel
theorem dX5_isForm_27 : decode cX5_isForm 27 = .ok (.getfield 106, 3) := by decide +kernel
theorem dX5_isForm_30 : decode cX5_isForm 30 = .ok (.iconst 1, 1) := by decide +kernel
theorem dX5_isForm_31 : decode cX5_isForm 31 = .ok (.iadd, 1) := by decide +kernel
theorem dX5_isForm_32 : decode cX5_isForm 32 = .ok (.putfield 106, 3) := by decide +kernel
theorem dX5_isForm_35 : decode cX5_isForm 35 = .ok (.iload_n 2, 1) := by decide +kernel
theorem dX5_isForm_36 : decode cX5_isForm 36 = .ok (.ireturn, 1) := by decide +kernel
theorem dX5_isForm_37 : decode cX5_isForm 37 = .ok (.iload_n 1, 1) := by decide +kernel
theorem dX5_isForm_38 : decode cX5_isForm 38 = .ok (.bipush 109, 2) := by decide +kernel
theorem dX5_isForm_40 : decode cX5_isForm 40 = .ok (.if_icmp .eq 9, 3) := by decide +kernel
theorem dX5_isForm_43 : decode cX5_isForm 43 = .ok (.iload_n 1, 1) := by decide +kernel
theorem dX5_isForm_44 : decode cX5_isForm 44 = .ok (.bipush 114, 2) := by decide +kernel
theorem dX5_isForm_46 : decode cX5_isForm 46 = .ok (.if_icmp .ne 11, 3) := by decide +kernel
theorem dX5_isForm_49 : decode cX5_isForm 49 = .ok (.aload_n 0, 1) := by decide +kernel
theorem dX5_isForm_50 : decode cX5_isForm 50 = .ok (.iconst 0, 1) := by decide +kernel
theorem dX5_isForm_51 : decode cX5_isForm 51 = .ok (.bipush 59, 2) := by decide +kernel
theorem dX5_isForm_53 : decode cX5_isForm 53 = .ok (.invokevirtual 113, 3) := by decide +kernel
theorem dX5_isForm_56 : decode cX5_isForm 56 = .ok (.ireturn, 1) := by decide +kernel
theorem dX5_isForm_57 : decode cX5_isForm 57 = .ok (.iload_n 1, 1) := by decide +kernel
theorem dX5_isForm_58 : decode cX5_isForm 58 = .ok (.bipush 117, 2) := by decide +kernel
theorem dX5_isForm_60 : decode cX5_isForm 60 = .ok (.if_icmp .eq 9, 3) := by decide +kernel
theorem dX5_isForm_63 : decode cX5_isForm 63 = .ok (.iload_n 1, 1) := by decide +kernel
theorem dX5_isForm_64 : decode cX5_isForm 64 = .ok (.bipush 112, 2) := by decide +kernel
theorem dX5_isForm_66 : decode cX5_isForm 66 = .ok (.if_icmp .ne 27, 3) := by decide +kernel
theorem dX5_isForm_69 : decode cX5_isForm 69 = .ok (.aload_n 0, 1) := by decide +kernel
theorem dX5_isForm_70 : decode cX5_isForm 70 = .ok (.iconst 0, 1) := by decide +kernel
theorem dX5_isForm_71 : decode cX5_isForm 71 = .ok (.bipush 44, 2) := by decide +kernel
theorem dX5_isForm_73 : decode cX5_isForm 73 = .ok (.invokevirtual 113, 3) := by decide +kernel
theorem dX5_isForm_76 : decode cX5_isForm 76 = .ok (.ifCond .eq 17, 3) := by decide +kernel
theorem dX5_isForm_79 : decode cX5_isForm 79 = .ok (.aload_n 0, 1) := by decide +kernel
theorem dX5_isForm_80 : decode cX5_isForm 80 = .ok (.iconst 1, 1) := by decide +kernel
theorem dX5_isForm_81 : decode cX5_isForm 81 = .ok (.bipush 59, 2) := by decide +kernel
theorem dX5_isForm_83 : decode cX5_isForm 83 = .ok (.invokevirtual 113, 3) := by decide +kernel
theorem dX5_isForm_86 : decode cX5_isForm 86 = .ok (.ifCond .eq 7, 3) := by decide +kernel
theorem dX5_isForm_89 : decode cX5_isForm 89 = .ok (.iconst 1, 1) := by decide +kernel
theorem dX5_isForm_90 : decode cX5_isForm 90 = .ok (.goto 4, 3) := by decide +kernel
theorem dX5_isForm_93 : decode cX5_isForm 93 = .ok (.iconst 0, 1) := by decide +kernel
theorem dX5_isForm_94 : decode cX5_isForm 94 = .ok (.ireturn, 1) := by decide +kernel
theorem dX5_calls_0 : decode cX5_calls 0 = .ok (.iload_n 1, 1) := by decide +kernel
theorem dX5_calls_1 : decode cX5_calls 1 = .ok (.lookupswitch 93 #[(99, 71), (109, 43), (112, 76), (117, 54)], 43) := by decide +kernel
theorem dX5_calls_44 : decode cX5_calls 44 = .ok (.aload_n 0, 1) := by decide +kernel
theorem dX5_calls_45 : decode cX5_calls 45 = .ok (.aload_n 0, 1) := by decide +kernel
theorem dX5_calls_46 : decode cX5_calls 46 = .ok (.getfield 25, 3) := by decide +kernel
theorem dX5_calls_49 : decode cX5_calls 49 = .ok (.iconst 0, 1) := by decide +kernel
theorem dX5_calls_50 : decode cX5_calls 50 = .ok (.iaload, 1) := by decide +kernel
theorem dX5_calls_51 : decode cX5_calls 51 = .ok (.invokevirtual 116, 3) := by decide +kernel
theorem dX5_calls_54 : decode cX5_calls 54 = .ok (.ireturn, 1) := by decide +kernel
theorem dX5_calls_55 : decode cX5_calls 55 = .ok (.aload_n 0, 1) := by decide +kernel
theorem dX5_calls_56 : decode cX5_calls 56 = .ok (.aload_n 0, 1) := by decide +kernel
theorem dX5_calls_57 : decode cX5_calls 57 = .ok (.getfield 25, 3) := by decide +kernel
theorem dX5_calls_60 : decode cX5_calls 60 = .ok (.iconst 0, 1) := by decide +kernel
theorem dX5_calls_61 : decode cX5_calls 61 = .ok (.iaload, 1) := by decide +kernel
theorem dX5_calls_62 : decode cX5_calls 62 = .ok (.aload_n 0, 1) := by decide +kernel
theorem dX5_calls_63 : decode cX5_calls 63 = .ok (.getfield 25, 3) := by decide +kernel
theorem dX5_calls_66 : decode cX5_calls 66 = .ok (.iconst 1, 1) := by decide +kernel
theorem dX5_calls_67 : decode cX5_calls 67 = .ok (.iaload, 1) := by decide +kernel
theorem dX5_calls_68 : decode cX5_calls 68 = .ok (.invokevirtual 119, 3) := by decide +kernel
theorem dX5_calls_71 : decode cX5_calls 71 = .ok (.ireturn, 1) := by decide +kernel
theorem dX5_calls_72 : decode cX5_calls 72 = .ok (.aload_n 0, 1) := by decide +kernel
theorem dX5_calls_73 : decode cX5_calls 73 = .ok (.invokevirtual 122, 3) := by decide +kernel
theorem dX5_calls_76 : decode cX5_calls 76 = .ok (.ireturn, 1) := by decide +kernel
theorem dX5_calls_77 : decode cX5_calls 77 = .ok (.aload_n 0, 1) := by decide +kernel
theorem dX5_calls_78 : decode cX5_calls 78 = .ok (.aload_n 0, 1) := by decide +kernel
theorem dX5_calls_79 : decode cX5_calls 79 = .ok (.getfield 25, 3) := by decide +kernel
theorem dX5_calls_82 : decode cX5_calls 82 = .ok (.iconst 0, 1) := by decide +kernel
theorem dX5_calls_83 : decode cX5_calls 83 = .ok (.iaload, 1) := by decide +kernel
theorem dX5_calls_84 : decode cX5_calls 84 = .ok (.aload_n 0, 1) := by decide +kernel
theorem dX5_calls_85 : decode cX5_calls 85 = .ok (.getfield 25, 3) := by decide +kernel
theorem dX5_calls_88 : decode cX5_calls 88 = .ok (.iconst 1, 1) := by decide +kernel
theorem dX5_calls_89 : decode cX5_calls 89 = .ok (.iaload, 1) := by decide +kernel
theorem dX5_calls_90 : decode cX5_calls 90 = .ok (.invokevirtual 125, 3) := by decide +kernel
theorem dX5_calls_93 : decode cX5_calls 93 = .ok (.ireturn, 1) := by decide +kernel
theorem dX5_calls_94 : decode cX5_calls 94 = .ok (.aload_n 0, 1) := by decide +kernel
theorem dX5_calls_95 : decode cX5_calls 95 = .ok (.aload_n 0, 1) := by decide +kernel
theorem dX5_calls_96 : decode cX5_calls 96 = .ok (.getfield 25, 3) := by decide +kernel
theorem dX5_calls_99 : decode cX5_calls 99 = .ok (.iconst 0, 1) := by decide +kernel
theorem dX5_calls_100 : decode cX5_calls 100 = .ok (.iaload, 1) := by decide +kernel
theorem dX5_calls_101 : decode cX5_calls 101 = .ok (.invokevirtual 128, 3) := by decide +kernel
theorem dX5_calls_104 : decode cX5_calls 104 = .ok (.ireturn, 1) := by decide +kernel
theorem dX5_plays_0 : decode cX5_plays 0 = .ok (.aload_n 0, 1) := by decide +kernel
theorem dX5_plays_1 : decode cX5_plays 1 = .ok (.iconst 1, 1) := by decide +kernel
theorem dX5_plays_2 : decode cX5_plays 2 = .ok (.putfield 31, 3) := by decide +kernel
theorem dX5_plays_5 : decode cX5_plays 5 = .ok (.aload_n 0, 1) := by decide +kernel
theorem dX5_plays_6 : decode cX5_plays 6 = .ok (.iconst 0, 1) := by decide +kernel
theorem dX5_plays_7 : decode cX5_plays 7 = .ok (.putfield 106, 3) := by decide +kernel
theorem dX5_plays_10 : decode cX5_plays 10 = .ok (.aload_n 0, 1) := by decide +kernel
theorem dX5_plays_11 : decode cX5_plays 11 = .ok (.iconst 0, 1) := by decide +kernel
theorem dX5_plays_12 : decode cX5_plays 12 = .ok (.putfield 131, 3) := by decide +kernel
theorem dX5_plays_15 : decode cX5_plays 15 = .ok (.iconst 0, 1) := by decide +kernel
theorem dX5_plays_16 : decode cX5_plays 16 = .ok (.istore_n 1, 1) := by decide +kernel
theorem dX5_plays_17 : decode cX5_plays 17 = .ok (.iconst 1, 1) := by decide +kernel
theorem dX5_plays_18 : decode cX5_plays 18 = .ok (.istore_n 2, 1) := by decide +kernel
theorem dX5_plays_19 : decode cX5_plays 19 = .ok (.aload_n 0, 1) := by decide +kernel
theorem dX5_plays_20 : decode cX5_plays 20 = .ok (.getfield 106, 3) := by decide +kernel
theorem dX5_plays_23 : decode cX5_plays 23 = .ok (.aload_n 0, 1) := by decide +kernel
theorem dX5_plays_24 : decode cX5_plays 24 = .ok (.getfield 89, 3) := by decide +kernel
theorem dX5_plays_27 : decode cX5_plays 27 = .ok (.if_icmp .ge 78, 3) := by decide +kernel
theorem dX5_plays_30 : decode cX5_plays 30 = .ok (.iload_n 2, 1) := by decide +kernel
theorem dX5_plays_31 : decode cX5_plays 31 = .ok (.ifCond .eq 74, 3) := by decide +kernel
theorem dX5_plays_34 : decode cX5_plays 34 = .ok (.aload_n 0, 1) := by decide +kernel
theorem dX5_plays_35 : decode cX5_plays 35 = .ok (.getfield 106, 3) := by decide +kernel
theorem dX5_plays_38 : decode cX5_plays 38 = .ok (.istore_n 1, 1) := by decide +kernel
theorem dX5_plays_39 : decode cX5_plays 39 = .ok (.aload_n 0, 1) := by decide +kernel
theorem dX5_plays_40 : decode cX5_plays 40 = .ok (.getfield 19, 3) := by decide +kernel
theorem dX5_plays_43 : decode cX5_plays 43 = .ok (.aload_n 0, 1) := by decide +kernel
theorem dX5_plays_44 : decode cX5_plays 44 = .ok (.getfield 106, 3) := by decide +kernel
theorem dX5_plays_47 : decode cX5_plays 47 = .ok (.iaload, 1) := by decide +kernel
theorem dX5_plays_48 : decode cX5_plays 48 = .ok (.istore_n 3, 1) := by decide +kernel
theorem dX5_plays_49 : decode cX5_plays 49 = .ok (.aload_n 0, 1) := by decide +kernel
theorem dX5_plays_50 : decode cX5_plays 50 = .ok (.iload_n 3, 1) := by decide +kernel
theorem dX5_plays_51 : decode cX5_plays 51 = .ok (.invokevirtual 134, 3) := by decide +kernel
theorem dX5_plays_54 : decode cX5_plays 54 = .ok (.istore 4, 2) := by decide +kernel
theorem dX5_plays_56 : decode cX5_plays 56 = .ok (.aload_n 0, 1) := by decide +kernel
theorem dX5_plays_57 : decode cX5_plays 57 = .ok (.iload 4, 2) := by decide +kernel
theorem dX5_plays_59 : decode cX5_plays 59 = .ok (.ifCond .eq 11, 3) := by decide +kernel
theorem dX5_plays_62 : decode cX5_plays 62 = .ok (.aload_n 0, 1) := by decide +kernel
theorem dX5_plays_63 : decode cX5_plays 63 = .ok (.iload_n 3, 1) := by decide +kernel
theorem dX5_plays_64 : decode cX5_plays 64 = .ok (.invokevirtual 137, 3) := by decide +kernel
theorem dX5_plays_67 : decode cX5_plays 67 = .ok (.goto 4, 3) := by decide +kernel
theorem dX5_plays_70 : decode cX5_plays 70 = .ok (.iconst 0, 1) := by decide +kernel
theorem dX5_plays_71 : decode cX5_plays 71 = .ok (.putfield 140, 3) := by decide +kernel
theorem dX5_plays_74 : decode cX5_plays 74 = .ok (.iload 4, 2) := by decide +kernel
theorem dX5_plays_76 : decode cX5_plays 76 = .ok (.ifCond .eq 14, 3) := by decide +kernel
theorem dX5_plays_79 : decode cX5_plays 79 = .ok (.aload_n 0, 1) := by decide +kernel
theorem dX5_plays_80 : decode cX5_plays 80 = .ok (.getfield 140, 3) := by decide +kernel
theorem dX5_plays_83 : decode cX5_plays 83 = .ok (.ifCond .lt 7, 3) := by decide +kernel
theorem dX5_plays_86 : decode cX5_plays 86 = .ok (.iconst 1, 1) := by decide +kernel
theorem dX5_plays_87 : decode cX5_plays 87 = .ok (.goto 4, 3) := by decide +kernel
theorem dX5_plays_90 : decode cX5_plays 90 = .ok (.iconst 0, 1) := by decide +kernel
theorem dX5_plays_91 : decode cX5_plays 91 = .ok (.istore_n 2, 1) := by decide +kernel
theorem dX5_plays_92 : decode cX5_plays 92 = .ok (.aload_n 0, 1) := by decide +kernel
theorem dX5_plays_93 : decode cX5_plays 93 = .ok (.dup, 1) := by decide +kernel
theorem dX5_plays_94 : decode cX5_plays 94 = .ok (.getfield 131, 3) := by decide +kernel
theorem dX5_plays_97 : decode cX5_plays 97 = .ok (.iconst 1, 1) := by decide +kernel
theorem dX5_plays_98 : decode cX5_plays 98 = .ok (.iadd, 1) := by decide +kernel
theorem dX5_plays_99 : decode cX5_plays 99 = .ok (.putfield 131, 3) := by decide +kernel
theorem dX5_plays_102 : decode cX5_plays 102 = .ok (.goto (-83), 3) := by decide +kernel
theorem dX5_plays_105 : decode cX5_plays 105 = .ok (.aload_n 0, 1) := by decide +kernel
theorem dX5_plays_106 : decode cX5_plays 106 = .ok (.iconst 0, 1) := by decide +kernel
theorem dX5_plays_107 : decode cX5_plays 107 = .ok (.putfield 31, 3) := by decide +kernel
theorem dX5_plays_110 : decode cX5_plays 110 = .ok (.iload_n 2, 1) := by decide +kernel
theorem dX5_plays_111 : decode cX5_plays 111 = .ok (.ifCond .eq 9, 3) := by decide +kernel
theorem dX5_plays_114 : decode cX5_plays 114 = .ok (.sipush (-10004), 3) := by decide +kernel
theorem dX5_plays_117 : decode cX5_plays 117 = .ok (.goto 4, 3) := by decide +kernel
theorem dX5_plays_120 : decode cX5_plays 120 = .ok (.iload_n 1, 1) := by decide +kernel
theorem dX5_plays_121 : decode cX5_plays 121 = .ok (.ireturn, 1) := by decide +kernel
theorem dX5_fault_0 : decode cX5_fault 0 = .ok (.iload_n 1, 1) := by decide +kernel
theorem dX5_fault_1 : decode cX5_fault 1 = .ok (.iconst 0, 1) := by decide +kernel
theorem dX5_fault_2 : decode cX5_fault 2 = .ok (.iconst 2, 1) := by decide +kernel
theorem dX5_fault_3 : decode cX5_fault 3 = .ok (.invokestatic 53, 3) := by decide +kernel
theorem dX5_fault_6 : decode cX5_fault 6 = .ok (.ifCond .ne 7, 3) := by decide +kernel
theorem dX5_fault_9 : decode cX5_fault 9 = .ok (.sipush (-10001), 3) := by decide +kernel
theorem dX5_fault_12 : decode cX5_fault 12 = .ok (.ireturn, 1) := by decide +kernel
theorem dX5_fault_13 : decode cX5_fault 13 = .ok (.aload_n 0, 1) := by decide +kernel
theorem dX5_fault_14 : decode cX5_fault 14 = .ok (.getfield 7, 3) := by decide +kernel
theorem dX5_fault_17 : decode cX5_fault 17 = .ok (.aload_n 0, 1) := by decide +kernel
theorem dX5_fault_18 : decode cX5_fault 18 = .ok (.getfield 28, 3) := by decide +kernel
theorem dX5_fault_21 : decode cX5_fault 21 = .ok (.invokestatic 98, 3) := by decide +kernel
theorem dX5_fault_24 : decode cX5_fault 24 = .ok (.aload_n 0, 1) := by decide +kernel
theorem dX5_fault_25 : decode cX5_fault 25 = .ok (.invokevirtual 143, 3) := by decide +kernel
theorem dX5_fault_28 : decode cX5_fault 28 = .ok (.istore_n 2, 1) := by decide +kernel
theorem dX5_fault_29 : decode cX5_fault 29 = .ok (.aload_n 0, 1) := by decide +kernel
theorem dX5_fault_30 : decode cX5_fault 30 = .ok (.getfield 28, 3) := by decide +kernel
theorem dX5_fault_33 : decode cX5_fault 33 = .ok (.aload_n 0, 1) := by decide +kernel
theorem dX5_fault_34 : decode cX5_fault 34 = .ok (.getfield 7, 3) := by decide +kernel
theorem dX5_fault_37 : decode cX5_fault 37 = .ok (.invokestatic 98, 3) := by decide +kernel
theorem dX5_fault_40 : decode cX5_fault 40 = .ok (.iload_n 2, 1) := by decide +kernel
theorem dX5_fault_41 : decode cX5_fault 41 = .ok (.sipush (-10004), 3) := by decide +kernel
theorem dX5_fault_44 : decode cX5_fault 44 = .ok (.if_icmp .eq 7, 3) := by decide +kernel
theorem dX5_fault_47 : decode cX5_fault 47 = .ok (.iload_n 1, 1) := by decide +kernel
theorem dX5_fault_48 : decode cX5_fault 48 = .ok (.ifCond .ne 7, 3) := by decide +kernel
theorem dX5_fault_51 : decode cX5_fault 51 = .ok (.iload_n 2, 1) := by decide +kernel
theorem dX5_fault_52 : decode cX5_fault 52 = .ok (.goto 40, 3) := by decide +kernel
theorem dX5_fault_55 : decode cX5_fault 55 = .ok (.iload_n 1, 1) := by decide +kernel
theorem dX5_fault_56 : decode cX5_fault 56 = .ok (.iconst 1, 1) := by decide +kernel
theorem dX5_fault_57 : decode cX5_fault 57 = .ok (.if_icmp .ne 18, 3) := by decide +kernel
theorem dX5_fault_60 : decode cX5_fault 60 = .ok (.aload_n 0, 1) := by decide +kernel
theorem dX5_fault_61 : decode cX5_fault 61 = .ok (.getfield 140, 3) := by decide +kernel
theorem dX5_fault_64 : decode cX5_fault 64 = .ok (.ifCond .ne 7, 3) := by decide +kernel
theorem dX5_fault_67 : decode cX5_fault 67 = .ok (.iconst 1, 1) := by decide +kernel
theorem dX5_fault_68 : decode cX5_fault 68 = .ok (.goto 24, 3) := by decide +kernel
theorem dX5_fault_71 : decode cX5_fault 71 = .ok (.iconst 2, 1) := by decide +kernel
theorem dX5_fault_72 : decode cX5_fault 72 = .ok (.goto 20, 3) := by decide +kernel
theorem dX5_fault_75 : decode cX5_fault 75 = .ok (.aload_n 0, 1) := by decide +kernel
theorem dX5_fault_76 : decode cX5_fault 76 = .ok (.getfield 140, 3) := by decide +kernel
theorem dX5_fault_79 : decode cX5_fault 79 = .ok (.ifCond .ne 9, 3) := by decide +kernel
theorem dX5_fault_82 : decode cX5_fault 82 = .ok (.sipush (-10004), 3) := by decide +kernel
theorem dX5_fault_85 : decode cX5_fault 85 = .ok (.goto 7, 3) := by decide +kernel
theorem dX5_fault_88 : decode cX5_fault 88 = .ok (.aload_n 0, 1) := by decide +kernel
theorem dX5_fault_89 : decode cX5_fault 89 = .ok (.getfield 140, 3) := by decide +kernel
theorem dX5_fault_92 : decode cX5_fault 92 = .ok (.ireturn, 1) := by decide +kernel
theorem dX5_play_0 : decode cX5_play 0 = .ok (.aload_n 0, 1) := by decide +kernel
theorem dX5_play_1 : decode cX5_play 1 = .ok (.getfield 7, 3) := by decide +kernel
theorem dX5_play_4 : decode cX5_play 4 = .ok (.aload_n 0, 1) := by decide +kernel
theorem dX5_play_5 : decode cX5_play 5 = .ok (.getfield 28, 3) := by decide +kernel
theorem dX5_play_8 : decode cX5_play 8 = .ok (.invokestatic 98, 3) := by decide +kernel
theorem dX5_play_11 : decode cX5_play 11 = .ok (.aload_n 0, 1) := by decide +kernel
theorem dX5_play_12 : decode cX5_play 12 = .ok (.invokevirtual 143, 3) := by decide +kernel
theorem dX5_play_15 : decode cX5_play 15 = .ok (.istore_n 1, 1) := by decide +kernel
theorem dX5_play_16 : decode cX5_play 16 = .ok (.aload_n 0, 1) := by decide +kernel
theorem dX5_play_17 : decode cX5_play 17 = .ok (.getfield 28, 3) := by decide +kernel
theorem dX5_play_20 : decode cX5_play 20 = .ok (.aload_n 0, 1) := by decide +kernel
theorem dX5_play_21 : decode cX5_play 21 = .ok (.getfield 7, 3) := by decide +kernel
theorem dX5_play_24 : decode cX5_play 24 = .ok (.invokestatic 98, 3) := by decide +kernel
theorem dX5_play_27 : decode cX5_play 27 = .ok (.iload_n 1, 1) := by decide +kernel
theorem dX5_play_28 : decode cX5_play 28 = .ok (.sipush (-10004), 3) := by decide +kernel
theorem dX5_play_31 : decode cX5_play 31 = .ok (.if_icmp .eq 7, 3) := by decide +kernel
theorem dX5_play_34 : decode cX5_play 34 = .ok (.sipush (-10002), 3) := by decide +kernel
theorem dX5_play_37 : decode cX5_play 37 = .ok (.ireturn, 1) := by decide +kernel
theorem dX5_play_38 : decode cX5_play 38 = .ok (.aload_n 0, 1) := by decide +kernel
theorem dX5_play_39 : decode cX5_play 39 = .ok (.invokevirtual 57, 3) := by decide +kernel
theorem dX5_play_42 : decode cX5_play 42 = .ok (.aload_n 0, 1) := by decide +kernel
theorem dX5_play_43 : decode cX5_play 43 = .ok (.invokevirtual 143, 3) := by decide +kernel
theorem dX5_play_46 : decode cX5_play 46 = .ok (.sipush (-10004), 3) := by decide +kernel
theorem dX5_play_49 : decode cX5_play 49 = .ok (.if_icmp .ne 10, 3) := by decide +kernel
theorem dX5_play_52 : decode cX5_play 52 = .ok (.aload_n 0, 1) := by decide +kernel
theorem dX5_play_53 : decode cX5_play 53 = .ok (.getfield 131, 3) := by decide +kernel
theorem dX5_play_56 : decode cX5_play 56 = .ok (.goto 6, 3) := by decide +kernel
theorem dX5_play_59 : decode cX5_play 59 = .ok (.sipush (-10004), 3) := by decide +kernel
theorem dX5_play_62 : decode cX5_play 62 = .ok (.ireturn, 1) := by decide +kernel
theorem dJ9_max_7cf53_0 : decode cJ9_max_7cf53 0 = .ok (.iload_n 0, 1) := by decide +kernel
theorem dJ9_max_7cf53_1 : decode cJ9_max_7cf53 1 = .ok (.iload_n 1, 1) := by decide +kernel
theorem dJ9_max_7cf53_2 : decode cJ9_max_7cf53 2 = .ok (.if_icmp .lt 7, 3) := by decide +kernel
theorem dJ9_max_7cf53_5 : decode cJ9_max_7cf53 5 = .ok (.iload_n 0, 1) := by decide +kernel
theorem dJ9_max_7cf53_6 : decode cJ9_max_7cf53 6 = .ok (.goto 4, 3) := by decide +kernel
theorem dJ9_max_7cf53_9 : decode cJ9_max_7cf53 9 = .ok (.iload_n 1, 1) := by decide +kernel
theorem dJ9_max_7cf53_10 : decode cJ9_max_7cf53 10 = .ok (.ireturn, 1) := by decide +kernel
theorem dJ9_min_7cf53_0 : decode cJ9_min_7cf53 0 = .ok (.iload_n 0, 1) := by decide +kernel
theorem dJ9_min_7cf53_1 : decode cJ9_min_7cf53 1 = .ok (.iload_n 1, 1) := by decide +kernel
theorem dJ9_min_7cf53_2 : decode cJ9_min_7cf53 2 = .ok (.if_icmp .gt 7, 3) := by decide +kernel
theorem dJ9_min_7cf53_5 : decode cJ9_min_7cf53 5 = .ok (.iload_n 0, 1) := by decide +kernel
theorem dJ9_min_7cf53_6 : decode cJ9_min_7cf53 6 = .ok (.goto 4, 3) := by decide +kernel
theorem dJ9_min_7cf53_9 : decode cJ9_min_7cf53 9 = .ok (.iload_n 1, 1) := by decide +kernel
theorem dJ9_min_7cf53_10 : decode cJ9_min_7cf53 10 = .ok (.ireturn, 1) := by decide +kernel
theorem dL_law_0 : decode cL_law 0 = .ok (.new 7, 3) := by decide +kernel
theorem dL_law_3 : decode cL_law 3 = .ok (.dup, 1) := by decide +kernel
theorem dL_law_4 : decode cL_law 4 = .ok (.invokespecial 9, 3) := by decide +kernel
theorem dL_law_7 : decode cL_law 7 = .ok (.astore_n 1, 1) := by decide +kernel
theorem dL_law_8 : decode cL_law 8 = .ok (.new 10, 3) := by decide +kernel
theorem dL_law_11 : decode cL_law 11 = .ok (.dup, 1) := by decide +kernel
theorem dL_law_12 : decode cL_law 12 = .ok (.invokespecial 12, 3) := by decide +kernel
theorem dL_law_15 : decode cL_law 15 = .ok (.astore_n 2, 1) := by decide +kernel
theorem dL_law_16 : decode cL_law 16 = .ok (.iconst 0, 1) := by decide +kernel
theorem dL_law_17 : decode cL_law 17 = .ok (.istore_n 3, 1) := by decide +kernel
theorem dL_law_18 : decode cL_law 18 = .ok (.iload_n 3, 1) := by decide +kernel
theorem dL_law_19 : decode cL_law 19 = .ok (.aload_n 0, 1) := by decide +kernel
theorem dL_law_20 : decode cL_law 20 = .ok (.arraylength, 1) := by decide +kernel
theorem dL_law_21 : decode cL_law 21 = .ok (.iconst 3, 1) := by decide +kernel
theorem dL_law_22 : decode cL_law 22 = .ok (.isub, 1) := by decide +kernel
theorem dL_law_23 : decode cL_law 23 = .ok (.if_icmp .gt 571, 3) := by decide +kernel
theorem dL_law_26 : decode cL_law 26 = .ok (.aload_n 0, 1) := by decide +kernel
theorem dL_law_27 : decode cL_law 27 = .ok (.iload_n 3, 1) := by decide +kernel
theorem dL_law_28 : decode cL_law 28 = .ok (.iaload, 1) := by decide +kernel
theorem dL_law_29 : decode cL_law 29 = .ok (.bipush 31, 2) := by decide +kernel
theorem dL_law_31 : decode cL_law 31 = .ok (.iand, 1) := by decide +kernel
theorem dL_law_32 : decode cL_law 32 = .ok (.tableswitch 556 0 19 #[96, 119, 152, 165, 198, 221, 254, 287, 310, 343, 376, 399, 422, 445, 458, 471, 484, 507, 520, 543], 96) := by decide +kernel
theorem dL_law_128 : decode cL_law 128 = .ok (.aload_n 1, 1) := by decide +kernel
theorem dL_law_129 : decode cL_law 129 = .ok (.aload_n 0, 1) := by decide +kernel
theorem dL_law_130 : decode cL_law 130 = .ok (.iload_n 3, 1) := by decide +kernel
theorem dL_law_131 : decode cL_law 131 = .ok (.iconst 1, 1) := by decide +kernel
theorem dL_law_132 : decode cL_law 132 = .ok (.iadd, 1) := by decide +kernel
theorem dL_law_133 : decode cL_law 133 = .ok (.iaload, 1) := by decide +kernel
theorem dL_law_134 : decode cL_law 134 = .ok (.invokevirtual 13, 3) := by decide +kernel
theorem dL_law_137 : decode cL_law 137 = .ok (.aload_n 2, 1) := by decide +kernel
theorem dL_law_138 : decode cL_law 138 = .ok (.aload_n 0, 1) := by decide +kernel
theorem dL_law_139 : decode cL_law 139 = .ok (.iload_n 3, 1) := by decide +kernel
theorem dL_law_140 : decode cL_law 140 = .ok (.iconst 1, 1) := by decide +kernel
theorem dL_law_141 : decode cL_law 141 = .ok (.iadd, 1) := by decide +kernel
theorem dL_law_142 : decode cL_law 142 = .ok (.iaload, 1) := by decide +kernel
theorem dL_law_143 : decode cL_law 143 = .ok (.invokevirtual 17, 3) := by decide +kernel
theorem dL_law_146 : decode cL_law 146 = .ok (.if_icmp .eq 442, 3) := by decide +kernel
theorem dL_law_149 : decode cL_law 149 = .ok (.iconst 0, 1) := by decide +kernel
theorem dL_law_150 : decode cL_law 150 = .ok (.ireturn, 1) := by decide +kernel
theorem dL_law_151 : decode cL_law 151 = .ok (.aload_n 1, 1) := by decide +kernel
theorem dL_law_152 : decode cL_law 152 = .ok (.aload_n 0, 1) := by decide +kernel
theorem dL_law_153 : decode cL_law 153 = .ok (.iload_n 3, 1) := by decide +kernel
theorem dL_law_154 : decode cL_law 154 = .ok (.iconst 1, 1) := by decide +kernel
theorem dL_law_155 : decode cL_law 155 = .ok (.iadd, 1) := by decide +kernel
theorem dL_law_156 : decode cL_law 156 = .ok (.iaload, 1) := by decide +kernel
theorem dL_law_157 : decode cL_law 157 = .ok (.aload_n 0, 1) := by decide +kernel
theorem dL_law_158 : decode cL_law 158 = .ok (.iload_n 3, 1) := by decide +kernel
theorem dL_law_159 : decode cL_law 159 = .ok (.iconst 2, 1) := by decide +kernel
theorem dL_law_160 : decode cL_law 160 = .ok (.iadd, 1) := by decide +kernel
theorem dL_law_161 : decode cL_law 161 = .ok (.iaload, 1) := by decide +kernel
theorem dL_law_162 : decode cL_law 162 = .ok (.invokevirtual 18, 3) := by decide +kernel
theorem dL_law_165 : decode cL_law 165 = .ok (.aload_n 2, 1) := by decide +kernel
theorem dL_law_166 : decode cL_law 166 = .ok (.aload_n 0, 1) := by decide +kernel
theorem dL_law_167 : decode cL_law 167 = .ok (.iload_n 3, 1) := by decide +kernel
theorem dL_law_168 : decode cL_law 168 = .ok (.iconst 1, 1) := by decide +kernel
theorem dL_law_169 : decode cL_law 169 = .ok (.iadd, 1) := by decide +kernel
theorem dL_law_170 : decode cL_law 170 = .ok (.iaload, 1) := by decide +kernel
theorem dL_law_171 : decode cL_law 171 = .ok (.aload_n 0, 1) := by decide +kernel
theorem dL_law_172 : decode cL_law 172 = .ok (.iload_n 3, 1) := by decide +kernel
theorem dL_law_173 : decode cL_law 173 = .ok (.iconst 2, 1) := by decide +kernel
theorem dL_law_174 : decode cL_law 174 = .ok (.iadd, 1) := by decide +kernel
theorem dL_law_175 : decode cL_law 175 = .ok (.iaload, 1) := by decide +kernel
theorem dL_law_176 : decode cL_law 176 = .ok (.invokevirtual 22, 3) := by decide +kernel
theorem dL_law_179 : decode cL_law 179 = .ok (.if_icmp .eq 409, 3) := by decide +kernel
theorem dL_law_182 : decode cL_law 182 = .ok (.iconst 0, 1) := by decide +kernel
theorem dL_law_183 : decode cL_law 183 = .ok (.ireturn, 1) := by decide +kernel
theorem dL_law_184 : decode cL_law 184 = .ok (.aload_n 1, 1) := by decide +kernel
theorem dL_law_185 : decode cL_law 185 = .ok (.invokevirtual 23, 3) := by decide +kernel
theorem dL_law_188 : decode cL_law 188 = .ok (.aload_n 2, 1) := by decide +kernel
theorem dL_law_189 : decode cL_law 189 = .ok (.invokevirtual 27, 3) := by decide +kernel
theorem dL_law_192 : decode cL_law 192 = .ok (.if_icmp .eq 396, 3) := by decide +kernel
theorem dL_law_195 : decode cL_law 195 = .ok (.iconst 0, 1) := by decide +kernel
theorem dL_law_196 : decode cL_law 196 = .ok (.ireturn, 1) := by decide +kernel
theorem dL_law_197 : decode cL_law 197 = .ok (.aload_n 1, 1) := by decide +kernel
theorem dL_law_198 : decode cL_law 198 = .ok (.aload_n 0, 1) := by decide +kernel
theorem dL_law_199 : decode cL_law 199 = .ok (.iload_n 3, 1) := by decide +kernel
theorem dL_law_200 : decode cL_law 200 = .ok (.iconst 1, 1) := by decide +kernel
theorem dL_law_201 : decode cL_law 201 = .ok (.iadd, 1) := by decide +kernel
theorem dL_law_202 : decode cL_law 202 = .ok (.iaload, 1) := by decide +kernel
theorem dL_law_203 : decode cL_law 203 = .ok (.aload_n 0, 1) := by decide +kernel
theorem dL_law_204 : decode cL_law 204 = .ok (.iload_n 3, 1) := by decide +kernel
theorem dL_law_205 : decode cL_law 205 = .ok (.iconst 2, 1) := by decide +kernel
theorem dL_law_206 : decode cL_law 206 = .ok (.iadd, 1) := by decide +kernel
theorem dL_law_207 : decode cL_law 207 = .ok (.iaload, 1) := by decide +kernel
theorem dL_law_208 : decode cL_law 208 = .ok (.invokevirtual 28, 3) := by decide +kernel
theorem dL_law_211 : decode cL_law 211 = .ok (.aload_n 2, 1) := by decide +kernel
theorem dL_law_212 : decode cL_law 212 = .ok (.aload_n 0, 1) := by decide +kernel
theorem dL_law_213 : decode cL_law 213 = .ok (.iload_n 3, 1) := by decide +kernel
theorem dL_law_214 : decode cL_law 214 = .ok (.iconst 1, 1) := by decide +kernel
theorem dL_law_215 : decode cL_law 215 = .ok (.iadd, 1) := by decide +kernel
theorem dL_law_216 : decode cL_law 216 = .ok (.iaload, 1) := by decide +kernel
theorem dL_law_217 : decode cL_law 217 = .ok (.aload_n 0, 1) := by decide +kernel
theorem dL_law_218 : decode cL_law 218 = .ok (.iload_n 3, 1) := by decide +kernel
theorem dL_law_219 : decode cL_law 219 = .ok (.iconst 2, 1) := by decide +kernel
theorem dL_law_220 : decode cL_law 220 = .ok (.iadd, 1) := by decide +kernel
theorem dL_law_221 : decode cL_law 221 = .ok (.iaload, 1) := by decide +kernel
theorem dL_law_222 : decode cL_law 222 = .ok (.invokevirtual 31, 3) := by decide +kernel
theorem dL_law_225 : decode cL_law 225 = .ok (.if_icmp .eq 363, 3) := by decide +kernel
theorem dL_law_228 : decode cL_law 228 = .ok (.iconst 0, 1) := by decide +kernel
theorem dL_law_229 : decode cL_law 229 = .ok (.ireturn, 1) := by decide +kernel
theorem dL_law_230 : decode cL_law 230 = .ok (.aload_n 1, 1) := by decide +kernel
theorem dL_law_231 : decode cL_law 231 = .ok (.aload_n 0, 1) := by decide +kernel
theorem dL_law_232 : decode cL_law 232 = .ok (.iload_n 3, 1) := by decide +kernel
theorem dL_law_233 : decode cL_law 233 = .ok (.iconst 1, 1) := by decide +kernel
theorem dL_law_234 : decode cL_law 234 = .ok (.iadd, 1) := by decide +kernel
theorem dL_law_235 : decode cL_law 235 = .ok (.iaload, 1) := by decide +kernel
theorem dL_law_236 : decode cL_law 236 = .ok (.invokevirtual 32, 3) := by decide +kernel
theorem dL_law_239 : decode cL_law 239 = .ok (.aload_n 2, 1) := by decide +kernel
theorem dL_law_240 : decode cL_law 240 = .ok (.aload_n 0, 1) := by decide +kernel
theorem dL_law_241 : decode cL_law 241 = .ok (.iload_n 3, 1) := by decide +kernel
theorem dL_law_242 : decode cL_law 242 = .ok (.iconst 1, 1) := by decide +kernel
theorem dL_law_243 : decode cL_law 243 = .ok (.iadd, 1) := by decide +kernel
theorem dL_law_244 : decode cL_law 244 = .ok (.iaload, 1) := by decide +kernel
theorem dL_law_245 : decode cL_law 245 = .ok (.invokevirtual 35, 3) := by decide +kernel
theorem dL_law_248 : decode cL_law 248 = .ok (.if_icmp .eq 340, 3) := by decide +kernel
theorem dL_law_251 : decode cL_law 251 = .ok (.iconst 0, 1) := by decide +kernel
theorem dL_law_252 : decode cL_law 252 = .ok (.ireturn, 1) := by decide +kernel
theorem dL_law_253 : decode cL_law 253 = .ok (.aload_n 1, 1) := by decide +kernel
theorem dL_law_254 : decode cL_law 254 = .ok (.aload_n 0, 1) := by decide +kernel
theorem dL_law_255 : decode cL_law 255 = .ok (.iload_n 3, 1) := by decide +kernel
theorem dL_law_256 : decode cL_law 256 = .ok (.iconst 1, 1) := by decide +kernel
theorem dL_law_257 : decode cL_law 257 = .ok (.iadd, 1) := by decide +kernel
theorem dL_law_258 : decode cL_law 258 = .ok (.iaload, 1) := by decide +kernel
theorem dL_law_259 : decode cL_law 259 = .ok (.aload_n 0, 1) := by decide +kernel
theorem dL_law_260 : decode cL_law 260 = .ok (.iload_n 3, 1) := by decide +kernel
theorem dL_law_261 : decode cL_law 261 = .ok (.iconst 2, 1) := by decide +kernel
theorem dL_law_262 : decode cL_law 262 = .ok (.iadd, 1) := by decide +kernel
theorem dL_law_263 : decode cL_law 263 = .ok (.iaload, 1) := by decide +kernel
theorem dL_law_264 : decode cL_law 264 = .ok (.invokevirtual 36, 3) := by decide +kernel
theorem dL_law_267 : decode cL_law 267 = .ok (.aload_n 2, 1) := by decide +kernel
theorem dL_law_268 : decode cL_law 268 = .ok (.aload_n 0, 1) := by decide +kernel
theorem dL_law_269 : decode cL_law 269 = .ok (.iload_n 3, 1) := by decide +kernel
theorem dL_law_270 : decode cL_law 270 = .ok (.iconst 1, 1) := by decide +kernel
theorem dL_law_271 : decode cL_law 271 = .ok (.iadd, 1) := by decide +kernel
theorem dL_law_272 : decode cL_law 272 = .ok (.iaload, 1) := by decide +kernel
theorem dL_law_273 : decode cL_law 273 = .ok (.aload_n 0, 1) := by decide +kernel
theorem dL_law_274 : decode cL_law 274 = .ok (.iload_n 3, 1) := by decide +kernel
theorem dL_law_275 : decode cL_law 275 = .ok (.iconst 2, 1) := by decide +kernel
theorem dL_law_276 : decode cL_law 276 = .ok (.iadd, 1) := by decide +kernel
theorem dL_law_277 : decode cL_law 277 = .ok (.iaload, 1) := by decide +kernel
theorem dL_law_278 : decode cL_law 278 = .ok (.invokevirtual 39, 3) := by decide +kernel
theorem dL_law_281 : decode cL_law 281 = .ok (.if_icmp .eq 307, 3) := by decide +kernel
theorem dL_law_284 : decode cL_law 284 = .ok (.iconst 0, 1) := by decide +kernel
theorem dL_law_285 : decode cL_law 285 = .ok (.ireturn, 1) := by decide +kernel
theorem dL_law_286 : decode cL_law 286 = .ok (.aload_n 1, 1) := by decide +kernel
theorem dL_law_287 : decode cL_law 287 = .ok (.aload_n 0, 1) := by decide +kernel
theorem dL_law_288 : decode cL_law 288 = .ok (.iload_n 3, 1) := by decide +kernel
theorem dL_law_289 : decode cL_law 289 = .ok (.iconst 1, 1) := by decide +kernel
theorem dL_law_290 : decode cL_law 290 = .ok (.iadd, 1) := by decide +kernel
theorem dL_law_291 : decode cL_law 291 = .ok (.iaload, 1) := by decide +kernel
theorem dL_law_292 : decode cL_law 292 = .ok (.aload_n 0, 1) := by decide +kernel
theorem dL_law_293 : decode cL_law 293 = .ok (.iload_n 3, 1) := by decide +kernel
theorem dL_law_294 : decode cL_law 294 = .ok (.iconst 2, 1) := by decide +kernel
theorem dL_law_295 : decode cL_law 295 = .ok (.iadd, 1) := by decide +kernel
theorem dL_law_296 : decode cL_law 296 = .ok (.iaload, 1) := by decide +kernel
theorem dL_law_297 : decode cL_law 297 = .ok (.invokevirtual 40, 3) := by decide +kernel
theorem dL_law_300 : decode cL_law 300 = .ok (.aload_n 2, 1) := by decide +kernel
theorem dL_law_301 : decode cL_law 301 = .ok (.aload_n 0, 1) := by decide +kernel
theorem dL_law_302 : decode cL_law 302 = .ok (.iload_n 3, 1) := by decide +kernel
theorem dL_law_303 : decode cL_law 303 = .ok (.iconst 1, 1) := by decide +kernel
theorem dL_law_304 : decode cL_law 304 = .ok (.iadd, 1) := by decide +kernel
theorem dL_law_305 : decode cL_law 305 = .ok (.iaload, 1) := by decide +kernel
theorem dL_law_306 : decode cL_law 306 = .ok (.aload_n 0, 1) := by decide +kernel
theorem dL_law_307 : decode cL_law 307 = .ok (.iload_n 3, 1) := by decide +kernel
theorem dL_law_308 : decode cL_law 308 = .ok (.iconst 2, 1) := by decide +kernel
theorem dL_law_309 : decode cL_law 309 = .ok (.iadd, 1) := by decide +kernel
theorem dL_law_310 : decode cL_law 310 = .ok (.iaload, 1) := by decide +kernel
theorem dL_law_311 : decode cL_law 311 = .ok (.invokevirtual 43, 3) := by decide +kernel
theorem dL_law_314 : decode cL_law 314 = .ok (.if_icmp .eq 274, 3) := by decide +kernel
theorem dL_law_317 : decode cL_law 317 = .ok (.iconst 0, 1) := by decide +kernel
theorem dL_law_318 : decode cL_law 318 = .ok (.ireturn, 1) := by decide +kernel
theorem dL_law_319 : decode cL_law 319 = .ok (.aload_n 1, 1) := by decide +kernel
theorem dL_law_320 : decode cL_law 320 = .ok (.aload_n 0, 1) := by decide +kernel
theorem dL_law_321 : decode cL_law 321 = .ok (.iload_n 3, 1) := by decide +kernel
theorem dL_law_322 : decode cL_law 322 = .ok (.iconst 1, 1) := by decide +kernel
theorem dL_law_323 : decode cL_law 323 = .ok (.iadd, 1) := by decide +kernel
theorem dL_law_324 : decode cL_law 324 = .ok (.iaload, 1) := by decide +kernel
theorem dL_law_325 : decode cL_law 325 = .ok (.invokevirtual 44, 3) := by decide +kernel
theorem dL_law_328 : decode cL_law 328 = .ok (.aload_n 2, 1) := by decide +kernel
theorem dL_law_329 : decode cL_law 329 = .ok (.aload_n 0, 1) := by decide +kernel
theorem dL_law_330 : decode cL_law 330 = .ok (.iload_n 3, 1) := by decide +kernel
theorem dL_law_331 : decode cL_law 331 = .ok (.iconst 1, 1) := by decide +kernel
theorem dL_law_332 : decode cL_law 332 = .ok (.iadd, 1) := by decide +kernel
theorem dL_law_333 : decode cL_law 333 = .ok (.iaload, 1) := by decide +kernel
theorem dL_law_334 : decode cL_law 334 = .ok (.invokevirtual 47, 3) := by decide +kernel
theorem dL_law_337 : decode cL_law 337 = .ok (.if_icmp .eq 251, 3) := by decide +kernel
theorem dL_law_340 : decode cL_law 340 = .ok (.iconst 0, 1) := by decide +kernel
theorem dL_law_341 : decode cL_law 341 = .ok (.ireturn, 1) := by decide +kernel
theorem dL_law_342 : decode cL_law 342 = .ok (.aload_n 1, 1) := by decide +kernel
theorem dL_law_343 : decode cL_law 343 = .ok (.aload_n 0, 1) := by decide +kernel
theorem dL_law_344 : decode cL_law 344 = .ok (.iload_n 3, 1) := by decide +kernel
theorem dL_law_345 : decode cL_law 345 = .ok (.iconst 1, 1) := by decide +kernel
theorem dL_law_346 : decode cL_law 346 = .ok (.iadd, 1) := by decide +kernel
theorem dL_law_347 : decode cL_law 347 = .ok (.iaload, 1) := by decide +kernel
theorem dL_law_348 : decode cL_law 348 = .ok (.aload_n 0, 1) := by decide +kernel
theorem dL_law_349 : decode cL_law 349 = .ok (.iload_n 3, 1) := by decide +kernel
theorem dL_law_350 : decode cL_law 350 = .ok (.iconst 2, 1) := by decide +kernel
theorem dL_law_351 : decode cL_law 351 = .ok (.iadd, 1) := by decide +kernel
theorem dL_law_352 : decode cL_law 352 = .ok (.iaload, 1) := by decide +kernel
theorem dL_law_353 : decode cL_law 353 = .ok (.invokevirtual 48, 3) := by decide +kernel
theorem dL_law_356 : decode cL_law 356 = .ok (.aload_n 2, 1) := by decide +kernel
theorem dL_law_357 : decode cL_law 357 = .ok (.aload_n 0, 1) := by decide +kernel
theorem dL_law_358 : decode cL_law 358 = .ok (.iload_n 3, 1) := by decide +kernel
theorem dL_law_359 : decode cL_law 359 = .ok (.iconst 1, 1) := by decide +kernel
theorem dL_law_360 : decode cL_law 360 = .ok (.iadd, 1) := by decide +kernel
theorem dL_law_361 : decode cL_law 361 = .ok (.iaload, 1) := by decide +kernel
theorem dL_law_362 : decode cL_law 362 = .ok (.aload_n 0, 1) := by decide +kernel
theorem dL_law_363 : decode cL_law 363 = .ok (.iload_n 3, 1) := by decide +kernel
theorem dL_law_364 : decode cL_law 364 = .ok (.iconst 2, 1) := by decide +kernel
theorem dL_law_365 : decode cL_law 365 = .ok (.iadd, 1) := by decide +kernel
theorem dL_law_366 : decode cL_law 366 = .ok (.iaload, 1) := by decide +kernel
theorem dL_law_367 : decode cL_law 367 = .ok (.invokevirtual 51, 3) := by decide +kernel
theorem dL_law_370 : decode cL_law 370 = .ok (.if_icmp .eq 218, 3) := by decide +kernel
theorem dL_law_373 : decode cL_law 373 = .ok (.iconst 0, 1) := by decide +kernel
theorem dL_law_374 : decode cL_law 374 = .ok (.ireturn, 1) := by decide +kernel
theorem dL_law_375 : decode cL_law 375 = .ok (.aload_n 1, 1) := by decide +kernel
theorem dL_law_376 : decode cL_law 376 = .ok (.aload_n 0, 1) := by decide +kernel
theorem dL_law_377 : decode cL_law 377 = .ok (.iload_n 3, 1) := by decide +kernel
theorem dL_law_378 : decode cL_law 378 = .ok (.iconst 1, 1) := by decide +kernel
theorem dL_law_379 : decode cL_law 379 = .ok (.iadd, 1) := by decide +kernel
theorem dL_law_380 : decode cL_law 380 = .ok (.iaload, 1) := by decide +kernel
theorem dL_law_381 : decode cL_law 381 = .ok (.aload_n 0, 1) := by decide +kernel
theorem dL_law_382 : decode cL_law 382 = .ok (.iload_n 3, 1) := by decide +kernel
theorem dL_law_383 : decode cL_law 383 = .ok (.iconst 2, 1) := by decide +kernel
theorem dL_law_384 : decode cL_law 384 = .ok (.iadd, 1) := by decide +kernel
theorem dL_law_385 : decode cL_law 385 = .ok (.iaload, 1) := by decide +kernel
theorem dL_law_386 : decode cL_law 386 = .ok (.invokevirtual 52, 3) := by decide +kernel
theorem dL_law_389 : decode cL_law 389 = .ok (.aload_n 2, 1) := by decide +kernel
theorem dL_law_390 : decode cL_law 390 = .ok (.aload_n 0, 1) := by decide +kernel
theorem dL_law_391 : decode cL_law 391 = .ok (.iload_n 3, 1) := by decide +kernel
theorem dL_law_392 : decode cL_law 392 = .ok (.iconst 1, 1) := by decide +kernel
theorem dL_law_393 : decode cL_law 393 = .ok (.iadd, 1) := by decide +kernel
theorem dL_law_394 : decode cL_law 394 = .ok (.iaload, 1) := by decide +kernel
theorem dL_law_395 : decode cL_law 395 = .ok (.aload_n 0, 1) := by decide +kernel
theorem dL_law_396 : decode cL_law 396 = .ok (.iload_n 3, 1) := by decide +kernel
theorem dL_law_397 : decode cL_law 397 = .ok (.iconst 2, 1) := by decide +kernel
theorem dL_law_398 : decode cL_law 398 = .ok (.iadd, 1) := by decide +kernel
theorem dL_law_399 : decode cL_law 399 = .ok (.iaload, 1) := by decide +kernel
theorem dL_law_400 : decode cL_law 400 = .ok (.invokevirtual 55, 3) := by decide +kernel
theorem dL_law_403 : decode cL_law 403 = .ok (.if_icmp .eq 185, 3) := by decide +kernel
theorem dL_law_406 : decode cL_law 406 = .ok (.iconst 0, 1) := by decide +kernel
theorem dL_law_407 : decode cL_law 407 = .ok (.ireturn, 1) := by decide +kernel
theorem dL_law_408 : decode cL_law 408 = .ok (.aload_n 1, 1) := by decide +kernel
theorem dL_law_409 : decode cL_law 409 = .ok (.aload_n 0, 1) := by decide +kernel
theorem dL_law_410 : decode cL_law 410 = .ok (.iload_n 3, 1) := by decide +kernel
theorem dL_law_411 : decode cL_law 411 = .ok (.iconst 1, 1) := by decide +kernel
theorem dL_law_412 : decode cL_law 412 = .ok (.iadd, 1) := by decide +kernel
theorem dL_law_413 : decode cL_law 413 = .ok (.iaload, 1) := by decide +kernel
theorem dL_law_414 : decode cL_law 414 = .ok (.invokevirtual 56, 3) := by decide +kernel
theorem dL_law_417 : decode cL_law 417 = .ok (.aload_n 2, 1) := by decide +kernel
theorem dL_law_418 : decode cL_law 418 = .ok (.aload_n 0, 1) := by decide +kernel
theorem dL_law_419 : decode cL_law 419 = .ok (.iload_n 3, 1) := by decide +kernel
theorem dL_law_420 : decode cL_law 420 = .ok (.iconst 1, 1) := by decide +kernel
theorem dL_law_421 : decode cL_law 421 = .ok (.iadd, 1) := by decide +kernel
theorem dL_law_422 : decode cL_law 422 = .ok (.iaload, 1) := by decide +kernel
theorem dL_law_423 : decode cL_law 423 = .ok (.invokevirtual 59, 3) := by decide +kernel
theorem dL_law_426 : decode cL_law 426 = .ok (.if_icmp .eq 162, 3) := by decide +kernel
theorem dL_law_429 : decode cL_law 429 = .ok (.iconst 0, 1) := by decide +kernel
theorem dL_law_430 : decode cL_law 430 = .ok (.ireturn, 1) := by decide +kernel
theorem dL_law_431 : decode cL_law 431 = .ok (.aload_n 1, 1) := by decide +kernel
theorem dL_law_432 : decode cL_law 432 = .ok (.aload_n 0, 1) := by decide +kernel
theorem dL_law_433 : decode cL_law 433 = .ok (.iload_n 3, 1) := by decide +kernel
theorem dL_law_434 : decode cL_law 434 = .ok (.iconst 1, 1) := by decide +kernel
theorem dL_law_435 : decode cL_law 435 = .ok (.iadd, 1) := by decide +kernel
theorem dL_law_436 : decode cL_law 436 = .ok (.iaload, 1) := by decide +kernel
theorem dL_law_437 : decode cL_law 437 = .ok (.invokevirtual 60, 3) := by decide +kernel
theorem dL_law_440 : decode cL_law 440 = .ok (.aload_n 2, 1) := by decide +kernel
theorem dL_law_441 : decode cL_law 441 = .ok (.aload_n 0, 1) := by decide +kernel
theorem dL_law_442 : decode cL_law 442 = .ok (.iload_n 3, 1) := by decide +kernel
theorem dL_law_443 : decode cL_law 443 = .ok (.iconst 1, 1) := by decide +kernel
theorem dL_law_444 : decode cL_law 444 = .ok (.iadd, 1) := by decide +kernel
theorem dL_law_445 : decode cL_law 445 = .ok (.iaload, 1) := by decide +kernel
theorem dL_law_446 : decode cL_law 446 = .ok (.invokevirtual 63, 3) := by decide +kernel
theorem dL_law_449 : decode cL_law 449 = .ok (.if_icmp .eq 139, 3) := by decide +kernel
theorem dL_law_452 : decode cL_law 452 = .ok (.iconst 0, 1) := by decide +kernel
theorem dL_law_453 : decode cL_law 453 = .ok (.ireturn, 1) := by decide +kernel
theorem dL_law_454 : decode cL_law 454 = .ok (.aload_n 1, 1) := by decide +kernel
theorem dL_law_455 : decode cL_law 455 = .ok (.aload_n 0, 1) := by decide +kernel
theorem dL_law_456 : decode cL_law 456 = .ok (.iload_n 3, 1) := by decide +kernel
theorem dL_law_457 : decode cL_law 457 = .ok (.iconst 1, 1) := by decide +kernel
theorem dL_law_458 : decode cL_law 458 = .ok (.iadd, 1) := by decide +kernel
theorem dL_law_459 : decode cL_law 459 = .ok (.iaload, 1) := by decide +kernel
theorem dL_law_460 : decode cL_law 460 = .ok (.invokevirtual 64, 3) := by decide +kernel
theorem dL_law_463 : decode cL_law 463 = .ok (.aload_n 2, 1) := by decide +kernel
theorem dL_law_464 : decode cL_law 464 = .ok (.aload_n 0, 1) := by decide +kernel
theorem dL_law_465 : decode cL_law 465 = .ok (.iload_n 3, 1) := by decide +kernel
theorem dL_law_466 : decode cL_law 466 = .ok (.iconst 1, 1) := by decide +kernel
theorem dL_law_467 : decode cL_law 467 = .ok (.iadd, 1) := by decide +kernel
theorem dL_law_468 : decode cL_law 468 = .ok (.iaload, 1) := by decide +kernel
theorem dL_law_469 : decode cL_law 469 = .ok (.invokevirtual 67, 3) := by decide +kernel
theorem dL_law_472 : decode cL_law 472 = .ok (.if_icmp .eq 116, 3) := by decide +kernel
theorem dL_law_475 : decode cL_law 475 = .ok (.iconst 0, 1) := by decide +kernel
theorem dL_law_476 : decode cL_law 476 = .ok (.ireturn, 1) := by decide +kernel
theorem dL_law_477 : decode cL_law 477 = .ok (.aload_n 1, 1) := by decide +kernel
theorem dL_law_478 : decode cL_law 478 = .ok (.invokevirtual 68, 3) := by decide +kernel
theorem dL_law_481 : decode cL_law 481 = .ok (.aload_n 2, 1) := by decide +kernel
theorem dL_law_482 : decode cL_law 482 = .ok (.invokevirtual 71, 3) := by decide +kernel
theorem dL_law_485 : decode cL_law 485 = .ok (.if_icmp .eq 103, 3) := by decide +kernel
theorem dL_law_488 : decode cL_law 488 = .ok (.iconst 0, 1) := by decide +kernel
theorem dL_law_489 : decode cL_law 489 = .ok (.ireturn, 1) := by decide +kernel
theorem dL_law_490 : decode cL_law 490 = .ok (.aload_n 1, 1) := by decide +kernel
theorem dL_law_491 : decode cL_law 491 = .ok (.invokevirtual 72, 3) := by decide +kernel
theorem dL_law_494 : decode cL_law 494 = .ok (.aload_n 2, 1) := by decide +kernel
theorem dL_law_495 : decode cL_law 495 = .ok (.invokevirtual 75, 3) := by decide +kernel
theorem dL_law_498 : decode cL_law 498 = .ok (.if_icmp .eq 90, 3) := by decide +kernel
theorem dL_law_501 : decode cL_law 501 = .ok (.iconst 0, 1) := by decide +kernel
theorem dL_law_502 : decode cL_law 502 = .ok (.ireturn, 1) := by decide +kernel
theorem dL_law_503 : decode cL_law 503 = .ok (.aload_n 1, 1) := by decide +kernel
theorem dL_law_504 : decode cL_law 504 = .ok (.invokevirtual 76, 3) := by decide +kernel
theorem dL_law_507 : decode cL_law 507 = .ok (.aload_n 2, 1) := by decide +kernel
theorem dL_law_508 : decode cL_law 508 = .ok (.invokevirtual 79, 3) := by decide +kernel
theorem dL_law_511 : decode cL_law 511 = .ok (.if_icmp .eq 77, 3) := by decide +kernel
theorem dL_law_514 : decode cL_law 514 = .ok (.iconst 0, 1) := by decide +kernel
theorem dL_law_515 : decode cL_law 515 = .ok (.ireturn, 1) := by decide +kernel
theorem dL_law_516 : decode cL_law 516 = .ok (.aload_n 1, 1) := by decide +kernel
theorem dL_law_517 : decode cL_law 517 = .ok (.aload_n 0, 1) := by decide +kernel
theorem dL_law_518 : decode cL_law 518 = .ok (.iload_n 3, 1) := by decide +kernel
theorem dL_law_519 : decode cL_law 519 = .ok (.iconst 1, 1) := by decide +kernel
theorem dL_law_520 : decode cL_law 520 = .ok (.iadd, 1) := by decide +kernel
theorem dL_law_521 : decode cL_law 521 = .ok (.iaload, 1) := by decide +kernel
theorem dL_law_522 : decode cL_law 522 = .ok (.invokevirtual 80, 3) := by decide +kernel
theorem dL_law_525 : decode cL_law 525 = .ok (.aload_n 2, 1) := by decide +kernel
theorem dL_law_526 : decode cL_law 526 = .ok (.aload_n 0, 1) := by decide +kernel
theorem dL_law_527 : decode cL_law 527 = .ok (.iload_n 3, 1) := by decide +kernel
theorem dL_law_528 : decode cL_law 528 = .ok (.iconst 1, 1) := by decide +kernel
theorem dL_law_529 : decode cL_law 529 = .ok (.iadd, 1) := by decide +kernel
theorem dL_law_530 : decode cL_law 530 = .ok (.iaload, 1) := by decide +kernel
theorem dL_law_531 : decode cL_law 531 = .ok (.invokevirtual 83, 3) := by decide +kernel
theorem dL_law_534 : decode cL_law 534 = .ok (.if_icmp .eq 54, 3) := by decide +kernel
theorem dL_law_537 : decode cL_law 537 = .ok (.iconst 0, 1) := by decide +kernel
theorem dL_law_538 : decode cL_law 538 = .ok (.ireturn, 1) := by decide +kernel
theorem dL_law_539 : decode cL_law 539 = .ok (.aload_n 1, 1) := by decide +kernel
theorem dL_law_540 : decode cL_law 540 = .ok (.invokevirtual 84, 3) := by decide +kernel
theorem dL_law_543 : decode cL_law 543 = .ok (.aload_n 2, 1) := by decide +kernel
theorem dL_law_544 : decode cL_law 544 = .ok (.invokevirtual 87, 3) := by decide +kernel
theorem dL_law_547 : decode cL_law 547 = .ok (.if_icmp .eq 41, 3) := by decide +kernel
theorem dL_law_550 : decode cL_law 550 = .ok (.iconst 0, 1) := by decide +kernel
theorem dL_law_551 : decode cL_law 551 = .ok (.ireturn, 1) := by decide +kernel
theorem dL_law_552 : decode cL_law 552 = .ok (.aload_n 1, 1) := by decide +kernel
theorem dL_law_553 : decode cL_law 553 = .ok (.aload_n 0, 1) := by decide +kernel
theorem dL_law_554 : decode cL_law 554 = .ok (.iload_n 3, 1) := by decide +kernel
theorem dL_law_555 : decode cL_law 555 = .ok (.iconst 1, 1) := by decide +kernel
theorem dL_law_556 : decode cL_law 556 = .ok (.iadd, 1) := by decide +kernel
theorem dL_law_557 : decode cL_law 557 = .ok (.iaload, 1) := by decide +kernel
theorem dL_law_558 : decode cL_law 558 = .ok (.invokevirtual 88, 3) := by decide +kernel
theorem dL_law_561 : decode cL_law 561 = .ok (.aload_n 2, 1) := by decide +kernel
theorem dL_law_562 : decode cL_law 562 = .ok (.aload_n 0, 1) := by decide +kernel
theorem dL_law_563 : decode cL_law 563 = .ok (.iload_n 3, 1) := by decide +kernel
theorem dL_law_564 : decode cL_law 564 = .ok (.iconst 1, 1) := by decide +kernel
theorem dL_law_565 : decode cL_law 565 = .ok (.iadd, 1) := by decide +kernel
theorem dL_law_566 : decode cL_law 566 = .ok (.iaload, 1) := by decide +kernel
theorem dL_law_567 : decode cL_law 567 = .ok (.invokevirtual 91, 3) := by decide +kernel
theorem dL_law_570 : decode cL_law 570 = .ok (.if_icmp .eq 18, 3) := by decide +kernel
theorem dL_law_573 : decode cL_law 573 = .ok (.iconst 0, 1) := by decide +kernel
theorem dL_law_574 : decode cL_law 574 = .ok (.ireturn, 1) := by decide +kernel
theorem dL_law_575 : decode cL_law 575 = .ok (.aload_n 1, 1) := by decide +kernel
theorem dL_law_576 : decode cL_law 576 = .ok (.invokevirtual 92, 3) := by decide +kernel
theorem dL_law_579 : decode cL_law 579 = .ok (.aload_n 2, 1) := by decide +kernel
theorem dL_law_580 : decode cL_law 580 = .ok (.invokevirtual 95, 3) := by decide +kernel
theorem dL_law_583 : decode cL_law 583 = .ok (.if_icmp .eq 5, 3) := by decide +kernel
theorem dL_law_586 : decode cL_law 586 = .ok (.iconst 0, 1) := by decide +kernel
theorem dL_law_587 : decode cL_law 587 = .ok (.ireturn, 1) := by decide +kernel
theorem dL_law_588 : decode cL_law 588 = .ok (.iinc 3 3, 3) := by decide +kernel
theorem dL_law_591 : decode cL_law 591 = .ok (.goto (-573), 3) := by decide +kernel
theorem dL_law_594 : decode cL_law 594 = .ok (.iconst 1, 1) := by decide +kernel
theorem dL_law_595 : decode cL_law 595 = .ok (.ireturn, 1) := by decide +kernel
end
section
/-! the words of the tables, in the names' terms -/
theorem q_ini_L : Cond.initialized RL ∈ TT := tt_mem (i := 24) (by decide +kernel) (by decide +kernel)
theorem q_ini_X4 : Cond.initialized RX4 ∈ TT := tt_mem (i := 25) (by decide +kernel) (by decide +kernel)
theorem q_ini_X0 : Cond.initialized RX0 ∈ TT := tt_mem (i := 26) (by decide +kernel) (by decide +kernel)
theorem q_ini_X1 : Cond.initialized RX1 ∈ TT := tt_mem (i := 27) (by decide +kernel) (by decide +kernel)
theorem q_ini_X3 : Cond.initialized RX3 ∈ TT := tt_mem (i := 28) (by decide +kernel) (by decide +kernel)
theorem q_ini_X2 : Cond.initialized RX2 ∈ TT := tt_mem (i := 29) (by decide +kernel) (by decide +kernel)
theorem q_ini_X5 : Cond.initialized RX5 ∈ TT := tt_mem (i := 30) (by decide +kernel) (by decide +kernel)
theorem q_ini_J9 : Cond.initialized RJ9 ∈ TT := tt_mem (i := 31) (by decide +kernel) (by decide +kernel)
theorem q_ini_J10 : Cond.initialized RJ10 ∈ TT := tt_mem (i := 32) (by decide +kernel) (by decide +kernel)
theorem q_cl_L_7 : Cond.classLink RL 7 RX4 ∈ TT := tt_mem (i := 33) (by decide +kernel) (by decide +kernel)
theorem q_new_X4 : Cond.instantiable RX4 5 ∈ TT := tt_mem (i := 34) (by decide +kernel) (by decide +kernel)
theorem q_ml_L_9 : Cond.methodLink RL 9 yX4_init ∈ TT := tt_mem (i := 35) (by decide +kernel) (by decide +kernel)
theorem q_ins_X4_init : Cond.instanceMethod yX4_init ∈ TT := tt_mem (i := 36) (by decide +kernel) (by decide +kernel)
theorem q_code_X4_init : Cond.code yX4_init cX4_init 1 none ∈ TT := tt_mem (i := 37) (by decide +kernel) (by decide +kernel)
theorem q_ml_X4_1 : Cond.methodLink RX4 1 objectInit ∈ TT := tt_mem (i := 38) (by decide +kernel) (by decide +kernel)
theorem q_ins_Object_init : Cond.instanceMethod objectInit ∈ TT := tt_mem (i := 39) (by decide +kernel) (by decide +kernel)
theorem q_code_Object_init : Cond.code objectInit ⟨#[0xb1]⟩ 1 none ∈ TT := tt_mem (i := 40) (by decide +kernel) (by decide +kernel)
theorem q_cl_X4_7 : Cond.classLink RX4 7 RX0 ∈ TT := tt_mem (i := 41) (by decide +kernel) (by decide +kernel)
theorem q_new_X0 : Cond.instantiable RX0 17 ∈ TT := tt_mem (i := 42) (by decide +kernel) (by decide +kernel)
theorem q_ins_X0_init : Cond.instanceMethod yX0_init ∈ TT := tt_mem (i := 44) (by decide +kernel) (by decide +kernel)
theorem q_code_X0_init : Cond.code yX0_init cX0_init 1 none ∈ TT := tt_mem (i := 45) (by decide +kernel) (by decide +kernel)
theorem q_ml_X0_3 : Cond.methodLink RX0 3 objectInit ∈ TT := tt_mem (i := 46) (by decide +kernel) (by decide +kernel)
theorem q_fl_X0_9 : Cond.fieldLink RX0 9 (TX0 0).1 (TX0 0).2.1 (TX0 0).2.2.1 ∈ TT := tt_mem (i := 47) (by decide +kernel) (by decide +kernel)
theorem q_fl_X0_15 : Cond.fieldLink RX0 15 (TX0 1).1 (TX0 1).2.1 (TX0 1).2.2.1 ∈ TT := tt_mem (i := 48) (by decide +kernel) (by decide +kernel)
theorem q_fl_X0_18 : Cond.fieldLink RX0 18 (TX0 2).1 (TX0 2).2.1 (TX0 2).2.2.1 ∈ TT := tt_mem (i := 49) (by decide +kernel) (by decide +kernel)
theorem q_fl_X4_95 : Cond.fieldLink RX4 95 (TX0 2).1 (TX0 2).2.1 (TX0 2).2.2.1 ∈ TT := tt_mem (i := 50) (by decide +kernel) (by decide +kernel)
theorem q_fl_X0_21 : Cond.fieldLink RX0 21 (TX0 3).1 (TX0 3).2.1 (TX0 3).2.2.1 ∈ TT := tt_mem (i := 51) (by decide +kernel) (by decide +kernel)
theorem q_fl_X0_24 : Cond.fieldLink RX0 24 (TX0 4).1 (TX0 4).2.1 (TX0 4).2.2.1 ∈ TT := tt_mem (i := 52) (by decide +kernel) (by decide +kernel)
theorem q_fl_X0_27 : Cond.fieldLink RX0 27 (TX0 5).1 (TX0 5).2.1 (TX0 5).2.2.1 ∈ TT := tt_mem (i := 53) (by decide +kernel) (by decide +kernel)
theorem q_fl_X0_30 : Cond.fieldLink RX0 30 (TX0 6).1 (TX0 6).2.1 (TX0 6).2.2.1 ∈ TT := tt_mem (i := 54) (by decide +kernel) (by decide +kernel)
theorem q_fl_X0_33 : Cond.fieldLink RX0 33 (TX0 7).1 (TX0 7).2.1 (TX0 7).2.2.1 ∈ TT := tt_mem (i := 55) (by decide +kernel) (by decide +kernel)
theorem q_fl_X0_36 : Cond.fieldLink RX0 36 (TX0 8).1 (TX0 8).2.1 (TX0 8).2.2.1 ∈ TT := tt_mem (i := 56) (by decide +kernel) (by decide +kernel)
theorem q_fl_X0_47 : Cond.fieldLink RX0 47 (TX0 9).1 (TX0 9).2.1 (TX0 9).2.2.1 ∈ TT := tt_mem (i := 57) (by decide +kernel) (by decide +kernel)
theorem q_fl_X0_50 : Cond.fieldLink RX0 50 (TX0 10).1 (TX0 10).2.1 (TX0 10).2.2.1 ∈ TT := tt_mem (i := 58) (by decide +kernel) (by decide +kernel)
theorem q_fl_X0_39 : Cond.fieldLink RX0 39 (TX0 11).1 (TX0 11).2.1 (TX0 11).2.2.1 ∈ TT := tt_mem (i := 59) (by decide +kernel) (by decide +kernel)
theorem q_fl_X0_53 : Cond.fieldLink RX0 53 (TX0 12).1 (TX0 12).2.1 (TX0 12).2.2.1 ∈ TT := tt_mem (i := 60) (by decide +kernel) (by decide +kernel)
theorem q_fl_X0_56 : Cond.fieldLink RX0 56 (TX0 13).1 (TX0 13).2.1 (TX0 13).2.2.1 ∈ TT := tt_mem (i := 61) (by decide +kernel) (by decide +kernel)
theorem q_fl_X4_108 : Cond.fieldLink RX4 108 (TX0 13).1 (TX0 13).2.1 (TX0 13).2.2.1 ∈ TT := tt_mem (i := 62) (by decide +kernel) (by decide +kernel)
theorem q_fl_X0_59 : Cond.fieldLink RX0 59 (TX0 14).1 (TX0 14).2.1 (TX0 14).2.2.1 ∈ TT := tt_mem (i := 63) (by decide +kernel) (by decide +kernel)
theorem q_fl_X0_62 : Cond.fieldLink RX0 62 (TX0 15).1 (TX0 15).2.1 (TX0 15).2.2.1 ∈ TT := tt_mem (i := 64) (by decide +kernel) (by decide +kernel)
theorem q_fl_X0_65 : Cond.fieldLink RX0 65 (TX0 16).1 (TX0 16).2.1 (TX0 16).2.2.1 ∈ TT := tt_mem (i := 65) (by decide +kernel) (by decide +kernel)
theorem q_ac_int : Cond.arrayClass .int ∈ TT := tt_mem (i := 101) (by decide +kernel) (by decide +kernel)
theorem q_cl_X4_19 : Cond.classLink RX4 19 RX1 ∈ TT := tt_mem (i := 102) (by decide +kernel) (by decide +kernel)
theorem q_new_X1 : Cond.instantiable RX1 3 ∈ TT := tt_mem (i := 103) (by decide +kernel) (by decide +kernel)
theorem q_ml_X4_21 : Cond.methodLink RX4 21 yX1_init ∈ TT := tt_mem (i := 104) (by decide +kernel) (by decide +kernel)
theorem q_ins_X1_init : Cond.instanceMethod yX1_init ∈ TT := tt_mem (i := 105) (by decide +kernel) (by decide +kernel)
theorem q_code_X1_init : Cond.code yX1_init cX1_init 2 none ∈ TT := tt_mem (i := 106) (by decide +kernel) (by decide +kernel)
theorem q_ml_X1_3 : Cond.methodLink RX1 3 objectInit ∈ TT := tt_mem (i := 107) (by decide +kernel) (by decide +kernel)
theorem q_cl_X1_9 : Cond.classLink RX1 9 RX0 ∈ TT := tt_mem (i := 108) (by decide +kernel) (by decide +kernel)
theorem q_fl_X1_11 : Cond.fieldLink RX1 11 (TX1 0).1 (TX1 0).2.1 (TX1 0).2.2.1 ∈ TT := tt_mem (i := 111) (by decide +kernel) (by decide +kernel)
theorem q_fl_X1_22 : Cond.fieldLink RX1 22 (TX1 1).1 (TX1 1).2.1 (TX1 1).2.2.1 ∈ TT := tt_mem (i := 112) (by decide +kernel) (by decide +kernel)
theorem q_fl_X1_18 : Cond.fieldLink RX1 18 (TX1 2).1 (TX1 2).2.1 (TX1 2).2.2.1 ∈ TT := tt_mem (i := 113) (by decide +kernel) (by decide +kernel)
theorem q_fl_X4_71 : Cond.fieldLink RX4 71 (TX1 2).1 (TX1 2).2.1 (TX1 2).2.2.1 ∈ TT := tt_mem (i := 114) (by decide +kernel) (by decide +kernel)
theorem q_cl_X4_26 : Cond.classLink RX4 26 RX3 ∈ TT := tt_mem (i := 122) (by decide +kernel) (by decide +kernel)
theorem q_new_X3 : Cond.instantiable RX3 6 ∈ TT := tt_mem (i := 123) (by decide +kernel) (by decide +kernel)
theorem q_ins_X3_init : Cond.instanceMethod yX3_init ∈ TT := tt_mem (i := 125) (by decide +kernel) (by decide +kernel)
theorem q_code_X3_init : Cond.code yX3_init cX3_init 1 none ∈ TT := tt_mem (i := 126) (by decide +kernel) (by decide +kernel)
theorem q_ml_X3_3 : Cond.methodLink RX3 3 objectInit ∈ TT := tt_mem (i := 127) (by decide +kernel) (by decide +kernel)
theorem q_fl_X3_9 : Cond.fieldLink RX3 9 (TX3 0).1 (TX3 0).2.1 (TX3 0).2.2.1 ∈ TT := tt_mem (i := 128) (by decide +kernel) (by decide +kernel)
theorem q_fl_X3_15 : Cond.fieldLink RX3 15 (TX3 1).1 (TX3 1).2.1 (TX3 1).2.2.1 ∈ TT := tt_mem (i := 129) (by decide +kernel) (by decide +kernel)
theorem q_fl_X4_75 : Cond.fieldLink RX4 75 (TX3 1).1 (TX3 1).2.1 (TX3 1).2.2.1 ∈ TT := tt_mem (i := 130) (by decide +kernel) (by decide +kernel)
theorem q_fl_X3_26 : Cond.fieldLink RX3 26 (TX3 2).1 (TX3 2).2.1 (TX3 2).2.2.1 ∈ TT := tt_mem (i := 131) (by decide +kernel) (by decide +kernel)
theorem q_fl_X4_141 : Cond.fieldLink RX4 141 (TX3 2).1 (TX3 2).2.1 (TX3 2).2.2.1 ∈ TT := tt_mem (i := 132) (by decide +kernel) (by decide +kernel)
theorem q_fl_X3_23 : Cond.fieldLink RX3 23 (TX3 3).1 (TX3 3).2.1 (TX3 3).2.2.1 ∈ TT := tt_mem (i := 133) (by decide +kernel) (by decide +kernel)
theorem q_fl_X4_154 : Cond.fieldLink RX4 154 (TX3 3).1 (TX3 3).2.1 (TX3 3).2.2.1 ∈ TT := tt_mem (i := 134) (by decide +kernel) (by decide +kernel)
theorem q_fl_X3_29 : Cond.fieldLink RX3 29 (TX3 4).1 (TX3 4).2.1 (TX3 4).2.2.1 ∈ TT := tt_mem (i := 135) (by decide +kernel) (by decide +kernel)
theorem q_fl_X4_157 : Cond.fieldLink RX4 157 (TX3 4).1 (TX3 4).2.1 (TX3 4).2.2.1 ∈ TT := tt_mem (i := 136) (by decide +kernel) (by decide +kernel)
theorem q_fl_X3_32 : Cond.fieldLink RX3 32 (TX3 5).1 (TX3 5).2.1 (TX3 5).2.2.1 ∈ TT := tt_mem (i := 137) (by decide +kernel) (by decide +kernel)
theorem q_fl_X4_160 : Cond.fieldLink RX4 160 (TX3 5).1 (TX3 5).2.1 (TX3 5).2.2.1 ∈ TT := tt_mem (i := 138) (by decide +kernel) (by decide +kernel)
theorem q_ac_char : Cond.arrayClass .char ∈ TT := tt_mem (i := 152) (by decide +kernel) (by decide +kernel)
theorem q_cl_X4_33 : Cond.classLink RX4 33 RX2 ∈ TT := tt_mem (i := 153) (by decide +kernel) (by decide +kernel)
theorem q_new_X2 : Cond.instantiable RX2 4 ∈ TT := tt_mem (i := 154) (by decide +kernel) (by decide +kernel)
theorem q_ins_X2_init : Cond.instanceMethod yX2_init ∈ TT := tt_mem (i := 156) (by decide +kernel) (by decide +kernel)
theorem q_code_X2_init : Cond.code yX2_init cX2_init 1 none ∈ TT := tt_mem (i := 157) (by decide +kernel) (by decide +kernel)
theorem q_ml_X2_3 : Cond.methodLink RX2 3 objectInit ∈ TT := tt_mem (i := 158) (by decide +kernel) (by decide +kernel)
theorem q_fl_X2_9 : Cond.fieldLink RX2 9 (TX2 0).1 (TX2 0).2.1 (TX2 0).2.2.1 ∈ TT := tt_mem (i := 159) (by decide +kernel) (by decide +kernel)
theorem q_fl_X4_126 : Cond.fieldLink RX4 126 (TX2 0).1 (TX2 0).2.1 (TX2 0).2.2.1 ∈ TT := tt_mem (i := 160) (by decide +kernel) (by decide +kernel)
theorem q_fl_X2_15 : Cond.fieldLink RX2 15 (TX2 1).1 (TX2 1).2.1 (TX2 1).2.2.1 ∈ TT := tt_mem (i := 161) (by decide +kernel) (by decide +kernel)
theorem q_fl_X4_123 : Cond.fieldLink RX4 123 (TX2 1).1 (TX2 1).2.1 (TX2 1).2.2.1 ∈ TT := tt_mem (i := 162) (by decide +kernel) (by decide +kernel)
theorem q_fl_X2_18 : Cond.fieldLink RX2 18 (TX2 2).1 (TX2 2).2.1 (TX2 2).2.2.1 ∈ TT := tt_mem (i := 163) (by decide +kernel) (by decide +kernel)
theorem q_fl_X4_129 : Cond.fieldLink RX4 129 (TX2 2).1 (TX2 2).2.1 (TX2 2).2.2.1 ∈ TT := tt_mem (i := 164) (by decide +kernel) (by decide +kernel)
theorem q_fl_X2_21 : Cond.fieldLink RX2 21 (TX2 3).1 (TX2 3).2.1 (TX2 3).2.2.1 ∈ TT := tt_mem (i := 165) (by decide +kernel) (by decide +kernel)
theorem q_fl_X4_132 : Cond.fieldLink RX4 132 (TX2 3).1 (TX2 3).2.1 (TX2 3).2.2.1 ∈ TT := tt_mem (i := 166) (by decide +kernel) (by decide +kernel)
theorem q_fl_X4_10 : Cond.fieldLink RX4 10 (TX4 0).1 (TX4 0).2.1 (TX4 0).2.2.1 ∈ TT := tt_mem (i := 176) (by decide +kernel) (by decide +kernel)
theorem q_fl_X4_16 : Cond.fieldLink RX4 16 (TX4 1).1 (TX4 1).2.1 (TX4 1).2.2.1 ∈ TT := tt_mem (i := 177) (by decide +kernel) (by decide +kernel)
theorem q_fl_X4_22 : Cond.fieldLink RX4 22 (TX4 2).1 (TX4 2).2.1 (TX4 2).2.2.1 ∈ TT := tt_mem (i := 178) (by decide +kernel) (by decide +kernel)
theorem q_fl_X4_29 : Cond.fieldLink RX4 29 (TX4 3).1 (TX4 3).2.1 (TX4 3).2.2.1 ∈ TT := tt_mem (i := 179) (by decide +kernel) (by decide +kernel)
theorem q_fl_X4_36 : Cond.fieldLink RX4 36 (TX4 4).1 (TX4 4).2.1 (TX4 4).2.2.1 ∈ TT := tt_mem (i := 180) (by decide +kernel) (by decide +kernel)
theorem q_ml_L_13 : Cond.methodLink RL 13 yX4_member ∈ TT := tt_mem (i := 192) (by decide +kernel) (by decide +kernel)
theorem q_ins_X4_member : Cond.instanceMethod yX4_member ∈ TT := tt_mem (i := 193) (by decide +kernel) (by decide +kernel)
theorem q_sel_X4_member : Cond.selects RX4 yX4_member yX4_member ∈ TT := tt_mem (i := 194) (by decide +kernel) (by decide +kernel)
theorem q_code_X4_member : Cond.code yX4_member cX4_member 2 (some .int) ∈ TT := tt_mem (i := 195) (by decide +kernel) (by decide +kernel)
theorem q_ml_X4_40 : Cond.methodLink RX4 40 yX0_takeOver ∈ TT := tt_mem (i := 196) (by decide +kernel) (by decide +kernel)
theorem q_ins_X0_takeOver : Cond.instanceMethod yX0_takeOver ∈ TT := tt_mem (i := 197) (by decide +kernel) (by decide +kernel)
theorem q_sel_X0_takeOver : Cond.selects RX0 yX0_takeOver yX0_takeOver ∈ TT := tt_mem (i := 198) (by decide +kernel) (by decide +kernel)
theorem q_code_X0_takeOver : Cond.code yX0_takeOver cX0_takeOver 2 none ∈ TT := tt_mem (i := 199) (by decide +kernel) (by decide +kernel)
theorem q_sta_X4_copyRow : Cond.static yX4_copyRow ∈ TT := tt_mem (i := 201) (by decide +kernel) (by decide +kernel)
theorem q_code_X4_copyRow : Cond.code yX4_copyRow cX4_copyRow 2 none ∈ TT := tt_mem (i := 202) (by decide +kernel) (by decide +kernel)
theorem q_ml_X4_163 : Cond.methodLink RX4 163 Lib.Math.min.name ∈ TT := tt_mem (i := 203) (by decide +kernel) (by decide +kernel)
theorem q_sta_J9_min : Cond.static Lib.Math.min.name ∈ TT := tt_mem (i := 204) (by decide +kernel) (by decide +kernel)
theorem q_code_J9_min : Cond.code Lib.Math.min.name Lib.Math.min.code 2 (some .int) ∈ TT := tt_mem (i := 205) (by decide +kernel) (by decide +kernel)
theorem q_ml_X4_168 : Cond.methodLink RX4 168 arraycopyName ∈ TT := tt_mem (i := 206) (by decide +kernel) (by decide +kernel)
theorem q_sta_J10_arraycopy : Cond.static arraycopyName ∈ TT := tt_mem (i := 207) (by decide +kernel) (by decide +kernel)
theorem q_nat_J10_arraycopy : Cond.native arraycopyName ∈ TT := tt_mem (i := 208) (by decide +kernel) (by decide +kernel)
theorem q_ml_X4_44 : Cond.methodLink RX4 44 yX0_addMember ∈ TT := tt_mem (i := 209) (by decide +kernel) (by decide +kernel)
theorem q_ins_X0_addMember : Cond.instanceMethod yX0_addMember ∈ TT := tt_mem (i := 210) (by decide +kernel) (by decide +kernel)
theorem q_sel_X0_addMember : Cond.selects RX0 yX0_addMember yX0_addMember ∈ TT := tt_mem (i := 211) (by decide +kernel) (by decide +kernel)
theorem q_code_X0_addMember : Cond.code yX0_addMember cX0_addMember 2 (some .int) ∈ TT := tt_mem (i := 212) (by decide +kernel) (by decide +kernel)
theorem q_ml_X4_48 : Cond.methodLink RX4 48 yX4_keptIfDone ∈ TT := tt_mem (i := 213) (by decide +kernel) (by decide +kernel)
theorem q_ins_X4_keptIfDone : Cond.instanceMethod yX4_keptIfDone ∈ TT := tt_mem (i := 215) (by decide +kernel) (by decide +kernel)
theorem q_code_X4_keptIfDone : Cond.code yX4_keptIfDone cX4_keptIfDone 2 (some .int) ∈ TT := tt_mem (i := 216) (by decide +kernel) (by decide +kernel)
theorem q_ml_X4_135 : Cond.methodLink RX4 135 yX1_record ∈ TT := tt_mem (i := 217) (by decide +kernel) (by decide +kernel)
theorem q_ins_X1_record : Cond.instanceMethod yX1_record ∈ TT := tt_mem (i := 218) (by decide +kernel) (by decide +kernel)
theorem q_sel_X1_record : Cond.selects RX1 yX1_record yX1_record ∈ TT := tt_mem (i := 219) (by decide +kernel) (by decide +kernel)
theorem q_code_X1_record : Cond.code yX1_record cX1_record 3 none ∈ TT := tt_mem (i := 220) (by decide +kernel) (by decide +kernel)
theorem q_ml_X1_25 : Cond.methodLink RX1 25 yX0_takeOver ∈ TT := tt_mem (i := 221) (by decide +kernel) (by decide +kernel)
theorem q_ml_L_18 : Cond.methodLink RL 18 yX4_use ∈ TT := tt_mem (i := 222) (by decide +kernel) (by decide +kernel)
theorem q_ins_X4_use : Cond.instanceMethod yX4_use ∈ TT := tt_mem (i := 223) (by decide +kernel) (by decide +kernel)
theorem q_sel_X4_use : Cond.selects RX4 yX4_use yX4_use ∈ TT := tt_mem (i := 224) (by decide +kernel) (by decide +kernel)
theorem q_code_X4_use : Cond.code yX4_use cX4_use 3 (some .int) ∈ TT := tt_mem (i := 225) (by decide +kernel) (by decide +kernel)
theorem q_ml_X4_51 : Cond.methodLink RX4 51 yX0_declareUse ∈ TT := tt_mem (i := 226) (by decide +kernel) (by decide +kernel)
theorem q_ins_X0_declareUse : Cond.instanceMethod yX0_declareUse ∈ TT := tt_mem (i := 227) (by decide +kernel) (by decide +kernel)
theorem q_sel_X0_declareUse : Cond.selects RX0 yX0_declareUse yX0_declareUse ∈ TT := tt_mem (i := 228) (by decide +kernel) (by decide +kernel)
theorem q_code_X0_declareUse : Cond.code yX0_declareUse cX0_declareUse 3 (some .int) ∈ TT := tt_mem (i := 229) (by decide +kernel) (by decide +kernel)
theorem q_ml_X0_86 : Cond.methodLink RX0 86 yX0_has ∈ TT := tt_mem (i := 230) (by decide +kernel) (by decide +kernel)
theorem q_ins_X0_has : Cond.instanceMethod yX0_has ∈ TT := tt_mem (i := 231) (by decide +kernel) (by decide +kernel)
theorem q_sel_X0_has : Cond.selects RX0 yX0_has yX0_has ∈ TT := tt_mem (i := 232) (by decide +kernel) (by decide +kernel)
theorem q_code_X0_has : Cond.code yX0_has cX0_has 2 (some .boolean) ∈ TT := tt_mem (i := 233) (by decide +kernel) (by decide +kernel)
theorem q_sta_X4_isUnits : Cond.static yX4_isUnits ∈ TT := tt_mem (i := 235) (by decide +kernel) (by decide +kernel)
theorem q_code_X4_isUnits : Cond.code yX4_isUnits cX4_isUnits 1 (some .boolean) ∈ TT := tt_mem (i := 236) (by decide +kernel) (by decide +kernel)
theorem q_ml_X0_93 : Cond.methodLink RX0 93 yX0_isOut ∈ TT := tt_mem (i := 237) (by decide +kernel) (by decide +kernel)
theorem q_ins_X0_isOut : Cond.instanceMethod yX0_isOut ∈ TT := tt_mem (i := 238) (by decide +kernel) (by decide +kernel)
theorem q_sel_X0_isOut : Cond.selects RX0 yX0_isOut yX0_isOut ∈ TT := tt_mem (i := 239) (by decide +kernel) (by decide +kernel)
theorem q_code_X0_isOut : Cond.code yX0_isOut cX0_isOut 2 (some .boolean) ∈ TT := tt_mem (i := 240) (by decide +kernel) (by decide +kernel)
theorem q_ml_X0_96 : Cond.methodLink RX0 96 yX0_chargeOf ∈ TT := tt_mem (i := 241) (by decide +kernel) (by decide +kernel)
theorem q_ins_X0_chargeOf : Cond.instanceMethod yX0_chargeOf ∈ TT := tt_mem (i := 242) (by decide +kernel) (by decide +kernel)
theorem q_sel_X0_chargeOf : Cond.selects RX0 yX0_chargeOf yX0_chargeOf ∈ TT := tt_mem (i := 243) (by decide +kernel) (by decide +kernel)
theorem q_code_X0_chargeOf : Cond.code yX0_chargeOf cX0_chargeOf 2 (some .int) ∈ TT := tt_mem (i := 244) (by decide +kernel) (by decide +kernel)
theorem q_ml_X0_76 : Cond.methodLink RX0 76 yX0_unitsAhead ∈ TT := tt_mem (i := 245) (by decide +kernel) (by decide +kernel)
theorem q_ins_X0_unitsAhead : Cond.instanceMethod yX0_unitsAhead ∈ TT := tt_mem (i := 246) (by decide +kernel) (by decide +kernel)
theorem q_sel_X0_unitsAhead : Cond.selects RX0 yX0_unitsAhead yX0_unitsAhead ∈ TT := tt_mem (i := 247) (by decide +kernel) (by decide +kernel)
theorem q_code_X0_unitsAhead : Cond.code yX0_unitsAhead cX0_unitsAhead 5 (some .int) ∈ TT := tt_mem (i := 248) (by decide +kernel) (by decide +kernel)
theorem q_ml_X0_72 : Cond.methodLink RX0 72 yX0_placeOf ∈ TT := tt_mem (i := 249) (by decide +kernel) (by decide +kernel)
theorem q_ins_X0_placeOf : Cond.instanceMethod yX0_placeOf ∈ TT := tt_mem (i := 250) (by decide +kernel) (by decide +kernel)
theorem q_sel_X0_placeOf : Cond.selects RX0 yX0_placeOf yX0_placeOf ∈ TT := tt_mem (i := 251) (by decide +kernel) (by decide +kernel)
theorem q_code_X0_placeOf : Cond.code yX0_placeOf cX0_placeOf 3 (some .int) ∈ TT := tt_mem (i := 252) (by decide +kernel) (by decide +kernel)
theorem q_ml_X0_79 : Cond.methodLink RX0 79 yX0_damageAdded ∈ TT := tt_mem (i := 253) (by decide +kernel) (by decide +kernel)
theorem q_ins_X0_damageAdded : Cond.instanceMethod yX0_damageAdded ∈ TT := tt_mem (i := 254) (by decide +kernel) (by decide +kernel)
theorem q_sel_X0_damageAdded : Cond.selects RX0 yX0_damageAdded yX0_damageAdded ∈ TT := tt_mem (i := 255) (by decide +kernel) (by decide +kernel)
theorem q_code_X0_damageAdded : Cond.code yX0_damageAdded cX0_damageAdded 3 (some .int) ∈ TT := tt_mem (i := 256) (by decide +kernel) (by decide +kernel)
theorem q_ml_X0_83 : Cond.methodLink RX0 83 yX0_damageOf ∈ TT := tt_mem (i := 257) (by decide +kernel) (by decide +kernel)
theorem q_ins_X0_damageOf : Cond.instanceMethod yX0_damageOf ∈ TT := tt_mem (i := 258) (by decide +kernel) (by decide +kernel)
theorem q_sel_X0_damageOf : Cond.selects RX0 yX0_damageOf yX0_damageOf ∈ TT := tt_mem (i := 259) (by decide +kernel) (by decide +kernel)
theorem q_code_X0_damageOf : Cond.code yX0_damageOf cX0_damageOf 3 (some .int) ∈ TT := tt_mem (i := 260) (by decide +kernel) (by decide +kernel)
theorem q_ml_L_23 : Cond.methodLink RL 23 yX4_close ∈ TT := tt_mem (i := 261) (by decide +kernel) (by decide +kernel)
theorem q_ins_X4_close : Cond.instanceMethod yX4_close ∈ TT := tt_mem (i := 262) (by decide +kernel) (by decide +kernel)
theorem q_sel_X4_close : Cond.selects RX4 yX4_close yX4_close ∈ TT := tt_mem (i := 263) (by decide +kernel) (by decide +kernel)
theorem q_code_X4_close : Cond.code yX4_close cX4_close 1 (some .int) ∈ TT := tt_mem (i := 264) (by decide +kernel) (by decide +kernel)
theorem q_ml_X4_55 : Cond.methodLink RX4 55 yX0_closeSeason ∈ TT := tt_mem (i := 265) (by decide +kernel) (by decide +kernel)
theorem q_ins_X0_closeSeason : Cond.instanceMethod yX0_closeSeason ∈ TT := tt_mem (i := 266) (by decide +kernel) (by decide +kernel)
theorem q_sel_X0_closeSeason : Cond.selects RX0 yX0_closeSeason yX0_closeSeason ∈ TT := tt_mem (i := 267) (by decide +kernel) (by decide +kernel)
theorem q_code_X0_closeSeason : Cond.code yX0_closeSeason cX0_closeSeason 1 (some .int) ∈ TT := tt_mem (i := 268) (by decide +kernel) (by decide +kernel)
theorem q_ml_X0_117 : Cond.methodLink RX0 117 yX0_endSeason ∈ TT := tt_mem (i := 269) (by decide +kernel) (by decide +kernel)
theorem q_ins_X0_endSeason : Cond.instanceMethod yX0_endSeason ∈ TT := tt_mem (i := 270) (by decide +kernel) (by decide +kernel)
theorem q_sel_X0_endSeason : Cond.selects RX0 yX0_endSeason yX0_endSeason ∈ TT := tt_mem (i := 271) (by decide +kernel) (by decide +kernel)
theorem q_code_X0_endSeason : Cond.code yX0_endSeason cX0_endSeason 4 (some .int) ∈ TT := tt_mem (i := 272) (by decide +kernel) (by decide +kernel)
theorem q_ml_X0_121 : Cond.methodLink RX0 121 yX0_allUnits ∈ TT := tt_mem (i := 273) (by decide +kernel) (by decide +kernel)
theorem q_ins_X0_allUnits : Cond.instanceMethod yX0_allUnits ∈ TT := tt_mem (i := 274) (by decide +kernel) (by decide +kernel)
theorem q_sel_X0_allUnits : Cond.selects RX0 yX0_allUnits yX0_allUnits ∈ TT := tt_mem (i := 275) (by decide +kernel) (by decide +kernel)
theorem q_code_X0_allUnits : Cond.code yX0_allUnits cX0_allUnits 1 (some .int) ∈ TT := tt_mem (i := 276) (by decide +kernel) (by decide +kernel)
theorem q_sta_X4_sumOf : Cond.static yX4_sumOf ∈ TT := tt_mem (i := 278) (by decide +kernel) (by decide +kernel)
theorem q_code_X4_sumOf : Cond.code yX4_sumOf cX4_sumOf 3 (some .int) ∈ TT := tt_mem (i := 279) (by decide +kernel) (by decide +kernel)
theorem q_ml_X0_124 : Cond.methodLink RX0 124 yX0_oweCharges ∈ TT := tt_mem (i := 280) (by decide +kernel) (by decide +kernel)
theorem q_ins_X0_oweCharges : Cond.instanceMethod yX0_oweCharges ∈ TT := tt_mem (i := 281) (by decide +kernel) (by decide +kernel)
theorem q_sel_X0_oweCharges : Cond.selects RX0 yX0_oweCharges yX0_oweCharges ∈ TT := tt_mem (i := 282) (by decide +kernel) (by decide +kernel)
theorem q_code_X0_oweCharges : Cond.code yX0_oweCharges cX0_oweCharges 5 none ∈ TT := tt_mem (i := 283) (by decide +kernel) (by decide +kernel)
theorem q_ml_X0_127 : Cond.methodLink RX0 127 Lib.Math.max.name ∈ TT := tt_mem (i := 284) (by decide +kernel) (by decide +kernel)
theorem q_sta_J9_max : Cond.static Lib.Math.max.name ∈ TT := tt_mem (i := 285) (by decide +kernel) (by decide +kernel)
theorem q_code_J9_max : Cond.code Lib.Math.max.name Lib.Math.max.code 2 (some .int) ∈ TT := tt_mem (i := 286) (by decide +kernel) (by decide +kernel)
theorem q_ml_X0_105 : Cond.methodLink RX0 105 Lib.Math.min.name ∈ TT := tt_mem (i := 287) (by decide +kernel) (by decide +kernel)
theorem q_ml_X0_130 : Cond.methodLink RX0 130 yX0_keepSeason ∈ TT := tt_mem (i := 288) (by decide +kernel) (by decide +kernel)
theorem q_ins_X0_keepSeason : Cond.instanceMethod yX0_keepSeason ∈ TT := tt_mem (i := 289) (by decide +kernel) (by decide +kernel)
theorem q_sel_X0_keepSeason : Cond.selects RX0 yX0_keepSeason yX0_keepSeason ∈ TT := tt_mem (i := 290) (by decide +kernel) (by decide +kernel)
theorem q_code_X0_keepSeason : Cond.code yX0_keepSeason cX0_keepSeason 4 none ∈ TT := tt_mem (i := 291) (by decide +kernel) (by decide +kernel)
theorem q_ml_X0_134 : Cond.methodLink RX0 134 yX0_bookUses ∈ TT := tt_mem (i := 292) (by decide +kernel) (by decide +kernel)
theorem q_ins_X0_bookUses : Cond.instanceMethod yX0_bookUses ∈ TT := tt_mem (i := 293) (by decide +kernel) (by decide +kernel)
theorem q_sel_X0_bookUses : Cond.selects RX0 yX0_bookUses yX0_bookUses ∈ TT := tt_mem (i := 294) (by decide +kernel) (by decide +kernel)
theorem q_code_X0_bookUses : Cond.code yX0_bookUses cX0_bookUses 2 none ∈ TT := tt_mem (i := 295) (by decide +kernel) (by decide +kernel)
theorem q_ml_X0_137 : Cond.methodLink RX0 137 yX0_excludeInTurn ∈ TT := tt_mem (i := 296) (by decide +kernel) (by decide +kernel)
theorem q_ins_X0_excludeInTurn : Cond.instanceMethod yX0_excludeInTurn ∈ TT := tt_mem (i := 297) (by decide +kernel) (by decide +kernel)
theorem q_sel_X0_excludeInTurn : Cond.selects RX0 yX0_excludeInTurn yX0_excludeInTurn ∈ TT := tt_mem (i := 298) (by decide +kernel) (by decide +kernel)
theorem q_code_X0_excludeInTurn : Cond.code yX0_excludeInTurn cX0_excludeInTurn 5 none ∈ TT := tt_mem (i := 299) (by decide +kernel) (by decide +kernel)
theorem q_ml_X0_146 : Cond.methodLink RX0 146 yX0_turnsNeeded ∈ TT := tt_mem (i := 300) (by decide +kernel) (by decide +kernel)
theorem q_ins_X0_turnsNeeded : Cond.instanceMethod yX0_turnsNeeded ∈ TT := tt_mem (i := 301) (by decide +kernel) (by decide +kernel)
theorem q_sel_X0_turnsNeeded : Cond.selects RX0 yX0_turnsNeeded yX0_turnsNeeded ∈ TT := tt_mem (i := 302) (by decide +kernel) (by decide +kernel)
theorem q_code_X0_turnsNeeded : Cond.code yX0_turnsNeeded cX0_turnsNeeded 3 (some .int) ∈ TT := tt_mem (i := 303) (by decide +kernel) (by decide +kernel)
theorem q_ml_X0_149 : Cond.methodLink RX0 149 yX0_heaviestNotIn ∈ TT := tt_mem (i := 304) (by decide +kernel) (by decide +kernel)
theorem q_ins_X0_heaviestNotIn : Cond.instanceMethod yX0_heaviestNotIn ∈ TT := tt_mem (i := 305) (by decide +kernel) (by decide +kernel)
theorem q_sel_X0_heaviestNotIn : Cond.selects RX0 yX0_heaviestNotIn yX0_heaviestNotIn ∈ TT := tt_mem (i := 306) (by decide +kernel) (by decide +kernel)
theorem q_code_X0_heaviestNotIn : Cond.code yX0_heaviestNotIn cX0_heaviestNotIn 5 (some .int) ∈ TT := tt_mem (i := 307) (by decide +kernel) (by decide +kernel)
theorem q_ml_X0_140 : Cond.methodLink RX0 140 yX0_excludeDebtors ∈ TT := tt_mem (i := 308) (by decide +kernel) (by decide +kernel)
theorem q_ins_X0_excludeDebtors : Cond.instanceMethod yX0_excludeDebtors ∈ TT := tt_mem (i := 309) (by decide +kernel) (by decide +kernel)
theorem q_sel_X0_excludeDebtors : Cond.selects RX0 yX0_excludeDebtors yX0_excludeDebtors ∈ TT := tt_mem (i := 310) (by decide +kernel) (by decide +kernel)
theorem q_code_X0_excludeDebtors : Cond.code yX0_excludeDebtors cX0_excludeDebtors 2 none ∈ TT := tt_mem (i := 311) (by decide +kernel) (by decide +kernel)
theorem q_ml_X0_143 : Cond.methodLink RX0 143 yX0_noteSeasonsOut ∈ TT := tt_mem (i := 312) (by decide +kernel) (by decide +kernel)
theorem q_ins_X0_noteSeasonsOut : Cond.instanceMethod yX0_noteSeasonsOut ∈ TT := tt_mem (i := 313) (by decide +kernel) (by decide +kernel)
theorem q_sel_X0_noteSeasonsOut : Cond.selects RX0 yX0_noteSeasonsOut yX0_noteSeasonsOut ∈ TT := tt_mem (i := 314) (by decide +kernel) (by decide +kernel)
theorem q_code_X0_noteSeasonsOut : Cond.code yX0_noteSeasonsOut cX0_noteSeasonsOut 2 none ∈ TT := tt_mem (i := 315) (by decide +kernel) (by decide +kernel)
theorem q_ml_L_28 : Cond.methodLink RL 28 yX4_pay ∈ TT := tt_mem (i := 316) (by decide +kernel) (by decide +kernel)
theorem q_ins_X4_pay : Cond.instanceMethod yX4_pay ∈ TT := tt_mem (i := 317) (by decide +kernel) (by decide +kernel)
theorem q_sel_X4_pay : Cond.selects RX4 yX4_pay yX4_pay ∈ TT := tt_mem (i := 318) (by decide +kernel) (by decide +kernel)
theorem q_code_X4_pay : Cond.code yX4_pay cX4_pay 3 (some .int) ∈ TT := tt_mem (i := 319) (by decide +kernel) (by decide +kernel)
theorem q_ml_X4_59 : Cond.methodLink RX4 59 yX0_payCoins ∈ TT := tt_mem (i := 320) (by decide +kernel) (by decide +kernel)
theorem q_ins_X0_payCoins : Cond.instanceMethod yX0_payCoins ∈ TT := tt_mem (i := 321) (by decide +kernel) (by decide +kernel)
theorem q_sel_X0_payCoins : Cond.selects RX0 yX0_payCoins yX0_payCoins ∈ TT := tt_mem (i := 322) (by decide +kernel) (by decide +kernel)
theorem q_code_X0_payCoins : Cond.code yX0_payCoins cX0_payCoins 3 (some .int) ∈ TT := tt_mem (i := 323) (by decide +kernel) (by decide +kernel)
theorem q_ml_L_32 : Cond.methodLink RL 32 yX4_repair ∈ TT := tt_mem (i := 324) (by decide +kernel) (by decide +kernel)
theorem q_ins_X4_repair : Cond.instanceMethod yX4_repair ∈ TT := tt_mem (i := 325) (by decide +kernel) (by decide +kernel)
theorem q_sel_X4_repair : Cond.selects RX4 yX4_repair yX4_repair ∈ TT := tt_mem (i := 326) (by decide +kernel) (by decide +kernel)
theorem q_code_X4_repair : Cond.code yX4_repair cX4_repair 2 (some .int) ∈ TT := tt_mem (i := 327) (by decide +kernel) (by decide +kernel)
theorem q_ml_X4_62 : Cond.methodLink RX4 62 yX0_repairPoints ∈ TT := tt_mem (i := 328) (by decide +kernel) (by decide +kernel)
theorem q_ins_X0_repairPoints : Cond.instanceMethod yX0_repairPoints ∈ TT := tt_mem (i := 329) (by decide +kernel) (by decide +kernel)
theorem q_sel_X0_repairPoints : Cond.selects RX0 yX0_repairPoints yX0_repairPoints ∈ TT := tt_mem (i := 330) (by decide +kernel) (by decide +kernel)
theorem q_code_X0_repairPoints : Cond.code yX0_repairPoints cX0_repairPoints 5 (some .int) ∈ TT := tt_mem (i := 331) (by decide +kernel) (by decide +kernel)
theorem q_ml_X0_110 : Cond.methodLink RX0 110 yX0_oweByUses ∈ TT := tt_mem (i := 332) (by decide +kernel) (by decide +kernel)
theorem q_ins_X0_oweByUses : Cond.instanceMethod yX0_oweByUses ∈ TT := tt_mem (i := 333) (by decide +kernel) (by decide +kernel)
theorem q_sel_X0_oweByUses : Cond.selects RX0 yX0_oweByUses yX0_oweByUses ∈ TT := tt_mem (i := 334) (by decide +kernel) (by decide +kernel)
theorem q_code_X0_oweByUses : Cond.code yX0_oweByUses cX0_oweByUses 6 none ∈ TT := tt_mem (i := 335) (by decide +kernel) (by decide +kernel)
theorem q_sta_X4_quotient : Cond.static yX4_quotient ∈ TT := tt_mem (i := 337) (by decide +kernel) (by decide +kernel)
theorem q_code_X4_quotient : Cond.code yX4_quotient cX4_quotient 2 (some .int) ∈ TT := tt_mem (i := 338) (by decide +kernel) (by decide +kernel)
theorem q_ml_L_36 : Cond.methodLink RL 36 yX4_set ∈ TT := tt_mem (i := 339) (by decide +kernel) (by decide +kernel)
theorem q_ins_X4_set : Cond.instanceMethod yX4_set ∈ TT := tt_mem (i := 340) (by decide +kernel) (by decide +kernel)
theorem q_sel_X4_set : Cond.selects RX4 yX4_set yX4_set ∈ TT := tt_mem (i := 341) (by decide +kernel) (by decide +kernel)
theorem q_code_X4_set : Cond.code yX4_set cX4_set 3 (some .int) ∈ TT := tt_mem (i := 342) (by decide +kernel) (by decide +kernel)
theorem q_ml_X4_65 : Cond.methodLink RX4 65 yX0_changeSetting ∈ TT := tt_mem (i := 343) (by decide +kernel) (by decide +kernel)
theorem q_ins_X0_changeSetting : Cond.instanceMethod yX0_changeSetting ∈ TT := tt_mem (i := 344) (by decide +kernel) (by decide +kernel)
theorem q_sel_X0_changeSetting : Cond.selects RX0 yX0_changeSetting yX0_changeSetting ∈ TT := tt_mem (i := 345) (by decide +kernel) (by decide +kernel)
theorem q_code_X0_changeSetting : Cond.code yX0_changeSetting cX0_changeSetting 4 (some .int) ∈ TT := tt_mem (i := 346) (by decide +kernel) (by decide +kernel)
theorem q_ml_L_40 : Cond.methodLink RL 40 yX4_memberOf ∈ TT := tt_mem (i := 351) (by decide +kernel) (by decide +kernel)
theorem q_ins_X4_memberOf : Cond.instanceMethod yX4_memberOf ∈ TT := tt_mem (i := 352) (by decide +kernel) (by decide +kernel)
theorem q_sel_X4_memberOf : Cond.selects RX4 yX4_memberOf yX4_memberOf ∈ TT := tt_mem (i := 353) (by decide +kernel) (by decide +kernel)
theorem q_code_X4_memberOf : Cond.code yX4_memberOf cX4_memberOf 3 (some .int) ∈ TT := tt_mem (i := 354) (by decide +kernel) (by decide +kernel)
theorem q_ml_X4_68 : Cond.methodLink RX4 68 yX0_numberOfMember ∈ TT := tt_mem (i := 355) (by decide +kernel) (by decide +kernel)
theorem q_ins_X0_numberOfMember : Cond.instanceMethod yX0_numberOfMember ∈ TT := tt_mem (i := 356) (by decide +kernel) (by decide +kernel)
theorem q_sel_X0_numberOfMember : Cond.selects RX0 yX0_numberOfMember yX0_numberOfMember ∈ TT := tt_mem (i := 357) (by decide +kernel) (by decide +kernel)
theorem q_code_X0_numberOfMember : Cond.code yX0_numberOfMember cX0_numberOfMember 3 (some .int) ∈ TT := tt_mem (i := 358) (by decide +kernel) (by decide +kernel)
theorem q_ml_L_44 : Cond.methodLink RL 44 yX4_count ∈ TT := tt_mem (i := 359) (by decide +kernel) (by decide +kernel)
theorem q_ins_X4_count : Cond.instanceMethod yX4_count ∈ TT := tt_mem (i := 360) (by decide +kernel) (by decide +kernel)
theorem q_sel_X4_count : Cond.selects RX4 yX4_count yX4_count ∈ TT := tt_mem (i := 361) (by decide +kernel) (by decide +kernel)
theorem q_code_X4_count : Cond.code yX4_count cX4_count 2 (some .int) ∈ TT := tt_mem (i := 362) (by decide +kernel) (by decide +kernel)
theorem q_ml_X4_76 : Cond.methodLink RX4 76 yX0_numberOfAll ∈ TT := tt_mem (i := 363) (by decide +kernel) (by decide +kernel)
theorem q_ins_X0_numberOfAll : Cond.instanceMethod yX0_numberOfAll ∈ TT := tt_mem (i := 364) (by decide +kernel) (by decide +kernel)
theorem q_sel_X0_numberOfAll : Cond.selects RX0 yX0_numberOfAll yX0_numberOfAll ∈ TT := tt_mem (i := 365) (by decide +kernel) (by decide +kernel)
theorem q_code_X0_numberOfAll : Cond.code yX0_numberOfAll cX0_numberOfAll 2 (some .int) ∈ TT := tt_mem (i := 366) (by decide +kernel) (by decide +kernel)
theorem q_ml_L_48 : Cond.methodLink RL 48 yX4_seasonOf ∈ TT := tt_mem (i := 367) (by decide +kernel) (by decide +kernel)
theorem q_ins_X4_seasonOf : Cond.instanceMethod yX4_seasonOf ∈ TT := tt_mem (i := 368) (by decide +kernel) (by decide +kernel)
theorem q_sel_X4_seasonOf : Cond.selects RX4 yX4_seasonOf yX4_seasonOf ∈ TT := tt_mem (i := 369) (by decide +kernel) (by decide +kernel)
theorem q_code_X4_seasonOf : Cond.code yX4_seasonOf cX4_seasonOf 3 (some .int) ∈ TT := tt_mem (i := 370) (by decide +kernel) (by decide +kernel)
theorem q_ml_X4_79 : Cond.methodLink RX4 79 yX0_numberOfSeason ∈ TT := tt_mem (i := 371) (by decide +kernel) (by decide +kernel)
theorem q_ins_X0_numberOfSeason : Cond.instanceMethod yX0_numberOfSeason ∈ TT := tt_mem (i := 372) (by decide +kernel) (by decide +kernel)
theorem q_sel_X0_numberOfSeason : Cond.selects RX0 yX0_numberOfSeason yX0_numberOfSeason ∈ TT := tt_mem (i := 373) (by decide +kernel) (by decide +kernel)
theorem q_code_X0_numberOfSeason : Cond.code yX0_numberOfSeason cX0_numberOfSeason 3 (some .int) ∈ TT := tt_mem (i := 374) (by decide +kernel) (by decide +kernel)
theorem q_ml_L_52 : Cond.methodLink RL 52 yX4_gain ∈ TT := tt_mem (i := 375) (by decide +kernel) (by decide +kernel)
theorem q_ins_X4_gain : Cond.instanceMethod yX4_gain ∈ TT := tt_mem (i := 376) (by decide +kernel) (by decide +kernel)
theorem q_sel_X4_gain : Cond.selects RX4 yX4_gain yX4_gain ∈ TT := tt_mem (i := 377) (by decide +kernel) (by decide +kernel)
theorem q_code_X4_gain : Cond.code yX4_gain cX4_gain 3 (some .int) ∈ TT := tt_mem (i := 378) (by decide +kernel) (by decide +kernel)
theorem q_ml_X4_82 : Cond.methodLink RX4 82 yX0_liftedGain ∈ TT := tt_mem (i := 379) (by decide +kernel) (by decide +kernel)
theorem q_ins_X0_liftedGain : Cond.instanceMethod yX0_liftedGain ∈ TT := tt_mem (i := 380) (by decide +kernel) (by decide +kernel)
theorem q_sel_X0_liftedGain : Cond.selects RX0 yX0_liftedGain yX0_liftedGain ∈ TT := tt_mem (i := 381) (by decide +kernel) (by decide +kernel)
theorem q_code_X0_liftedGain : Cond.code yX0_liftedGain cX0_liftedGain 3 (some .int) ∈ TT := tt_mem (i := 382) (by decide +kernel) (by decide +kernel)
theorem q_ml_X0_152 : Cond.methodLink RX0 152 yX0_gainBehind ∈ TT := tt_mem (i := 383) (by decide +kernel) (by decide +kernel)
theorem q_ins_X0_gainBehind : Cond.instanceMethod yX0_gainBehind ∈ TT := tt_mem (i := 384) (by decide +kernel) (by decide +kernel)
theorem q_sel_X0_gainBehind : Cond.selects RX0 yX0_gainBehind yX0_gainBehind ∈ TT := tt_mem (i := 385) (by decide +kernel) (by decide +kernel)
theorem q_code_X0_gainBehind : Cond.code yX0_gainBehind cX0_gainBehind 4 (some .int) ∈ TT := tt_mem (i := 386) (by decide +kernel) (by decide +kernel)
theorem q_ml_L_56 : Cond.methodLink RL 56 yX4_bestUse ∈ TT := tt_mem (i := 387) (by decide +kernel) (by decide +kernel)
theorem q_ins_X4_bestUse : Cond.instanceMethod yX4_bestUse ∈ TT := tt_mem (i := 388) (by decide +kernel) (by decide +kernel)
theorem q_sel_X4_bestUse : Cond.selects RX4 yX4_bestUse yX4_bestUse ∈ TT := tt_mem (i := 389) (by decide +kernel) (by decide +kernel)
theorem q_code_X4_bestUse : Cond.code yX4_bestUse cX4_bestUse 2 (some .int) ∈ TT := tt_mem (i := 390) (by decide +kernel) (by decide +kernel)
theorem q_ml_X4_85 : Cond.methodLink RX4 85 yX0_has ∈ TT := tt_mem (i := 391) (by decide +kernel) (by decide +kernel)
theorem q_ml_X4_89 : Cond.methodLink RX4 89 yX0_bestUnits ∈ TT := tt_mem (i := 392) (by decide +kernel) (by decide +kernel)
theorem q_ins_X0_bestUnits : Cond.instanceMethod yX0_bestUnits ∈ TT := tt_mem (i := 393) (by decide +kernel) (by decide +kernel)
theorem q_sel_X0_bestUnits : Cond.selects RX0 yX0_bestUnits yX0_bestUnits ∈ TT := tt_mem (i := 394) (by decide +kernel) (by decide +kernel)
theorem q_code_X0_bestUnits : Cond.code yX0_bestUnits cX0_bestUnits 7 (some .int) ∈ TT := tt_mem (i := 395) (by decide +kernel) (by decide +kernel)
theorem q_ml_L_60 : Cond.methodLink RL 60 yX4_calm ∈ TT := tt_mem (i := 396) (by decide +kernel) (by decide +kernel)
theorem q_ins_X4_calm : Cond.instanceMethod yX4_calm ∈ TT := tt_mem (i := 397) (by decide +kernel) (by decide +kernel)
theorem q_sel_X4_calm : Cond.selects RX4 yX4_calm yX4_calm ∈ TT := tt_mem (i := 398) (by decide +kernel) (by decide +kernel)
theorem q_code_X4_calm : Cond.code yX4_calm cX4_calm 3 (some .int) ∈ TT := tt_mem (i := 399) (by decide +kernel) (by decide +kernel)
theorem q_ml_X4_92 : Cond.methodLink RX4 92 yX0_calmDown ∈ TT := tt_mem (i := 400) (by decide +kernel) (by decide +kernel)
theorem q_ins_X0_calmDown : Cond.instanceMethod yX0_calmDown ∈ TT := tt_mem (i := 401) (by decide +kernel) (by decide +kernel)
theorem q_sel_X0_calmDown : Cond.selects RX0 yX0_calmDown yX0_calmDown ∈ TT := tt_mem (i := 402) (by decide +kernel) (by decide +kernel)
theorem q_code_X0_calmDown : Cond.code yX0_calmDown cX0_calmDown 2 (some .int) ∈ TT := tt_mem (i := 403) (by decide +kernel) (by decide +kernel)
theorem q_ml_X0_156 : Cond.methodLink RX0 156 yX0_roundChanges ∈ TT := tt_mem (i := 404) (by decide +kernel) (by decide +kernel)
theorem q_ins_X0_roundChanges : Cond.instanceMethod yX0_roundChanges ∈ TT := tt_mem (i := 405) (by decide +kernel) (by decide +kernel)
theorem q_sel_X0_roundChanges : Cond.selects RX0 yX0_roundChanges yX0_roundChanges ∈ TT := tt_mem (i := 406) (by decide +kernel) (by decide +kernel)
theorem q_code_X0_roundChanges : Cond.code yX0_roundChanges cX0_roundChanges 4 (some .boolean) ∈ TT := tt_mem (i := 407) (by decide +kernel) (by decide +kernel)
theorem q_ml_X0_160 : Cond.methodLink RX0 160 yX0_bestUnits ∈ TT := tt_mem (i := 408) (by decide +kernel) (by decide +kernel)
theorem q_ml_X4_99 : Cond.methodLink RX4 99 yX0_allUnits ∈ TT := tt_mem (i := 409) (by decide +kernel) (by decide +kernel)
theorem q_ml_L_64 : Cond.methodLink RL 64 yX4_bestForAll ∈ TT := tt_mem (i := 410) (by decide +kernel) (by decide +kernel)
theorem q_ins_X4_bestForAll : Cond.instanceMethod yX4_bestForAll ∈ TT := tt_mem (i := 411) (by decide +kernel) (by decide +kernel)
theorem q_sel_X4_bestForAll : Cond.selects RX4 yX4_bestForAll yX4_bestForAll ∈ TT := tt_mem (i := 412) (by decide +kernel) (by decide +kernel)
theorem q_code_X4_bestForAll : Cond.code yX4_bestForAll cX4_bestForAll 3 (some .int) ∈ TT := tt_mem (i := 413) (by decide +kernel) (by decide +kernel)
theorem q_ml_X4_102 : Cond.methodLink RX4 102 yX0_useBestForAll ∈ TT := tt_mem (i := 414) (by decide +kernel) (by decide +kernel)
theorem q_ins_X0_useBestForAll : Cond.instanceMethod yX0_useBestForAll ∈ TT := tt_mem (i := 415) (by decide +kernel) (by decide +kernel)
theorem q_sel_X0_useBestForAll : Cond.selects RX0 yX0_useBestForAll yX0_useBestForAll ∈ TT := tt_mem (i := 416) (by decide +kernel) (by decide +kernel)
theorem q_code_X0_useBestForAll : Cond.code yX0_useBestForAll cX0_useBestForAll 4 (some .int) ∈ TT := tt_mem (i := 417) (by decide +kernel) (by decide +kernel)
theorem q_ml_X0_163 : Cond.methodLink RX0 163 yX0_worthiestWithRoom ∈ TT := tt_mem (i := 418) (by decide +kernel) (by decide +kernel)
theorem q_ins_X0_worthiestWithRoom : Cond.instanceMethod yX0_worthiestWithRoom ∈ TT := tt_mem (i := 419) (by decide +kernel) (by decide +kernel)
theorem q_sel_X0_worthiestWithRoom : Cond.selects RX0 yX0_worthiestWithRoom yX0_worthiestWithRoom ∈ TT := tt_mem (i := 420) (by decide +kernel) (by decide +kernel)
theorem q_code_X0_worthiestWithRoom : Cond.code yX0_worthiestWithRoom cX0_worthiestWithRoom 4 (some .int) ∈ TT := tt_mem (i := 421) (by decide +kernel) (by decide +kernel)
theorem q_ml_L_68 : Cond.methodLink RL 68 yX4_wouldExclude ∈ TT := tt_mem (i := 422) (by decide +kernel) (by decide +kernel)
theorem q_ins_X4_wouldExclude : Cond.instanceMethod yX4_wouldExclude ∈ TT := tt_mem (i := 423) (by decide +kernel) (by decide +kernel)
theorem q_sel_X4_wouldExclude : Cond.selects RX4 yX4_wouldExclude yX4_wouldExclude ∈ TT := tt_mem (i := 424) (by decide +kernel) (by decide +kernel)
theorem q_code_X4_wouldExclude : Cond.code yX4_wouldExclude cX4_wouldExclude 1 (some .int) ∈ TT := tt_mem (i := 425) (by decide +kernel) (by decide +kernel)
theorem q_ml_X4_105 : Cond.methodLink RX4 105 yX0_endSeason ∈ TT := tt_mem (i := 426) (by decide +kernel) (by decide +kernel)
theorem q_ml_L_72 : Cond.methodLink RL 72 yX4_canRepair ∈ TT := tt_mem (i := 427) (by decide +kernel) (by decide +kernel)
theorem q_ins_X4_canRepair : Cond.instanceMethod yX4_canRepair ∈ TT := tt_mem (i := 428) (by decide +kernel) (by decide +kernel)
theorem q_sel_X4_canRepair : Cond.selects RX4 yX4_canRepair yX4_canRepair ∈ TT := tt_mem (i := 429) (by decide +kernel) (by decide +kernel)
theorem q_code_X4_canRepair : Cond.code yX4_canRepair cX4_canRepair 1 (some .int) ∈ TT := tt_mem (i := 430) (by decide +kernel) (by decide +kernel)
theorem q_ml_X4_111 : Cond.methodLink RX4 111 yX0_pointsFromFund ∈ TT := tt_mem (i := 431) (by decide +kernel) (by decide +kernel)
theorem q_ins_X0_pointsFromFund : Cond.instanceMethod yX0_pointsFromFund ∈ TT := tt_mem (i := 432) (by decide +kernel) (by decide +kernel)
theorem q_sel_X0_pointsFromFund : Cond.selects RX0 yX0_pointsFromFund yX0_pointsFromFund ∈ TT := tt_mem (i := 433) (by decide +kernel) (by decide +kernel)
theorem q_code_X0_pointsFromFund : Cond.code yX0_pointsFromFund cX0_pointsFromFund 1 (some .int) ∈ TT := tt_mem (i := 434) (by decide +kernel) (by decide +kernel)
theorem q_ml_L_76 : Cond.methodLink RL 76 yX4_undo ∈ TT := tt_mem (i := 435) (by decide +kernel) (by decide +kernel)
theorem q_ins_X4_undo : Cond.instanceMethod yX4_undo ∈ TT := tt_mem (i := 436) (by decide +kernel) (by decide +kernel)
theorem q_sel_X4_undo : Cond.selects RX4 yX4_undo yX4_undo ∈ TT := tt_mem (i := 437) (by decide +kernel) (by decide +kernel)
theorem q_code_X4_undo : Cond.code yX4_undo cX4_undo 1 (some .int) ∈ TT := tt_mem (i := 438) (by decide +kernel) (by decide +kernel)
theorem q_ml_X4_114 : Cond.methodLink RX4 114 yX1_restoreLatest ∈ TT := tt_mem (i := 439) (by decide +kernel) (by decide +kernel)
theorem q_ins_X1_restoreLatest : Cond.instanceMethod yX1_restoreLatest ∈ TT := tt_mem (i := 440) (by decide +kernel) (by decide +kernel)
theorem q_sel_X1_restoreLatest : Cond.selects RX1 yX1_restoreLatest yX1_restoreLatest ∈ TT := tt_mem (i := 441) (by decide +kernel) (by decide +kernel)
theorem q_code_X1_restoreLatest : Cond.code yX1_restoreLatest cX1_restoreLatest 3 none ∈ TT := tt_mem (i := 442) (by decide +kernel) (by decide +kernel)
theorem q_ml_L_80 : Cond.methodLink RL 80 yX4_type ∈ TT := tt_mem (i := 443) (by decide +kernel) (by decide +kernel)
theorem q_ins_X4_type : Cond.instanceMethod yX4_type ∈ TT := tt_mem (i := 444) (by decide +kernel) (by decide +kernel)
theorem q_sel_X4_type : Cond.selects RX4 yX4_type yX4_type ∈ TT := tt_mem (i := 445) (by decide +kernel) (by decide +kernel)
theorem q_code_X4_type : Cond.code yX4_type cX4_type 2 (some .int) ∈ TT := tt_mem (i := 446) (by decide +kernel) (by decide +kernel)
theorem q_ml_X4_117 : Cond.methodLink RX4 117 yX3_append ∈ TT := tt_mem (i := 447) (by decide +kernel) (by decide +kernel)
theorem q_ins_X3_append : Cond.instanceMethod yX3_append ∈ TT := tt_mem (i := 448) (by decide +kernel) (by decide +kernel)
theorem q_sel_X3_append : Cond.selects RX3 yX3_append yX3_append ∈ TT := tt_mem (i := 449) (by decide +kernel) (by decide +kernel)
theorem q_code_X3_append : Cond.code yX3_append cX3_append 2 (some .int) ∈ TT := tt_mem (i := 450) (by decide +kernel) (by decide +kernel)
theorem q_ml_L_84 : Cond.methodLink RL 84 yX4_clearText ∈ TT := tt_mem (i := 451) (by decide +kernel) (by decide +kernel)
theorem q_ins_X4_clearText : Cond.instanceMethod yX4_clearText ∈ TT := tt_mem (i := 452) (by decide +kernel) (by decide +kernel)
theorem q_sel_X4_clearText : Cond.selects RX4 yX4_clearText yX4_clearText ∈ TT := tt_mem (i := 453) (by decide +kernel) (by decide +kernel)
theorem q_code_X4_clearText : Cond.code yX4_clearText cX4_clearText 2 (some .int) ∈ TT := tt_mem (i := 454) (by decide +kernel) (by decide +kernel)
theorem q_ml_L_88 : Cond.methodLink RL 88 yX4_fault ∈ TT := tt_mem (i := 455) (by decide +kernel) (by decide +kernel)
theorem q_ins_X4_fault : Cond.instanceMethod yX4_fault ∈ TT := tt_mem (i := 456) (by decide +kernel) (by decide +kernel)
theorem q_sel_X4_fault : Cond.selects RX4 yX4_fault yX4_fault ∈ TT := tt_mem (i := 457) (by decide +kernel) (by decide +kernel)
theorem q_code_X4_fault : Cond.code yX4_fault cX4_fault 2 (some .int) ∈ TT := tt_mem (i := 458) (by decide +kernel) (by decide +kernel)
theorem q_ml_X4_120 : Cond.methodLink RX4 120 yX4_rehearse ∈ TT := tt_mem (i := 459) (by decide +kernel) (by decide +kernel)
theorem q_ins_X4_rehearse : Cond.instanceMethod yX4_rehearse ∈ TT := tt_mem (i := 461) (by decide +kernel) (by decide +kernel)
theorem q_code_X4_rehearse : Cond.code yX4_rehearse cX4_rehearse 2 none ∈ TT := tt_mem (i := 462) (by decide +kernel) (by decide +kernel)
theorem q_ml_X4_138 : Cond.methodLink RX4 138 yX2_begin ∈ TT := tt_mem (i := 463) (by decide +kernel) (by decide +kernel)
theorem q_ins_X2_begin : Cond.instanceMethod yX2_begin ∈ TT := tt_mem (i := 464) (by decide +kernel) (by decide +kernel)
theorem q_sel_X2_begin : Cond.selects RX2 yX2_begin yX2_begin ∈ TT := tt_mem (i := 465) (by decide +kernel) (by decide +kernel)
theorem q_code_X2_begin : Cond.code yX2_begin cX2_begin 1 none ∈ TT := tt_mem (i := 466) (by decide +kernel) (by decide +kernel)
theorem q_ml_X4_144 : Cond.methodLink RX4 144 yX3_readCommand ∈ TT := tt_mem (i := 467) (by decide +kernel) (by decide +kernel)
theorem q_ins_X3_readCommand : Cond.instanceMethod yX3_readCommand ∈ TT := tt_mem (i := 468) (by decide +kernel) (by decide +kernel)
theorem q_sel_X3_readCommand : Cond.selects RX3 yX3_readCommand yX3_readCommand ∈ TT := tt_mem (i := 469) (by decide +kernel) (by decide +kernel)
theorem q_code_X3_readCommand : Cond.code yX3_readCommand cX3_readCommand 1 (some .boolean) ∈ TT := tt_mem (i := 470) (by decide +kernel) (by decide +kernel)
theorem q_ml_X3_19 : Cond.methodLink RX3 19 yX3_signAhead ∈ TT := tt_mem (i := 471) (by decide +kernel) (by decide +kernel)
theorem q_ins_X3_signAhead : Cond.instanceMethod yX3_signAhead ∈ TT := tt_mem (i := 472) (by decide +kernel) (by decide +kernel)
theorem q_sel_X3_signAhead : Cond.selects RX3 yX3_signAhead yX3_signAhead ∈ TT := tt_mem (i := 473) (by decide +kernel) (by decide +kernel)
theorem q_code_X3_signAhead : Cond.code yX3_signAhead cX3_signAhead 1 (some .int) ∈ TT := tt_mem (i := 474) (by decide +kernel) (by decide +kernel)
theorem q_ml_X3_35 : Cond.methodLink RX3 35 yX3_readNumber ∈ TT := tt_mem (i := 475) (by decide +kernel) (by decide +kernel)
theorem q_ins_X3_readNumber : Cond.instanceMethod yX3_readNumber ∈ TT := tt_mem (i := 476) (by decide +kernel) (by decide +kernel)
theorem q_sel_X3_readNumber : Cond.selects RX3 yX3_readNumber yX3_readNumber ∈ TT := tt_mem (i := 477) (by decide +kernel) (by decide +kernel)
theorem q_code_X3_readNumber : Cond.code yX3_readNumber cX3_readNumber 4 (some .int) ∈ TT := tt_mem (i := 478) (by decide +kernel) (by decide +kernel)
theorem q_ml_X3_42 : Cond.methodLink RX3 42 Lib.Math.max.name ∈ TT := tt_mem (i := 479) (by decide +kernel) (by decide +kernel)
theorem q_ml_X3_38 : Cond.methodLink RX3 38 yX3_passes ∈ TT := tt_mem (i := 480) (by decide +kernel) (by decide +kernel)
theorem q_ins_X3_passes : Cond.instanceMethod yX3_passes ∈ TT := tt_mem (i := 481) (by decide +kernel) (by decide +kernel)
theorem q_sel_X3_passes : Cond.selects RX3 yX3_passes yX3_passes ∈ TT := tt_mem (i := 482) (by decide +kernel) (by decide +kernel)
theorem q_code_X3_passes : Cond.code yX3_passes cX3_passes 2 (some .boolean) ∈ TT := tt_mem (i := 483) (by decide +kernel) (by decide +kernel)
theorem q_ml_X4_148 : Cond.methodLink RX4 148 yX4_commandOnTrial ∈ TT := tt_mem (i := 484) (by decide +kernel) (by decide +kernel)
theorem q_ins_X4_commandOnTrial : Cond.instanceMethod yX4_commandOnTrial ∈ TT := tt_mem (i := 486) (by decide +kernel) (by decide +kernel)
theorem q_code_X4_commandOnTrial : Cond.code yX4_commandOnTrial cX4_commandOnTrial 1 (some .int) ∈ TT := tt_mem (i := 487) (by decide +kernel) (by decide +kernel)
theorem q_ml_X4_151 : Cond.methodLink RX4 151 yX2_isStoppedBy ∈ TT := tt_mem (i := 488) (by decide +kernel) (by decide +kernel)
theorem q_ins_X2_isStoppedBy : Cond.instanceMethod yX2_isStoppedBy ∈ TT := tt_mem (i := 489) (by decide +kernel) (by decide +kernel)
theorem q_sel_X2_isStoppedBy : Cond.selects RX2 yX2_isStoppedBy yX2_isStoppedBy ∈ TT := tt_mem (i := 490) (by decide +kernel) (by decide +kernel)
theorem q_code_X2_isStoppedBy : Cond.code yX2_isStoppedBy cX2_isStoppedBy 2 (some .boolean) ∈ TT := tt_mem (i := 491) (by decide +kernel) (by decide +kernel)
theorem q_ml_L_92 : Cond.methodLink RL 92 yX4_play ∈ TT := tt_mem (i := 492) (by decide +kernel) (by decide +kernel)
theorem q_ins_X4_play : Cond.instanceMethod yX4_play ∈ TT := tt_mem (i := 493) (by decide +kernel) (by decide +kernel)
theorem q_sel_X4_play : Cond.selects RX4 yX4_play yX4_play ∈ TT := tt_mem (i := 494) (by decide +kernel) (by decide +kernel)
theorem q_code_X4_play : Cond.code yX4_play cX4_play 1 (some .int) ∈ TT := tt_mem (i := 495) (by decide +kernel) (by decide +kernel)
theorem q_cl_L_10 : Cond.classLink RL 10 RX5 ∈ TT := tt_mem (i := 496) (by decide +kernel) (by decide +kernel)
theorem q_new_X5 : Cond.instantiable RX5 13 ∈ TT := tt_mem (i := 497) (by decide +kernel) (by decide +kernel)
theorem q_ml_L_12 : Cond.methodLink RL 12 yX5_init ∈ TT := tt_mem (i := 498) (by decide +kernel) (by decide +kernel)
theorem q_ins_X5_init : Cond.instanceMethod yX5_init ∈ TT := tt_mem (i := 499) (by decide +kernel) (by decide +kernel)
theorem q_code_X5_init : Cond.code yX5_init cX5_init 1 none ∈ TT := tt_mem (i := 500) (by decide +kernel) (by decide +kernel)
theorem q_ml_X5_1 : Cond.methodLink RX5 1 objectInit ∈ TT := tt_mem (i := 501) (by decide +kernel) (by decide +kernel)
theorem q_fl_X5_7 : Cond.fieldLink RX5 7 (TX5 0).1 (TX5 0).2.1 (TX5 0).2.2.1 ∈ TT := tt_mem (i := 502) (by decide +kernel) (by decide +kernel)
theorem q_fl_X5_13 : Cond.fieldLink RX5 13 (TX5 1).1 (TX5 1).2.1 (TX5 1).2.2.1 ∈ TT := tt_mem (i := 503) (by decide +kernel) (by decide +kernel)
theorem q_fl_X5_16 : Cond.fieldLink RX5 16 (TX5 2).1 (TX5 2).2.1 (TX5 2).2.2.1 ∈ TT := tt_mem (i := 504) (by decide +kernel) (by decide +kernel)
theorem q_fl_X5_35 : Cond.fieldLink RX5 35 (TX5 3).1 (TX5 3).2.1 (TX5 3).2.2.1 ∈ TT := tt_mem (i := 505) (by decide +kernel) (by decide +kernel)
theorem q_fl_X5_31 : Cond.fieldLink RX5 31 (TX5 4).1 (TX5 4).2.1 (TX5 4).2.2.1 ∈ TT := tt_mem (i := 506) (by decide +kernel) (by decide +kernel)
theorem q_fl_X5_19 : Cond.fieldLink RX5 19 (TX5 5).1 (TX5 5).2.1 (TX5 5).2.2.1 ∈ TT := tt_mem (i := 507) (by decide +kernel) (by decide +kernel)
theorem q_fl_X5_89 : Cond.fieldLink RX5 89 (TX5 6).1 (TX5 6).2.1 (TX5 6).2.2.1 ∈ TT := tt_mem (i := 508) (by decide +kernel) (by decide +kernel)
theorem q_fl_X5_22 : Cond.fieldLink RX5 22 (TX5 7).1 (TX5 7).2.1 (TX5 7).2.2.1 ∈ TT := tt_mem (i := 509) (by decide +kernel) (by decide +kernel)
theorem q_fl_X5_106 : Cond.fieldLink RX5 106 (TX5 8).1 (TX5 8).2.1 (TX5 8).2.2.1 ∈ TT := tt_mem (i := 510) (by decide +kernel) (by decide +kernel)
theorem q_fl_X5_140 : Cond.fieldLink RX5 140 (TX5 9).1 (TX5 9).2.1 (TX5 9).2.2.1 ∈ TT := tt_mem (i := 511) (by decide +kernel) (by decide +kernel)
theorem q_fl_X5_131 : Cond.fieldLink RX5 131 (TX5 10).1 (TX5 10).2.1 (TX5 10).2.2.1 ∈ TT := tt_mem (i := 512) (by decide +kernel) (by decide +kernel)
theorem q_fl_X5_25 : Cond.fieldLink RX5 25 (TX5 11).1 (TX5 11).2.1 (TX5 11).2.2.1 ∈ TT := tt_mem (i := 513) (by decide +kernel) (by decide +kernel)
theorem q_fl_X5_28 : Cond.fieldLink RX5 28 (TX5 12).1 (TX5 12).2.1 (TX5 12).2.2.1 ∈ TT := tt_mem (i := 514) (by decide +kernel) (by decide +kernel)
theorem q_ml_L_17 : Cond.methodLink RL 17 yX5_member ∈ TT := tt_mem (i := 542) (by decide +kernel) (by decide +kernel)
theorem q_ins_X5_member : Cond.instanceMethod yX5_member ∈ TT := tt_mem (i := 543) (by decide +kernel) (by decide +kernel)
theorem q_sel_X5_member : Cond.selects RX5 yX5_member yX5_member ∈ TT := tt_mem (i := 544) (by decide +kernel) (by decide +kernel)
theorem q_code_X5_member : Cond.code yX5_member cX5_member 4 (some .int) ∈ TT := tt_mem (i := 545) (by decide +kernel) (by decide +kernel)
theorem q_ml_X5_53 : Cond.methodLink RX5 53 yX5_in ∈ TT := tt_mem (i := 546) (by decide +kernel) (by decide +kernel)
theorem q_sta_X5_in : Cond.static yX5_in ∈ TT := tt_mem (i := 547) (by decide +kernel) (by decide +kernel)
theorem q_code_X5_in : Cond.code yX5_in cX5_in 3 (some .boolean) ∈ TT := tt_mem (i := 548) (by decide +kernel) (by decide +kernel)
theorem q_ml_X5_57 : Cond.methodLink RX5 57 yX5_changes ∈ TT := tt_mem (i := 549) (by decide +kernel) (by decide +kernel)
theorem q_ins_X5_changes : Cond.instanceMethod yX5_changes ∈ TT := tt_mem (i := 551) (by decide +kernel) (by decide +kernel)
theorem q_code_X5_changes : Cond.code yX5_changes cX5_changes 2 none ∈ TT := tt_mem (i := 552) (by decide +kernel) (by decide +kernel)
theorem q_ml_X5_60 : Cond.methodLink RX5 60 yX5_puts ∈ TT := tt_mem (i := 553) (by decide +kernel) (by decide +kernel)
theorem q_ins_X5_puts : Cond.instanceMethod yX5_puts ∈ TT := tt_mem (i := 555) (by decide +kernel) (by decide +kernel)
theorem q_code_X5_puts : Cond.code yX5_puts cX5_puts 4 none ∈ TT := tt_mem (i := 556) (by decide +kernel) (by decide +kernel)
theorem q_ml_L_22 : Cond.methodLink RL 22 yX5_use ∈ TT := tt_mem (i := 557) (by decide +kernel) (by decide +kernel)
theorem q_ins_X5_use : Cond.instanceMethod yX5_use ∈ TT := tt_mem (i := 558) (by decide +kernel) (by decide +kernel)
theorem q_sel_X5_use : Cond.selects RX5 yX5_use yX5_use ∈ TT := tt_mem (i := 559) (by decide +kernel) (by decide +kernel)
theorem q_code_X5_use : Cond.code yX5_use cX5_use 3 (some .int) ∈ TT := tt_mem (i := 560) (by decide +kernel) (by decide +kernel)
theorem q_ml_X5_64 : Cond.methodLink RX5 64 yX5_isMember ∈ TT := tt_mem (i := 561) (by decide +kernel) (by decide +kernel)
theorem q_ins_X5_isMember : Cond.instanceMethod yX5_isMember ∈ TT := tt_mem (i := 563) (by decide +kernel) (by decide +kernel)
theorem q_code_X5_isMember : Cond.code yX5_isMember cX5_isMember 2 (some .boolean) ∈ TT := tt_mem (i := 564) (by decide +kernel) (by decide +kernel)
theorem q_ml_X5_39 : Cond.methodLink RX5 39 yX5_of ∈ TT := tt_mem (i := 565) (by decide +kernel) (by decide +kernel)
theorem q_ins_X5_of : Cond.instanceMethod yX5_of ∈ TT := tt_mem (i := 567) (by decide +kernel) (by decide +kernel)
theorem q_code_X5_of : Cond.code yX5_of cX5_of 3 (some .int) ∈ TT := tt_mem (i := 568) (by decide +kernel) (by decide +kernel)
theorem q_ml_X5_68 : Cond.methodLink RX5 68 yX5_chargeFor ∈ TT := tt_mem (i := 569) (by decide +kernel) (by decide +kernel)
theorem q_ins_X5_chargeFor : Cond.instanceMethod yX5_chargeFor ∈ TT := tt_mem (i := 571) (by decide +kernel) (by decide +kernel)
theorem q_code_X5_chargeFor : Cond.code yX5_chargeFor cX5_chargeFor 4 (some .int) ∈ TT := tt_mem (i := 572) (by decide +kernel) (by decide +kernel)
theorem q_ml_X5_47 : Cond.methodLink RX5 47 yX5_ahead ∈ TT := tt_mem (i := 573) (by decide +kernel) (by decide +kernel)
theorem q_ins_X5_ahead : Cond.instanceMethod yX5_ahead ∈ TT := tt_mem (i := 575) (by decide +kernel) (by decide +kernel)
theorem q_code_X5_ahead : Cond.code yX5_ahead cX5_ahead 4 (some .int) ∈ TT := tt_mem (i := 576) (by decide +kernel) (by decide +kernel)
theorem q_ml_X5_43 : Cond.methodLink RX5 43 yX5_placeOf ∈ TT := tt_mem (i := 577) (by decide +kernel) (by decide +kernel)
theorem q_ins_X5_placeOf : Cond.instanceMethod yX5_placeOf ∈ TT := tt_mem (i := 579) (by decide +kernel) (by decide +kernel)
theorem q_code_X5_placeOf : Cond.code yX5_placeOf cX5_placeOf 2 (some .int) ∈ TT := tt_mem (i := 580) (by decide +kernel) (by decide +kernel)
theorem q_ml_X5_50 : Cond.methodLink RX5 50 yX5_damage ∈ TT := tt_mem (i := 581) (by decide +kernel) (by decide +kernel)
theorem q_ins_X5_damage : Cond.instanceMethod yX5_damage ∈ TT := tt_mem (i := 583) (by decide +kernel) (by decide +kernel)
theorem q_code_X5_damage : Cond.code yX5_damage cX5_damage 2 (some .int) ∈ TT := tt_mem (i := 584) (by decide +kernel) (by decide +kernel)
theorem q_ml_L_27 : Cond.methodLink RL 27 yX5_close ∈ TT := tt_mem (i := 585) (by decide +kernel) (by decide +kernel)
theorem q_ins_X5_close : Cond.instanceMethod yX5_close ∈ TT := tt_mem (i := 586) (by decide +kernel) (by decide +kernel)
theorem q_sel_X5_close : Cond.selects RX5 yX5_close yX5_close ∈ TT := tt_mem (i := 587) (by decide +kernel) (by decide +kernel)
theorem q_code_X5_close : Cond.code yX5_close cX5_close 1 (some .int) ∈ TT := tt_mem (i := 588) (by decide +kernel) (by decide +kernel)
theorem q_ml_X5_86 : Cond.methodLink RX5 86 yX5_ends ∈ TT := tt_mem (i := 589) (by decide +kernel) (by decide +kernel)
theorem q_ins_X5_ends : Cond.instanceMethod yX5_ends ∈ TT := tt_mem (i := 591) (by decide +kernel) (by decide +kernel)
theorem q_code_X5_ends : Cond.code yX5_ends cX5_ends 5 (some .int) ∈ TT := tt_mem (i := 592) (by decide +kernel) (by decide +kernel)
theorem q_ml_X5_71 : Cond.methodLink RX5 71 yX5_sum ∈ TT := tt_mem (i := 593) (by decide +kernel) (by decide +kernel)
theorem q_ins_X5_sum : Cond.instanceMethod yX5_sum ∈ TT := tt_mem (i := 595) (by decide +kernel) (by decide +kernel)
theorem q_code_X5_sum : Cond.code yX5_sum cX5_sum 4 (some .int) ∈ TT := tt_mem (i := 596) (by decide +kernel) (by decide +kernel)
theorem q_ml_X5_74 : Cond.methodLink RX5 74 yX5_outSet ∈ TT := tt_mem (i := 597) (by decide +kernel) (by decide +kernel)
theorem q_ins_X5_outSet : Cond.instanceMethod yX5_outSet ∈ TT := tt_mem (i := 599) (by decide +kernel) (by decide +kernel)
theorem q_code_X5_outSet : Cond.code yX5_outSet cX5_outSet 3 (some .int) ∈ TT := tt_mem (i := 600) (by decide +kernel) (by decide +kernel)
theorem q_ml_X5_78 : Cond.methodLink RX5 78 yX5_keeps ∈ TT := tt_mem (i := 601) (by decide +kernel) (by decide +kernel)
theorem q_ins_X5_keeps : Cond.instanceMethod yX5_keeps ∈ TT := tt_mem (i := 603) (by decide +kernel) (by decide +kernel)
theorem q_code_X5_keeps : Cond.code yX5_keeps cX5_keeps 6 none ∈ TT := tt_mem (i := 604) (by decide +kernel) (by decide +kernel)
theorem q_ml_X5_82 : Cond.methodLink RX5 82 yX5_excludes ∈ TT := tt_mem (i := 605) (by decide +kernel) (by decide +kernel)
theorem q_ins_X5_excludes : Cond.instanceMethod yX5_excludes ∈ TT := tt_mem (i := 607) (by decide +kernel) (by decide +kernel)
theorem q_code_X5_excludes : Cond.code yX5_excludes cX5_excludes 8 none ∈ TT := tt_mem (i := 608) (by decide +kernel) (by decide +kernel)
theorem q_ml_L_31 : Cond.methodLink RL 31 yX5_pay ∈ TT := tt_mem (i := 609) (by decide +kernel) (by decide +kernel)
theorem q_ins_X5_pay : Cond.instanceMethod yX5_pay ∈ TT := tt_mem (i := 610) (by decide +kernel) (by decide +kernel)
theorem q_sel_X5_pay : Cond.selects RX5 yX5_pay yX5_pay ∈ TT := tt_mem (i := 611) (by decide +kernel) (by decide +kernel)
theorem q_code_X5_pay : Cond.code yX5_pay cX5_pay 3 (some .int) ∈ TT := tt_mem (i := 612) (by decide +kernel) (by decide +kernel)
theorem q_ml_L_35 : Cond.methodLink RL 35 yX5_repair ∈ TT := tt_mem (i := 613) (by decide +kernel) (by decide +kernel)
theorem q_ins_X5_repair : Cond.instanceMethod yX5_repair ∈ TT := tt_mem (i := 614) (by decide +kernel) (by decide +kernel)
theorem q_sel_X5_repair : Cond.selects RX5 yX5_repair yX5_repair ∈ TT := tt_mem (i := 615) (by decide +kernel) (by decide +kernel)
theorem q_code_X5_repair : Cond.code yX5_repair cX5_repair 8 (some .int) ∈ TT := tt_mem (i := 616) (by decide +kernel) (by decide +kernel)
theorem q_ml_L_39 : Cond.methodLink RL 39 yX5_set ∈ TT := tt_mem (i := 617) (by decide +kernel) (by decide +kernel)
theorem q_ins_X5_set : Cond.instanceMethod yX5_set ∈ TT := tt_mem (i := 618) (by decide +kernel) (by decide +kernel)
theorem q_sel_X5_set : Cond.selects RX5 yX5_set yX5_set ∈ TT := tt_mem (i := 619) (by decide +kernel) (by decide +kernel)
theorem q_code_X5_set : Cond.code yX5_set cX5_set 6 (some .int) ∈ TT := tt_mem (i := 620) (by decide +kernel) (by decide +kernel)
theorem q_ml_L_43 : Cond.methodLink RL 43 yX5_memberOf ∈ TT := tt_mem (i := 621) (by decide +kernel) (by decide +kernel)
theorem q_ins_X5_memberOf : Cond.instanceMethod yX5_memberOf ∈ TT := tt_mem (i := 622) (by decide +kernel) (by decide +kernel)
theorem q_sel_X5_memberOf : Cond.selects RX5 yX5_memberOf yX5_memberOf ∈ TT := tt_mem (i := 623) (by decide +kernel) (by decide +kernel)
theorem q_code_X5_memberOf : Cond.code yX5_memberOf cX5_memberOf 3 (some .int) ∈ TT := tt_mem (i := 624) (by decide +kernel) (by decide +kernel)
theorem q_ml_L_47 : Cond.methodLink RL 47 yX5_count ∈ TT := tt_mem (i := 625) (by decide +kernel) (by decide +kernel)
theorem q_ins_X5_count : Cond.instanceMethod yX5_count ∈ TT := tt_mem (i := 626) (by decide +kernel) (by decide +kernel)
theorem q_sel_X5_count : Cond.selects RX5 yX5_count yX5_count ∈ TT := tt_mem (i := 627) (by decide +kernel) (by decide +kernel)
theorem q_code_X5_count : Cond.code yX5_count cX5_count 2 (some .int) ∈ TT := tt_mem (i := 628) (by decide +kernel) (by decide +kernel)
theorem q_ml_L_51 : Cond.methodLink RL 51 yX5_seasonOf ∈ TT := tt_mem (i := 629) (by decide +kernel) (by decide +kernel)
theorem q_ins_X5_seasonOf : Cond.instanceMethod yX5_seasonOf ∈ TT := tt_mem (i := 630) (by decide +kernel) (by decide +kernel)
theorem q_sel_X5_seasonOf : Cond.selects RX5 yX5_seasonOf yX5_seasonOf ∈ TT := tt_mem (i := 631) (by decide +kernel) (by decide +kernel)
theorem q_code_X5_seasonOf : Cond.code yX5_seasonOf cX5_seasonOf 3 (some .int) ∈ TT := tt_mem (i := 632) (by decide +kernel) (by decide +kernel)
theorem q_ml_L_55 : Cond.methodLink RL 55 yX5_gain ∈ TT := tt_mem (i := 633) (by decide +kernel) (by decide +kernel)
theorem q_ins_X5_gain : Cond.instanceMethod yX5_gain ∈ TT := tt_mem (i := 634) (by decide +kernel) (by decide +kernel)
theorem q_sel_X5_gain : Cond.selects RX5 yX5_gain yX5_gain ∈ TT := tt_mem (i := 635) (by decide +kernel) (by decide +kernel)
theorem q_code_X5_gain : Cond.code yX5_gain cX5_gain 3 (some .int) ∈ TT := tt_mem (i := 636) (by decide +kernel) (by decide +kernel)
theorem q_ml_X5_92 : Cond.methodLink RX5 92 yX5_gainFor ∈ TT := tt_mem (i := 637) (by decide +kernel) (by decide +kernel)
theorem q_ins_X5_gainFor : Cond.instanceMethod yX5_gainFor ∈ TT := tt_mem (i := 639) (by decide +kernel) (by decide +kernel)
theorem q_code_X5_gainFor : Cond.code yX5_gainFor cX5_gainFor 3 (some .int) ∈ TT := tt_mem (i := 640) (by decide +kernel) (by decide +kernel)
theorem q_ml_L_59 : Cond.methodLink RL 59 yX5_bestUse ∈ TT := tt_mem (i := 641) (by decide +kernel) (by decide +kernel)
theorem q_ins_X5_bestUse : Cond.instanceMethod yX5_bestUse ∈ TT := tt_mem (i := 642) (by decide +kernel) (by decide +kernel)
theorem q_sel_X5_bestUse : Cond.selects RX5 yX5_bestUse yX5_bestUse ∈ TT := tt_mem (i := 643) (by decide +kernel) (by decide +kernel)
theorem q_code_X5_bestUse : Cond.code yX5_bestUse cX5_bestUse 2 (some .int) ∈ TT := tt_mem (i := 644) (by decide +kernel) (by decide +kernel)
theorem q_ml_X5_95 : Cond.methodLink RX5 95 yX5_best ∈ TT := tt_mem (i := 645) (by decide +kernel) (by decide +kernel)
theorem q_ins_X5_best : Cond.instanceMethod yX5_best ∈ TT := tt_mem (i := 647) (by decide +kernel) (by decide +kernel)
theorem q_code_X5_best : Cond.code yX5_best cX5_best 4 (some .int) ∈ TT := tt_mem (i := 648) (by decide +kernel) (by decide +kernel)
theorem q_ml_L_63 : Cond.methodLink RL 63 yX5_calm ∈ TT := tt_mem (i := 649) (by decide +kernel) (by decide +kernel)
theorem q_ins_X5_calm : Cond.instanceMethod yX5_calm ∈ TT := tt_mem (i := 650) (by decide +kernel) (by decide +kernel)
theorem q_sel_X5_calm : Cond.selects RX5 yX5_calm yX5_calm ∈ TT := tt_mem (i := 651) (by decide +kernel) (by decide +kernel)
theorem q_code_X5_calm : Cond.code yX5_calm cX5_calm 5 (some .int) ∈ TT := tt_mem (i := 652) (by decide +kernel) (by decide +kernel)
theorem q_ml_X5_98 : Cond.methodLink RX5 98 yX5_copies ∈ TT := tt_mem (i := 653) (by decide +kernel) (by decide +kernel)
theorem q_sta_X5_copies : Cond.static yX5_copies ∈ TT := tt_mem (i := 654) (by decide +kernel) (by decide +kernel)
theorem q_code_X5_copies : Cond.code yX5_copies cX5_copies 3 none ∈ TT := tt_mem (i := 655) (by decide +kernel) (by decide +kernel)
theorem q_ml_X5_102 : Cond.methodLink RX5 102 yX5_turns ∈ TT := tt_mem (i := 656) (by decide +kernel) (by decide +kernel)
theorem q_ins_X5_turns : Cond.instanceMethod yX5_turns ∈ TT := tt_mem (i := 658) (by decide +kernel) (by decide +kernel)
theorem q_code_X5_turns : Cond.code yX5_turns cX5_turns 4 (some .boolean) ∈ TT := tt_mem (i := 659) (by decide +kernel) (by decide +kernel)
theorem q_ml_L_67 : Cond.methodLink RL 67 yX5_bestForAll ∈ TT := tt_mem (i := 660) (by decide +kernel) (by decide +kernel)
theorem q_ins_X5_bestForAll : Cond.instanceMethod yX5_bestForAll ∈ TT := tt_mem (i := 661) (by decide +kernel) (by decide +kernel)
theorem q_sel_X5_bestForAll : Cond.selects RX5 yX5_bestForAll yX5_bestForAll ∈ TT := tt_mem (i := 662) (by decide +kernel) (by decide +kernel)
theorem q_code_X5_bestForAll : Cond.code yX5_bestForAll cX5_bestForAll 9 (some .int) ∈ TT := tt_mem (i := 663) (by decide +kernel) (by decide +kernel)
theorem q_ml_L_71 : Cond.methodLink RL 71 yX5_wouldExclude ∈ TT := tt_mem (i := 664) (by decide +kernel) (by decide +kernel)
theorem q_ins_X5_wouldExclude : Cond.instanceMethod yX5_wouldExclude ∈ TT := tt_mem (i := 665) (by decide +kernel) (by decide +kernel)
theorem q_sel_X5_wouldExclude : Cond.selects RX5 yX5_wouldExclude yX5_wouldExclude ∈ TT := tt_mem (i := 666) (by decide +kernel) (by decide +kernel)
theorem q_code_X5_wouldExclude : Cond.code yX5_wouldExclude cX5_wouldExclude 2 (some .int) ∈ TT := tt_mem (i := 667) (by decide +kernel) (by decide +kernel)
theorem q_ml_L_75 : Cond.methodLink RL 75 yX5_canRepair ∈ TT := tt_mem (i := 668) (by decide +kernel) (by decide +kernel)
theorem q_ins_X5_canRepair : Cond.instanceMethod yX5_canRepair ∈ TT := tt_mem (i := 669) (by decide +kernel) (by decide +kernel)
theorem q_sel_X5_canRepair : Cond.selects RX5 yX5_canRepair yX5_canRepair ∈ TT := tt_mem (i := 670) (by decide +kernel) (by decide +kernel)
theorem q_code_X5_canRepair : Cond.code yX5_canRepair cX5_canRepair 2 (some .int) ∈ TT := tt_mem (i := 671) (by decide +kernel) (by decide +kernel)
theorem q_ml_L_79 : Cond.methodLink RL 79 yX5_undo ∈ TT := tt_mem (i := 672) (by decide +kernel) (by decide +kernel)
theorem q_ins_X5_undo : Cond.instanceMethod yX5_undo ∈ TT := tt_mem (i := 673) (by decide +kernel) (by decide +kernel)
theorem q_sel_X5_undo : Cond.selects RX5 yX5_undo yX5_undo ∈ TT := tt_mem (i := 674) (by decide +kernel) (by decide +kernel)
theorem q_code_X5_undo : Cond.code yX5_undo cX5_undo 2 (some .int) ∈ TT := tt_mem (i := 675) (by decide +kernel) (by decide +kernel)
theorem q_ml_L_83 : Cond.methodLink RL 83 yX5_type ∈ TT := tt_mem (i := 676) (by decide +kernel) (by decide +kernel)
theorem q_ins_X5_type : Cond.instanceMethod yX5_type ∈ TT := tt_mem (i := 677) (by decide +kernel) (by decide +kernel)
theorem q_sel_X5_type : Cond.selects RX5 yX5_type yX5_type ∈ TT := tt_mem (i := 678) (by decide +kernel) (by decide +kernel)
theorem q_code_X5_type : Cond.code yX5_type cX5_type 2 (some .int) ∈ TT := tt_mem (i := 679) (by decide +kernel) (by decide +kernel)
theorem q_ml_L_87 : Cond.methodLink RL 87 yX5_clearText ∈ TT := tt_mem (i := 680) (by decide +kernel) (by decide +kernel)
theorem q_ins_X5_clearText : Cond.instanceMethod yX5_clearText ∈ TT := tt_mem (i := 681) (by decide +kernel) (by decide +kernel)
theorem q_sel_X5_clearText : Cond.selects RX5 yX5_clearText yX5_clearText ∈ TT := tt_mem (i := 682) (by decide +kernel) (by decide +kernel)
theorem q_code_X5_clearText : Cond.code yX5_clearText cX5_clearText 2 (some .int) ∈ TT := tt_mem (i := 683) (by decide +kernel) (by decide +kernel)
theorem q_ml_L_91 : Cond.methodLink RL 91 yX5_fault ∈ TT := tt_mem (i := 684) (by decide +kernel) (by decide +kernel)
theorem q_ins_X5_fault : Cond.instanceMethod yX5_fault ∈ TT := tt_mem (i := 685) (by decide +kernel) (by decide +kernel)
theorem q_sel_X5_fault : Cond.selects RX5 yX5_fault yX5_fault ∈ TT := tt_mem (i := 686) (by decide +kernel) (by decide +kernel)
theorem q_code_X5_fault : Cond.code yX5_fault cX5_fault 3 (some .int) ∈ TT := tt_mem (i := 687) (by decide +kernel) (by decide +kernel)
theorem q_ml_X5_143 : Cond.methodLink RX5 143 yX5_plays ∈ TT := tt_mem (i := 688) (by decide +kernel) (by decide +kernel)
theorem q_ins_X5_plays : Cond.instanceMethod yX5_plays ∈ TT := tt_mem (i := 690) (by decide +kernel) (by decide +kernel)
theorem q_code_X5_plays : Cond.code yX5_plays cX5_plays 5 (some .int) ∈ TT := tt_mem (i := 691) (by decide +kernel) (by decide +kernel)
theorem q_ml_X5_134 : Cond.methodLink RX5 134 yX5_isForm ∈ TT := tt_mem (i := 692) (by decide +kernel) (by decide +kernel)
theorem q_ins_X5_isForm : Cond.instanceMethod yX5_isForm ∈ TT := tt_mem (i := 694) (by decide +kernel) (by decide +kernel)
theorem q_code_X5_isForm : Cond.code yX5_isForm cX5_isForm 3 (some .boolean) ∈ TT := tt_mem (i := 695) (by decide +kernel) (by decide +kernel)
theorem q_ml_X5_109 : Cond.methodLink RX5 109 yX5_isAt ∈ TT := tt_mem (i := 696) (by decide +kernel) (by decide +kernel)
theorem q_ins_X5_isAt : Cond.instanceMethod yX5_isAt ∈ TT := tt_mem (i := 698) (by decide +kernel) (by decide +kernel)
theorem q_code_X5_isAt : Cond.code yX5_isAt cX5_isAt 3 (some .boolean) ∈ TT := tt_mem (i := 699) (by decide +kernel) (by decide +kernel)
theorem q_ml_X5_113 : Cond.methodLink RX5 113 yX5_number ∈ TT := tt_mem (i := 700) (by decide +kernel) (by decide +kernel)
theorem q_ins_X5_number : Cond.instanceMethod yX5_number ∈ TT := tt_mem (i := 702) (by decide +kernel) (by decide +kernel)
theorem q_code_X5_number : Cond.code yX5_number cX5_number 5 (some .boolean) ∈ TT := tt_mem (i := 703) (by decide +kernel) (by decide +kernel)
theorem q_ml_X5_137 : Cond.methodLink RX5 137 yX5_calls ∈ TT := tt_mem (i := 704) (by decide +kernel) (by decide +kernel)
theorem q_ins_X5_calls : Cond.instanceMethod yX5_calls ∈ TT := tt_mem (i := 706) (by decide +kernel) (by decide +kernel)
theorem q_code_X5_calls : Cond.code yX5_calls cX5_calls 2 (some .int) ∈ TT := tt_mem (i := 707) (by decide +kernel) (by decide +kernel)
theorem q_ml_X5_116 : Cond.methodLink RX5 116 yX5_member ∈ TT := tt_mem (i := 708) (by decide +kernel) (by decide +kernel)
theorem q_ml_X5_119 : Cond.methodLink RX5 119 yX5_use ∈ TT := tt_mem (i := 709) (by decide +kernel) (by decide +kernel)
theorem q_ml_X5_122 : Cond.methodLink RX5 122 yX5_close ∈ TT := tt_mem (i := 710) (by decide +kernel) (by decide +kernel)
theorem q_ml_X5_125 : Cond.methodLink RX5 125 yX5_pay ∈ TT := tt_mem (i := 711) (by decide +kernel) (by decide +kernel)
theorem q_ml_X5_128 : Cond.methodLink RX5 128 yX5_repair ∈ TT := tt_mem (i := 712) (by decide +kernel) (by decide +kernel)
theorem q_ml_L_95 : Cond.methodLink RL 95 yX5_play ∈ TT := tt_mem (i := 713) (by decide +kernel) (by decide +kernel)
theorem q_ins_X5_play : Cond.instanceMethod yX5_play ∈ TT := tt_mem (i := 714) (by decide +kernel) (by decide +kernel)
theorem q_sel_X5_play : Cond.selects RX5 yX5_play yX5_play ∈ TT := tt_mem (i := 715) (by decide +kernel) (by decide +kernel)
theorem q_code_X5_play : Cond.code yX5_play cX5_play 2 (some .int) ∈ TT := tt_mem (i := 716) (by decide +kernel) (by decide +kernel)
theorem q_sel_X4_keptIfDone : Cond.selects RX4 yX4_keptIfDone yX4_keptIfDone ∈ TT := tt_mem (i := 0) (by decide +kernel) (by decide +kernel)
theorem q_sel_X4_rehearse : Cond.selects RX4 yX4_rehearse yX4_rehearse ∈ TT := tt_mem (i := 1) (by decide +kernel) (by decide +kernel)
theorem q_sel_X4_commandOnTrial : Cond.selects RX4 yX4_commandOnTrial yX4_commandOnTrial ∈ TT := tt_mem (i := 2) (by decide +kernel) (by decide +kernel)
theorem q_sel_X5_changes : Cond.selects RX5 yX5_changes yX5_changes ∈ TT := tt_mem (i := 3) (by decide +kernel) (by decide +kernel)
theorem q_sel_X5_puts : Cond.selects RX5 yX5_puts yX5_puts ∈ TT := tt_mem (i := 4) (by decide +kernel) (by decide +kernel)
theorem q_sel_X5_isMember : Cond.selects RX5 yX5_isMember yX5_isMember ∈ TT := tt_mem (i := 5) (by decide +kernel) (by decide +kernel)
theorem q_sel_X5_of : Cond.selects RX5 yX5_of yX5_of ∈ TT := tt_mem (i := 6) (by decide +kernel) (by decide +kernel)
theorem q_sel_X5_chargeFor : Cond.selects RX5 yX5_chargeFor yX5_chargeFor ∈ TT := tt_mem (i := 7) (by decide +kernel) (by decide +kernel)
theorem q_sel_X5_ahead : Cond.selects RX5 yX5_ahead yX5_ahead ∈ TT := tt_mem (i := 8) (by decide +kernel) (by decide +kernel)
theorem q_sel_X5_placeOf : Cond.selects RX5 yX5_placeOf yX5_placeOf ∈ TT := tt_mem (i := 9) (by decide +kernel) (by decide +kernel)
theorem q_sel_X5_damage : Cond.selects RX5 yX5_damage yX5_damage ∈ TT := tt_mem (i := 10) (by decide +kernel) (by decide +kernel)
theorem q_sel_X5_ends : Cond.selects RX5 yX5_ends yX5_ends ∈ TT := tt_mem (i := 11) (by decide +kernel) (by decide +kernel)
theorem q_sel_X5_sum : Cond.selects RX5 yX5_sum yX5_sum ∈ TT := tt_mem (i := 12) (by decide +kernel) (by decide +kernel)
theorem q_sel_X5_outSet : Cond.selects RX5 yX5_outSet yX5_outSet ∈ TT := tt_mem (i := 13) (by decide +kernel) (by decide +kernel)
theorem q_sel_X5_keeps : Cond.selects RX5 yX5_keeps yX5_keeps ∈ TT := tt_mem (i := 14) (by decide +kernel) (by decide +kernel)
theorem q_sel_X5_excludes : Cond.selects RX5 yX5_excludes yX5_excludes ∈ TT := tt_mem (i := 15) (by decide +kernel) (by decide +kernel)
theorem q_sel_X5_gainFor : Cond.selects RX5 yX5_gainFor yX5_gainFor ∈ TT := tt_mem (i := 16) (by decide +kernel) (by decide +kernel)
theorem q_sel_X5_best : Cond.selects RX5 yX5_best yX5_best ∈ TT := tt_mem (i := 17) (by decide +kernel) (by decide +kernel)
theorem q_sel_X5_turns : Cond.selects RX5 yX5_turns yX5_turns ∈ TT := tt_mem (i := 18) (by decide +kernel) (by decide +kernel)
theorem q_sel_X5_plays : Cond.selects RX5 yX5_plays yX5_plays ∈ TT := tt_mem (i := 19) (by decide +kernel) (by decide +kernel)
theorem q_sel_X5_isForm : Cond.selects RX5 yX5_isForm yX5_isForm ∈ TT := tt_mem (i := 20) (by decide +kernel) (by decide +kernel)
theorem q_sel_X5_isAt : Cond.selects RX5 yX5_isAt yX5_isAt ∈ TT := tt_mem (i := 21) (by decide +kernel) (by decide +kernel)
theorem q_sel_X5_number : Cond.selects RX5 yX5_number yX5_number ∈ TT := tt_mem (i := 22) (by decide +kernel) (by decide +kernel)
theorem q_sel_X5_calls : Cond.selects RX5 yX5_calls yX5_calls ∈ TT := tt_mem (i := 23) (by decide +kernel) (by decide +kernel)
theorem inX0 : ∀ w ∈ u_ws RX0 TX0 17, w ∈ TT := by decide +kernel
theorem inX1 : ∀ w ∈ u_ws RX1 TX1 3, w ∈ TT := by decide +kernel
theorem inX2 : ∀ w ∈ u_ws RX2 TX2 4, w ∈ TT := by decide +kernel
theorem inX3 : ∀ w ∈ u_ws RX3 TX3 6, w ∈ TT := by decide +kernel
theorem inX4 : ∀ w ∈ u_ws RX4 TX4 5, w ∈ TT := by decide +kernel
theorem inX5 : ∀ w ∈ u_ws RX5 TX5 13, w ∈ TT := by decide +kernel
end
section
theorem zbmod {n : Int} (h1 : -2 ^ 31 ≤ n) (h2 : n < 2 ^ 31) : n.bmod (2 ^ 32) = n := by
  apply Int.bmod_eq_of_le <;> omega
theorem i32_rem2 (x y : Int32) : (x - x / y * y).toInt = x.toInt.tmod y.toInt := by
  have a := (x % y).toInt_lt
  have b := (x % y).le_toInt
  rw [Int32.toInt_mod] at a b
  rw [Int32.toInt_sub, Int32.toInt_mul, Int32.toInt_div, Int.bmod_mul_bmod, Int.sub_bmod_bmod, Int.mul_comm, ← Int.tmod_def]
  exact zbmod b a
theorem i32_remE (x y : Int32) : x - x / y * y = x % y := Int32.toInt_inj.mp (by rw [i32_rem2, Int32.toInt_mod])
/-- the words of a virtual call -/
def WV (own : String) (idx : Nat) (C : String) (z : MethodName) (bz : ByteArray) (nz : Nat) (rz : Option FieldType) (n : Nat) : Prop :=
  Cond.code z bz nz rz ∈ TT ∧ Cond.methodLink own idx z ∈ TT ∧ Cond.instanceMethod z ∈ TT ∧ Cond.selects C z z ∈ TT ∧ Cond.initialized C ∈ TT ∧ (z.cls = C ∧ z.cls ≠ "java/lang/invoke/MethodHandle" ∧ z.cls ≠ "java/lang/invoke/VarHandle" ∧ (parseMethodDescriptor z.desc).map (fun d => d.parameters.length) = some n)
theorem WV.good {own : String} {idx : Nat} {C : String} {z : MethodName} {bz : ByteArray} {nz : Nat} {rz : Option FieldType} {n : Nat} (h : WV own idx C z bz nz rz n) : GoodIn TT (wsV own idx C z (Cond.code z bz nz rz :: TT)) := by
  obtain ⟨h1, h2, h3, h4, h5, -⟩ := h
  refine goodIn_ap (tt_in (fun w hw => ?_)) (tt_code h1)
  simp only [List.mem_cons, List.not_mem_nil, or_false] at hw
  rcases hw with rfl | rfl | rfl | rfl <;> assumption
/-- the words of a static call -/
def WS (own : String) (idx : Nat) (z : MethodName) (bz : ByteArray) (nz : Nat) (rz : Option FieldType) (n : Nat) : Prop :=
  Cond.code z bz nz rz ∈ TT ∧ Cond.methodLink own idx z ∈ TT ∧ Cond.static z ∈ TT ∧ Cond.initialized z.cls ∈ TT ∧ (z.cls ≠ "java/lang/invoke/MethodHandle" ∧ z.cls ≠ "java/lang/invoke/VarHandle" ∧ (parseMethodDescriptor z.desc).map (fun d => d.parameters.length) = some n)
/-- the nest's links -/
def NK (U : State) : Prop := va_Nw (.methodLinkNest RX4 9 yX0_init RX4) U ∧ va_Nw (.methodLinkNest RX1 17 yX0_init RX4) U ∧ va_Nw (.methodLinkNest RX4 28 yX3_init RX4) U ∧ va_Nw (.methodLinkNest RX4 35 yX2_init RX4) U ∧ va_Nw (.methodLinkNest RX0 43 yX4_copyRow RX4) U ∧ va_Nw (.methodLinkNest RX0 90 yX4_isUnits RX4) U ∧ va_Nw (.methodLinkNest RX0 68 yX4_sumOf RX4) U ∧ va_Nw (.methodLinkNest RX0 114 yX4_quotient RX4) U ∧ va_Nw (.fieldLinkNest RX0 99 RX4 "SETTING_LEAST" "[I" RX4) U ∧ va_Nw (.fieldLinkNest RX0 102 RX4 "SETTING_MOST" "[I" RX4) U
theorem NK.warm {s U : State} (hW : s.WarmedH U.vm) (h : NK s) : NK U := by
  obtain ⟨h1, h2, h3, h4, h5, h6, h7, h8, h9, h10⟩ := h
  exact ⟨h1.warmM hW, h2.warmM hW, h3.warmM hW, h4.warmM hW, h5.warmM hW, h6.warmM hW, h7.warmM hW, h8.warmM hW, h9.warmF hW, h10.warmF hW⟩
theorem NK.same {s U : State} (e : s.vm = U.vm) (h : NK s) : NK U := by
  obtain ⟨h1, h2, h3, h4, h5, h6, h7, h8, h9, h10⟩ := h
  exact ⟨h1.same rfl e, h2.same rfl e, h3.same rfl e, h4.same rfl e, h5.same rfl e, h6.same rfl e, h7.same rfl e, h8.same rfl e, h9.same rfl e, h10.same rfl e⟩
abbrev tyl (cI cH cO : ClassId) : List (ClassId × FieldType) := [(cI, .int), (cH, .char), (cO, .object RX0)]
def ltv {α β : Type} (v : β) (f : β → α) : α := f v
def bnd {α σ : Type} (q : Int32 × σ) (f : Int32 → σ → α) : α := f q.1 q.2
abbrev Cst : Type := Nat → Nat → Int32
def up (C : Cst) (k i : Nat) (x : Int32) : Cst := fun k' => if k' = k then upd (C k) i x else C k'
/-! contracts: a start in a world, an end in a world -/
def PW (D : va_G) (tys : List (ClassId × FieldType)) (X : State → Prop) (av : List Value) (sz : Nat) (ws : va_W) : Array Value → State → Prop := va_Pc av (fun U => U.heap.size = sz ∧ va_P D vwCl ws U.heap ∧ va_K D vwCl tys U ∧ va_D (fun _ => True) ws ∧ NK U ∧ X U)
def QI (D : va_G) (tys : List (ClassId × FieldType)) (ws : va_W) (sz : Nat) (r : Int32) (ws' : va_W) : Array Value → State → Outcome → State → Prop := va_Qi (fun (x : Int32) (_ : Unit) => x = r) (fun _ t => va_P D vwCl ws' t.heap ∧ va_K D vwCl tys t ∧ va_D (va_A ws sz) ws') (va_A ws sz)
def QV (D : va_G) (tys : List (ClassId × FieldType)) (ws : va_W) (sz : Nat) (ws' : va_W) : Array Value → State → Outcome → State → Prop := va_Qv (fun (_ : Unit) => True) (fun _ t => va_P D vwCl ws' t.heap ∧ va_K D vwCl tys t ∧ va_D (va_A ws sz) ws') (va_A ws sz)
abbrev XT : State → Prop := fun _ => True
abbrev rml (k : Nat) : Room := ({ frames := k, cells := 0, slots := 0, locals := 40 * k })
abbrev MI (l : Launch) (z : MethodName) (bz : ByteArray) (nz : Nat) (rz : Option FieldType) (k : Nat) (D : va_G) (tys : List (ClassId × FieldType)) (av : List Value) (ws : va_W) (r : Int32) (ws' : va_W) : Prop := ∀ sz : Nat, Met l z (Cond.code z bz nz rz :: TT) (rml k) (PW D tys XT av sz ws) (QI D tys ws sz r ws') 0 0 (va_A ws sz)
abbrev MV (l : Launch) (z : MethodName) (bz : ByteArray) (nz : Nat) (k : Nat) (D : va_G) (tys : List (ClassId × FieldType)) (av : List Value) (ws : va_W) (ws' : va_W) : Prop := ∀ sz : Nat, Met l z (Cond.code z bz nz none :: TT) (rml k) (PW D tys XT av sz ws) (QV D tys ws sz ws') 0 0 (va_A ws sz)
theorem pw_blind {D : va_G} {tys : List (ClassId × FieldType)} {av : List Value} {sz : Nat} {ws : va_W} : FrameBlind (PW D tys XT av sz ws) := fun a U g mk q => by
  obtain ⟨q0, q1, qP, qK, qD, qN, qX⟩ := q
  exact ⟨q0, q1, qP, va_K.moved (u := U) (U := U.calling g mk a) (Vm.Alike.refl U.vm) qK, qD, qN.same rfl, trivial⟩
/-- the fixed facts of a walk -/
def CX (p : Program) (s : State) (m : MethodId) (args : Array Value) (meth : Method) (c : Code) (cc : ByteArray) (nL : Nat) (own : String) (ret : Option FieldType) (D : va_G) (tys : List (ClassId × FieldType)) (A : Nat → Prop) : Prop := CallFix p m c cc nL s args TT own ∧ va_K D vwCl tys s ∧ NK s ∧ meth.sig.returnType = ret ∧ meth.locks = false ∧ ∀ q, s.heap.size ≤ q → A q
/-- a walk at pc, with locals lv and stack st, in the world ws, to an end that Kf says of the answer sp -/
def J {α : Type} (p : Program) (l : Launch) (e : Env) (R : Room) (s : State) (m : MethodId) (args : Array Value) (below : List Frame) (meth : Method) (c : Code) (nL : Nat) (D : va_G) (A : Nat → Prop) (kc ks : Nat) (Kf : α → State → Prop) (sp : α) (ws : va_W) (pc : Nat) (lv : List (Nat × Value)) (st : List Value) : Prop :=
  ∀ (ls : Array Slot) (H : Heap) (locs : List Loc), lv_has ls nL lv → va_P D vwCl ws H → va_D A ws → va_S A s.heap H locs → W p l e R s m args below meth c H locs kc ks (Kf sp) (F0 m pc ls st)
section JK
variable {α σ : Type} {p : Program} {l : Launch} {e : Env} {R : Room} {s : State} {m : MethodId} {args : Array Value} {below : List Frame} {meth : Method} {c : Code} {nL : Nat} {D : va_G} {A : Nat → Prop} {kc ks : Nat} {Kf : α → State → Prop} {sp : α} {ws : va_W} {pc pc' : Nat} {lv lv' : List (Nat × Value)} {rest : List Value}
variable {cc : ByteArray} {own : String} {ret : Option FieldType} {cI cH cO : ClassId}
theorem j_lv (ks' : List Nat) (hl : lv_pick lv ks' = lv') (k : J p l e R s m args below meth c nL D A kc ks Kf sp ws pc lv' rest) : J p l e R s m args below meth c nL D A kc ks Kf sp ws pc lv rest := fun ls H locs h => k ls H locs (lv_sub h ks' hl)
theorem j_eq {sp' : α} (h : sp = sp') (k : J p l e R s m args below meth c nL D A kc ks Kf sp' ws pc lv rest) : J p l e R s m args below meth c nL D A kc ks Kf sp ws pc lv rest := h ▸ k
theorem j_ws {ws' : va_W} (h : ws = ws') (k : J p l e R s m args below meth c nL D A kc ks Kf sp ws' pc lv rest) : J p l e R s m args below meth c nL D A kc ks Kf sp ws pc lv rest := h ▸ k
theorem j_iconst (X : CX p s m args meth c cc nL own ret D (tyl cI cH cO) A) {n : Int} {v : Int32} (hdg : decode cc pc = .ok (.iconst n, 1)) (hv : Int32.ofInt n = v)  (hpc : pc + 1 = pc') (k : J p l e R s m args below meth c nL D A kc ks Kf sp ws pc' lv (.int v :: rest)) : J p l e R s m args below meth c nL D A kc ks Kf sp ws pc lv rest := by
  subst hpc
  intro ls H locs hl hP hD hS
  obtain ⟨⟨hx, hb, hml, hown, hts⟩, hK, hN, hr, hlk, hA⟩ := X
  exact lv_iconst hx hb hdg hv (k ls H locs hl hP hD hS)
theorem j_bipush (X : CX p s m args meth c cc nL own ret D (tyl cI cH cO) A) {n : Int} {v : Int32} (hdg : decode cc pc = .ok (.bipush n, 2)) (hv : (Int8.ofInt n).toInt32 = v)  (hpc : pc + 2 = pc') (k : J p l e R s m args below meth c nL D A kc ks Kf sp ws pc' lv (.int v :: rest)) : J p l e R s m args below meth c nL D A kc ks Kf sp ws pc lv rest := by
  subst hpc
  intro ls H locs hl hP hD hS
  obtain ⟨⟨hx, hb, hml, hown, hts⟩, hK, hN, hr, hlk, hA⟩ := X
  exact lv_bipush hx hb hdg hv (k ls H locs hl hP hD hS)
theorem j_sipush (X : CX p s m args meth c cc nL own ret D (tyl cI cH cO) A) {n : Int} {v : Int32} (hdg : decode cc pc = .ok (.sipush n, 3)) (hv : (Int16.ofInt n).toInt32 = v)  (hpc : pc + 3 = pc') (k : J p l e R s m args below meth c nL D A kc ks Kf sp ws pc' lv (.int v :: rest)) : J p l e R s m args below meth c nL D A kc ks Kf sp ws pc lv rest := by
  subst hpc
  intro ls H locs hl hP hD hS
  obtain ⟨⟨hx, hb, hml, hown, hts⟩, hK, hN, hr, hlk, hA⟩ := X
  exact lv_sipush hx hb hdg hv (k ls H locs hl hP hD hS)
theorem j_iload_n (X : CX p s m args meth c cc nL own ret D (tyl cI cH cO) A) {kf : Fin 4} {i : Nat} {x : Int32} (q : Nat) (hdg : decode cc pc = .ok (.iload_n kf, 1)) (hi : (kf : Nat) = i) (hq : lv[q]? = some (i, .int x))  (hpc : pc + 1 = pc') (k : J p l e R s m args below meth c nL D A kc ks Kf sp ws pc' lv (.int x :: rest)) : J p l e R s m args below meth c nL D A kc ks Kf sp ws pc lv rest := by
  subst hpc
  intro ls H locs hl hP hD hS
  obtain ⟨⟨hx, hb, hml, hown, hts⟩, hK, hN, hr, hlk, hA⟩ := X
  exact lv_iload_n hx hb hdg hi (lv_at hl q hq) (k ls H locs hl hP hD hS)
theorem j_iload (X : CX p s m args meth c cc nL own ret D (tyl cI cH cO) A) {i : Nat} {x : Int32} (q : Nat) (hdg : decode cc pc = .ok (.iload i, 2)) (hq : lv[q]? = some (i, .int x))  (hpc : pc + 2 = pc') (k : J p l e R s m args below meth c nL D A kc ks Kf sp ws pc' lv (.int x :: rest)) : J p l e R s m args below meth c nL D A kc ks Kf sp ws pc lv rest := by
  subst hpc
  intro ls H locs hl hP hD hS
  obtain ⟨⟨hx, hb, hml, hown, hts⟩, hK, hN, hr, hlk, hA⟩ := X
  exact lv_iload hx hb hdg (lv_at hl q hq) (k ls H locs hl hP hD hS)
theorem j_aload_n (X : CX p s m args meth c cc nL own ret D (tyl cI cH cO) A) {kf : Fin 4} {i x : Nat} (q : Nat) (hdg : decode cc pc = .ok (.aload_n kf, 1)) (hi : (kf : Nat) = i) (hq : lv[q]? = some (i, .ref x))  (hpc : pc + 1 = pc') (k : J p l e R s m args below meth c nL D A kc ks Kf sp ws pc' lv (.ref x :: rest)) : J p l e R s m args below meth c nL D A kc ks Kf sp ws pc lv rest := by
  subst hpc
  intro ls H locs hl hP hD hS
  obtain ⟨⟨hx, hb, hml, hown, hts⟩, hK, hN, hr, hlk, hA⟩ := X
  exact lv_aload_n hx hb hdg hi (lv_at hl q hq) (k ls H locs hl hP hD hS)
theorem j_aload (X : CX p s m args meth c cc nL own ret D (tyl cI cH cO) A) {i x : Nat} (q : Nat) (hdg : decode cc pc = .ok (.aload i, 2)) (hq : lv[q]? = some (i, .ref x))  (hpc : pc + 2 = pc') (k : J p l e R s m args below meth c nL D A kc ks Kf sp ws pc' lv (.ref x :: rest)) : J p l e R s m args below meth c nL D A kc ks Kf sp ws pc lv rest := by
  subst hpc
  intro ls H locs hl hP hD hS
  obtain ⟨⟨hx, hb, hml, hown, hts⟩, hK, hN, hr, hlk, hA⟩ := X
  exact lv_aload hx hb hdg (lv_at hl q hq) (k ls H locs hl hP hD hS)
theorem j_iadd (X : CX p s m args meth c cc nL own ret D (tyl cI cH cO) A) {x y : Int32} (hdg : decode cc pc = .ok (.iadd, 1))  (hpc : pc + 1 = pc') (k : J p l e R s m args below meth c nL D A kc ks Kf sp ws pc' lv (.int (x + y) :: rest)) : J p l e R s m args below meth c nL D A kc ks Kf sp ws pc lv (.int y :: .int x :: rest) := by
  subst hpc
  intro ls H locs hl hP hD hS
  obtain ⟨⟨hx, hb, hml, hown, hts⟩, hK, hN, hr, hlk, hA⟩ := X
  exact lv_iadd hx hb hdg (k ls H locs hl hP hD hS)
theorem j_isub (X : CX p s m args meth c cc nL own ret D (tyl cI cH cO) A) {x y : Int32} (hdg : decode cc pc = .ok (.isub, 1))  (hpc : pc + 1 = pc') (k : J p l e R s m args below meth c nL D A kc ks Kf sp ws pc' lv (.int (x - y) :: rest)) : J p l e R s m args below meth c nL D A kc ks Kf sp ws pc lv (.int y :: .int x :: rest) := by
  subst hpc
  intro ls H locs hl hP hD hS
  obtain ⟨⟨hx, hb, hml, hown, hts⟩, hK, hN, hr, hlk, hA⟩ := X
  exact lv_isub hx hb hdg (k ls H locs hl hP hD hS)
theorem j_imul (X : CX p s m args meth c cc nL own ret D (tyl cI cH cO) A) {x y : Int32} (hdg : decode cc pc = .ok (.imul, 1))  (hpc : pc + 1 = pc') (k : J p l e R s m args below meth c nL D A kc ks Kf sp ws pc' lv (.int (x * y) :: rest)) : J p l e R s m args below meth c nL D A kc ks Kf sp ws pc lv (.int y :: .int x :: rest) := by
  subst hpc
  intro ls H locs hl hP hD hS
  obtain ⟨⟨hx, hb, hml, hown, hts⟩, hK, hN, hr, hlk, hA⟩ := X
  exact lv_imul hx hb hdg (k ls H locs hl hP hD hS)
theorem j_iand (X : CX p s m args meth c cc nL own ret D (tyl cI cH cO) A) {x y : Int32} (hdg : decode cc pc = .ok (.iand, 1))  (hpc : pc + 1 = pc') (k : J p l e R s m args below meth c nL D A kc ks Kf sp ws pc' lv (.int (x &&& y) :: rest)) : J p l e R s m args below meth c nL D A kc ks Kf sp ws pc lv (.int y :: .int x :: rest) := by
  subst hpc
  intro ls H locs hl hP hD hS
  obtain ⟨⟨hx, hb, hml, hown, hts⟩, hK, hN, hr, hlk, hA⟩ := X
  exact lv_iand hx hb hdg (k ls H locs hl hP hD hS)
theorem j_ior (X : CX p s m args meth c cc nL own ret D (tyl cI cH cO) A) {x y : Int32} (hdg : decode cc pc = .ok (.ior, 1))  (hpc : pc + 1 = pc') (k : J p l e R s m args below meth c nL D A kc ks Kf sp ws pc' lv (.int (x ||| y) :: rest)) : J p l e R s m args below meth c nL D A kc ks Kf sp ws pc lv (.int y :: .int x :: rest) := by
  subst hpc
  intro ls H locs hl hP hD hS
  obtain ⟨⟨hx, hb, hml, hown, hts⟩, hK, hN, hr, hlk, hA⟩ := X
  exact lv_ior hx hb hdg (k ls H locs hl hP hD hS)
theorem j_ishl (X : CX p s m args meth c cc nL own ret D (tyl cI cH cO) A) {x y : Int32} (hdg : decode cc pc = .ok (.ishl, 1))  (hpc : pc + 1 = pc') (k : J p l e R s m args below meth c nL D A kc ks Kf sp ws pc' lv (.int (x <<< (y &&& 31)) :: rest)) : J p l e R s m args below meth c nL D A kc ks Kf sp ws pc lv (.int y :: .int x :: rest) := by
  subst hpc
  intro ls H locs hl hP hD hS
  obtain ⟨⟨hx, hb, hml, hown, hts⟩, hK, hN, hr, hlk, hA⟩ := X
  exact lv_ishl hx hb hdg (k ls H locs hl hP hD hS)
theorem j_ishr (X : CX p s m args meth c cc nL own ret D (tyl cI cH cO) A) {x y : Int32} (hdg : decode cc pc = .ok (.ishr, 1))  (hpc : pc + 1 = pc') (k : J p l e R s m args below meth c nL D A kc ks Kf sp ws pc' lv (.int (x >>> (y &&& 31)) :: rest)) : J p l e R s m args below meth c nL D A kc ks Kf sp ws pc lv (.int y :: .int x :: rest) := by
  subst hpc
  intro ls H locs hl hP hD hS
  obtain ⟨⟨hx, hb, hml, hown, hts⟩, hK, hN, hr, hlk, hA⟩ := X
  exact lv_ishr hx hb hdg (k ls H locs hl hP hD hS)
theorem j_irem (X : CX p s m args meth c cc nL own ret D (tyl cI cH cO) A) {x y : Int32} (hdg : decode cc pc = .ok (.irem, 1)) (hne : ¬ y = 0)  (hpc : pc + 1 = pc') (k : J p l e R s m args below meth c nL D A kc ks Kf sp ws pc' lv (.int (x % y) :: rest)) : J p l e R s m args below meth c nL D A kc ks Kf sp ws pc lv (.int y :: .int x :: rest) := by
  subst hpc
  intro ls H locs hl hP hD hS
  obtain ⟨⟨hx, hb, hml, hown, hts⟩, hK, hN, hr, hlk, hA⟩ := X
  exact lv_irem hx hb hdg hne (by rw [i32_remE]; exact (k ls H locs hl hP hD hS))
theorem j_idiv (X : CX p s m args meth c cc nL own ret D (tyl cI cH cO) A) {x y : Int32} (hdg : decode cc pc = .ok (.idiv, 1)) (hne : ¬ y = 0)  (hpc : pc + 1 = pc') (k : J p l e R s m args below meth c nL D A kc ks Kf sp ws pc' lv (.int (x / y) :: rest)) : J p l e R s m args below meth c nL D A kc ks Kf sp ws pc lv (.int y :: .int x :: rest) := by
  subst hpc
  intro ls H locs hl hP hD hS
  obtain ⟨⟨hx, hb, hml, hown, hts⟩, hK, hN, hr, hlk, hA⟩ := X
  exact lv_idiv hx hb hdg hne (k ls H locs hl hP hD hS)
theorem j_dup (X : CX p s m args meth c cc nL own ret D (tyl cI cH cO) A) {v : Value} (hdg : decode cc pc = .ok (.dup, 1)) (hv : v.category = 1)  (hpc : pc + 1 = pc') (k : J p l e R s m args below meth c nL D A kc ks Kf sp ws pc' lv (v :: v :: rest)) : J p l e R s m args below meth c nL D A kc ks Kf sp ws pc lv (v :: rest) := by
  subst hpc
  intro ls H locs hl hP hD hS
  obtain ⟨⟨hx, hb, hml, hown, hts⟩, hK, hN, hr, hlk, hA⟩ := X
  exact lv_dup hx hb hdg hv (k ls H locs hl hP hD hS)
theorem j_pop (X : CX p s m args meth c cc nL own ret D (tyl cI cH cO) A) {v : Value} (hdg : decode cc pc = .ok (.pop, 1)) (hv : v.category = 1)  (hpc : pc + 1 = pc') (k : J p l e R s m args below meth c nL D A kc ks Kf sp ws pc' lv rest) : J p l e R s m args below meth c nL D A kc ks Kf sp ws pc lv (v :: rest) := by
  subst hpc
  intro ls H locs hl hP hD hS
  obtain ⟨⟨hx, hb, hml, hown, hts⟩, hK, hN, hr, hlk, hA⟩ := X
  exact lv_pop hx hb hdg hv (k ls H locs hl hP hD hS)
theorem j_dup2 (X : CX p s m args meth c cc nL own ret D (tyl cI cH cO) A) {v u : Value} (hdg : decode cc pc = .ok (.dup2, 1)) (hv : v.category = 1) (hu : u.category = 1)  (hpc : pc + 1 = pc') (k : J p l e R s m args below meth c nL D A kc ks Kf sp ws pc' lv (v :: u :: v :: u :: rest)) : J p l e R s m args below meth c nL D A kc ks Kf sp ws pc lv (v :: u :: rest) := by
  subst hpc
  intro ls H locs hl hP hD hS
  obtain ⟨⟨hx, hb, hml, hown, hts⟩, hK, hN, hr, hlk, hA⟩ := X
  exact lv_dup2_11 hx hb hdg hv hu (k ls H locs hl hP hD hS)
theorem j_dup_x1 (X : CX p s m args meth c cc nL own ret D (tyl cI cH cO) A) {v u : Value} (hdg : decode cc pc = .ok (.dup_x1, 1)) (hv : v.category = 1) (hu : u.category = 1)  (hpc : pc + 1 = pc') (k : J p l e R s m args below meth c nL D A kc ks Kf sp ws pc' lv (v :: u :: v :: rest)) : J p l e R s m args below meth c nL D A kc ks Kf sp ws pc lv (v :: u :: rest) := by
  subst hpc
  intro ls H locs hl hP hD hS
  obtain ⟨⟨hx, hb, hml, hown, hts⟩, hK, hN, hr, hlk, hA⟩ := X
  exact lv_dup_x1 hx hb hdg hv hu (k ls H locs hl hP hD hS)
theorem j_dup_x2 (X : CX p s m args meth c cc nL own ret D (tyl cI cH cO) A) {v u t : Value} (hdg : decode cc pc = .ok (.dup_x2, 1)) (hv : v.category = 1) (hu : u.category = 1) (ht : t.category = 1)  (hpc : pc + 1 = pc') (k : J p l e R s m args below meth c nL D A kc ks Kf sp ws pc' lv (v :: u :: t :: v :: rest)) : J p l e R s m args below meth c nL D A kc ks Kf sp ws pc lv (v :: u :: t :: rest) := by
  subst hpc
  intro ls H locs hl hP hD hS
  obtain ⟨⟨hx, hb, hml, hown, hts⟩, hK, hN, hr, hlk, hA⟩ := X
  exact lv_dup_x2 hx hb hdg hv hu ht (k ls H locs hl hP hD hS)
theorem j_i2c (X : CX p s m args meth c cc nL own ret D (tyl cI cH cO) A) {x v : Int32} (hdg : decode cc pc = .ok (.i2c, 1)) (hv : (x.toUInt32 % 65536).toInt32 = v)  (hpc : pc + 1 = pc') (k : J p l e R s m args below meth c nL D A kc ks Kf sp ws pc' lv (.int v :: rest)) : J p l e R s m args below meth c nL D A kc ks Kf sp ws pc lv (.int x :: rest) := by
  subst hpc
  intro ls H locs hl hP hD hS
  obtain ⟨⟨hx, hb, hml, hown, hts⟩, hK, hN, hr, hlk, hA⟩ := X
  exact lv_i2c hx hb hdg hv (k ls H locs hl hP hD hS)
theorem j_istore_n (X : CX p s m args meth c cc nL own ret D (tyl cI cH cO) A) {kf : Fin 4} {i : Nat} {x : Int32} (ks' : List Nat) (hdg : decode cc pc = .ok (.istore_n kf, 1)) (hi : (kf : Nat) = i) (hn : i < nL) (hl' : lv_pick ((i, Value.int x) :: lv.filter (fun q => !(q.1 == i) && !(q.1 + 1 == i && q.2.category == 2))) ks' = lv')  (hpc : pc + 1 = pc') (k : J p l e R s m args below meth c nL D A kc ks Kf sp ws pc' lv' rest) : J p l e R s m args below meth c nL D A kc ks Kf sp ws pc lv (.int x :: rest) := by
  subst hpc
  intro ls H locs hl hP hD hS
  obtain ⟨⟨hx, hb, hml, hown, hts⟩, hK, hN, hr, hlk, hA⟩ := X
  exact lv_istore_n hx hb hdg hi hl hn rfl (fun ls' h => k ls' H locs (lv_sub h ks' hl') hP hD hS)
theorem j_istore (X : CX p s m args meth c cc nL own ret D (tyl cI cH cO) A) {i : Nat} {x : Int32} (ks' : List Nat) (hdg : decode cc pc = .ok (.istore i, 2)) (hn : i < nL) (hl' : lv_pick ((i, Value.int x) :: lv.filter (fun q => !(q.1 == i) && !(q.1 + 1 == i && q.2.category == 2))) ks' = lv')  (hpc : pc + 2 = pc') (k : J p l e R s m args below meth c nL D A kc ks Kf sp ws pc' lv' rest) : J p l e R s m args below meth c nL D A kc ks Kf sp ws pc lv (.int x :: rest) := by
  subst hpc
  intro ls H locs hl hP hD hS
  obtain ⟨⟨hx, hb, hml, hown, hts⟩, hK, hN, hr, hlk, hA⟩ := X
  exact lv_istore hx hb hdg hl hn rfl (fun ls' h => k ls' H locs (lv_sub h ks' hl') hP hD hS)
theorem j_istore_nL (X : CX p s m args meth c cc nL own ret D (tyl cI cH cO) A) {kf : Fin 4} {i : Nat} {x : Int32} {f : Int32 → α} (lvf : Int32 → List (Nat × Value)) (ks' : List Nat) (hdg : decode cc pc = .ok (.istore_n kf, 1)) (hi : (kf : Nat) = i) (hn : i < nL) (hl' : ∀ y, lv_pick ((i, Value.int y) :: lv.filter (fun q => !(q.1 == i) && !(q.1 + 1 == i && q.2.category == 2))) ks' = lvf y) (hpc : pc + 1 = pc') (k : ∀ y, y = x → J p l e R s m args below meth c nL D A kc ks Kf (f y) ws pc' (lvf y) rest) : J p l e R s m args below meth c nL D A kc ks Kf (ltv x f) ws pc lv (.int x :: rest) := by
  subst hpc
  intro ls H locs hl hP hD hS
  obtain ⟨⟨hx, hb, hml, hown, hts⟩, hK, hN, hr, hlk, hA⟩ := X
  exact lv_istore_n hx hb hdg hi hl hn rfl (fun ls' h => k x rfl ls' H locs (lv_sub h ks' (hl' x)) hP hD hS)
theorem j_istoreL (X : CX p s m args meth c cc nL own ret D (tyl cI cH cO) A) {i : Nat} {x : Int32} {f : Int32 → α} (lvf : Int32 → List (Nat × Value)) (ks' : List Nat) (hdg : decode cc pc = .ok (.istore i, 2)) (hn : i < nL) (hl' : ∀ y, lv_pick ((i, Value.int y) :: lv.filter (fun q => !(q.1 == i) && !(q.1 + 1 == i && q.2.category == 2))) ks' = lvf y) (hpc : pc + 2 = pc') (k : ∀ y, y = x → J p l e R s m args below meth c nL D A kc ks Kf (f y) ws pc' (lvf y) rest) : J p l e R s m args below meth c nL D A kc ks Kf (ltv x f) ws pc lv (.int x :: rest) := by
  subst hpc
  intro ls H locs hl hP hD hS
  obtain ⟨⟨hx, hb, hml, hown, hts⟩, hK, hN, hr, hlk, hA⟩ := X
  exact lv_istore hx hb hdg hl hn rfl (fun ls' h => k x rfl ls' H locs (lv_sub h ks' (hl' x)) hP hD hS)
theorem j_iinc (X : CX p s m args meth c cc nL own ret D (tyl cI cH cO) A) {i q : Nat} {n : Int} {x v : Int32} (ks' : List Nat) (hdg : decode cc pc = .ok (.iinc i n, 3)) (hq : lv[q]? = some (i, .int x)) (hv : x + Int32.ofInt n = v) (hn : i < nL) (hl' : lv_pick ((i, Value.int v) :: lv.filter (fun q => !(q.1 == i) && !(q.1 + 1 == i && q.2.category == 2))) ks' = lv') (hpc : pc + 3 = pc') (k : J p l e R s m args below meth c nL D A kc ks Kf sp ws pc' lv' rest) : J p l e R s m args below meth c nL D A kc ks Kf sp ws pc lv rest := by
  subst hpc
  intro ls H locs hl hP hD hS
  obtain ⟨⟨hx, hb, hml, hown, hts⟩, hK, hN, hr, hlk, hA⟩ := X
  exact lv_iinc hx hb hdg hl hq hv hn rfl (fun ls' h => k ls' H locs (lv_sub h ks' hl') hP hD hS)
theorem j_iincL (X : CX p s m args meth c cc nL own ret D (tyl cI cH cO) A) {i q : Nat} {n : Int} {x v : Int32} {f : Int32 → α} (lvf : Int32 → List (Nat × Value)) (ks' : List Nat) (hdg : decode cc pc = .ok (.iinc i n, 3)) (hq : lv[q]? = some (i, .int x)) (hv : x + Int32.ofInt n = v) (hn : i < nL) (hl' : ∀ y, lv_pick ((i, Value.int y) :: lv.filter (fun q => !(q.1 == i) && !(q.1 + 1 == i && q.2.category == 2))) ks' = lvf y) (hpc : pc + 3 = pc') (k : ∀ y, y = v → J p l e R s m args below meth c nL D A kc ks Kf (f y) ws pc' (lvf y) rest) : J p l e R s m args below meth c nL D A kc ks Kf (ltv v f) ws pc lv rest := by
  subst hpc
  intro ls H locs hl hP hD hS
  obtain ⟨⟨hx, hb, hml, hown, hts⟩, hK, hN, hr, hlk, hA⟩ := X
  exact lv_iinc hx hb hdg hl hq hv hn rfl (fun ls' h => k v rfl ls' H locs (lv_sub h ks' (hl' v)) hP hD hS)
theorem j_goto (X : CX p s m args meth c cc nL own ret D (tyl cI cH cO) A) {off : Int} (hdg : decode cc pc = .ok (.goto off, 3)) (ht : (pc : Int) + off = (pc' : Int)) (k : J p l e R s m args below meth c nL D A kc ks Kf sp ws pc' lv rest) : J p l e R s m args below meth c nL D A kc ks Kf sp ws pc lv rest := by
  intro ls H locs hl hP hD hS
  obtain ⟨⟨hx, hb, hml, hown, hts⟩, hK, hN, hr, hlk, hA⟩ := X
  exact lv_goto hx hb hdg ht (k ls H locs hl hP hD hS)
theorem j_if_eq (X : CX p s m args meth c cc nL own ret D (tyl cI cH cO) A) {x : Int32} {off : Int} {tgt : Nat} {A1 B1 : α} (hdg : decode cc pc = .ok (.ifCond .eq off, 3)) (ht : (pc : Int) + off = (tgt : Int)) (hpc : pc + 3 = pc') (k1 : x = 0 → J p l e R s m args below meth c nL D A kc ks Kf A1 ws tgt lv rest) (k2 : ¬ (x = 0) → J p l e R s m args below meth c nL D A kc ks Kf B1 ws pc' lv rest) : J p l e R s m args below meth c nL D A kc ks Kf (if x = 0 then A1 else B1) ws pc lv (.int x :: rest) := by
  subst hpc
  intro ls H locs hl hP hD hS
  obtain ⟨⟨hx, hb, hml, hown, hts⟩, hK, hN, hr, hlk, hA⟩ := X
  refine lv_if_eq hx hb hdg ht (fun h => ?_) (fun h => ?_)
  · rw [if_pos h]; exact k1 h ls H locs hl hP hD hS
  · rw [if_neg h]; exact k2 h ls H locs hl hP hD hS
theorem j_icmp_eq (X : CX p s m args meth c cc nL own ret D (tyl cI cH cO) A) {x y : Int32} {off : Int} {tgt : Nat} {A1 B1 : α} (hdg : decode cc pc = .ok (.if_icmp .eq off, 3)) (ht : (pc : Int) + off = (tgt : Int)) (hpc : pc + 3 = pc') (k1 : x = y → J p l e R s m args below meth c nL D A kc ks Kf A1 ws tgt lv rest) (k2 : ¬ (x = y) → J p l e R s m args below meth c nL D A kc ks Kf B1 ws pc' lv rest) : J p l e R s m args below meth c nL D A kc ks Kf (if x = y then A1 else B1) ws pc lv (.int y :: .int x :: rest) := by
  subst hpc
  intro ls H locs hl hP hD hS
  obtain ⟨⟨hx, hb, hml, hown, hts⟩, hK, hN, hr, hlk, hA⟩ := X
  refine lv_icmp_eq hx hb hdg ht (fun h => ?_) (fun h => ?_)
  · rw [if_pos h]; exact k1 h ls H locs hl hP hD hS
  · rw [if_neg h]; exact k2 h ls H locs hl hP hD hS
theorem j_if_ne (X : CX p s m args meth c cc nL own ret D (tyl cI cH cO) A) {x : Int32} {off : Int} {tgt : Nat} {A1 B1 : α} (hdg : decode cc pc = .ok (.ifCond .ne off, 3)) (ht : (pc : Int) + off = (tgt : Int)) (hpc : pc + 3 = pc') (k1 : ¬ x = 0 → J p l e R s m args below meth c nL D A kc ks Kf A1 ws tgt lv rest) (k2 : ¬ (¬ x = 0) → J p l e R s m args below meth c nL D A kc ks Kf B1 ws pc' lv rest) : J p l e R s m args below meth c nL D A kc ks Kf (if ¬ x = 0 then A1 else B1) ws pc lv (.int x :: rest) := by
  subst hpc
  intro ls H locs hl hP hD hS
  obtain ⟨⟨hx, hb, hml, hown, hts⟩, hK, hN, hr, hlk, hA⟩ := X
  refine lv_if_ne hx hb hdg ht (fun h => ?_) (fun h => ?_)
  · rw [if_pos h]; exact k1 h ls H locs hl hP hD hS
  · rw [if_neg (fun q => q h)]; exact k2 (fun q => q h) ls H locs hl hP hD hS
theorem j_icmp_ne (X : CX p s m args meth c cc nL own ret D (tyl cI cH cO) A) {x y : Int32} {off : Int} {tgt : Nat} {A1 B1 : α} (hdg : decode cc pc = .ok (.if_icmp .ne off, 3)) (ht : (pc : Int) + off = (tgt : Int)) (hpc : pc + 3 = pc') (k1 : ¬ x = y → J p l e R s m args below meth c nL D A kc ks Kf A1 ws tgt lv rest) (k2 : ¬ (¬ x = y) → J p l e R s m args below meth c nL D A kc ks Kf B1 ws pc' lv rest) : J p l e R s m args below meth c nL D A kc ks Kf (if ¬ x = y then A1 else B1) ws pc lv (.int y :: .int x :: rest) := by
  subst hpc
  intro ls H locs hl hP hD hS
  obtain ⟨⟨hx, hb, hml, hown, hts⟩, hK, hN, hr, hlk, hA⟩ := X
  refine lv_icmp_ne hx hb hdg ht (fun h => ?_) (fun h => ?_)
  · rw [if_pos h]; exact k1 h ls H locs hl hP hD hS
  · rw [if_neg (fun q => q h)]; exact k2 (fun q => q h) ls H locs hl hP hD hS
theorem j_if_lt (X : CX p s m args meth c cc nL own ret D (tyl cI cH cO) A) {x : Int32} {off : Int} {tgt : Nat} {A1 B1 : α} (hdg : decode cc pc = .ok (.ifCond .lt off, 3)) (ht : (pc : Int) + off = (tgt : Int)) (hpc : pc + 3 = pc') (k1 : x < 0 → J p l e R s m args below meth c nL D A kc ks Kf A1 ws tgt lv rest) (k2 : ¬ (x < 0) → J p l e R s m args below meth c nL D A kc ks Kf B1 ws pc' lv rest) : J p l e R s m args below meth c nL D A kc ks Kf (if x < 0 then A1 else B1) ws pc lv (.int x :: rest) := by
  subst hpc
  intro ls H locs hl hP hD hS
  obtain ⟨⟨hx, hb, hml, hown, hts⟩, hK, hN, hr, hlk, hA⟩ := X
  refine lv_if_lt hx hb hdg ht (fun h => ?_) (fun h => ?_)
  · rw [if_pos h]; exact k1 h ls H locs hl hP hD hS
  · rw [if_neg h]; exact k2 h ls H locs hl hP hD hS
theorem j_icmp_lt (X : CX p s m args meth c cc nL own ret D (tyl cI cH cO) A) {x y : Int32} {off : Int} {tgt : Nat} {A1 B1 : α} (hdg : decode cc pc = .ok (.if_icmp .lt off, 3)) (ht : (pc : Int) + off = (tgt : Int)) (hpc : pc + 3 = pc') (k1 : x < y → J p l e R s m args below meth c nL D A kc ks Kf A1 ws tgt lv rest) (k2 : ¬ (x < y) → J p l e R s m args below meth c nL D A kc ks Kf B1 ws pc' lv rest) : J p l e R s m args below meth c nL D A kc ks Kf (if x < y then A1 else B1) ws pc lv (.int y :: .int x :: rest) := by
  subst hpc
  intro ls H locs hl hP hD hS
  obtain ⟨⟨hx, hb, hml, hown, hts⟩, hK, hN, hr, hlk, hA⟩ := X
  refine lv_icmp_lt hx hb hdg ht (fun h => ?_) (fun h => ?_)
  · rw [if_pos h]; exact k1 h ls H locs hl hP hD hS
  · rw [if_neg h]; exact k2 h ls H locs hl hP hD hS
theorem j_if_ge (X : CX p s m args meth c cc nL own ret D (tyl cI cH cO) A) {x : Int32} {off : Int} {tgt : Nat} {A1 B1 : α} (hdg : decode cc pc = .ok (.ifCond .ge off, 3)) (ht : (pc : Int) + off = (tgt : Int)) (hpc : pc + 3 = pc') (k1 : 0 ≤ x → J p l e R s m args below meth c nL D A kc ks Kf A1 ws tgt lv rest) (k2 : ¬ (0 ≤ x) → J p l e R s m args below meth c nL D A kc ks Kf B1 ws pc' lv rest) : J p l e R s m args below meth c nL D A kc ks Kf (if 0 ≤ x then A1 else B1) ws pc lv (.int x :: rest) := by
  subst hpc
  intro ls H locs hl hP hD hS
  obtain ⟨⟨hx, hb, hml, hown, hts⟩, hK, hN, hr, hlk, hA⟩ := X
  refine lv_if_ge hx hb hdg ht (fun h => ?_) (fun h => ?_)
  · rw [if_pos h]; exact k1 h ls H locs hl hP hD hS
  · rw [if_neg h]; exact k2 h ls H locs hl hP hD hS
theorem j_icmp_ge (X : CX p s m args meth c cc nL own ret D (tyl cI cH cO) A) {x y : Int32} {off : Int} {tgt : Nat} {A1 B1 : α} (hdg : decode cc pc = .ok (.if_icmp .ge off, 3)) (ht : (pc : Int) + off = (tgt : Int)) (hpc : pc + 3 = pc') (k1 : y ≤ x → J p l e R s m args below meth c nL D A kc ks Kf A1 ws tgt lv rest) (k2 : ¬ (y ≤ x) → J p l e R s m args below meth c nL D A kc ks Kf B1 ws pc' lv rest) : J p l e R s m args below meth c nL D A kc ks Kf (if y ≤ x then A1 else B1) ws pc lv (.int y :: .int x :: rest) := by
  subst hpc
  intro ls H locs hl hP hD hS
  obtain ⟨⟨hx, hb, hml, hown, hts⟩, hK, hN, hr, hlk, hA⟩ := X
  refine lv_icmp_ge hx hb hdg ht (fun h => ?_) (fun h => ?_)
  · rw [if_pos h]; exact k1 h ls H locs hl hP hD hS
  · rw [if_neg h]; exact k2 h ls H locs hl hP hD hS
theorem j_if_gt (X : CX p s m args meth c cc nL own ret D (tyl cI cH cO) A) {x : Int32} {off : Int} {tgt : Nat} {A1 B1 : α} (hdg : decode cc pc = .ok (.ifCond .gt off, 3)) (ht : (pc : Int) + off = (tgt : Int)) (hpc : pc + 3 = pc') (k1 : 0 < x → J p l e R s m args below meth c nL D A kc ks Kf A1 ws tgt lv rest) (k2 : ¬ (0 < x) → J p l e R s m args below meth c nL D A kc ks Kf B1 ws pc' lv rest) : J p l e R s m args below meth c nL D A kc ks Kf (if 0 < x then A1 else B1) ws pc lv (.int x :: rest) := by
  subst hpc
  intro ls H locs hl hP hD hS
  obtain ⟨⟨hx, hb, hml, hown, hts⟩, hK, hN, hr, hlk, hA⟩ := X
  refine lv_if_gt hx hb hdg ht (fun h => ?_) (fun h => ?_)
  · rw [if_pos h]; exact k1 h ls H locs hl hP hD hS
  · rw [if_neg h]; exact k2 h ls H locs hl hP hD hS
theorem j_icmp_gt (X : CX p s m args meth c cc nL own ret D (tyl cI cH cO) A) {x y : Int32} {off : Int} {tgt : Nat} {A1 B1 : α} (hdg : decode cc pc = .ok (.if_icmp .gt off, 3)) (ht : (pc : Int) + off = (tgt : Int)) (hpc : pc + 3 = pc') (k1 : y < x → J p l e R s m args below meth c nL D A kc ks Kf A1 ws tgt lv rest) (k2 : ¬ (y < x) → J p l e R s m args below meth c nL D A kc ks Kf B1 ws pc' lv rest) : J p l e R s m args below meth c nL D A kc ks Kf (if y < x then A1 else B1) ws pc lv (.int y :: .int x :: rest) := by
  subst hpc
  intro ls H locs hl hP hD hS
  obtain ⟨⟨hx, hb, hml, hown, hts⟩, hK, hN, hr, hlk, hA⟩ := X
  refine lv_icmp_gt hx hb hdg ht (fun h => ?_) (fun h => ?_)
  · rw [if_pos h]; exact k1 h ls H locs hl hP hD hS
  · rw [if_neg h]; exact k2 h ls H locs hl hP hD hS
theorem j_if_le (X : CX p s m args meth c cc nL own ret D (tyl cI cH cO) A) {x : Int32} {off : Int} {tgt : Nat} {A1 B1 : α} (hdg : decode cc pc = .ok (.ifCond .le off, 3)) (ht : (pc : Int) + off = (tgt : Int)) (hpc : pc + 3 = pc') (k1 : x ≤ 0 → J p l e R s m args below meth c nL D A kc ks Kf A1 ws tgt lv rest) (k2 : ¬ (x ≤ 0) → J p l e R s m args below meth c nL D A kc ks Kf B1 ws pc' lv rest) : J p l e R s m args below meth c nL D A kc ks Kf (if x ≤ 0 then A1 else B1) ws pc lv (.int x :: rest) := by
  subst hpc
  intro ls H locs hl hP hD hS
  obtain ⟨⟨hx, hb, hml, hown, hts⟩, hK, hN, hr, hlk, hA⟩ := X
  refine lv_if_le hx hb hdg ht (fun h => ?_) (fun h => ?_)
  · rw [if_pos h]; exact k1 h ls H locs hl hP hD hS
  · rw [if_neg h]; exact k2 h ls H locs hl hP hD hS
theorem j_icmp_le (X : CX p s m args meth c cc nL own ret D (tyl cI cH cO) A) {x y : Int32} {off : Int} {tgt : Nat} {A1 B1 : α} (hdg : decode cc pc = .ok (.if_icmp .le off, 3)) (ht : (pc : Int) + off = (tgt : Int)) (hpc : pc + 3 = pc') (k1 : x ≤ y → J p l e R s m args below meth c nL D A kc ks Kf A1 ws tgt lv rest) (k2 : ¬ (x ≤ y) → J p l e R s m args below meth c nL D A kc ks Kf B1 ws pc' lv rest) : J p l e R s m args below meth c nL D A kc ks Kf (if x ≤ y then A1 else B1) ws pc lv (.int y :: .int x :: rest) := by
  subst hpc
  intro ls H locs hl hP hD hS
  obtain ⟨⟨hx, hb, hml, hown, hts⟩, hK, hN, hr, hlk, hA⟩ := X
  refine lv_icmp_le hx hb hdg ht (fun h => ?_) (fun h => ?_)
  · rw [if_pos h]; exact k1 h ls H locs hl hP hD hS
  · rw [if_neg h]; exact k2 h ls H locs hl hP hD hS
theorem j_null (X : CX p s m args meth c cc nL own ret D (tyl cI cH cO) A) {v : Nat} {off : Int} {tgt : Nat} (hdg : decode cc pc = .ok (.ifnull off, 3)) (hpc : pc + 3 = pc') (k : J p l e R s m args below meth c nL D A kc ks Kf sp ws pc' lv rest) : J p l e R s m args below meth c nL D A kc ks Kf sp ws pc lv (.ref v :: rest) := by
  subst hpc
  intro ls H locs hl hP hD hS
  obtain ⟨⟨hx, hb, hml, hown, hts⟩, hK, hN, hr, hlk, hA⟩ := X
  exact lv_ifnull hx hb hdg (k ls H locs hl hP hD hS)
theorem j_get (X : CX p s m args meth c cc nL own ret D (tyl cI cH cO) A) {C : String} {T : u_T} {N ci : Nat} (hin : ∀ w ∈ u_ws C T N, w ∈ TT) (hc : vwCl[ci]? = some (C, T, N)) {a index : Nat} {v : Value} {fs : List Value} (q0 k : Nat) (hlink : Cond.fieldLink own index (T k).1 (T k).2.1 (T k).2.2.1 ∈ TT) (hk : k < N) (he : ws[q0]? = some (a, .inr (ci, fs))) (hv : fs[k]? = some v) (hdg : decode cc pc = .ok (.getfield index, 3)) (hpc : pc + 3 = pc') (kk : J p l e R s m args below meth c nL D A kc ks Kf sp ws pc' lv (v :: rest)) : J p l e R s m args below meth c nL D A kc ks Kf sp ws pc lv (.ref a :: rest) := by
  subst hpc
  intro ls H locs hl hP hD hS
  obtain ⟨⟨hx, hb, hml, hown, hts⟩, hK, hN, hr, hlk, hA⟩ := X
  exact va_get hx hb hts hin hown hK hP q0 he hc k hk (hts _ hlink) (fun _ h9 => h9) hv hdg (kk ls H locs hl hP hD hS)
theorem j_put (X : CX p s m args meth c cc nL own ret D (tyl cI cH cO) A) {C : String} {T : u_T} {N ci : Nat} (hin : ∀ w ∈ u_ws C T N, w ∈ TT) (hc : vwCl[ci]? = some (C, T, N)) {ty0 : Nat → FieldType} (hty : ∀ k, k < N → parseFieldDescriptor (T k).2.2.1 = some (ty0 k)) (hnm : ∀ a, a < N → ∀ b, b < N → a ≠ b → (T a).2.1 ≠ (T b).2.1) {a index : Nat} {x : Int32} {fs : List Value} {S : σ} {f : σ → α} (wf : σ → va_W) (q0 k : Nat) (hlink : Cond.fieldLink own index (T k).1 (T k).2.1 (T k).2.2.1 ∈ TT) (hk : k < N) (hfin : (T k).2.2.2 = false) (hn : narrow (ty0 k) (.int x) = .int x) (hfit : fits (ty0 k) (.int x) = true) (he : ws[q0]? = some (a, .inr (ci, fs))) (hl9 : k < fs.length) (hset : ws.set q0 (a, .inr (ci, fs.set k (.int x))) = wf S) (hdg : decode cc pc = .ok (.putfield index, 3)) (hpc : pc + 3 = pc') (kk : ∀ S', S' = S → J p l e R s m args below meth c nL D A kc ks Kf (f S') (wf S') pc' lv rest) : J p l e R s m args below meth c nL D A kc ks Kf (ltv S f) ws pc lv (.int x :: .ref a :: rest) := by
  subst hpc
  intro ls H locs hl hP hD hS
  obtain ⟨⟨hx, hb, hml, hown, hts⟩, hK, hN, hr, hlk, hA⟩ := X
  refine va_put hx hb hts hin ty0 hty hnm hown hK hP hD hS q0 he hc k hk (hts _ hlink) (fun _ h9 => h9) hfin (hty k hk) hn hfit hl9 hdg (fun H1 locs1 hP1 hD1 hS1 => ?_)
  rw [hset] at hP1 hD1
  exact kk S rfl ls H1 locs1 hl hP1 hD1 hS1
theorem j_iald (X : CX p s m args meth c cc nL own ret D (tyl cI cH cO) A) {a n : Nat} {g : Nat → Int32} {i : Int32} (q0 : Nat) (he : ws[q0]? = some (a, .inl (cI, n, .inl g))) (hin : vp_in i n) (hdg : decode cc pc = .ok (.iaload, 1)) (hpc : pc + 1 = pc') (kk : J p l e R s m args below meth c nL D A kc ks Kf sp ws pc' lv (.int (g i.toNatClampNeg) :: rest)) : J p l e R s m args below meth c nL D A kc ks Kf sp ws pc lv (.int i :: .ref a :: rest) := by
  subst hpc
  intro ls H locs hl hP hD hS
  obtain ⟨⟨hx, hb, hml, hown, hts⟩, hK, hN, hr, hlk, hA⟩ := X
  exact va_iald hx hb hK hP q0 0 he rfl hin hdg (kk ls H locs hl hP hD hS)
theorem j_iast (X : CX p s m args meth c cc nL own ret D (tyl cI cH cO) A) {a n : Nat} {g : Nat → Int32} {i x : Int32} {S : σ} {f : σ → α} (wf : σ → va_W) (q0 : Nat) (he : ws[q0]? = some (a, .inl (cI, n, .inl g))) (hset : ws.set q0 (a, .inl (cI, n, .inl (upd g i.toNatClampNeg x))) = wf S) (hin : vp_in i n) (hdg : decode cc pc = .ok (.iastore, 1)) (hpc : pc + 1 = pc') (kk : ∀ S', S' = S → J p l e R s m args below meth c nL D A kc ks Kf (f S') (wf S') pc' lv rest) : J p l e R s m args below meth c nL D A kc ks Kf (ltv S f) ws pc lv (.int x :: .int i :: .ref a :: rest) := by
  subst hpc
  intro ls H locs hl hP hD hS
  obtain ⟨⟨hx, hb, hml, hown, hts⟩, hK, hN, hr, hlk, hA⟩ := X
  refine va_iast hx hb hK hP hD hS q0 0 he rfl hin hdg (fun H1 locs1 hP1 hD1 hS1 => ?_)
  rw [hset] at hP1 hD1
  exact kk S rfl ls H1 locs1 hl hP1 hD1 hS1
theorem j_cald (X : CX p s m args meth c cc nL own ret D (tyl cI cH cO) A) {a n : Nat} {g : Nat → Int32} {i : Int32} (q0 : Nat) (he : ws[q0]? = some (a, .inl (cH, n, .inl g))) (hin : vp_in i n) (hdg : decode cc pc = .ok (.caload, 1)) (hpc : pc + 1 = pc') (kk : J p l e R s m args below meth c nL D A kc ks Kf sp ws pc' lv (.int (g i.toNatClampNeg) :: rest)) : J p l e R s m args below meth c nL D A kc ks Kf sp ws pc lv (.int i :: .ref a :: rest) := by
  subst hpc
  intro ls H locs hl hP hD hS
  obtain ⟨⟨hx, hb, hml, hown, hts⟩, hK, hN, hr, hlk, hA⟩ := X
  exact va_cald hx hb hK hP q0 1 he rfl hin hdg (kk ls H locs hl hP hD hS)
theorem j_cast (X : CX p s m args meth c cc nL own ret D (tyl cI cH cO) A) {a n : Nat} {g : Nat → Int32} {i x : Int32} {S : σ} {f : σ → α} (wf : σ → va_W) (q0 : Nat) (he : ws[q0]? = some (a, .inl (cH, n, .inl g))) (hset : ws.set q0 (a, .inl (cH, n, .inl (upd g i.toNatClampNeg (vp_nar .char x)))) = wf S) (hin : vp_in i n) (hdg : decode cc pc = .ok (.castore, 1)) (hpc : pc + 1 = pc') (kk : ∀ S', S' = S → J p l e R s m args below meth c nL D A kc ks Kf (f S') (wf S') pc' lv rest) : J p l e R s m args below meth c nL D A kc ks Kf (ltv S f) ws pc lv (.int x :: .int i :: .ref a :: rest) := by
  subst hpc
  intro ls H locs hl hP hD hS
  obtain ⟨⟨hx, hb, hml, hown, hts⟩, hK, hN, hr, hlk, hA⟩ := X
  refine va_cast hx hb hK hP hD hS q0 1 he rfl hin hdg (fun H1 locs1 hP1 hD1 hS1 => ?_)
  rw [hset] at hP1 hD1
  exact kk S rfl ls H1 locs1 hl hP1 hD1 hS1
theorem j_alen (X : CX p s m args meth c cc nL own ret D (tyl cI cH cO) A) {a : Nat} {cA : ClassId} {x : vp_A} {ty : FieldType} {v : Int32} (q0 t0 : Nat) (he : ws[q0]? = some (a, .inl (cA, x))) (ht : (tyl cI cH cO)[t0]? = some (cA, ty)) (hv : Int32.ofNat x.1 = v) (hdg : decode cc pc = .ok (.arraylength, 1)) (hpc : pc + 1 = pc') (kk : J p l e R s m args below meth c nL D A kc ks Kf sp ws pc' lv (.int v :: rest)) : J p l e R s m args below meth c nL D A kc ks Kf sp ws pc lv (.ref a :: rest) := by
  subst hpc
  intro ls H locs hl hP hD hS
  obtain ⟨⟨hx, hb, hml, hown, hts⟩, hK, hN, hr, hlk, hA⟩ := X
  exact va_alen hx hb hK hP q0 t0 he ht hv hdg (kk ls H locs hl hP hD hS)
theorem j_mmin (X : CX p s m args meth c cc nL own ret D (tyl cI cH cO) A) {idx : Nat} {x y : Int32} (hw : Cond.methodLink own idx Lib.Math.min.name ∈ TT ∧ Cond.static Lib.Math.min.name ∈ TT ∧ Cond.initialized "java/lang/Math" ∈ TT ∧ Cond.code Lib.Math.min.name Lib.Math.min.code 2 (some .int) ∈ TT) (hR : 1 ≤ R.frames ∧ (rest.map fun v => v.category).sum + 13 ≤ R.locals ∧ kc ≤ R.cells ∧ ks ≤ R.slots) (hdg : decode cc pc = .ok (.invokestatic idx, 3)) (hpc : pc + 3 = pc') (kk : J p l e R s m args below meth c nL D A kc ks Kf sp ws pc' lv (.int (if y < x then y else x) :: rest)) : J p l e R s m args below meth c nL D A kc ks Kf sp ws pc lv (.int y :: .int x :: rest) := by
  subst hpc
  intro ls H locs hl hP hD hS
  obtain ⟨⟨hx, hb, hml, hown, hts⟩, hK, hN, hr, hlk, hA⟩ := X
  exact va_mmin hx hb (by rw [hml]; exact hl.1.symm) hown (hts _ hw.1) (hts _ hw.2.1) (hts _ hw.2.2.1) (hts _ hw.2.2.2) hR.1 hR.2.1 hR.2.2.1 hR.2.2.2 hdg (kk ls H locs hl hP hD hS)
theorem j_mmax (X : CX p s m args meth c cc nL own ret D (tyl cI cH cO) A) {idx : Nat} {x y : Int32} (hw : Cond.methodLink own idx Lib.Math.max.name ∈ TT ∧ Cond.static Lib.Math.max.name ∈ TT ∧ Cond.initialized "java/lang/Math" ∈ TT ∧ Cond.code Lib.Math.max.name Lib.Math.max.code 2 (some .int) ∈ TT) (hR : 1 ≤ R.frames ∧ (rest.map fun v => v.category).sum + 13 ≤ R.locals ∧ kc ≤ R.cells ∧ ks ≤ R.slots) (hdg : decode cc pc = .ok (.invokestatic idx, 3)) (hpc : pc + 3 = pc') (kk : J p l e R s m args below meth c nL D A kc ks Kf sp ws pc' lv (.int (if x < y then y else x) :: rest)) : J p l e R s m args below meth c nL D A kc ks Kf sp ws pc lv (.int y :: .int x :: rest) := by
  subst hpc
  intro ls H locs hl hP hD hS
  obtain ⟨⟨hx, hb, hml, hown, hts⟩, hK, hN, hr, hlk, hA⟩ := X
  exact va_mmax hx hb (by rw [hml]; exact hl.1.symm) hown (hts _ hw.1) (hts _ hw.2.1) (hts _ hw.2.2.1) (hts _ hw.2.2.2) hR.1 hR.2.1 hR.2.2.1 hR.2.2.2 hdg (kk ls H locs hl hP hD hS)
def KI (below : List Frame) (args : Array Value) (s : State) (D : va_G) (tys : List (ClassId × FieldType)) (ws0 : va_W) (wf : σ → va_W) : Int32 × σ → State → Prop := fun sp => MQ below (QI D tys ws0 s.heap.size sp.1 (wf sp.2)) args s 0 0 (va_A ws0 s.heap.size)
def KP (below : List Frame) (args : Array Value) (s : State) (D : va_G) (tys : List (ClassId × FieldType)) (ws0 : va_W) : Int32 → State → Prop := fun r => MQ below (QI D tys ws0 s.heap.size r ws0) args s 0 0 (va_A ws0 s.heap.size)
def KV (below : List Frame) (args : Array Value) (s : State) (D : va_G) (tys : List (ClassId × FieldType)) (ws0 : va_W) (wf : σ → va_W) : σ → State → Prop := fun u => MQ below (QV D tys ws0 s.heap.size (wf u)) args s 0 0 (va_A ws0 s.heap.size)
end JK
section JR
variable {σ : Type} {p : Program} {l : Launch} {e : Env} {R : Room} {s : State} {m : MethodId} {args : Array Value} {below : List Frame} {meth : Method} {c : Code} {nL : Nat} {D : va_G} {ws ws0 : va_W} {pc pc' : Nat} {lv lv' : List (Nat × Value)} {rest : List Value}
variable {cc : ByteArray} {own : String} {ret : Option FieldType} {cI cH cO : ClassId}
theorem j_iretP (X : CX p s m args meth c cc nL own (some .int) D (tyl cI cH cO) (va_A ws0 s.heap.size)) {v r : Int32} (hv : v = r) (hw : ws = ws0) (hdg : decode cc pc = .ok (.ireturn, 1)) : J p l e R s m args below meth c nL D (va_A ws0 s.heap.size) 0 0 (KP below args s D (tyl cI cH cO) ws0) r ws pc lv [.int v] := by
  intro ls H locs hl hP hD hS
  obtain ⟨⟨hx, hb, hml, hown, hts⟩, hK, hN, hr, hlk, hA⟩ := X
  subst hw
  exact W.iret (v := v) hx hb hr (fun t ht hW => ⟨⟨v, (), rfl, hv, by rw [ht]; exact hP, va_K.moved hW.alike hK, hD⟩, hS.F ht⟩) hS.2.2 hdg hlk
theorem j_zretP (X : CX p s m args meth c cc nL own (some .boolean) D (tyl cI cH cO) (va_A ws0 s.heap.size)) {v r : Int32} (hn : narrow .boolean (.int v) = .int v) (hv : v = r) (hw : ws = ws0) (hdg : decode cc pc = .ok (.ireturn, 1)) : J p l e R s m args below meth c nL D (va_A ws0 s.heap.size) 0 0 (KP below args s D (tyl cI cH cO) ws0) r ws pc lv [.int v] := by
  intro ls H locs hl hP hD hS
  obtain ⟨⟨hx, hb, hml, hown, hts⟩, hK, hN, hr, hlk, hA⟩ := X
  subst hw
  exact W.zret (v := v) hx hb hr hn (fun t ht hW => ⟨⟨v, (), rfl, hv, by rw [ht]; exact hP, va_K.moved hW.alike hK, hD⟩, hS.F ht⟩) hS.2.2 hdg hlk
theorem j_iretI (X : CX p s m args meth c cc nL own (some .int) D (tyl cI cH cO) (va_A ws0 s.heap.size)) {v : Int32} {sp : Int32 × σ} {wf : σ → va_W} (hv : v = sp.1) (hw : ws = wf sp.2) (hdg : decode cc pc = .ok (.ireturn, 1)) : J p l e R s m args below meth c nL D (va_A ws0 s.heap.size) 0 0 (KI below args s D (tyl cI cH cO) ws0 wf) sp ws pc lv [.int v] := by
  intro ls H locs hl hP hD hS
  obtain ⟨⟨hx, hb, hml, hown, hts⟩, hK, hN, hr, hlk, hA⟩ := X
  subst hw
  exact W.iret (v := v) hx hb hr (fun t ht hW => ⟨⟨v, (), rfl, hv, by rw [ht]; exact hP, va_K.moved hW.alike hK, hD⟩, hS.F ht⟩) hS.2.2 hdg hlk
theorem j_zretI (X : CX p s m args meth c cc nL own (some .boolean) D (tyl cI cH cO) (va_A ws0 s.heap.size)) {v : Int32} {sp : Int32 × σ} {wf : σ → va_W} (hn : narrow .boolean (.int v) = .int v) (hv : v = sp.1) (hw : ws = wf sp.2) (hdg : decode cc pc = .ok (.ireturn, 1)) : J p l e R s m args below meth c nL D (va_A ws0 s.heap.size) 0 0 (KI below args s D (tyl cI cH cO) ws0 wf) sp ws pc lv [.int v] := by
  intro ls H locs hl hP hD hS
  obtain ⟨⟨hx, hb, hml, hown, hts⟩, hK, hN, hr, hlk, hA⟩ := X
  subst hw
  exact W.zret (v := v) hx hb hr hn (fun t ht hW => ⟨⟨v, (), rfl, hv, by rw [ht]; exact hP, va_K.moved hW.alike hK, hD⟩, hS.F ht⟩) hS.2.2 hdg hlk
theorem j_vret (X : CX p s m args meth c cc nL own none D (tyl cI cH cO) (va_A ws0 s.heap.size)) {sp : σ} {wf : σ → va_W} (hw : ws = wf sp) (hdg : decode cc pc = .ok (.return_, 1)) : J p l e R s m args below meth c nL D (va_A ws0 s.heap.size) 0 0 (KV below args s D (tyl cI cH cO) ws0 wf) sp ws pc lv [] := by
  intro ls H locs hl hP hD hS
  obtain ⟨⟨hx, hb, hml, hown, hts⟩, hK, hN, hr, hlk, hA⟩ := X
  subst hw
  exact W.vret hx hb hr (fun t ht hW => ⟨⟨(), rfl, trivial, by rw [ht]; exact hP, va_K.moved hW.alike hK, hD⟩, hS.F ht⟩) hS.2.2 hdg hlk
end JR
/-- a method's start -/
theorem j_start {y : MethodName} {cc : ByteArray} {n : Nat} {ret : Option FieldType} {l : Launch} {k sz : Nat} {D : va_G} {cI cH cO : ClassId} {X : State → Prop} {av : List Value} {ws : va_W} {Qc : Array Value → State → Outcome → State → Prop} {own : String} {α : Type} (Kf : List Frame → State → α → State → Prop) (sp : α) (hy : plainName y.cls = true) (hyc : y.cls = own) (hn : (lg_sl av).length ≤ n) (hKf : ∀ (below : List Frame) (s : State), s.heap.size = sz → X s → Kf below s sp = MQ below Qc av.toArray s 0 0 (va_A ws sz))
    (body : ∀ (p : Program) (e : Env) (s : State) (m : MethodId) (below : List Frame) (meth : Method) (c : Code), X s → CX p s m av.toArray meth c cc n own ret D (tyl cI cH cO) (va_A ws s.heap.size) → J p l e (rml k) s m av.toArray below meth c n D (va_A ws s.heap.size) 0 0 (Kf below s) sp ws 0 (lv_args 0 av) []) :
    Met l y (Cond.code y cc n ret :: TT) (rml k) (PW D (tyl cI cH cO) X av sz ws) Qc 0 0 (va_A ws sz) := by
  refine Met.ofW (cc := cc) (maxL := n) (ret := ret) hy rfl ?_
  intro p e s m args below meth c s₁ B hml hv
  obtain ⟨rfl, hsz, hP, hK, hD0, hN, hX⟩ := hv
  have hts := atoms_spec (ws := Cond.code y cc n ret :: TT) B.pre
  have hown : s.vm.findClass own = some m.cls := hyc ▸ findClass_of_methodNamed B.named
  have hl := lv_entry av (n := n) hn
  rw [lg_entry_eq]
  rw [← hKf below s hsz hX]
  subst hsz
  exact body p e s m below meth c hX ⟨⟨B.exec, B.bytes, hml, hown, fun w h => hts w (List.mem_cons_of_mem _ h)⟩, hK, hN, B.returns, B.notSynchronized, fun q h => Or.inr h⟩ _ s.heap [] hl hP hD0.self va_S.rf
section JC
variable {α σ : Type} {p : Program} {l : Launch} {e : Env} {R : Room} {s : State} {m : MethodId} {args : Array Value} {below : List Frame} {meth : Method} {c : Code} {nL : Nat} {D : va_G} {A : Nat → Prop} {kc ks : Nat} {Kf : α → State → Prop} {sp : α} {ws ws' : va_W} {pc pc' : Nat} {lv lv' : List (Nat × Value)} {rest st : List Value}
variable {cc : ByteArray} {own : String} {ret : Option FieldType} {cI cH cO : ClassId}
variable {z : MethodName} {bz : ByteArray} {nz idx n0 kz : Nat} {rz : Option FieldType} {C : String} {b : Nat} {r : Int32}
/-- the room of a callee in a caller's -/
def RM (R : Room) (kz nz kc ks : Nat) : Prop := kz + 1 ≤ R.frames ∧ 8 + (nz + 11) + 40 * kz ≤ R.locals ∧ kc + 0 ≤ R.cells ∧ ks + 0 ≤ R.slots
theorem j_callVi (X : CX p s m args meth c cc nL own ret D (tyl cI cH cO) A) {As : List Value} (hM : MI l z bz nz rz kz D (tyl cI cH cO) (.ref b :: As) ws r ws') (hw : WV own idx C z bz nz rz n0) (hrecv : ∃ (q0 ci : Nat) (fs : List Value) (q : vw_C), vwCl[ci]? = some q ∧ q.1 = C ∧ ws[q0]? = some (b, .inr (ci, fs))) (hR : RM R kz nz kc ks) (hst : st = As.reverse ++ .ref b :: rest) (hn : As.length = n0) (hsum : (rest.map fun v => v.category).sum ≤ 8) (hdg : decode cc pc = .ok (.invokevirtual idx, 3)) (hpc : pc + 3 = pc') (kk : J p l e R s m args below meth c nL D A kc ks Kf sp ws' pc' lv (.int r :: rest)) : J p l e R s m args below meth c nL D A kc ks Kf sp ws pc lv st := by
  subst hpc
  subst hst
  intro ls H locs hl hP hD hS
  obtain ⟨⟨hx, hb, hml, hown, hts⟩, hK, hN, hr, hlk, hA⟩ := X
  have hPz := hP
  have hDz := hD
  have hF : ∀ q, va_A ws H.size q → A q := fun q h => by
    rcases h with ⟨k, e9, h⟩ | h
    · exact hDz.2 k (q, e9) h
    · exact hA q (Nat.le_trans hS.1 h)
  refine va_calli (mc := 0) (ms := 0) (va_runV (As := As) (rest := rest) ⟨hx, hb, hml, hown, hts⟩ (hM H.size) (cwV n0 hts hw.good rfl rfl rfl hw.2.2.2.2.2 ⟨hR.1, hR.2.1⟩) ⟨pw_blind, (by obtain ⟨q0, ci, fs, q, g1, g2, g3⟩ := hrecv; obtain ⟨cell, y1, y2, y3⟩ := va_recv hK hPz g1 g3; exact ⟨cell, y1, y2, by rw [← g2]; exact y3⟩), fun U hU hW => ⟨rfl, by rw [hU], by rw [hU]; exact hPz, va_K.moved hW.alike hK, hDz.weaken (fun _ _ _ _ => trivial), hN.warm hW, trivial⟩⟩ rfl hn hl.1 rfl (lv_room hsum) hdg ⟨hR.2.2.1, hR.2.2.2⟩) hS (fun q _ h => hF q h) hF (fun r9 u t H1 locs1 ht hvm hw9 hB hz1 hk1 hS1 => ?_)
  subst hw9
  obtain ⟨hP1, hK1, hD1⟩ := hB
  rw [ht] at hP1
  exact kk ls H1 locs1 hl hP1 (hD1.weaken (fun k q _ h => hF q.1 h)) hS1
theorem j_callViF (X : CX p s m args meth c cc nL own ret D (tyl cI cH cO) A) {As : List Value} {wz wz1 wr : va_W} (isC isR ps : List Nat) (hC : isC.map (fun i => ws[i]?) = wz.map some) (hRr : isR.map (fun i => ws[i]?) = wr.map some) (hnd : va_nd isC = true ∧ va_nd isR = true ∧ va_nd ps = true ∧ ∀ i ∈ isR, i ∉ isC) (hps : ps.map (fun i => (wr ++ wz1)[i]?) = ws'.map some) (hM : MI l z bz nz rz kz D (tyl cI cH cO) (.ref b :: As) wz r wz1) (hw : WV own idx C z bz nz rz n0) (hrecv : ∃ (q0 ci : Nat) (fs : List Value) (q : vw_C), vwCl[ci]? = some q ∧ q.1 = C ∧ wz[q0]? = some (b, .inr (ci, fs))) (hR : RM R kz nz kc ks) (hst : st = As.reverse ++ .ref b :: rest) (hn : As.length = n0) (hsum : (rest.map fun v => v.category).sum ≤ 8) (hdg : decode cc pc = .ok (.invokevirtual idx, 3)) (hpc : pc + 3 = pc') (kk : J p l e R s m args below meth c nL D A kc ks Kf sp ws' pc' lv (.int r :: rest)) : J p l e R s m args below meth c nL D A kc ks Kf sp ws pc lv st := by
  subst hpc
  subst hst
  intro ls H locs hl hP hD hS
  obtain ⟨⟨hx, hb, hml, hown, hts⟩, hK, hN, hr, hlk, hA⟩ := X
  have hPz : va_P D vwCl wz H := hP.sub isC (by
    have h9 := congrArg (List.filterMap id) hC
    simpa [List.filterMap_map, List.map_map] using h9)
  have hDz : va_D A wz := hD.sub isC hnd.1 hC
  have hF : ∀ q, va_A wz H.size q → A q := fun q h => by
    rcases h with ⟨k, e9, h⟩ | h
    · exact hDz.2 k (q, e9) h
    · exact hA q (Nat.le_trans hS.1 h)
  refine va_calli (mc := 0) (ms := 0) (va_runV (As := As) (rest := rest) ⟨hx, hb, hml, hown, hts⟩ (hM H.size) (cwV n0 hts hw.good rfl rfl rfl hw.2.2.2.2.2 ⟨hR.1, hR.2.1⟩) ⟨pw_blind, (by obtain ⟨q0, ci, fs, q, g1, g2, g3⟩ := hrecv; obtain ⟨cell, y1, y2, y3⟩ := va_recv hK hPz g1 g3; exact ⟨cell, y1, y2, by rw [← g2]; exact y3⟩), fun U hU hW => ⟨rfl, by rw [hU], by rw [hU]; exact hPz, va_K.moved hW.alike hK, hDz.weaken (fun _ _ _ _ => trivial), hN.warm hW, trivial⟩⟩ rfl hn hl.1 rfl (lv_room hsum) hdg ⟨hR.2.2.1, hR.2.2.2⟩) hS (fun q _ h => hF q h) hF (fun r9 u t H1 locs1 ht hvm hw9 hB hz1 hk1 hS1 => ?_)
  subst hw9
  obtain ⟨hP1, hK1, hD1⟩ := hB
  rw [ht] at hP1
  obtain ⟨hP2, hD2⟩ := va_join hP hD isC isR hC hRr hnd.2.1 hnd.2.2.2 hk1 hF hP1 hD1
  exact kk ls H1 locs1 hl (hP2.sub ps (by
    have h9 := congrArg (List.filterMap id) hps
    simpa [List.filterMap_map, List.map_map] using h9)) (hD2.sub ps hnd.2.2.1 hps) hS1
theorem j_callVv (X : CX p s m args meth c cc nL own ret D (tyl cI cH cO) A) {As : List Value} (hM : MV l z bz nz kz D (tyl cI cH cO) (.ref b :: As) ws ws') (hw : WV own idx C z bz nz none n0) (hrecv : ∃ (q0 ci : Nat) (fs : List Value) (q : vw_C), vwCl[ci]? = some q ∧ q.1 = C ∧ ws[q0]? = some (b, .inr (ci, fs))) (hR : RM R kz nz kc ks) (hst : st = As.reverse ++ .ref b :: rest) (hn : As.length = n0) (hsum : (rest.map fun v => v.category).sum ≤ 8) (hdg : decode cc pc = .ok (.invokevirtual idx, 3)) (hpc : pc + 3 = pc') (kk : J p l e R s m args below meth c nL D A kc ks Kf sp ws' pc' lv rest) : J p l e R s m args below meth c nL D A kc ks Kf sp ws pc lv st := by
  subst hpc
  subst hst
  intro ls H locs hl hP hD hS
  obtain ⟨⟨hx, hb, hml, hown, hts⟩, hK, hN, hr, hlk, hA⟩ := X
  have hPz := hP
  have hDz := hD
  have hF : ∀ q, va_A ws H.size q → A q := fun q h => by
    rcases h with ⟨k, e9, h⟩ | h
    · exact hDz.2 k (q, e9) h
    · exact hA q (Nat.le_trans hS.1 h)
  refine va_callv (mc := 0) (ms := 0) (va_runV (As := As) (rest := rest) ⟨hx, hb, hml, hown, hts⟩ (hM H.size) (cwV n0 hts hw.good rfl rfl rfl hw.2.2.2.2.2 ⟨hR.1, hR.2.1⟩) ⟨pw_blind, (by obtain ⟨q0, ci, fs, q, g1, g2, g3⟩ := hrecv; obtain ⟨cell, y1, y2, y3⟩ := va_recv hK hPz g1 g3; exact ⟨cell, y1, y2, by rw [← g2]; exact y3⟩), fun U hU hW => ⟨rfl, by rw [hU], by rw [hU]; exact hPz, va_K.moved hW.alike hK, hDz.weaken (fun _ _ _ _ => trivial), hN.warm hW, trivial⟩⟩ rfl hn hl.1 rfl (lv_room hsum) hdg ⟨hR.2.2.1, hR.2.2.2⟩) hS (fun q _ h => hF q h) hF (fun u t H1 locs1 ht hvm hw9 hB hz1 hk1 hS1 => ?_)
  obtain ⟨hP1, hK1, hD1⟩ := hB
  rw [ht] at hP1
  exact kk ls H1 locs1 hl hP1 (hD1.weaken (fun k q _ h => hF q.1 h)) hS1
theorem j_callVvF (X : CX p s m args meth c cc nL own ret D (tyl cI cH cO) A) {As : List Value} {wz wz1 wr : va_W} (isC isR ps : List Nat) (hC : isC.map (fun i => ws[i]?) = wz.map some) (hRr : isR.map (fun i => ws[i]?) = wr.map some) (hnd : va_nd isC = true ∧ va_nd isR = true ∧ va_nd ps = true ∧ ∀ i ∈ isR, i ∉ isC) (hps : ps.map (fun i => (wr ++ wz1)[i]?) = ws'.map some) (hM : MV l z bz nz kz D (tyl cI cH cO) (.ref b :: As) wz wz1) (hw : WV own idx C z bz nz none n0) (hrecv : ∃ (q0 ci : Nat) (fs : List Value) (q : vw_C), vwCl[ci]? = some q ∧ q.1 = C ∧ wz[q0]? = some (b, .inr (ci, fs))) (hR : RM R kz nz kc ks) (hst : st = As.reverse ++ .ref b :: rest) (hn : As.length = n0) (hsum : (rest.map fun v => v.category).sum ≤ 8) (hdg : decode cc pc = .ok (.invokevirtual idx, 3)) (hpc : pc + 3 = pc') (kk : J p l e R s m args below meth c nL D A kc ks Kf sp ws' pc' lv rest) : J p l e R s m args below meth c nL D A kc ks Kf sp ws pc lv st := by
  subst hpc
  subst hst
  intro ls H locs hl hP hD hS
  obtain ⟨⟨hx, hb, hml, hown, hts⟩, hK, hN, hr, hlk, hA⟩ := X
  have hPz : va_P D vwCl wz H := hP.sub isC (by
    have h9 := congrArg (List.filterMap id) hC
    simpa [List.filterMap_map, List.map_map] using h9)
  have hDz : va_D A wz := hD.sub isC hnd.1 hC
  have hF : ∀ q, va_A wz H.size q → A q := fun q h => by
    rcases h with ⟨k, e9, h⟩ | h
    · exact hDz.2 k (q, e9) h
    · exact hA q (Nat.le_trans hS.1 h)
  refine va_callv (mc := 0) (ms := 0) (va_runV (As := As) (rest := rest) ⟨hx, hb, hml, hown, hts⟩ (hM H.size) (cwV n0 hts hw.good rfl rfl rfl hw.2.2.2.2.2 ⟨hR.1, hR.2.1⟩) ⟨pw_blind, (by obtain ⟨q0, ci, fs, q, g1, g2, g3⟩ := hrecv; obtain ⟨cell, y1, y2, y3⟩ := va_recv hK hPz g1 g3; exact ⟨cell, y1, y2, by rw [← g2]; exact y3⟩), fun U hU hW => ⟨rfl, by rw [hU], by rw [hU]; exact hPz, va_K.moved hW.alike hK, hDz.weaken (fun _ _ _ _ => trivial), hN.warm hW, trivial⟩⟩ rfl hn hl.1 rfl (lv_room hsum) hdg ⟨hR.2.2.1, hR.2.2.2⟩) hS (fun q _ h => hF q h) hF (fun u t H1 locs1 ht hvm hw9 hB hz1 hk1 hS1 => ?_)
  obtain ⟨hP1, hK1, hD1⟩ := hB
  rw [ht] at hP1
  obtain ⟨hP2, hD2⟩ := va_join hP hD isC isR hC hRr hnd.2.1 hnd.2.2.2 hk1 hF hP1 hD1
  exact kk ls H1 locs1 hl (hP2.sub ps (by
    have h9 := congrArg (List.filterMap id) hps
    simpa [List.filterMap_map, List.map_map] using h9)) (hD2.sub ps hnd.2.2.1 hps) hS1
theorem j_callSi (X : CX p s m args meth c cc nL own ret D (tyl cI cH cO) A) {As : List Value} (hM : MI l z bz nz rz kz D (tyl cI cH cO) As ws r ws') (hw : WS own idx z bz nz rz n0) (hR : RM R kz nz kc ks) (hst : st = As.reverse ++ rest) (hn : As.length = n0) (hsum : (rest.map fun v => v.category).sum ≤ 8) (hdg : decode cc pc = .ok (.invokestatic idx, 3)) (hpc : pc + 3 = pc') (kk : J p l e R s m args below meth c nL D A kc ks Kf sp ws' pc' lv (.int r :: rest)) : J p l e R s m args below meth c nL D A kc ks Kf sp ws pc lv st := by
  subst hpc
  subst hst
  intro ls H locs hl hP hD hS
  obtain ⟨⟨hx, hb, hml, hown, hts⟩, hK, hN, hr, hlk, hA⟩ := X
  have hPz := hP
  have hDz := hD
  have hF : ∀ q, va_A ws H.size q → A q := fun q h => by
    rcases h with ⟨k, e9, h⟩ | h
    · exact hDz.2 k (q, e9) h
    · exact hA q (Nat.le_trans hS.1 h)
  refine va_calli (mc := 0) (ms := 0) (va_runS (As := As) (rest := rest) ⟨hx, hb, hml, hown, hts⟩ (hM H.size) (va_cwS n0 hts (goodIn_ap (tt_in (fun w h => by simp only [List.mem_cons, List.not_mem_nil, or_false] at h; rcases h with rfl | rfl | rfl; exact hw.2.1; exact hw.2.2.1; exact hw.2.2.2.1)) (tt_code hw.1)) rfl rfl rfl hw.2.2.2.2 ⟨hR.1, hR.2.1⟩) ⟨pw_blind, fun U hU hW => ⟨rfl, by rw [hU], by rw [hU]; exact hPz, va_K.moved hW.alike hK, hDz.weaken (fun _ _ _ _ => trivial), hN.warm hW, trivial⟩⟩ rfl hn hl.1 rfl (lv_room hsum) hdg ⟨hR.2.2.1, hR.2.2.2⟩) hS (fun q _ h => hF q h) hF (fun r9 u t H1 locs1 ht hvm hw9 hB hz1 hk1 hS1 => ?_)
  subst hw9
  obtain ⟨hP1, hK1, hD1⟩ := hB
  rw [ht] at hP1
  exact kk ls H1 locs1 hl hP1 (hD1.weaken (fun k q _ h => hF q.1 h)) hS1
theorem j_callSiF (X : CX p s m args meth c cc nL own ret D (tyl cI cH cO) A) {As : List Value} {wz wz1 wr : va_W} (isC isR ps : List Nat) (hC : isC.map (fun i => ws[i]?) = wz.map some) (hRr : isR.map (fun i => ws[i]?) = wr.map some) (hnd : va_nd isC = true ∧ va_nd isR = true ∧ va_nd ps = true ∧ ∀ i ∈ isR, i ∉ isC) (hps : ps.map (fun i => (wr ++ wz1)[i]?) = ws'.map some) (hM : MI l z bz nz rz kz D (tyl cI cH cO) As wz r wz1) (hw : WS own idx z bz nz rz n0) (hR : RM R kz nz kc ks) (hst : st = As.reverse ++ rest) (hn : As.length = n0) (hsum : (rest.map fun v => v.category).sum ≤ 8) (hdg : decode cc pc = .ok (.invokestatic idx, 3)) (hpc : pc + 3 = pc') (kk : J p l e R s m args below meth c nL D A kc ks Kf sp ws' pc' lv (.int r :: rest)) : J p l e R s m args below meth c nL D A kc ks Kf sp ws pc lv st := by
  subst hpc
  subst hst
  intro ls H locs hl hP hD hS
  obtain ⟨⟨hx, hb, hml, hown, hts⟩, hK, hN, hr, hlk, hA⟩ := X
  have hPz : va_P D vwCl wz H := hP.sub isC (by
    have h9 := congrArg (List.filterMap id) hC
    simpa [List.filterMap_map, List.map_map] using h9)
  have hDz : va_D A wz := hD.sub isC hnd.1 hC
  have hF : ∀ q, va_A wz H.size q → A q := fun q h => by
    rcases h with ⟨k, e9, h⟩ | h
    · exact hDz.2 k (q, e9) h
    · exact hA q (Nat.le_trans hS.1 h)
  refine va_calli (mc := 0) (ms := 0) (va_runS (As := As) (rest := rest) ⟨hx, hb, hml, hown, hts⟩ (hM H.size) (va_cwS n0 hts (goodIn_ap (tt_in (fun w h => by simp only [List.mem_cons, List.not_mem_nil, or_false] at h; rcases h with rfl | rfl | rfl; exact hw.2.1; exact hw.2.2.1; exact hw.2.2.2.1)) (tt_code hw.1)) rfl rfl rfl hw.2.2.2.2 ⟨hR.1, hR.2.1⟩) ⟨pw_blind, fun U hU hW => ⟨rfl, by rw [hU], by rw [hU]; exact hPz, va_K.moved hW.alike hK, hDz.weaken (fun _ _ _ _ => trivial), hN.warm hW, trivial⟩⟩ rfl hn hl.1 rfl (lv_room hsum) hdg ⟨hR.2.2.1, hR.2.2.2⟩) hS (fun q _ h => hF q h) hF (fun r9 u t H1 locs1 ht hvm hw9 hB hz1 hk1 hS1 => ?_)
  subst hw9
  obtain ⟨hP1, hK1, hD1⟩ := hB
  rw [ht] at hP1
  obtain ⟨hP2, hD2⟩ := va_join hP hD isC isR hC hRr hnd.2.1 hnd.2.2.2 hk1 hF hP1 hD1
  exact kk ls H1 locs1 hl (hP2.sub ps (by
    have h9 := congrArg (List.filterMap id) hps
    simpa [List.filterMap_map, List.map_map] using h9)) (hD2.sub ps hnd.2.2.1 hps) hS1
theorem j_callSv (X : CX p s m args meth c cc nL own ret D (tyl cI cH cO) A) {As : List Value} (hM : MV l z bz nz kz D (tyl cI cH cO) As ws ws') (hw : WS own idx z bz nz none n0) (hR : RM R kz nz kc ks) (hst : st = As.reverse ++ rest) (hn : As.length = n0) (hsum : (rest.map fun v => v.category).sum ≤ 8) (hdg : decode cc pc = .ok (.invokestatic idx, 3)) (hpc : pc + 3 = pc') (kk : J p l e R s m args below meth c nL D A kc ks Kf sp ws' pc' lv rest) : J p l e R s m args below meth c nL D A kc ks Kf sp ws pc lv st := by
  subst hpc
  subst hst
  intro ls H locs hl hP hD hS
  obtain ⟨⟨hx, hb, hml, hown, hts⟩, hK, hN, hr, hlk, hA⟩ := X
  have hPz := hP
  have hDz := hD
  have hF : ∀ q, va_A ws H.size q → A q := fun q h => by
    rcases h with ⟨k, e9, h⟩ | h
    · exact hDz.2 k (q, e9) h
    · exact hA q (Nat.le_trans hS.1 h)
  refine va_callv (mc := 0) (ms := 0) (va_runS (As := As) (rest := rest) ⟨hx, hb, hml, hown, hts⟩ (hM H.size) (va_cwS n0 hts (goodIn_ap (tt_in (fun w h => by simp only [List.mem_cons, List.not_mem_nil, or_false] at h; rcases h with rfl | rfl | rfl; exact hw.2.1; exact hw.2.2.1; exact hw.2.2.2.1)) (tt_code hw.1)) rfl rfl rfl hw.2.2.2.2 ⟨hR.1, hR.2.1⟩) ⟨pw_blind, fun U hU hW => ⟨rfl, by rw [hU], by rw [hU]; exact hPz, va_K.moved hW.alike hK, hDz.weaken (fun _ _ _ _ => trivial), hN.warm hW, trivial⟩⟩ rfl hn hl.1 rfl (lv_room hsum) hdg ⟨hR.2.2.1, hR.2.2.2⟩) hS (fun q _ h => hF q h) hF (fun u t H1 locs1 ht hvm hw9 hB hz1 hk1 hS1 => ?_)
  obtain ⟨hP1, hK1, hD1⟩ := hB
  rw [ht] at hP1
  exact kk ls H1 locs1 hl hP1 (hD1.weaken (fun k q _ h => hF q.1 h)) hS1
theorem j_callSvF (X : CX p s m args meth c cc nL own ret D (tyl cI cH cO) A) {As : List Value} {wz wz1 wr : va_W} (isC isR ps : List Nat) (hC : isC.map (fun i => ws[i]?) = wz.map some) (hRr : isR.map (fun i => ws[i]?) = wr.map some) (hnd : va_nd isC = true ∧ va_nd isR = true ∧ va_nd ps = true ∧ ∀ i ∈ isR, i ∉ isC) (hps : ps.map (fun i => (wr ++ wz1)[i]?) = ws'.map some) (hM : MV l z bz nz kz D (tyl cI cH cO) As wz wz1) (hw : WS own idx z bz nz none n0) (hR : RM R kz nz kc ks) (hst : st = As.reverse ++ rest) (hn : As.length = n0) (hsum : (rest.map fun v => v.category).sum ≤ 8) (hdg : decode cc pc = .ok (.invokestatic idx, 3)) (hpc : pc + 3 = pc') (kk : J p l e R s m args below meth c nL D A kc ks Kf sp ws' pc' lv rest) : J p l e R s m args below meth c nL D A kc ks Kf sp ws pc lv st := by
  subst hpc
  subst hst
  intro ls H locs hl hP hD hS
  obtain ⟨⟨hx, hb, hml, hown, hts⟩, hK, hN, hr, hlk, hA⟩ := X
  have hPz : va_P D vwCl wz H := hP.sub isC (by
    have h9 := congrArg (List.filterMap id) hC
    simpa [List.filterMap_map, List.map_map] using h9)
  have hDz : va_D A wz := hD.sub isC hnd.1 hC
  have hF : ∀ q, va_A wz H.size q → A q := fun q h => by
    rcases h with ⟨k, e9, h⟩ | h
    · exact hDz.2 k (q, e9) h
    · exact hA q (Nat.le_trans hS.1 h)
  refine va_callv (mc := 0) (ms := 0) (va_runS (As := As) (rest := rest) ⟨hx, hb, hml, hown, hts⟩ (hM H.size) (va_cwS n0 hts (goodIn_ap (tt_in (fun w h => by simp only [List.mem_cons, List.not_mem_nil, or_false] at h; rcases h with rfl | rfl | rfl; exact hw.2.1; exact hw.2.2.1; exact hw.2.2.2.1)) (tt_code hw.1)) rfl rfl rfl hw.2.2.2.2 ⟨hR.1, hR.2.1⟩) ⟨pw_blind, fun U hU hW => ⟨rfl, by rw [hU], by rw [hU]; exact hPz, va_K.moved hW.alike hK, hDz.weaken (fun _ _ _ _ => trivial), hN.warm hW, trivial⟩⟩ rfl hn hl.1 rfl (lv_room hsum) hdg ⟨hR.2.2.1, hR.2.2.2⟩) hS (fun q _ h => hF q h) hF (fun u t H1 locs1 ht hvm hw9 hB hz1 hk1 hS1 => ?_)
  obtain ⟨hP1, hK1, hD1⟩ := hB
  rw [ht] at hP1
  obtain ⟨hP2, hD2⟩ := va_join hP hD isC isR hC hRr hnd.2.1 hnd.2.2.2 hk1 hF hP1 hD1
  exact kk ls H1 locs1 hl (hP2.sub ps (by
    have h9 := congrArg (List.filterMap id) hps
    simpa [List.filterMap_map, List.map_map] using h9)) (hD2.sub ps hnd.2.2.1 hps) hS1
theorem j_callNi (X : CX p s m args meth c cc nL own ret D (tyl cI cH cO) A) {As : List Value} (hM : MI l z bz nz rz kz D (tyl cI cH cO) As ws r ws') {host : String} (hnw : va_Nw (.methodLinkNest own idx z host) s) (hw : Cond.code z bz nz rz ∈ TT ∧ Cond.static z ∈ TT ∧ Cond.initialized z.cls ∈ TT ∧ (z.cls ≠ "java/lang/invoke/MethodHandle" ∧ z.cls ≠ "java/lang/invoke/VarHandle" ∧ (parseMethodDescriptor z.desc).map (fun d => d.parameters.length) = some n0)) (hR : RM R kz nz kc ks) (hst : st = As.reverse ++ rest) (hn : As.length = n0) (hsum : (rest.map fun v => v.category).sum ≤ 8) (hdg : decode cc pc = .ok (.invokestatic idx, 3)) (hpc : pc + 3 = pc') (kk : J p l e R s m args below meth c nL D A kc ks Kf sp ws' pc' lv (.int r :: rest)) : J p l e R s m args below meth c nL D A kc ks Kf sp ws pc lv st := by
  subst hpc
  subst hst
  intro ls H locs hl hP hD hS
  obtain ⟨⟨hx, hb, hml, hown, hts⟩, hK, hN, hr, hlk, hA⟩ := X
  have hPz := hP
  have hDz := hD
  have hF : ∀ q, va_A ws H.size q → A q := fun q h => by
    rcases h with ⟨k, e9, h⟩ | h
    · exact hDz.2 k (q, e9) h
    · exact hA q (Nat.le_trans hS.1 h)
  refine va_calli (mc := 0) (ms := 0) (va_runSN (As := As) (rest := rest) ⟨hx, hb, hml, hown, hts⟩ (hM H.size) ⟨va_cnB n0 hts (tt_code hw.1) rfl rfl rfl hnw (hts _ hw.2.2.1) hw.2.2.2 ⟨hR.1, hR.2.1⟩, hts _ hw.2.1, trivial⟩ ⟨pw_blind, fun U hU hW => ⟨rfl, by rw [hU], by rw [hU]; exact hPz, va_K.moved hW.alike hK, hDz.weaken (fun _ _ _ _ => trivial), hN.warm hW, trivial⟩⟩ rfl hn hl.1 rfl (lv_room hsum) hdg ⟨hR.2.2.1, hR.2.2.2⟩) hS (fun q _ h => hF q h) hF (fun r9 u t H1 locs1 ht hvm hw9 hB hz1 hk1 hS1 => ?_)
  subst hw9
  obtain ⟨hP1, hK1, hD1⟩ := hB
  rw [ht] at hP1
  exact kk ls H1 locs1 hl hP1 (hD1.weaken (fun k q _ h => hF q.1 h)) hS1
theorem j_callNiF (X : CX p s m args meth c cc nL own ret D (tyl cI cH cO) A) {As : List Value} {wz wz1 wr : va_W} (isC isR ps : List Nat) (hC : isC.map (fun i => ws[i]?) = wz.map some) (hRr : isR.map (fun i => ws[i]?) = wr.map some) (hnd : va_nd isC = true ∧ va_nd isR = true ∧ va_nd ps = true ∧ ∀ i ∈ isR, i ∉ isC) (hps : ps.map (fun i => (wr ++ wz1)[i]?) = ws'.map some) (hM : MI l z bz nz rz kz D (tyl cI cH cO) As wz r wz1) {host : String} (hnw : va_Nw (.methodLinkNest own idx z host) s) (hw : Cond.code z bz nz rz ∈ TT ∧ Cond.static z ∈ TT ∧ Cond.initialized z.cls ∈ TT ∧ (z.cls ≠ "java/lang/invoke/MethodHandle" ∧ z.cls ≠ "java/lang/invoke/VarHandle" ∧ (parseMethodDescriptor z.desc).map (fun d => d.parameters.length) = some n0)) (hR : RM R kz nz kc ks) (hst : st = As.reverse ++ rest) (hn : As.length = n0) (hsum : (rest.map fun v => v.category).sum ≤ 8) (hdg : decode cc pc = .ok (.invokestatic idx, 3)) (hpc : pc + 3 = pc') (kk : J p l e R s m args below meth c nL D A kc ks Kf sp ws' pc' lv (.int r :: rest)) : J p l e R s m args below meth c nL D A kc ks Kf sp ws pc lv st := by
  subst hpc
  subst hst
  intro ls H locs hl hP hD hS
  obtain ⟨⟨hx, hb, hml, hown, hts⟩, hK, hN, hr, hlk, hA⟩ := X
  have hPz : va_P D vwCl wz H := hP.sub isC (by
    have h9 := congrArg (List.filterMap id) hC
    simpa [List.filterMap_map, List.map_map] using h9)
  have hDz : va_D A wz := hD.sub isC hnd.1 hC
  have hF : ∀ q, va_A wz H.size q → A q := fun q h => by
    rcases h with ⟨k, e9, h⟩ | h
    · exact hDz.2 k (q, e9) h
    · exact hA q (Nat.le_trans hS.1 h)
  refine va_calli (mc := 0) (ms := 0) (va_runSN (As := As) (rest := rest) ⟨hx, hb, hml, hown, hts⟩ (hM H.size) ⟨va_cnB n0 hts (tt_code hw.1) rfl rfl rfl hnw (hts _ hw.2.2.1) hw.2.2.2 ⟨hR.1, hR.2.1⟩, hts _ hw.2.1, trivial⟩ ⟨pw_blind, fun U hU hW => ⟨rfl, by rw [hU], by rw [hU]; exact hPz, va_K.moved hW.alike hK, hDz.weaken (fun _ _ _ _ => trivial), hN.warm hW, trivial⟩⟩ rfl hn hl.1 rfl (lv_room hsum) hdg ⟨hR.2.2.1, hR.2.2.2⟩) hS (fun q _ h => hF q h) hF (fun r9 u t H1 locs1 ht hvm hw9 hB hz1 hk1 hS1 => ?_)
  subst hw9
  obtain ⟨hP1, hK1, hD1⟩ := hB
  rw [ht] at hP1
  obtain ⟨hP2, hD2⟩ := va_join hP hD isC isR hC hRr hnd.2.1 hnd.2.2.2 hk1 hF hP1 hD1
  exact kk ls H1 locs1 hl (hP2.sub ps (by
    have h9 := congrArg (List.filterMap id) hps
    simpa [List.filterMap_map, List.map_map] using h9)) (hD2.sub ps hnd.2.2.1 hps) hS1
theorem j_callNv (X : CX p s m args meth c cc nL own ret D (tyl cI cH cO) A) {As : List Value} (hM : MV l z bz nz kz D (tyl cI cH cO) As ws ws') {host : String} (hnw : va_Nw (.methodLinkNest own idx z host) s) (hw : Cond.code z bz nz none ∈ TT ∧ Cond.static z ∈ TT ∧ Cond.initialized z.cls ∈ TT ∧ (z.cls ≠ "java/lang/invoke/MethodHandle" ∧ z.cls ≠ "java/lang/invoke/VarHandle" ∧ (parseMethodDescriptor z.desc).map (fun d => d.parameters.length) = some n0)) (hR : RM R kz nz kc ks) (hst : st = As.reverse ++ rest) (hn : As.length = n0) (hsum : (rest.map fun v => v.category).sum ≤ 8) (hdg : decode cc pc = .ok (.invokestatic idx, 3)) (hpc : pc + 3 = pc') (kk : J p l e R s m args below meth c nL D A kc ks Kf sp ws' pc' lv rest) : J p l e R s m args below meth c nL D A kc ks Kf sp ws pc lv st := by
  subst hpc
  subst hst
  intro ls H locs hl hP hD hS
  obtain ⟨⟨hx, hb, hml, hown, hts⟩, hK, hN, hr, hlk, hA⟩ := X
  have hPz := hP
  have hDz := hD
  have hF : ∀ q, va_A ws H.size q → A q := fun q h => by
    rcases h with ⟨k, e9, h⟩ | h
    · exact hDz.2 k (q, e9) h
    · exact hA q (Nat.le_trans hS.1 h)
  refine va_callv (mc := 0) (ms := 0) (va_runSN (As := As) (rest := rest) ⟨hx, hb, hml, hown, hts⟩ (hM H.size) ⟨va_cnB n0 hts (tt_code hw.1) rfl rfl rfl hnw (hts _ hw.2.2.1) hw.2.2.2 ⟨hR.1, hR.2.1⟩, hts _ hw.2.1, trivial⟩ ⟨pw_blind, fun U hU hW => ⟨rfl, by rw [hU], by rw [hU]; exact hPz, va_K.moved hW.alike hK, hDz.weaken (fun _ _ _ _ => trivial), hN.warm hW, trivial⟩⟩ rfl hn hl.1 rfl (lv_room hsum) hdg ⟨hR.2.2.1, hR.2.2.2⟩) hS (fun q _ h => hF q h) hF (fun u t H1 locs1 ht hvm hw9 hB hz1 hk1 hS1 => ?_)
  obtain ⟨hP1, hK1, hD1⟩ := hB
  rw [ht] at hP1
  exact kk ls H1 locs1 hl hP1 (hD1.weaken (fun k q _ h => hF q.1 h)) hS1
theorem j_callNvF (X : CX p s m args meth c cc nL own ret D (tyl cI cH cO) A) {As : List Value} {wz wz1 wr : va_W} (isC isR ps : List Nat) (hC : isC.map (fun i => ws[i]?) = wz.map some) (hRr : isR.map (fun i => ws[i]?) = wr.map some) (hnd : va_nd isC = true ∧ va_nd isR = true ∧ va_nd ps = true ∧ ∀ i ∈ isR, i ∉ isC) (hps : ps.map (fun i => (wr ++ wz1)[i]?) = ws'.map some) (hM : MV l z bz nz kz D (tyl cI cH cO) As wz wz1) {host : String} (hnw : va_Nw (.methodLinkNest own idx z host) s) (hw : Cond.code z bz nz none ∈ TT ∧ Cond.static z ∈ TT ∧ Cond.initialized z.cls ∈ TT ∧ (z.cls ≠ "java/lang/invoke/MethodHandle" ∧ z.cls ≠ "java/lang/invoke/VarHandle" ∧ (parseMethodDescriptor z.desc).map (fun d => d.parameters.length) = some n0)) (hR : RM R kz nz kc ks) (hst : st = As.reverse ++ rest) (hn : As.length = n0) (hsum : (rest.map fun v => v.category).sum ≤ 8) (hdg : decode cc pc = .ok (.invokestatic idx, 3)) (hpc : pc + 3 = pc') (kk : J p l e R s m args below meth c nL D A kc ks Kf sp ws' pc' lv rest) : J p l e R s m args below meth c nL D A kc ks Kf sp ws pc lv st := by
  subst hpc
  subst hst
  intro ls H locs hl hP hD hS
  obtain ⟨⟨hx, hb, hml, hown, hts⟩, hK, hN, hr, hlk, hA⟩ := X
  have hPz : va_P D vwCl wz H := hP.sub isC (by
    have h9 := congrArg (List.filterMap id) hC
    simpa [List.filterMap_map, List.map_map] using h9)
  have hDz : va_D A wz := hD.sub isC hnd.1 hC
  have hF : ∀ q, va_A wz H.size q → A q := fun q h => by
    rcases h with ⟨k, e9, h⟩ | h
    · exact hDz.2 k (q, e9) h
    · exact hA q (Nat.le_trans hS.1 h)
  refine va_callv (mc := 0) (ms := 0) (va_runSN (As := As) (rest := rest) ⟨hx, hb, hml, hown, hts⟩ (hM H.size) ⟨va_cnB n0 hts (tt_code hw.1) rfl rfl rfl hnw (hts _ hw.2.2.1) hw.2.2.2 ⟨hR.1, hR.2.1⟩, hts _ hw.2.1, trivial⟩ ⟨pw_blind, fun U hU hW => ⟨rfl, by rw [hU], by rw [hU]; exact hPz, va_K.moved hW.alike hK, hDz.weaken (fun _ _ _ _ => trivial), hN.warm hW, trivial⟩⟩ rfl hn hl.1 rfl (lv_room hsum) hdg ⟨hR.2.2.1, hR.2.2.2⟩) hS (fun q _ h => hF q h) hF (fun u t H1 locs1 ht hvm hw9 hB hz1 hk1 hS1 => ?_)
  obtain ⟨hP1, hK1, hD1⟩ := hB
  rw [ht] at hP1
  obtain ⟨hP2, hD2⟩ := va_join hP hD isC isR hC hRr hnd.2.1 hnd.2.2.2 hk1 hF hP1 hD1
  exact kk ls H1 locs1 hl (hP2.sub ps (by
    have h9 := congrArg (List.filterMap id) hps
    simpa [List.filterMap_map, List.map_map] using h9)) (hD2.sub ps hnd.2.2.1 hps) hS1
end JC
end
section
/-! the worlds: an object with its arrays; its state is a function of slot and place -/
def wC (cI : ClassId) (h : Nat) (ar : Nat → Nat) (C : Cst) : va_W := [(h, .inr (0, [.ref (ar 0), .ref (ar 1), .ref (ar 2), .ref (ar 3), .ref (ar 4), .ref (ar 5), .ref (ar 6), .ref (ar 7), .ref (ar 8), .int (C 9 0), .int (C 10 0), .int (C 11 0), .int (C 12 0), .int (C 13 0), .int (C 14 0), .int (C 15 0), .int (C 16 0)])), (ar 0, .inl (cI, 5, .inl (C 0))), (ar 1, .inl (cI, 8, .inl (C 1))), (ar 2, .inl (cI, 8, .inl (C 2))), (ar 3, .inl (cI, 8, .inl (C 3))), (ar 4, .inl (cI, 8, .inl (C 4))), (ar 5, .inl (cI, 8, .inl (C 5))), (ar 6, .inl (cI, 8, .inl (C 6))), (ar 7, .inl (cI, 8, .inl (C 7))), (ar 8, .inl (cI, 30, .inl (C 8)))]
def wM (cI : ClassId) (h : Nat) (ar : Nat → Nat) (C : Cst) : va_W := [(h, .inr (5, [.ref (ar 0), .ref (ar 1), .ref (ar 2), .int (C 3 0), .int (C 4 0), .ref (ar 5), .int (C 6 0), .ref (ar 7), .int (C 8 0), .int (C 9 0), .int (C 10 0), .ref (ar 11), .ref (ar 12)])), (ar 0, .inl (cI, 107, .inl (C 0))), (ar 1, .inl (cI, 428, .inl (C 1))), (ar 2, .inl (cI, 107, .inl (C 2))), (ar 5, .inl (cI, 60, .inl (C 5))), (ar 7, .inl (cI, 8, .inl (C 7))), (ar 11, .inl (cI, 2, .inl (C 11))), (ar 12, .inl (cI, 107, .inl (C 12)))]
def wT (cH : ClassId) (h : Nat) (ar : Nat → Nat) (C : Cst) : va_W := [(h, .inr (3, [.ref (ar 0), .int (C 1 0), .int (C 2 0), .int (C 3 0), .int (C 4 0), .int (C 5 0)])), (ar 0, .inl (cH, 60, .inl (C 0)))]
def wR (h : Nat) (C : Cst) : va_W := [(h, .inr (2, [.int (C 0 0), .int (C 1 0), .int (C 2 0), .int (C 3 0)]))]
section LP
def zp1 {α a : Type} (body : (a → α) → a → α) (dft : a → α) : Nat → a → α
  | 0, x0 => dft x0
  | n + 1, x0 => body (zp1 body dft n) x0
theorem zp1_z {α a : Type} (body : (a → α) → a → α) (dft : a → α) (x0 : a) : zp1 body dft 0 x0 = dft x0 := rfl
theorem zp1_s {α a : Type} (body : (a → α) → a → α) (dft : a → α) (n : Nat) (x0 : a) : zp1 body dft (n + 1) x0 = body (zp1 body dft n) x0 := rfl
theorem zp1_ind {α a : Type} {body : (a → α) → a → α} {dft : a → α} {Q9 : a → α → Prop} (h0 : ∀ x0, Q9 x0 (dft x0)) (hs : ∀ rec, (∀ x0, Q9 x0 (rec x0)) → ∀ x0, Q9 x0 (body rec x0)) : ∀ (n : Nat) (x0 : a), Q9 x0 (zp1 body dft n x0) := by
  intro n
  induction n with
  | zero => exact h0
  | succ n ih => exact hs _ ih
def ltl1 {α a : Type} (body : (a → α) → a → α) (dft : a → α) (F : (Nat → a → α) → α) : α := F (zp1 body dft)
def zp2 {α a b : Type} (body : (a → b → α) → a → b → α) (dft : a → b → α) : Nat → a → b → α
  | 0, x0, x1 => dft x0 x1
  | n + 1, x0, x1 => body (zp2 body dft n) x0 x1
theorem zp2_z {α a b : Type} (body : (a → b → α) → a → b → α) (dft : a → b → α) (x0 : a) (x1 : b) : zp2 body dft 0 x0 x1 = dft x0 x1 := rfl
theorem zp2_s {α a b : Type} (body : (a → b → α) → a → b → α) (dft : a → b → α) (n : Nat) (x0 : a) (x1 : b) : zp2 body dft (n + 1) x0 x1 = body (zp2 body dft n) x0 x1 := rfl
theorem zp2_ind {α a b : Type} {body : (a → b → α) → a → b → α} {dft : a → b → α} {Q9 : a → b → α → Prop} (h0 : ∀ x0 x1, Q9 x0 x1 (dft x0 x1)) (hs : ∀ rec, (∀ x0 x1, Q9 x0 x1 (rec x0 x1)) → ∀ x0 x1, Q9 x0 x1 (body rec x0 x1)) : ∀ (n : Nat) (x0 : a) (x1 : b), Q9 x0 x1 (zp2 body dft n x0 x1) := by
  intro n
  induction n with
  | zero => exact h0
  | succ n ih => exact hs _ ih
def ltl2 {α a b : Type} (body : (a → b → α) → a → b → α) (dft : a → b → α) (F : (Nat → a → b → α) → α) : α := F (zp2 body dft)
def zp3 {α a b c : Type} (body : (a → b → c → α) → a → b → c → α) (dft : a → b → c → α) : Nat → a → b → c → α
  | 0, x0, x1, x2 => dft x0 x1 x2
  | n + 1, x0, x1, x2 => body (zp3 body dft n) x0 x1 x2
theorem zp3_z {α a b c : Type} (body : (a → b → c → α) → a → b → c → α) (dft : a → b → c → α) (x0 : a) (x1 : b) (x2 : c) : zp3 body dft 0 x0 x1 x2 = dft x0 x1 x2 := rfl
theorem zp3_s {α a b c : Type} (body : (a → b → c → α) → a → b → c → α) (dft : a → b → c → α) (n : Nat) (x0 : a) (x1 : b) (x2 : c) : zp3 body dft (n + 1) x0 x1 x2 = body (zp3 body dft n) x0 x1 x2 := rfl
theorem zp3_ind {α a b c : Type} {body : (a → b → c → α) → a → b → c → α} {dft : a → b → c → α} {Q9 : a → b → c → α → Prop} (h0 : ∀ x0 x1 x2, Q9 x0 x1 x2 (dft x0 x1 x2)) (hs : ∀ rec, (∀ x0 x1 x2, Q9 x0 x1 x2 (rec x0 x1 x2)) → ∀ x0 x1 x2, Q9 x0 x1 x2 (body rec x0 x1 x2)) : ∀ (n : Nat) (x0 : a) (x1 : b) (x2 : c), Q9 x0 x1 x2 (zp3 body dft n x0 x1 x2) := by
  intro n
  induction n with
  | zero => exact h0
  | succ n ih => exact hs _ ih
def ltl3 {α a b c : Type} (body : (a → b → c → α) → a → b → c → α) (dft : a → b → c → α) (F : (Nat → a → b → c → α) → α) : α := F (zp3 body dft)
def zp4 {α a b c d : Type} (body : (a → b → c → d → α) → a → b → c → d → α) (dft : a → b → c → d → α) : Nat → a → b → c → d → α
  | 0, x0, x1, x2, x3 => dft x0 x1 x2 x3
  | n + 1, x0, x1, x2, x3 => body (zp4 body dft n) x0 x1 x2 x3
theorem zp4_z {α a b c d : Type} (body : (a → b → c → d → α) → a → b → c → d → α) (dft : a → b → c → d → α) (x0 : a) (x1 : b) (x2 : c) (x3 : d) : zp4 body dft 0 x0 x1 x2 x3 = dft x0 x1 x2 x3 := rfl
theorem zp4_s {α a b c d : Type} (body : (a → b → c → d → α) → a → b → c → d → α) (dft : a → b → c → d → α) (n : Nat) (x0 : a) (x1 : b) (x2 : c) (x3 : d) : zp4 body dft (n + 1) x0 x1 x2 x3 = body (zp4 body dft n) x0 x1 x2 x3 := rfl
theorem zp4_ind {α a b c d : Type} {body : (a → b → c → d → α) → a → b → c → d → α} {dft : a → b → c → d → α} {Q9 : a → b → c → d → α → Prop} (h0 : ∀ x0 x1 x2 x3, Q9 x0 x1 x2 x3 (dft x0 x1 x2 x3)) (hs : ∀ rec, (∀ x0 x1 x2 x3, Q9 x0 x1 x2 x3 (rec x0 x1 x2 x3)) → ∀ x0 x1 x2 x3, Q9 x0 x1 x2 x3 (body rec x0 x1 x2 x3)) : ∀ (n : Nat) (x0 : a) (x1 : b) (x2 : c) (x3 : d), Q9 x0 x1 x2 x3 (zp4 body dft n x0 x1 x2 x3) := by
  intro n
  induction n with
  | zero => exact h0
  | succ n ih => exact hs _ ih
def ltl4 {α a b c d : Type} (body : (a → b → c → d → α) → a → b → c → d → α) (dft : a → b → c → d → α) (F : (Nat → a → b → c → d → α) → α) : α := F (zp4 body dft)
def zp5 {α a b c d e : Type} (body : (a → b → c → d → e → α) → a → b → c → d → e → α) (dft : a → b → c → d → e → α) : Nat → a → b → c → d → e → α
  | 0, x0, x1, x2, x3, x4 => dft x0 x1 x2 x3 x4
  | n + 1, x0, x1, x2, x3, x4 => body (zp5 body dft n) x0 x1 x2 x3 x4
theorem zp5_z {α a b c d e : Type} (body : (a → b → c → d → e → α) → a → b → c → d → e → α) (dft : a → b → c → d → e → α) (x0 : a) (x1 : b) (x2 : c) (x3 : d) (x4 : e) : zp5 body dft 0 x0 x1 x2 x3 x4 = dft x0 x1 x2 x3 x4 := rfl
theorem zp5_s {α a b c d e : Type} (body : (a → b → c → d → e → α) → a → b → c → d → e → α) (dft : a → b → c → d → e → α) (n : Nat) (x0 : a) (x1 : b) (x2 : c) (x3 : d) (x4 : e) : zp5 body dft (n + 1) x0 x1 x2 x3 x4 = body (zp5 body dft n) x0 x1 x2 x3 x4 := rfl
theorem zp5_ind {α a b c d e : Type} {body : (a → b → c → d → e → α) → a → b → c → d → e → α} {dft : a → b → c → d → e → α} {Q9 : a → b → c → d → e → α → Prop} (h0 : ∀ x0 x1 x2 x3 x4, Q9 x0 x1 x2 x3 x4 (dft x0 x1 x2 x3 x4)) (hs : ∀ rec, (∀ x0 x1 x2 x3 x4, Q9 x0 x1 x2 x3 x4 (rec x0 x1 x2 x3 x4)) → ∀ x0 x1 x2 x3 x4, Q9 x0 x1 x2 x3 x4 (body rec x0 x1 x2 x3 x4)) : ∀ (n : Nat) (x0 : a) (x1 : b) (x2 : c) (x3 : d) (x4 : e), Q9 x0 x1 x2 x3 x4 (zp5 body dft n x0 x1 x2 x3 x4) := by
  intro n
  induction n with
  | zero => exact h0
  | succ n ih => exact hs _ ih
def ltl5 {α a b c d e : Type} (body : (a → b → c → d → e → α) → a → b → c → d → e → α) (dft : a → b → c → d → e → α) (F : (Nat → a → b → c → d → e → α) → α) : α := F (zp5 body dft)
def zp6 {α a b c d e f : Type} (body : (a → b → c → d → e → f → α) → a → b → c → d → e → f → α) (dft : a → b → c → d → e → f → α) : Nat → a → b → c → d → e → f → α
  | 0, x0, x1, x2, x3, x4, x5 => dft x0 x1 x2 x3 x4 x5
  | n + 1, x0, x1, x2, x3, x4, x5 => body (zp6 body dft n) x0 x1 x2 x3 x4 x5
theorem zp6_z {α a b c d e f : Type} (body : (a → b → c → d → e → f → α) → a → b → c → d → e → f → α) (dft : a → b → c → d → e → f → α) (x0 : a) (x1 : b) (x2 : c) (x3 : d) (x4 : e) (x5 : f) : zp6 body dft 0 x0 x1 x2 x3 x4 x5 = dft x0 x1 x2 x3 x4 x5 := rfl
theorem zp6_s {α a b c d e f : Type} (body : (a → b → c → d → e → f → α) → a → b → c → d → e → f → α) (dft : a → b → c → d → e → f → α) (n : Nat) (x0 : a) (x1 : b) (x2 : c) (x3 : d) (x4 : e) (x5 : f) : zp6 body dft (n + 1) x0 x1 x2 x3 x4 x5 = body (zp6 body dft n) x0 x1 x2 x3 x4 x5 := rfl
theorem zp6_ind {α a b c d e f : Type} {body : (a → b → c → d → e → f → α) → a → b → c → d → e → f → α} {dft : a → b → c → d → e → f → α} {Q9 : a → b → c → d → e → f → α → Prop} (h0 : ∀ x0 x1 x2 x3 x4 x5, Q9 x0 x1 x2 x3 x4 x5 (dft x0 x1 x2 x3 x4 x5)) (hs : ∀ rec, (∀ x0 x1 x2 x3 x4 x5, Q9 x0 x1 x2 x3 x4 x5 (rec x0 x1 x2 x3 x4 x5)) → ∀ x0 x1 x2 x3 x4 x5, Q9 x0 x1 x2 x3 x4 x5 (body rec x0 x1 x2 x3 x4 x5)) : ∀ (n : Nat) (x0 : a) (x1 : b) (x2 : c) (x3 : d) (x4 : e) (x5 : f), Q9 x0 x1 x2 x3 x4 x5 (zp6 body dft n x0 x1 x2 x3 x4 x5) := by
  intro n
  induction n with
  | zero => exact h0
  | succ n ih => exact hs _ ih
def ltl6 {α a b c d e f : Type} (body : (a → b → c → d → e → f → α) → a → b → c → d → e → f → α) (dft : a → b → c → d → e → f → α) (F : (Nat → a → b → c → d → e → f → α) → α) : α := F (zp6 body dft)
def zp7 {α a b c d e f g : Type} (body : (a → b → c → d → e → f → g → α) → a → b → c → d → e → f → g → α) (dft : a → b → c → d → e → f → g → α) : Nat → a → b → c → d → e → f → g → α
  | 0, x0, x1, x2, x3, x4, x5, x6 => dft x0 x1 x2 x3 x4 x5 x6
  | n + 1, x0, x1, x2, x3, x4, x5, x6 => body (zp7 body dft n) x0 x1 x2 x3 x4 x5 x6
theorem zp7_z {α a b c d e f g : Type} (body : (a → b → c → d → e → f → g → α) → a → b → c → d → e → f → g → α) (dft : a → b → c → d → e → f → g → α) (x0 : a) (x1 : b) (x2 : c) (x3 : d) (x4 : e) (x5 : f) (x6 : g) : zp7 body dft 0 x0 x1 x2 x3 x4 x5 x6 = dft x0 x1 x2 x3 x4 x5 x6 := rfl
theorem zp7_s {α a b c d e f g : Type} (body : (a → b → c → d → e → f → g → α) → a → b → c → d → e → f → g → α) (dft : a → b → c → d → e → f → g → α) (n : Nat) (x0 : a) (x1 : b) (x2 : c) (x3 : d) (x4 : e) (x5 : f) (x6 : g) : zp7 body dft (n + 1) x0 x1 x2 x3 x4 x5 x6 = body (zp7 body dft n) x0 x1 x2 x3 x4 x5 x6 := rfl
theorem zp7_ind {α a b c d e f g : Type} {body : (a → b → c → d → e → f → g → α) → a → b → c → d → e → f → g → α} {dft : a → b → c → d → e → f → g → α} {Q9 : a → b → c → d → e → f → g → α → Prop} (h0 : ∀ x0 x1 x2 x3 x4 x5 x6, Q9 x0 x1 x2 x3 x4 x5 x6 (dft x0 x1 x2 x3 x4 x5 x6)) (hs : ∀ rec, (∀ x0 x1 x2 x3 x4 x5 x6, Q9 x0 x1 x2 x3 x4 x5 x6 (rec x0 x1 x2 x3 x4 x5 x6)) → ∀ x0 x1 x2 x3 x4 x5 x6, Q9 x0 x1 x2 x3 x4 x5 x6 (body rec x0 x1 x2 x3 x4 x5 x6)) : ∀ (n : Nat) (x0 : a) (x1 : b) (x2 : c) (x3 : d) (x4 : e) (x5 : f) (x6 : g), Q9 x0 x1 x2 x3 x4 x5 x6 (zp7 body dft n x0 x1 x2 x3 x4 x5 x6) := by
  intro n
  induction n with
  | zero => exact h0
  | succ n ih => exact hs _ ih
def ltl7 {α a b c d e f g : Type} (body : (a → b → c → d → e → f → g → α) → a → b → c → d → e → f → g → α) (dft : a → b → c → d → e → f → g → α) (F : (Nat → a → b → c → d → e → f → g → α) → α) : α := F (zp7 body dft)
end LP
section J2
variable {α σ : Type} {p : Program} {l : Launch} {e : Env} {R : Room} {s : State} {m : MethodId} {args : Array Value} {below : List Frame} {meth : Method} {c : Code} {nL : Nat} {D : va_G} {A : Nat → Prop} {kc ks : Nat} {Kf : α → State → Prop} {sp : α} {ws : va_W} {pc pc' : Nat} {lv lv' : List (Nat × Value)} {rest st : List Value}
variable {cc : ByteArray} {own : String} {ret : Option FieldType} {cI cH cO : ClassId}
theorem j_ltv {β : Type} {v : β} {f : β → α} (k : ∀ y, y = v → J p l e R s m args below meth c nL D A kc ks Kf (f y) ws pc lv rest) : J p l e R s m args below meth c nL D A kc ks Kf (ltv v f) ws pc lv rest := k v rfl
theorem j_ltl1 {t0 : Type} {body : (t0 → α) → t0 → α} {dft : t0 → α} {F : (Nat → t0 → α) → α} (k : ∀ L : Nat → t0 → α, (∀ (n : Nat) (x0 : t0), L (n + 1) x0 = body (L n) x0) → J p l e R s m args below meth c nL D A kc ks Kf (F L) ws pc lv rest) : J p l e R s m args below meth c nL D A kc ks Kf (ltl1 body dft F) ws pc lv rest := k (zp1 body dft) (fun _ _ => rfl)
theorem j_ltl2 {t0 t1 : Type} {body : (t0 → t1 → α) → t0 → t1 → α} {dft : t0 → t1 → α} {F : (Nat → t0 → t1 → α) → α} (k : ∀ L : Nat → t0 → t1 → α, (∀ (n : Nat) (x0 : t0) (x1 : t1), L (n + 1) x0 x1 = body (L n) x0 x1) → J p l e R s m args below meth c nL D A kc ks Kf (F L) ws pc lv rest) : J p l e R s m args below meth c nL D A kc ks Kf (ltl2 body dft F) ws pc lv rest := k (zp2 body dft) (fun _ _ _ => rfl)
theorem j_ltl3 {t0 t1 t2 : Type} {body : (t0 → t1 → t2 → α) → t0 → t1 → t2 → α} {dft : t0 → t1 → t2 → α} {F : (Nat → t0 → t1 → t2 → α) → α} (k : ∀ L : Nat → t0 → t1 → t2 → α, (∀ (n : Nat) (x0 : t0) (x1 : t1) (x2 : t2), L (n + 1) x0 x1 x2 = body (L n) x0 x1 x2) → J p l e R s m args below meth c nL D A kc ks Kf (F L) ws pc lv rest) : J p l e R s m args below meth c nL D A kc ks Kf (ltl3 body dft F) ws pc lv rest := k (zp3 body dft) (fun _ _ _ _ => rfl)
theorem j_ltl4 {t0 t1 t2 t3 : Type} {body : (t0 → t1 → t2 → t3 → α) → t0 → t1 → t2 → t3 → α} {dft : t0 → t1 → t2 → t3 → α} {F : (Nat → t0 → t1 → t2 → t3 → α) → α} (k : ∀ L : Nat → t0 → t1 → t2 → t3 → α, (∀ (n : Nat) (x0 : t0) (x1 : t1) (x2 : t2) (x3 : t3), L (n + 1) x0 x1 x2 x3 = body (L n) x0 x1 x2 x3) → J p l e R s m args below meth c nL D A kc ks Kf (F L) ws pc lv rest) : J p l e R s m args below meth c nL D A kc ks Kf (ltl4 body dft F) ws pc lv rest := k (zp4 body dft) (fun _ _ _ _ _ => rfl)
theorem j_ltl5 {t0 t1 t2 t3 t4 : Type} {body : (t0 → t1 → t2 → t3 → t4 → α) → t0 → t1 → t2 → t3 → t4 → α} {dft : t0 → t1 → t2 → t3 → t4 → α} {F : (Nat → t0 → t1 → t2 → t3 → t4 → α) → α} (k : ∀ L : Nat → t0 → t1 → t2 → t3 → t4 → α, (∀ (n : Nat) (x0 : t0) (x1 : t1) (x2 : t2) (x3 : t3) (x4 : t4), L (n + 1) x0 x1 x2 x3 x4 = body (L n) x0 x1 x2 x3 x4) → J p l e R s m args below meth c nL D A kc ks Kf (F L) ws pc lv rest) : J p l e R s m args below meth c nL D A kc ks Kf (ltl5 body dft F) ws pc lv rest := k (zp5 body dft) (fun _ _ _ _ _ _ => rfl)
theorem j_ltl6 {t0 t1 t2 t3 t4 t5 : Type} {body : (t0 → t1 → t2 → t3 → t4 → t5 → α) → t0 → t1 → t2 → t3 → t4 → t5 → α} {dft : t0 → t1 → t2 → t3 → t4 → t5 → α} {F : (Nat → t0 → t1 → t2 → t3 → t4 → t5 → α) → α} (k : ∀ L : Nat → t0 → t1 → t2 → t3 → t4 → t5 → α, (∀ (n : Nat) (x0 : t0) (x1 : t1) (x2 : t2) (x3 : t3) (x4 : t4) (x5 : t5), L (n + 1) x0 x1 x2 x3 x4 x5 = body (L n) x0 x1 x2 x3 x4 x5) → J p l e R s m args below meth c nL D A kc ks Kf (F L) ws pc lv rest) : J p l e R s m args below meth c nL D A kc ks Kf (ltl6 body dft F) ws pc lv rest := k (zp6 body dft) (fun _ _ _ _ _ _ _ => rfl)
theorem j_ltl7 {t0 t1 t2 t3 t4 t5 t6 : Type} {body : (t0 → t1 → t2 → t3 → t4 → t5 → t6 → α) → t0 → t1 → t2 → t3 → t4 → t5 → t6 → α} {dft : t0 → t1 → t2 → t3 → t4 → t5 → t6 → α} {F : (Nat → t0 → t1 → t2 → t3 → t4 → t5 → t6 → α) → α} (k : ∀ L : Nat → t0 → t1 → t2 → t3 → t4 → t5 → t6 → α, (∀ (n : Nat) (x0 : t0) (x1 : t1) (x2 : t2) (x3 : t3) (x4 : t4) (x5 : t5) (x6 : t6), L (n + 1) x0 x1 x2 x3 x4 x5 x6 = body (L n) x0 x1 x2 x3 x4 x5 x6) → J p l e R s m args below meth c nL D A kc ks Kf (F L) ws pc lv rest) : J p l e R s m args below meth c nL D A kc ks Kf (ltl7 body dft F) ws pc lv rest := k (zp7 body dft) (fun _ _ _ _ _ _ _ _ => rfl)
theorem j_topL {v : Int32} {f : Int32 → α} (k : ∀ y, y = v → J p l e R s m args below meth c nL D A kc ks Kf (f y) ws pc lv (.int y :: rest)) : J p l e R s m args below meth c nL D A kc ks Kf (ltv v f) ws pc lv (.int v :: rest) := k v rfl
theorem j_stL {S : σ} {f : σ → α} (wf : σ → va_W) (k : ∀ y, y = S → J p l e R s m args below meth c nL D A kc ks Kf (f y) (wf y) pc lv rest) : J p l e R s m args below meth c nL D A kc ks Kf (ltv S f) (wf S) pc lv rest := k S rfl
theorem j_rsL {q : Int32 × σ} {f : Int32 → σ → α} (wf : σ → va_W) (k : ∀ r S, q = (r, S) → J p l e R s m args below meth c nL D A kc ks Kf (f r S) (wf S) pc lv (.int r :: rest)) : J p l e R s m args below meth c nL D A kc ks Kf (bnd q f) (wf q.2) pc lv (.int q.1 :: rest) := k q.1 q.2 rfl
theorem j_ite {P9 : Prop} {dc : Decidable P9} {A1 B1 : α} (k1 : P9 → J p l e R s m args below meth c nL D A kc ks Kf A1 ws pc lv st) (k2 : ¬ P9 → J p l e R s m args below meth c nL D A kc ks Kf B1 ws pc lv st) : J p l e R s m args below meth c nL D A kc ks Kf (if P9 then A1 else B1) ws pc lv st := by
  by_cases h : P9
  · rw [if_pos h]; exact k1 h
  · rw [if_neg h]; exact k2 h
theorem j_wsP {ws' : va_W} (h1 : ∀ H, va_P D vwCl ws H → va_P D vwCl ws' H) (h2 : va_D A ws → va_D A ws') (k : J p l e R s m args below meth c nL D A kc ks Kf sp ws' pc lv st) : J p l e R s m args below meth c nL D A kc ks Kf sp ws pc lv st := fun ls H locs hl hP hD hS => k ls H locs hl (h1 H hP) (h2 hD) hS
theorem j_tsw (X : CX p s m args meth c cc nL own ret D (tyl cI cH cO) A) {dflt lo hi : Int} {offs : Array Int} {len : Nat} {x : Int32} {off : Int} {tgt : Nat} (hdg : decode cc pc = .ok (.tableswitch dflt lo hi offs, len)) (h1 : ¬ x.toInt < lo) (h2 : ¬ hi < x.toInt) (ho : offs[(x.toInt - lo).toNat]? = some off) (ht : (pc : Int) + off = (tgt : Int)) (k : J p l e R s m args below meth c nL D A kc ks Kf sp ws tgt lv rest) : J p l e R s m args below meth c nL D A kc ks Kf sp ws pc lv (.int x :: rest) := by
  intro ls H locs hl hP hD hS
  obtain ⟨⟨hx, hb, hml, hown, hts⟩, hK, hN, hr, hlk, hA⟩ := X
  exact lv_tableIn hx hb hdg h1 h2 ho ht (k ls H locs hl hP hD hS)
theorem j_tswD (X : CX p s m args meth c cc nL own ret D (tyl cI cH cO) A) {dflt lo hi : Int} {offs : Array Int} {len : Nat} {x : Int32} {tgt : Nat} (hdg : decode cc pc = .ok (.tableswitch dflt lo hi offs, len)) (h : x.toInt < lo ∨ hi < x.toInt) (ht : (pc : Int) + dflt = (tgt : Int)) (k : J p l e R s m args below meth c nL D A kc ks Kf sp ws tgt lv rest) : J p l e R s m args below meth c nL D A kc ks Kf sp ws pc lv (.int x :: rest) := by
  intro ls H locs hl hP hD hS
  obtain ⟨⟨hx, hb, hml, hown, hts⟩, hK, hN, hr, hlk, hA⟩ := X
  exact lv_tableOut hx hb hdg h ht (k ls H locs hl hP hD hS)
theorem j_lsw (X : CX p s m args meth c cc nL own ret D (tyl cI cH cO) A) {dflt : Int} {ps : Array (Int × Int)} {len : Nat} {x : Int32} {off : Int} {tgt : Nat} (hdg : decode cc pc = .ok (.lookupswitch dflt ps, len)) (hp : (ps.toList.zip (ps.toList.drop 1)).all (fun (a, next) => a.1 < next.1) = true) (ho : Op.lookupswitch.offset ps.toList dflt x.toInt = off) (ht : (pc : Int) + off = (tgt : Int)) (k : J p l e R s m args below meth c nL D A kc ks Kf sp ws tgt lv rest) : J p l e R s m args below meth c nL D A kc ks Kf sp ws pc lv (.int x :: rest) := by
  intro ls H locs hl hP hD hS
  obtain ⟨⟨hx, hb, hml, hown, hts⟩, hK, hN, hr, hlk, hA⟩ := X
  exact lv_lookup hx hb hdg hp ho ht (k ls H locs hl hP hD hS)
theorem up_k {C : Cst} {k i : Nat} {x : Int32} {k2 : Nat} (h : ¬ k2 = k) : up C k i x k2 = C k2 := by unfold up; rw [if_neg h]
theorem up_n {C : Cst} {k i : Nat} {x : Int32} {j : Nat} (h : ¬ j = i) : up C k i x k j = C k j := by unfold up; rw [if_pos rfl]; unfold upd; rw [if_neg h]
theorem up_s {C : Cst} {k i : Nat} {x : Int32} : up C k i x k i = x := by unfold up; rw [if_pos rfl]; unfold upd; rw [if_pos rfl]
theorem nI_mul (a b : Nat) : nI a * nI b = nI (a * b) := (Int32.ofNat_mul a b).symm
theorem nI_sub {a b : Nat} (h : b ≤ a) : nI a - nI b = nI (a - b) := by
  have h1 : nI a = nI (a - b) + nI b := by rw [nI_add]; congr 1; omega
  rw [h1]; exact Int32.add_sub_cancel _ _
theorem i32_sub1 (x : Int32) : x + Int32.ofInt (-1) = x - 1 := by
  rw [show Int32.ofInt (-1) = -1 from by decide]; rw [Int32.sub_eq_add_neg]
theorem nI_sb {a : Nat} (h : 1 ≤ a) : nI a + Int32.ofInt (-1) = nI (a - 1) := by
  rw [i32_sub1]; exact nI_sub h
theorem j_iaddN (X : CX p s m args meth c cc nL own ret D (tyl cI cH cO) A) {a b : Nat} (hdg : decode cc pc = .ok (.iadd, 1))  (hpc : pc + 1 = pc') (k : J p l e R s m args below meth c nL D A kc ks Kf sp ws pc' lv (.int (nI (a + b)) :: rest)) : J p l e R s m args below meth c nL D A kc ks Kf sp ws pc lv (.int (nI b) :: .int (nI a) :: rest) := j_iadd X hdg hpc (by rw [nI_add a b]; exact k)
theorem j_imulN (X : CX p s m args meth c cc nL own ret D (tyl cI cH cO) A) {a b : Nat} (hdg : decode cc pc = .ok (.imul, 1))  (hpc : pc + 1 = pc') (k : J p l e R s m args below meth c nL D A kc ks Kf sp ws pc' lv (.int (nI (a * b)) :: rest)) : J p l e R s m args below meth c nL D A kc ks Kf sp ws pc lv (.int (nI b) :: .int (nI a) :: rest) := j_imul X hdg hpc (by rw [nI_mul a b]; exact k)
theorem j_isubN (X : CX p s m args meth c cc nL own ret D (tyl cI cH cO) A) {a b : Nat} (hdg : decode cc pc = .ok (.isub, 1)) (h9 : b ≤ a) (hpc : pc + 1 = pc') (k : J p l e R s m args below meth c nL D A kc ks Kf sp ws pc' lv (.int (nI (a - b)) :: rest)) : J p l e R s m args below meth c nL D A kc ks Kf sp ws pc lv (.int (nI b) :: .int (nI a) :: rest) := j_isub X hdg hpc (by rw [nI_sub h9]; exact k)
theorem j_ialdN (X : CX p s m args meth c cc nL own ret D (tyl cI cH cO) A) {a n : Nat} {g : Nat → Int32} {i : Nat} (q0 : Nat) (he : ws[q0]? = some (a, .inl (cI, n, .inl g))) (hin : i < n) (hn : n < 2 ^ 31) (hdg : decode cc pc = .ok (.iaload, 1)) (hpc : pc + 1 = pc') (kk : J p l e R s m args below meth c nL D A kc ks Kf sp ws pc' lv (.int (g i) :: rest)) : J p l e R s m args below meth c nL D A kc ks Kf sp ws pc lv (.int (nI i) :: .ref a :: rest) := j_iald X q0 he (vp_in_nI hin hn) hdg hpc (by rw [nI_clamp (Nat.lt_trans hin hn)]; exact kk)
theorem j_caldN (X : CX p s m args meth c cc nL own ret D (tyl cI cH cO) A) {a n : Nat} {g : Nat → Int32} {i : Nat} (q0 : Nat) (he : ws[q0]? = some (a, .inl (cH, n, .inl g))) (hin : i < n) (hn : n < 2 ^ 31) (hdg : decode cc pc = .ok (.caload, 1)) (hpc : pc + 1 = pc') (kk : J p l e R s m args below meth c nL D A kc ks Kf sp ws pc' lv (.int (g i) :: rest)) : J p l e R s m args below meth c nL D A kc ks Kf sp ws pc lv (.int (nI i) :: .ref a :: rest) := j_cald X q0 he (vp_in_nI hin hn) hdg hpc (by rw [nI_clamp (Nat.lt_trans hin hn)]; exact kk)
theorem j_iastN (X : CX p s m args meth c cc nL own ret D (tyl cI cH cO) A) {a n : Nat} {g : Nat → Int32} {i : Nat} {x : Int32} {S : σ} {f : σ → α} (wf : σ → va_W) (q0 : Nat) (he : ws[q0]? = some (a, .inl (cI, n, .inl g))) (hset : ws.set q0 (a, .inl (cI, n, .inl (upd g i x))) = wf S) (hin : i < n) (hn : n < 2 ^ 31) (hdg : decode cc pc = .ok (.iastore, 1)) (hpc : pc + 1 = pc') (kk : ∀ S', S' = S → J p l e R s m args below meth c nL D A kc ks Kf (f S') (wf S') pc' lv rest) : J p l e R s m args below meth c nL D A kc ks Kf (ltv S f) ws pc lv (.int x :: .int (nI i) :: .ref a :: rest) := j_iast X wf q0 he (by rw [nI_clamp (Nat.lt_trans hin hn)]; exact hset) (vp_in_nI hin hn) hdg hpc kk
theorem j_castN (X : CX p s m args meth c cc nL own ret D (tyl cI cH cO) A) {a n : Nat} {g : Nat → Int32} {i : Nat} {x : Int32} {S : σ} {f : σ → α} (wf : σ → va_W) (q0 : Nat) (he : ws[q0]? = some (a, .inl (cH, n, .inl g))) (hset : ws.set q0 (a, .inl (cH, n, .inl (upd g i (vp_nar .char x)))) = wf S) (hin : i < n) (hn : n < 2 ^ 31) (hdg : decode cc pc = .ok (.castore, 1)) (hpc : pc + 1 = pc') (kk : ∀ S', S' = S → J p l e R s m args below meth c nL D A kc ks Kf (f S') (wf S') pc' lv rest) : J p l e R s m args below meth c nL D A kc ks Kf (ltv S f) ws pc lv (.int x :: .int (nI i) :: .ref a :: rest) := j_cast X wf q0 he (by rw [nI_clamp (Nat.lt_trans hin hn)]; exact hset) (vp_in_nI hin hn) hdg hpc kk
end J2
theorem tsw_out10 {x : Int32} (h0 : ¬ x = 0) (h1 : ¬ x = 1) (h2 : ¬ x = 2) (h3 : ¬ x = 3) (h4 : ¬ x = 4) (h5 : ¬ x = 5) (h6 : ¬ x = 6) (h7 : ¬ x = 7) (h8 : ¬ x = 8) (h9 : ¬ x = 9) : x.toInt < 0 ∨ 9 < x.toInt := by
  have g0 : ¬ x.toInt = 0 := fun q => h0 (Int32.toInt_inj.mp (by rw [q]; decide))
  have g1 : ¬ x.toInt = 1 := fun q => h1 (Int32.toInt_inj.mp (by rw [q]; decide))
  have g2 : ¬ x.toInt = 2 := fun q => h2 (Int32.toInt_inj.mp (by rw [q]; decide))
  have g3 : ¬ x.toInt = 3 := fun q => h3 (Int32.toInt_inj.mp (by rw [q]; decide))
  have g4 : ¬ x.toInt = 4 := fun q => h4 (Int32.toInt_inj.mp (by rw [q]; decide))
  have g5 : ¬ x.toInt = 5 := fun q => h5 (Int32.toInt_inj.mp (by rw [q]; decide))
  have g6 : ¬ x.toInt = 6 := fun q => h6 (Int32.toInt_inj.mp (by rw [q]; decide))
  have g7 : ¬ x.toInt = 7 := fun q => h7 (Int32.toInt_inj.mp (by rw [q]; decide))
  have g8 : ¬ x.toInt = 8 := fun q => h8 (Int32.toInt_inj.mp (by rw [q]; decide))
  have g9 : ¬ x.toInt = 9 := fun q => h9 (Int32.toInt_inj.mp (by rw [q]; decide))
  omega
theorem tsw_out11 {x : Int32} (h0 : ¬ x = 0) (h1 : ¬ x = 1) (h2 : ¬ x = 2) (h3 : ¬ x = 3) (h4 : ¬ x = 4) (h5 : ¬ x = 5) (h6 : ¬ x = 6) (h7 : ¬ x = 7) (h8 : ¬ x = 8) (h9 : ¬ x = 9) (h10 : ¬ x = 10) : x.toInt < 0 ∨ 10 < x.toInt := by
  have g0 : ¬ x.toInt = 0 := fun q => h0 (Int32.toInt_inj.mp (by rw [q]; decide))
  have g1 : ¬ x.toInt = 1 := fun q => h1 (Int32.toInt_inj.mp (by rw [q]; decide))
  have g2 : ¬ x.toInt = 2 := fun q => h2 (Int32.toInt_inj.mp (by rw [q]; decide))
  have g3 : ¬ x.toInt = 3 := fun q => h3 (Int32.toInt_inj.mp (by rw [q]; decide))
  have g4 : ¬ x.toInt = 4 := fun q => h4 (Int32.toInt_inj.mp (by rw [q]; decide))
  have g5 : ¬ x.toInt = 5 := fun q => h5 (Int32.toInt_inj.mp (by rw [q]; decide))
  have g6 : ¬ x.toInt = 6 := fun q => h6 (Int32.toInt_inj.mp (by rw [q]; decide))
  have g7 : ¬ x.toInt = 7 := fun q => h7 (Int32.toInt_inj.mp (by rw [q]; decide))
  have g8 : ¬ x.toInt = 8 := fun q => h8 (Int32.toInt_inj.mp (by rw [q]; decide))
  have g9 : ¬ x.toInt = 9 := fun q => h9 (Int32.toInt_inj.mp (by rw [q]; decide))
  have g10 : ¬ x.toInt = 10 := fun q => h10 (Int32.toInt_inj.mp (by rw [q]; decide))
  omega
theorem tsw_out13 {x : Int32} (h0 : ¬ x = 0) (h1 : ¬ x = 1) (h2 : ¬ x = 2) (h3 : ¬ x = 3) (h4 : ¬ x = 4) (h5 : ¬ x = 5) (h6 : ¬ x = 6) (h7 : ¬ x = 7) (h8 : ¬ x = 8) (h9 : ¬ x = 9) (h10 : ¬ x = 10) (h11 : ¬ x = 11) (h12 : ¬ x = 12) : x.toInt < 0 ∨ 12 < x.toInt := by
  have g0 : ¬ x.toInt = 0 := fun q => h0 (Int32.toInt_inj.mp (by rw [q]; decide))
  have g1 : ¬ x.toInt = 1 := fun q => h1 (Int32.toInt_inj.mp (by rw [q]; decide))
  have g2 : ¬ x.toInt = 2 := fun q => h2 (Int32.toInt_inj.mp (by rw [q]; decide))
  have g3 : ¬ x.toInt = 3 := fun q => h3 (Int32.toInt_inj.mp (by rw [q]; decide))
  have g4 : ¬ x.toInt = 4 := fun q => h4 (Int32.toInt_inj.mp (by rw [q]; decide))
  have g5 : ¬ x.toInt = 5 := fun q => h5 (Int32.toInt_inj.mp (by rw [q]; decide))
  have g6 : ¬ x.toInt = 6 := fun q => h6 (Int32.toInt_inj.mp (by rw [q]; decide))
  have g7 : ¬ x.toInt = 7 := fun q => h7 (Int32.toInt_inj.mp (by rw [q]; decide))
  have g8 : ¬ x.toInt = 8 := fun q => h8 (Int32.toInt_inj.mp (by rw [q]; decide))
  have g9 : ¬ x.toInt = 9 := fun q => h9 (Int32.toInt_inj.mp (by rw [q]; decide))
  have g10 : ¬ x.toInt = 10 := fun q => h10 (Int32.toInt_inj.mp (by rw [q]; decide))
  have g11 : ¬ x.toInt = 11 := fun q => h11 (Int32.toInt_inj.mp (by rw [q]; decide))
  have g12 : ¬ x.toInt = 12 := fun q => h12 (Int32.toInt_inj.mp (by rw [q]; decide))
  omega
theorem tsw_out20 {x : Int32} (h0 : ¬ x = 0) (h1 : ¬ x = 1) (h2 : ¬ x = 2) (h3 : ¬ x = 3) (h4 : ¬ x = 4) (h5 : ¬ x = 5) (h6 : ¬ x = 6) (h7 : ¬ x = 7) (h8 : ¬ x = 8) (h9 : ¬ x = 9) (h10 : ¬ x = 10) (h11 : ¬ x = 11) (h12 : ¬ x = 12) (h13 : ¬ x = 13) (h14 : ¬ x = 14) (h15 : ¬ x = 15) (h16 : ¬ x = 16) (h17 : ¬ x = 17) (h18 : ¬ x = 18) (h19 : ¬ x = 19) : x.toInt < 0 ∨ 19 < x.toInt := by
  have g0 : ¬ x.toInt = 0 := fun q => h0 (Int32.toInt_inj.mp (by rw [q]; decide))
  have g1 : ¬ x.toInt = 1 := fun q => h1 (Int32.toInt_inj.mp (by rw [q]; decide))
  have g2 : ¬ x.toInt = 2 := fun q => h2 (Int32.toInt_inj.mp (by rw [q]; decide))
  have g3 : ¬ x.toInt = 3 := fun q => h3 (Int32.toInt_inj.mp (by rw [q]; decide))
  have g4 : ¬ x.toInt = 4 := fun q => h4 (Int32.toInt_inj.mp (by rw [q]; decide))
  have g5 : ¬ x.toInt = 5 := fun q => h5 (Int32.toInt_inj.mp (by rw [q]; decide))
  have g6 : ¬ x.toInt = 6 := fun q => h6 (Int32.toInt_inj.mp (by rw [q]; decide))
  have g7 : ¬ x.toInt = 7 := fun q => h7 (Int32.toInt_inj.mp (by rw [q]; decide))
  have g8 : ¬ x.toInt = 8 := fun q => h8 (Int32.toInt_inj.mp (by rw [q]; decide))
  have g9 : ¬ x.toInt = 9 := fun q => h9 (Int32.toInt_inj.mp (by rw [q]; decide))
  have g10 : ¬ x.toInt = 10 := fun q => h10 (Int32.toInt_inj.mp (by rw [q]; decide))
  have g11 : ¬ x.toInt = 11 := fun q => h11 (Int32.toInt_inj.mp (by rw [q]; decide))
  have g12 : ¬ x.toInt = 12 := fun q => h12 (Int32.toInt_inj.mp (by rw [q]; decide))
  have g13 : ¬ x.toInt = 13 := fun q => h13 (Int32.toInt_inj.mp (by rw [q]; decide))
  have g14 : ¬ x.toInt = 14 := fun q => h14 (Int32.toInt_inj.mp (by rw [q]; decide))
  have g15 : ¬ x.toInt = 15 := fun q => h15 (Int32.toInt_inj.mp (by rw [q]; decide))
  have g16 : ¬ x.toInt = 16 := fun q => h16 (Int32.toInt_inj.mp (by rw [q]; decide))
  have g17 : ¬ x.toInt = 17 := fun q => h17 (Int32.toInt_inj.mp (by rw [q]; decide))
  have g18 : ¬ x.toInt = 18 := fun q => h18 (Int32.toInt_inj.mp (by rw [q]; decide))
  have g19 : ¬ x.toInt = 19 := fun q => h19 (Int32.toInt_inj.mp (by rw [q]; decide))
  omega
theorem p_ltv {α β : Type} {Q9 : α → Prop} {v : β} {f : β → α} (k : ∀ y, y = v → Q9 (f y)) : Q9 (ltv v f) := k v rfl
theorem p_bnd {α σ : Type} {Q9 : α → Prop} {q : Int32 × σ} {f : Int32 → σ → α} (k : ∀ r S, q = (r, S) → Q9 (f r S)) : Q9 (bnd q f) := k q.1 q.2 rfl
theorem p_ite {α : Type} {Q9 : α → Prop} {P9 : Prop} {dc : Decidable P9} {A1 B1 : α} (k1 : P9 → Q9 A1) (k2 : ¬ P9 → Q9 B1) : Q9 (if P9 then A1 else B1) := by
  by_cases h : P9
  · rw [if_pos h]; exact k1 h
  · rw [if_neg h]; exact k2 h
theorem p_ltl1 {α : Type} {t0 : Type} {Q9 : α → Prop} {body : (t0 → α) → t0 → α} {dft : t0 → α} {F : (Nat → t0 → α) → α} (k : ∀ L : Nat → t0 → α, (∀ (n : Nat) (x0 : t0), L (n + 1) x0 = body (L n) x0) → Q9 (F L)) : Q9 (ltl1 body dft F) := k (zp1 body dft) (fun _ _ => rfl)
theorem p_ltl2 {α : Type} {t0 t1 : Type} {Q9 : α → Prop} {body : (t0 → t1 → α) → t0 → t1 → α} {dft : t0 → t1 → α} {F : (Nat → t0 → t1 → α) → α} (k : ∀ L : Nat → t0 → t1 → α, (∀ (n : Nat) (x0 : t0) (x1 : t1), L (n + 1) x0 x1 = body (L n) x0 x1) → Q9 (F L)) : Q9 (ltl2 body dft F) := k (zp2 body dft) (fun _ _ _ => rfl)
theorem p_ltl3 {α : Type} {t0 t1 t2 : Type} {Q9 : α → Prop} {body : (t0 → t1 → t2 → α) → t0 → t1 → t2 → α} {dft : t0 → t1 → t2 → α} {F : (Nat → t0 → t1 → t2 → α) → α} (k : ∀ L : Nat → t0 → t1 → t2 → α, (∀ (n : Nat) (x0 : t0) (x1 : t1) (x2 : t2), L (n + 1) x0 x1 x2 = body (L n) x0 x1 x2) → Q9 (F L)) : Q9 (ltl3 body dft F) := k (zp3 body dft) (fun _ _ _ _ => rfl)
theorem p_ltl4 {α : Type} {t0 t1 t2 t3 : Type} {Q9 : α → Prop} {body : (t0 → t1 → t2 → t3 → α) → t0 → t1 → t2 → t3 → α} {dft : t0 → t1 → t2 → t3 → α} {F : (Nat → t0 → t1 → t2 → t3 → α) → α} (k : ∀ L : Nat → t0 → t1 → t2 → t3 → α, (∀ (n : Nat) (x0 : t0) (x1 : t1) (x2 : t2) (x3 : t3), L (n + 1) x0 x1 x2 x3 = body (L n) x0 x1 x2 x3) → Q9 (F L)) : Q9 (ltl4 body dft F) := k (zp4 body dft) (fun _ _ _ _ _ => rfl)
theorem p_ltl5 {α : Type} {t0 t1 t2 t3 t4 : Type} {Q9 : α → Prop} {body : (t0 → t1 → t2 → t3 → t4 → α) → t0 → t1 → t2 → t3 → t4 → α} {dft : t0 → t1 → t2 → t3 → t4 → α} {F : (Nat → t0 → t1 → t2 → t3 → t4 → α) → α} (k : ∀ L : Nat → t0 → t1 → t2 → t3 → t4 → α, (∀ (n : Nat) (x0 : t0) (x1 : t1) (x2 : t2) (x3 : t3) (x4 : t4), L (n + 1) x0 x1 x2 x3 x4 = body (L n) x0 x1 x2 x3 x4) → Q9 (F L)) : Q9 (ltl5 body dft F) := k (zp5 body dft) (fun _ _ _ _ _ _ => rfl)
theorem p_ltl6 {α : Type} {t0 t1 t2 t3 t4 t5 : Type} {Q9 : α → Prop} {body : (t0 → t1 → t2 → t3 → t4 → t5 → α) → t0 → t1 → t2 → t3 → t4 → t5 → α} {dft : t0 → t1 → t2 → t3 → t4 → t5 → α} {F : (Nat → t0 → t1 → t2 → t3 → t4 → t5 → α) → α} (k : ∀ L : Nat → t0 → t1 → t2 → t3 → t4 → t5 → α, (∀ (n : Nat) (x0 : t0) (x1 : t1) (x2 : t2) (x3 : t3) (x4 : t4) (x5 : t5), L (n + 1) x0 x1 x2 x3 x4 x5 = body (L n) x0 x1 x2 x3 x4 x5) → Q9 (F L)) : Q9 (ltl6 body dft F) := k (zp6 body dft) (fun _ _ _ _ _ _ _ => rfl)
theorem p_ltl7 {α : Type} {t0 t1 t2 t3 t4 t5 t6 : Type} {Q9 : α → Prop} {body : (t0 → t1 → t2 → t3 → t4 → t5 → t6 → α) → t0 → t1 → t2 → t3 → t4 → t5 → t6 → α} {dft : t0 → t1 → t2 → t3 → t4 → t5 → t6 → α} {F : (Nat → t0 → t1 → t2 → t3 → t4 → t5 → t6 → α) → α} (k : ∀ L : Nat → t0 → t1 → t2 → t3 → t4 → t5 → t6 → α, (∀ (n : Nat) (x0 : t0) (x1 : t1) (x2 : t2) (x3 : t3) (x4 : t4) (x5 : t5) (x6 : t6), L (n + 1) x0 x1 x2 x3 x4 x5 x6 = body (L n) x0 x1 x2 x3 x4 x5 x6) → Q9 (F L)) : Q9 (ltl7 body dft F) := k (zp7 body dft) (fun _ _ _ _ _ _ _ _ => rfl)
theorem wv_L_13 : WV RL 13 RX4 yX4_member cX4_member 2 (some .int) 1 := ⟨q_code_X4_member, q_ml_L_13, q_ins_X4_member, q_sel_X4_member, q_ini_X4, by decide +kernel⟩
theorem wv_L_17 : WV RL 17 RX5 yX5_member cX5_member 4 (some .int) 1 := ⟨q_code_X5_member, q_ml_L_17, q_ins_X5_member, q_sel_X5_member, q_ini_X5, by decide +kernel⟩
theorem wv_L_18 : WV RL 18 RX4 yX4_use cX4_use 3 (some .int) 2 := ⟨q_code_X4_use, q_ml_L_18, q_ins_X4_use, q_sel_X4_use, q_ini_X4, by decide +kernel⟩
theorem wv_L_22 : WV RL 22 RX5 yX5_use cX5_use 3 (some .int) 2 := ⟨q_code_X5_use, q_ml_L_22, q_ins_X5_use, q_sel_X5_use, q_ini_X5, by decide +kernel⟩
theorem wv_L_23 : WV RL 23 RX4 yX4_close cX4_close 1 (some .int) 0 := ⟨q_code_X4_close, q_ml_L_23, q_ins_X4_close, q_sel_X4_close, q_ini_X4, by decide +kernel⟩
theorem wv_L_27 : WV RL 27 RX5 yX5_close cX5_close 1 (some .int) 0 := ⟨q_code_X5_close, q_ml_L_27, q_ins_X5_close, q_sel_X5_close, q_ini_X5, by decide +kernel⟩
theorem wv_L_28 : WV RL 28 RX4 yX4_pay cX4_pay 3 (some .int) 2 := ⟨q_code_X4_pay, q_ml_L_28, q_ins_X4_pay, q_sel_X4_pay, q_ini_X4, by decide +kernel⟩
theorem wv_L_31 : WV RL 31 RX5 yX5_pay cX5_pay 3 (some .int) 2 := ⟨q_code_X5_pay, q_ml_L_31, q_ins_X5_pay, q_sel_X5_pay, q_ini_X5, by decide +kernel⟩
theorem wv_L_32 : WV RL 32 RX4 yX4_repair cX4_repair 2 (some .int) 1 := ⟨q_code_X4_repair, q_ml_L_32, q_ins_X4_repair, q_sel_X4_repair, q_ini_X4, by decide +kernel⟩
theorem wv_L_35 : WV RL 35 RX5 yX5_repair cX5_repair 8 (some .int) 1 := ⟨q_code_X5_repair, q_ml_L_35, q_ins_X5_repair, q_sel_X5_repair, q_ini_X5, by decide +kernel⟩
theorem wv_L_36 : WV RL 36 RX4 yX4_set cX4_set 3 (some .int) 2 := ⟨q_code_X4_set, q_ml_L_36, q_ins_X4_set, q_sel_X4_set, q_ini_X4, by decide +kernel⟩
theorem wv_L_39 : WV RL 39 RX5 yX5_set cX5_set 6 (some .int) 2 := ⟨q_code_X5_set, q_ml_L_39, q_ins_X5_set, q_sel_X5_set, q_ini_X5, by decide +kernel⟩
theorem wv_L_40 : WV RL 40 RX4 yX4_memberOf cX4_memberOf 3 (some .int) 2 := ⟨q_code_X4_memberOf, q_ml_L_40, q_ins_X4_memberOf, q_sel_X4_memberOf, q_ini_X4, by decide +kernel⟩
theorem wv_L_43 : WV RL 43 RX5 yX5_memberOf cX5_memberOf 3 (some .int) 2 := ⟨q_code_X5_memberOf, q_ml_L_43, q_ins_X5_memberOf, q_sel_X5_memberOf, q_ini_X5, by decide +kernel⟩
theorem wv_L_44 : WV RL 44 RX4 yX4_count cX4_count 2 (some .int) 1 := ⟨q_code_X4_count, q_ml_L_44, q_ins_X4_count, q_sel_X4_count, q_ini_X4, by decide +kernel⟩
theorem wv_L_47 : WV RL 47 RX5 yX5_count cX5_count 2 (some .int) 1 := ⟨q_code_X5_count, q_ml_L_47, q_ins_X5_count, q_sel_X5_count, q_ini_X5, by decide +kernel⟩
theorem wv_L_48 : WV RL 48 RX4 yX4_seasonOf cX4_seasonOf 3 (some .int) 2 := ⟨q_code_X4_seasonOf, q_ml_L_48, q_ins_X4_seasonOf, q_sel_X4_seasonOf, q_ini_X4, by decide +kernel⟩
theorem wv_L_51 : WV RL 51 RX5 yX5_seasonOf cX5_seasonOf 3 (some .int) 2 := ⟨q_code_X5_seasonOf, q_ml_L_51, q_ins_X5_seasonOf, q_sel_X5_seasonOf, q_ini_X5, by decide +kernel⟩
theorem wv_L_52 : WV RL 52 RX4 yX4_gain cX4_gain 3 (some .int) 2 := ⟨q_code_X4_gain, q_ml_L_52, q_ins_X4_gain, q_sel_X4_gain, q_ini_X4, by decide +kernel⟩
theorem wv_L_55 : WV RL 55 RX5 yX5_gain cX5_gain 3 (some .int) 2 := ⟨q_code_X5_gain, q_ml_L_55, q_ins_X5_gain, q_sel_X5_gain, q_ini_X5, by decide +kernel⟩
theorem wv_L_56 : WV RL 56 RX4 yX4_bestUse cX4_bestUse 2 (some .int) 1 := ⟨q_code_X4_bestUse, q_ml_L_56, q_ins_X4_bestUse, q_sel_X4_bestUse, q_ini_X4, by decide +kernel⟩
theorem wv_L_59 : WV RL 59 RX5 yX5_bestUse cX5_bestUse 2 (some .int) 1 := ⟨q_code_X5_bestUse, q_ml_L_59, q_ins_X5_bestUse, q_sel_X5_bestUse, q_ini_X5, by decide +kernel⟩
theorem wv_L_60 : WV RL 60 RX4 yX4_calm cX4_calm 3 (some .int) 1 := ⟨q_code_X4_calm, q_ml_L_60, q_ins_X4_calm, q_sel_X4_calm, q_ini_X4, by decide +kernel⟩
theorem wv_L_63 : WV RL 63 RX5 yX5_calm cX5_calm 5 (some .int) 1 := ⟨q_code_X5_calm, q_ml_L_63, q_ins_X5_calm, q_sel_X5_calm, q_ini_X5, by decide +kernel⟩
theorem wv_L_64 : WV RL 64 RX4 yX4_bestForAll cX4_bestForAll 3 (some .int) 1 := ⟨q_code_X4_bestForAll, q_ml_L_64, q_ins_X4_bestForAll, q_sel_X4_bestForAll, q_ini_X4, by decide +kernel⟩
theorem wv_L_67 : WV RL 67 RX5 yX5_bestForAll cX5_bestForAll 9 (some .int) 1 := ⟨q_code_X5_bestForAll, q_ml_L_67, q_ins_X5_bestForAll, q_sel_X5_bestForAll, q_ini_X5, by decide +kernel⟩
theorem wv_L_68 : WV RL 68 RX4 yX4_wouldExclude cX4_wouldExclude 1 (some .int) 0 := ⟨q_code_X4_wouldExclude, q_ml_L_68, q_ins_X4_wouldExclude, q_sel_X4_wouldExclude, q_ini_X4, by decide +kernel⟩
theorem wv_L_71 : WV RL 71 RX5 yX5_wouldExclude cX5_wouldExclude 2 (some .int) 0 := ⟨q_code_X5_wouldExclude, q_ml_L_71, q_ins_X5_wouldExclude, q_sel_X5_wouldExclude, q_ini_X5, by decide +kernel⟩
theorem wv_L_72 : WV RL 72 RX4 yX4_canRepair cX4_canRepair 1 (some .int) 0 := ⟨q_code_X4_canRepair, q_ml_L_72, q_ins_X4_canRepair, q_sel_X4_canRepair, q_ini_X4, by decide +kernel⟩
theorem wv_L_75 : WV RL 75 RX5 yX5_canRepair cX5_canRepair 2 (some .int) 0 := ⟨q_code_X5_canRepair, q_ml_L_75, q_ins_X5_canRepair, q_sel_X5_canRepair, q_ini_X5, by decide +kernel⟩
theorem wv_L_76 : WV RL 76 RX4 yX4_undo cX4_undo 1 (some .int) 0 := ⟨q_code_X4_undo, q_ml_L_76, q_ins_X4_undo, q_sel_X4_undo, q_ini_X4, by decide +kernel⟩
theorem wv_L_79 : WV RL 79 RX5 yX5_undo cX5_undo 2 (some .int) 0 := ⟨q_code_X5_undo, q_ml_L_79, q_ins_X5_undo, q_sel_X5_undo, q_ini_X5, by decide +kernel⟩
theorem wv_L_80 : WV RL 80 RX4 yX4_type cX4_type 2 (some .int) 1 := ⟨q_code_X4_type, q_ml_L_80, q_ins_X4_type, q_sel_X4_type, q_ini_X4, by decide +kernel⟩
theorem wv_L_83 : WV RL 83 RX5 yX5_type cX5_type 2 (some .int) 1 := ⟨q_code_X5_type, q_ml_L_83, q_ins_X5_type, q_sel_X5_type, q_ini_X5, by decide +kernel⟩
theorem wv_L_84 : WV RL 84 RX4 yX4_clearText cX4_clearText 2 (some .int) 0 := ⟨q_code_X4_clearText, q_ml_L_84, q_ins_X4_clearText, q_sel_X4_clearText, q_ini_X4, by decide +kernel⟩
theorem wv_L_87 : WV RL 87 RX5 yX5_clearText cX5_clearText 2 (some .int) 0 := ⟨q_code_X5_clearText, q_ml_L_87, q_ins_X5_clearText, q_sel_X5_clearText, q_ini_X5, by decide +kernel⟩
theorem wv_L_88 : WV RL 88 RX4 yX4_fault cX4_fault 2 (some .int) 1 := ⟨q_code_X4_fault, q_ml_L_88, q_ins_X4_fault, q_sel_X4_fault, q_ini_X4, by decide +kernel⟩
theorem wv_L_91 : WV RL 91 RX5 yX5_fault cX5_fault 3 (some .int) 1 := ⟨q_code_X5_fault, q_ml_L_91, q_ins_X5_fault, q_sel_X5_fault, q_ini_X5, by decide +kernel⟩
theorem wv_L_92 : WV RL 92 RX4 yX4_play cX4_play 1 (some .int) 0 := ⟨q_code_X4_play, q_ml_L_92, q_ins_X4_play, q_sel_X4_play, q_ini_X4, by decide +kernel⟩
theorem wv_L_95 : WV RL 95 RX5 yX5_play cX5_play 2 (some .int) 0 := ⟨q_code_X5_play, q_ml_L_95, q_ins_X5_play, q_sel_X5_play, q_ini_X5, by decide +kernel⟩
theorem wv_X0_72 : WV RX0 72 RX0 yX0_placeOf cX0_placeOf 3 (some .int) 1 := ⟨q_code_X0_placeOf, q_ml_X0_72, q_ins_X0_placeOf, q_sel_X0_placeOf, q_ini_X0, by decide +kernel⟩
theorem wv_X0_76 : WV RX0 76 RX0 yX0_unitsAhead cX0_unitsAhead 5 (some .int) 1 := ⟨q_code_X0_unitsAhead, q_ml_X0_76, q_ins_X0_unitsAhead, q_sel_X0_unitsAhead, q_ini_X0, by decide +kernel⟩
theorem wv_X0_79 : WV RX0 79 RX0 yX0_damageAdded cX0_damageAdded 3 (some .int) 2 := ⟨q_code_X0_damageAdded, q_ml_X0_79, q_ins_X0_damageAdded, q_sel_X0_damageAdded, q_ini_X0, by decide +kernel⟩
theorem wv_X0_83 : WV RX0 83 RX0 yX0_damageOf cX0_damageOf 3 (some .int) 1 := ⟨q_code_X0_damageOf, q_ml_X0_83, q_ins_X0_damageOf, q_sel_X0_damageOf, q_ini_X0, by decide +kernel⟩
theorem wv_X0_86 : WV RX0 86 RX0 yX0_has cX0_has 2 (some .boolean) 1 := ⟨q_code_X0_has, q_ml_X0_86, q_ins_X0_has, q_sel_X0_has, q_ini_X0, by decide +kernel⟩
theorem wv_X0_93 : WV RX0 93 RX0 yX0_isOut cX0_isOut 2 (some .boolean) 1 := ⟨q_code_X0_isOut, q_ml_X0_93, q_ins_X0_isOut, q_sel_X0_isOut, q_ini_X0, by decide +kernel⟩
theorem wv_X0_96 : WV RX0 96 RX0 yX0_chargeOf cX0_chargeOf 2 (some .int) 1 := ⟨q_code_X0_chargeOf, q_ml_X0_96, q_ins_X0_chargeOf, q_sel_X0_chargeOf, q_ini_X0, by decide +kernel⟩
theorem wv_X0_110 : WV RX0 110 RX0 yX0_oweByUses cX0_oweByUses 6 none 1 := ⟨q_code_X0_oweByUses, q_ml_X0_110, q_ins_X0_oweByUses, q_sel_X0_oweByUses, q_ini_X0, by decide +kernel⟩
theorem wv_X0_117 : WV RX0 117 RX0 yX0_endSeason cX0_endSeason 4 (some .int) 0 := ⟨q_code_X0_endSeason, q_ml_X0_117, q_ins_X0_endSeason, q_sel_X0_endSeason, q_ini_X0, by decide +kernel⟩
theorem wv_X0_121 : WV RX0 121 RX0 yX0_allUnits cX0_allUnits 1 (some .int) 0 := ⟨q_code_X0_allUnits, q_ml_X0_121, q_ins_X0_allUnits, q_sel_X0_allUnits, q_ini_X0, by decide +kernel⟩
theorem wv_X0_124 : WV RX0 124 RX0 yX0_oweCharges cX0_oweCharges 5 none 0 := ⟨q_code_X0_oweCharges, q_ml_X0_124, q_ins_X0_oweCharges, q_sel_X0_oweCharges, q_ini_X0, by decide +kernel⟩
theorem wv_X0_130 : WV RX0 130 RX0 yX0_keepSeason cX0_keepSeason 4 none 2 := ⟨q_code_X0_keepSeason, q_ml_X0_130, q_ins_X0_keepSeason, q_sel_X0_keepSeason, q_ini_X0, by decide +kernel⟩
theorem wv_X0_134 : WV RX0 134 RX0 yX0_bookUses cX0_bookUses 2 none 0 := ⟨q_code_X0_bookUses, q_ml_X0_134, q_ins_X0_bookUses, q_sel_X0_bookUses, q_ini_X0, by decide +kernel⟩
theorem wv_X0_137 : WV RX0 137 RX0 yX0_excludeInTurn cX0_excludeInTurn 5 none 1 := ⟨q_code_X0_excludeInTurn, q_ml_X0_137, q_ins_X0_excludeInTurn, q_sel_X0_excludeInTurn, q_ini_X0, by decide +kernel⟩
theorem wv_X0_140 : WV RX0 140 RX0 yX0_excludeDebtors cX0_excludeDebtors 2 none 0 := ⟨q_code_X0_excludeDebtors, q_ml_X0_140, q_ins_X0_excludeDebtors, q_sel_X0_excludeDebtors, q_ini_X0, by decide +kernel⟩
theorem wv_X0_143 : WV RX0 143 RX0 yX0_noteSeasonsOut cX0_noteSeasonsOut 2 none 0 := ⟨q_code_X0_noteSeasonsOut, q_ml_X0_143, q_ins_X0_noteSeasonsOut, q_sel_X0_noteSeasonsOut, q_ini_X0, by decide +kernel⟩
theorem wv_X0_146 : WV RX0 146 RX0 yX0_turnsNeeded cX0_turnsNeeded 3 (some .int) 0 := ⟨q_code_X0_turnsNeeded, q_ml_X0_146, q_ins_X0_turnsNeeded, q_sel_X0_turnsNeeded, q_ini_X0, by decide +kernel⟩
theorem wv_X0_149 : WV RX0 149 RX0 yX0_heaviestNotIn cX0_heaviestNotIn 5 (some .int) 1 := ⟨q_code_X0_heaviestNotIn, q_ml_X0_149, q_ins_X0_heaviestNotIn, q_sel_X0_heaviestNotIn, q_ini_X0, by decide +kernel⟩
theorem wv_X0_152 : WV RX0 152 RX0 yX0_gainBehind cX0_gainBehind 4 (some .int) 3 := ⟨q_code_X0_gainBehind, q_ml_X0_152, q_ins_X0_gainBehind, q_sel_X0_gainBehind, q_ini_X0, by decide +kernel⟩
theorem wv_X0_156 : WV RX0 156 RX0 yX0_roundChanges cX0_roundChanges 4 (some .boolean) 0 := ⟨q_code_X0_roundChanges, q_ml_X0_156, q_ins_X0_roundChanges, q_sel_X0_roundChanges, q_ini_X0, by decide +kernel⟩
theorem wv_X0_160 : WV RX0 160 RX0 yX0_bestUnits cX0_bestUnits 7 (some .int) 1 := ⟨q_code_X0_bestUnits, q_ml_X0_160, q_ins_X0_bestUnits, q_sel_X0_bestUnits, q_ini_X0, by decide +kernel⟩
theorem wv_X0_163 : WV RX0 163 RX0 yX0_worthiestWithRoom cX0_worthiestWithRoom 4 (some .int) 0 := ⟨q_code_X0_worthiestWithRoom, q_ml_X0_163, q_ins_X0_worthiestWithRoom, q_sel_X0_worthiestWithRoom, q_ini_X0, by decide +kernel⟩
theorem wv_X1_25 : WV RX1 25 RX0 yX0_takeOver cX0_takeOver 2 none 1 := ⟨q_code_X0_takeOver, q_ml_X1_25, q_ins_X0_takeOver, q_sel_X0_takeOver, q_ini_X0, by decide +kernel⟩
theorem wv_X3_19 : WV RX3 19 RX3 yX3_signAhead cX3_signAhead 1 (some .int) 0 := ⟨q_code_X3_signAhead, q_ml_X3_19, q_ins_X3_signAhead, q_sel_X3_signAhead, q_ini_X3, by decide +kernel⟩
theorem wv_X3_35 : WV RX3 35 RX3 yX3_readNumber cX3_readNumber 4 (some .int) 0 := ⟨q_code_X3_readNumber, q_ml_X3_35, q_ins_X3_readNumber, q_sel_X3_readNumber, q_ini_X3, by decide +kernel⟩
theorem wv_X3_38 : WV RX3 38 RX3 yX3_passes cX3_passes 2 (some .boolean) 1 := ⟨q_code_X3_passes, q_ml_X3_38, q_ins_X3_passes, q_sel_X3_passes, q_ini_X3, by decide +kernel⟩
theorem wv_X4_40 : WV RX4 40 RX0 yX0_takeOver cX0_takeOver 2 none 1 := ⟨q_code_X0_takeOver, q_ml_X4_40, q_ins_X0_takeOver, q_sel_X0_takeOver, q_ini_X0, by decide +kernel⟩
theorem wv_X4_44 : WV RX4 44 RX0 yX0_addMember cX0_addMember 2 (some .int) 1 := ⟨q_code_X0_addMember, q_ml_X4_44, q_ins_X0_addMember, q_sel_X0_addMember, q_ini_X0, by decide +kernel⟩
theorem wv_X4_48 : WV RX4 48 RX4 yX4_keptIfDone cX4_keptIfDone 2 (some .int) 1 := ⟨q_code_X4_keptIfDone, q_ml_X4_48, q_ins_X4_keptIfDone, q_sel_X4_keptIfDone, q_ini_X4, by decide +kernel⟩
theorem wv_X4_51 : WV RX4 51 RX0 yX0_declareUse cX0_declareUse 3 (some .int) 2 := ⟨q_code_X0_declareUse, q_ml_X4_51, q_ins_X0_declareUse, q_sel_X0_declareUse, q_ini_X0, by decide +kernel⟩
theorem wv_X4_55 : WV RX4 55 RX0 yX0_closeSeason cX0_closeSeason 1 (some .int) 0 := ⟨q_code_X0_closeSeason, q_ml_X4_55, q_ins_X0_closeSeason, q_sel_X0_closeSeason, q_ini_X0, by decide +kernel⟩
theorem wv_X4_59 : WV RX4 59 RX0 yX0_payCoins cX0_payCoins 3 (some .int) 2 := ⟨q_code_X0_payCoins, q_ml_X4_59, q_ins_X0_payCoins, q_sel_X0_payCoins, q_ini_X0, by decide +kernel⟩
theorem wv_X4_62 : WV RX4 62 RX0 yX0_repairPoints cX0_repairPoints 5 (some .int) 1 := ⟨q_code_X0_repairPoints, q_ml_X4_62, q_ins_X0_repairPoints, q_sel_X0_repairPoints, q_ini_X0, by decide +kernel⟩
theorem wv_X4_65 : WV RX4 65 RX0 yX0_changeSetting cX0_changeSetting 4 (some .int) 2 := ⟨q_code_X0_changeSetting, q_ml_X4_65, q_ins_X0_changeSetting, q_sel_X0_changeSetting, q_ini_X0, by decide +kernel⟩
theorem wv_X4_68 : WV RX4 68 RX0 yX0_numberOfMember cX0_numberOfMember 3 (some .int) 2 := ⟨q_code_X0_numberOfMember, q_ml_X4_68, q_ins_X0_numberOfMember, q_sel_X0_numberOfMember, q_ini_X0, by decide +kernel⟩
theorem wv_X4_76 : WV RX4 76 RX0 yX0_numberOfAll cX0_numberOfAll 2 (some .int) 1 := ⟨q_code_X0_numberOfAll, q_ml_X4_76, q_ins_X0_numberOfAll, q_sel_X0_numberOfAll, q_ini_X0, by decide +kernel⟩
theorem wv_X4_79 : WV RX4 79 RX0 yX0_numberOfSeason cX0_numberOfSeason 3 (some .int) 2 := ⟨q_code_X0_numberOfSeason, q_ml_X4_79, q_ins_X0_numberOfSeason, q_sel_X0_numberOfSeason, q_ini_X0, by decide +kernel⟩
theorem wv_X4_82 : WV RX4 82 RX0 yX0_liftedGain cX0_liftedGain 3 (some .int) 2 := ⟨q_code_X0_liftedGain, q_ml_X4_82, q_ins_X0_liftedGain, q_sel_X0_liftedGain, q_ini_X0, by decide +kernel⟩
theorem wv_X4_85 : WV RX4 85 RX0 yX0_has cX0_has 2 (some .boolean) 1 := ⟨q_code_X0_has, q_ml_X4_85, q_ins_X0_has, q_sel_X0_has, q_ini_X0, by decide +kernel⟩
theorem wv_X4_89 : WV RX4 89 RX0 yX0_bestUnits cX0_bestUnits 7 (some .int) 1 := ⟨q_code_X0_bestUnits, q_ml_X4_89, q_ins_X0_bestUnits, q_sel_X0_bestUnits, q_ini_X0, by decide +kernel⟩
theorem wv_X4_92 : WV RX4 92 RX0 yX0_calmDown cX0_calmDown 2 (some .int) 0 := ⟨q_code_X0_calmDown, q_ml_X4_92, q_ins_X0_calmDown, q_sel_X0_calmDown, q_ini_X0, by decide +kernel⟩
theorem wv_X4_99 : WV RX4 99 RX0 yX0_allUnits cX0_allUnits 1 (some .int) 0 := ⟨q_code_X0_allUnits, q_ml_X4_99, q_ins_X0_allUnits, q_sel_X0_allUnits, q_ini_X0, by decide +kernel⟩
theorem wv_X4_102 : WV RX4 102 RX0 yX0_useBestForAll cX0_useBestForAll 4 (some .int) 0 := ⟨q_code_X0_useBestForAll, q_ml_X4_102, q_ins_X0_useBestForAll, q_sel_X0_useBestForAll, q_ini_X0, by decide +kernel⟩
theorem wv_X4_105 : WV RX4 105 RX0 yX0_endSeason cX0_endSeason 4 (some .int) 0 := ⟨q_code_X0_endSeason, q_ml_X4_105, q_ins_X0_endSeason, q_sel_X0_endSeason, q_ini_X0, by decide +kernel⟩
theorem wv_X4_111 : WV RX4 111 RX0 yX0_pointsFromFund cX0_pointsFromFund 1 (some .int) 0 := ⟨q_code_X0_pointsFromFund, q_ml_X4_111, q_ins_X0_pointsFromFund, q_sel_X0_pointsFromFund, q_ini_X0, by decide +kernel⟩
theorem wv_X4_114 : WV RX4 114 RX1 yX1_restoreLatest cX1_restoreLatest 3 none 1 := ⟨q_code_X1_restoreLatest, q_ml_X4_114, q_ins_X1_restoreLatest, q_sel_X1_restoreLatest, q_ini_X1, by decide +kernel⟩
theorem wv_X4_117 : WV RX4 117 RX3 yX3_append cX3_append 2 (some .int) 1 := ⟨q_code_X3_append, q_ml_X4_117, q_ins_X3_append, q_sel_X3_append, q_ini_X3, by decide +kernel⟩
theorem wv_X4_120 : WV RX4 120 RX4 yX4_rehearse cX4_rehearse 2 none 0 := ⟨q_code_X4_rehearse, q_ml_X4_120, q_ins_X4_rehearse, q_sel_X4_rehearse, q_ini_X4, by decide +kernel⟩
theorem wv_X4_135 : WV RX4 135 RX1 yX1_record cX1_record 3 none 1 := ⟨q_code_X1_record, q_ml_X4_135, q_ins_X1_record, q_sel_X1_record, q_ini_X1, by decide +kernel⟩
theorem wv_X4_138 : WV RX4 138 RX2 yX2_begin cX2_begin 1 none 0 := ⟨q_code_X2_begin, q_ml_X4_138, q_ins_X2_begin, q_sel_X2_begin, q_ini_X2, by decide +kernel⟩
theorem wv_X4_144 : WV RX4 144 RX3 yX3_readCommand cX3_readCommand 1 (some .boolean) 0 := ⟨q_code_X3_readCommand, q_ml_X4_144, q_ins_X3_readCommand, q_sel_X3_readCommand, q_ini_X3, by decide +kernel⟩
theorem wv_X4_148 : WV RX4 148 RX4 yX4_commandOnTrial cX4_commandOnTrial 1 (some .int) 0 := ⟨q_code_X4_commandOnTrial, q_ml_X4_148, q_ins_X4_commandOnTrial, q_sel_X4_commandOnTrial, q_ini_X4, by decide +kernel⟩
theorem wv_X4_151 : WV RX4 151 RX2 yX2_isStoppedBy cX2_isStoppedBy 2 (some .boolean) 1 := ⟨q_code_X2_isStoppedBy, q_ml_X4_151, q_ins_X2_isStoppedBy, q_sel_X2_isStoppedBy, q_ini_X2, by decide +kernel⟩
theorem wv_X5_39 : WV RX5 39 RX5 yX5_of cX5_of 3 (some .int) 2 := ⟨q_code_X5_of, q_ml_X5_39, q_ins_X5_of, q_sel_X5_of, q_ini_X5, by decide +kernel⟩
theorem wv_X5_43 : WV RX5 43 RX5 yX5_placeOf cX5_placeOf 2 (some .int) 1 := ⟨q_code_X5_placeOf, q_ml_X5_43, q_ins_X5_placeOf, q_sel_X5_placeOf, q_ini_X5, by decide +kernel⟩
theorem wv_X5_47 : WV RX5 47 RX5 yX5_ahead cX5_ahead 4 (some .int) 1 := ⟨q_code_X5_ahead, q_ml_X5_47, q_ins_X5_ahead, q_sel_X5_ahead, q_ini_X5, by decide +kernel⟩
theorem wv_X5_50 : WV RX5 50 RX5 yX5_damage cX5_damage 2 (some .int) 1 := ⟨q_code_X5_damage, q_ml_X5_50, q_ins_X5_damage, q_sel_X5_damage, q_ini_X5, by decide +kernel⟩
theorem ws_X5_53 : WS RX5 53 yX5_in cX5_in 3 (some .boolean) 3 := ⟨q_code_X5_in, q_ml_X5_53, q_sta_X5_in, q_ini_X5, by decide +kernel⟩
theorem wv_X5_57 : WV RX5 57 RX5 yX5_changes cX5_changes 2 none 0 := ⟨q_code_X5_changes, q_ml_X5_57, q_ins_X5_changes, q_sel_X5_changes, q_ini_X5, by decide +kernel⟩
theorem wv_X5_60 : WV RX5 60 RX5 yX5_puts cX5_puts 4 none 3 := ⟨q_code_X5_puts, q_ml_X5_60, q_ins_X5_puts, q_sel_X5_puts, q_ini_X5, by decide +kernel⟩
theorem wv_X5_64 : WV RX5 64 RX5 yX5_isMember cX5_isMember 2 (some .boolean) 1 := ⟨q_code_X5_isMember, q_ml_X5_64, q_ins_X5_isMember, q_sel_X5_isMember, q_ini_X5, by decide +kernel⟩
theorem wv_X5_68 : WV RX5 68 RX5 yX5_chargeFor cX5_chargeFor 4 (some .int) 2 := ⟨q_code_X5_chargeFor, q_ml_X5_68, q_ins_X5_chargeFor, q_sel_X5_chargeFor, q_ini_X5, by decide +kernel⟩
theorem wv_X5_71 : WV RX5 71 RX5 yX5_sum cX5_sum 4 (some .int) 1 := ⟨q_code_X5_sum, q_ml_X5_71, q_ins_X5_sum, q_sel_X5_sum, q_ini_X5, by decide +kernel⟩
theorem wv_X5_74 : WV RX5 74 RX5 yX5_outSet cX5_outSet 3 (some .int) 0 := ⟨q_code_X5_outSet, q_ml_X5_74, q_ins_X5_outSet, q_sel_X5_outSet, q_ini_X5, by decide +kernel⟩
theorem wv_X5_78 : WV RX5 78 RX5 yX5_keeps cX5_keeps 6 none 4 := ⟨q_code_X5_keeps, q_ml_X5_78, q_ins_X5_keeps, q_sel_X5_keeps, q_ini_X5, by decide +kernel⟩
theorem wv_X5_82 : WV RX5 82 RX5 yX5_excludes cX5_excludes 8 none 1 := ⟨q_code_X5_excludes, q_ml_X5_82, q_ins_X5_excludes, q_sel_X5_excludes, q_ini_X5, by decide +kernel⟩
theorem wv_X5_86 : WV RX5 86 RX5 yX5_ends cX5_ends 5 (some .int) 0 := ⟨q_code_X5_ends, q_ml_X5_86, q_ins_X5_ends, q_sel_X5_ends, q_ini_X5, by decide +kernel⟩
theorem wv_X5_92 : WV RX5 92 RX5 yX5_gainFor cX5_gainFor 3 (some .int) 2 := ⟨q_code_X5_gainFor, q_ml_X5_92, q_ins_X5_gainFor, q_sel_X5_gainFor, q_ini_X5, by decide +kernel⟩
theorem wv_X5_95 : WV RX5 95 RX5 yX5_best cX5_best 4 (some .int) 1 := ⟨q_code_X5_best, q_ml_X5_95, q_ins_X5_best, q_sel_X5_best, q_ini_X5, by decide +kernel⟩
theorem ws_X5_98 : WS RX5 98 yX5_copies cX5_copies 3 none 2 := ⟨q_code_X5_copies, q_ml_X5_98, q_sta_X5_copies, q_ini_X5, by decide +kernel⟩
theorem wv_X5_102 : WV RX5 102 RX5 yX5_turns cX5_turns 4 (some .boolean) 0 := ⟨q_code_X5_turns, q_ml_X5_102, q_ins_X5_turns, q_sel_X5_turns, q_ini_X5, by decide +kernel⟩
theorem wv_X5_109 : WV RX5 109 RX5 yX5_isAt cX5_isAt 3 (some .boolean) 2 := ⟨q_code_X5_isAt, q_ml_X5_109, q_ins_X5_isAt, q_sel_X5_isAt, q_ini_X5, by decide +kernel⟩
theorem wv_X5_113 : WV RX5 113 RX5 yX5_number cX5_number 5 (some .boolean) 2 := ⟨q_code_X5_number, q_ml_X5_113, q_ins_X5_number, q_sel_X5_number, q_ini_X5, by decide +kernel⟩
theorem wv_X5_116 : WV RX5 116 RX5 yX5_member cX5_member 4 (some .int) 1 := ⟨q_code_X5_member, q_ml_X5_116, q_ins_X5_member, q_sel_X5_member, q_ini_X5, by decide +kernel⟩
theorem wv_X5_119 : WV RX5 119 RX5 yX5_use cX5_use 3 (some .int) 2 := ⟨q_code_X5_use, q_ml_X5_119, q_ins_X5_use, q_sel_X5_use, q_ini_X5, by decide +kernel⟩
theorem wv_X5_122 : WV RX5 122 RX5 yX5_close cX5_close 1 (some .int) 0 := ⟨q_code_X5_close, q_ml_X5_122, q_ins_X5_close, q_sel_X5_close, q_ini_X5, by decide +kernel⟩
theorem wv_X5_125 : WV RX5 125 RX5 yX5_pay cX5_pay 3 (some .int) 2 := ⟨q_code_X5_pay, q_ml_X5_125, q_ins_X5_pay, q_sel_X5_pay, q_ini_X5, by decide +kernel⟩
theorem wv_X5_128 : WV RX5 128 RX5 yX5_repair cX5_repair 8 (some .int) 1 := ⟨q_code_X5_repair, q_ml_X5_128, q_ins_X5_repair, q_sel_X5_repair, q_ini_X5, by decide +kernel⟩
theorem wv_X5_134 : WV RX5 134 RX5 yX5_isForm cX5_isForm 3 (some .boolean) 1 := ⟨q_code_X5_isForm, q_ml_X5_134, q_ins_X5_isForm, q_sel_X5_isForm, q_ini_X5, by decide +kernel⟩
theorem wv_X5_137 : WV RX5 137 RX5 yX5_calls cX5_calls 2 (some .int) 1 := ⟨q_code_X5_calls, q_ml_X5_137, q_ins_X5_calls, q_sel_X5_calls, q_ini_X5, by decide +kernel⟩
theorem wv_X5_143 : WV RX5 143 RX5 yX5_plays cX5_plays 5 (some .int) 0 := ⟨q_code_X5_plays, q_ml_X5_143, q_ins_X5_plays, q_sel_X5_plays, q_ini_X5, by decide +kernel⟩
theorem wn_X0_43 : Cond.code yX4_copyRow cX4_copyRow 2 none ∈ TT ∧ Cond.static yX4_copyRow ∈ TT ∧ Cond.initialized yX4_copyRow.cls ∈ TT ∧ (yX4_copyRow.cls ≠ "java/lang/invoke/MethodHandle" ∧ yX4_copyRow.cls ≠ "java/lang/invoke/VarHandle" ∧ (parseMethodDescriptor yX4_copyRow.desc).map (fun d => d.parameters.length) = some 2) := ⟨q_code_X4_copyRow, q_sta_X4_copyRow, q_ini_X4, by decide +kernel⟩
theorem wn_X0_68 : Cond.code yX4_sumOf cX4_sumOf 3 (some .int) ∈ TT ∧ Cond.static yX4_sumOf ∈ TT ∧ Cond.initialized yX4_sumOf.cls ∈ TT ∧ (yX4_sumOf.cls ≠ "java/lang/invoke/MethodHandle" ∧ yX4_sumOf.cls ≠ "java/lang/invoke/VarHandle" ∧ (parseMethodDescriptor yX4_sumOf.desc).map (fun d => d.parameters.length) = some 1) := ⟨q_code_X4_sumOf, q_sta_X4_sumOf, q_ini_X4, by decide +kernel⟩
theorem wn_X0_90 : Cond.code yX4_isUnits cX4_isUnits 1 (some .boolean) ∈ TT ∧ Cond.static yX4_isUnits ∈ TT ∧ Cond.initialized yX4_isUnits.cls ∈ TT ∧ (yX4_isUnits.cls ≠ "java/lang/invoke/MethodHandle" ∧ yX4_isUnits.cls ≠ "java/lang/invoke/VarHandle" ∧ (parseMethodDescriptor yX4_isUnits.desc).map (fun d => d.parameters.length) = some 1) := ⟨q_code_X4_isUnits, q_sta_X4_isUnits, q_ini_X4, by decide +kernel⟩
theorem wn_X0_114 : Cond.code yX4_quotient cX4_quotient 2 (some .int) ∈ TT ∧ Cond.static yX4_quotient ∈ TT ∧ Cond.initialized yX4_quotient.cls ∈ TT ∧ (yX4_quotient.cls ≠ "java/lang/invoke/MethodHandle" ∧ yX4_quotient.cls ≠ "java/lang/invoke/VarHandle" ∧ (parseMethodDescriptor yX4_quotient.desc).map (fun d => d.parameters.length) = some 2) := ⟨q_code_X4_quotient, q_sta_X4_quotient, q_ini_X4, by decide +kernel⟩
end
section
def sX4_isUnits (x0 : Int32) : Int32 := (if x0 < 0 then 0 else (if 20 < x0 then 0 else 1))
def sX4_quotient (x0 : Int32) (x1 : Int32) : Int32 := (if 1 ≤ x1 then (x0 / x1) else 0)
def sX4_sumOf_2 (C : Cst) : Int32 := ltl2 (fun R4 (x1 : Int32) (i2 : Nat) => (if 8 ≤ (nI i2) then x1 else ltv (x1 + (C 2 i2)) (fun (v1_15 : Int32) => R4 v1_15 (i2 + 1)))) (fun (x1 : Int32) (i2 : Nat) => 0) (fun L4 => (L4 9 0 0))
def sX4_sumOf_3 (C : Cst) : Int32 := ltl2 (fun R4 (x1 : Int32) (i2 : Nat) => (if 8 ≤ (nI i2) then x1 else ltv (x1 + (C 3 i2)) (fun (v1_15 : Int32) => R4 v1_15 (i2 + 1)))) (fun (x1 : Int32) (i2 : Nat) => 0) (fun L4 => (L4 9 0 0))
def sX4_sumOf_5 (C : Cst) : Int32 := ltl2 (fun R4 (x1 : Int32) (i2 : Nat) => (if 8 ≤ (nI i2) then x1 else ltv (x1 + (C 5 i2)) (fun (v1_15 : Int32) => R4 v1_15 (i2 + 1)))) (fun (x1 : Int32) (i2 : Nat) => 0) (fun L4 => (L4 9 0 0))
def sX0_has (C : Cst) (x1 : Int32) : Int32 := (if x1 < 0 then 0 else (if (C 9 0) ≤ x1 then 0 else (if 8 ≤ x1 then 0 else 1)))
def sX0_isOut (C : Cst) (x1 : Int32) : Int32 := (if ¬ (((C 13 0) >>> (x1 &&& 31)) &&& 1) = 1 then 0 else 1)
def sX0_damageOf (C : Cst) (x1 : Int32) : Int32 := ltv (C 0 0) (fun (v2_6 : Int32) => (if 1 ≤ v2_6 then ((x1 * x1) / v2_6) else 0))
def sX0_placeOf (C : Cst) (x1 : Int32) : Int32 := (if 1 ≤ (C 9 0) then ltv ((C 10 0) % (C 9 0)) (fun (v2_19 : Int32) => (if x1 < v2_19 then ((x1 - v2_19) + (C 9 0)) else (x1 - v2_19))) else 0)
def sX0_allUnits (C : Cst) : Int32 := ltv (sX4_sumOf_2 C) (fun (r_4 : Int32) => r_4)
def sX0_unitsAhead (C : Cst) (x1 : Int32) : Int32 := ltl3 (fun R11 (x2 : Int32) (x3 : Int32) (i4 : Nat) => ltv (fun (x2 : Int32) (x3 : Int32) (i4 : Nat) => R11 x2 x3 (i4 + 1)) (fun K38 => ((if 8 ≤ (nI i4) then x3 else ltv (sX0_placeOf C (nI i4)) (fun (r_21 : Int32) => (if x2 ≤ r_21 then K38 x2 x3 i4 else ltv (x3 + (C 2 i4)) (fun (v3_37 : Int32) => K38 x2 v3_37 i4))))))) (fun (x2 : Int32) (x3 : Int32) (i4 : Nat) => 0) (fun L11 => (ltv (sX0_placeOf C x1) (fun (r_2 : Int32) => L11 9 r_2 0 0)))
def sX0_damageAdded (C : Cst) (x1 : Int32) (x2 : Int32) : Int32 := ltv (sX0_damageOf C (x1 + x2)) (fun (r_4 : Int32) => ltv (sX0_damageOf C x1) (fun (r_9 : Int32) => (r_4 - r_9)))
def sX0_chargeOf (C : Cst) (i1 : Nat) : Int32 := ltv (sX0_unitsAhead C (nI i1)) (fun (r_3 : Int32) => ltv (sX0_damageAdded C r_3 (C 2 i1)) (fun (r_12 : Int32) => r_12))
def sX0_gainBehind (C : Cst) (x1 : Int32) (x2 : Int32) (x3 : Int32) : Int32 := ltv (sX0_damageAdded C x1 x3) (fun (r_6 : Int32) => ((x2 * x3) - r_6))
def sX0_addMember (C : Cst) (x1 : Int32) : Int32 × Cst := (if x1 < 0 then ((-10001), C) else (if x1 ≤ 30 then (if (C 9 0) < 8 then ltv (up C 1 (C 9 0).toNatClampNeg x1) (fun (S_36 : Cst) => ltv (up S_36 9 0 ((S_36 9 0) + 1)) (fun (S_44 : Cst) => (((S_44 9 0) - 1), S_44))) else ((-10003), C)) else ((-10001), C)))
def sX0_declareUse (C : Cst) (x1 : Int32) (x2 : Int32) : Int32 × Cst := ltv (fun (C : Cst) (i1 : Nat) (x2 : Int32) => ltv (sX0_isOut C (nI i1)) (fun (r_21 : Int32) => (if r_21 = 0 then ltv (up C 2 i1 x2) (fun (S_37 : Cst) => ltv (sX0_chargeOf S_37 i1) (fun (r_40 : Int32) => (r_40, S_37))) else ((-10002), C)))) (fun K19 => (ltv (sX0_has C x1) (fun (r_2 : Int32) => (if r_2 = 0 then ((-10001), C) else ltv (sX4_isUnits x2) (fun (r_9 : Int32) => (if ¬ r_9 = 0 then K19 C x1.toNatClampNeg x2 else ((-10001), C)))))))
def sX0_payCoins (C : Cst) (x1 : Int32) (x2 : Int32) : Int32 × Cst := ltv (fun (C : Cst) (i1 : Nat) (x2 : Int32) => (if x2 ≤ (C 3 i1) then ltv (up C 3 i1 ((C 3 i1) - x2)) (fun (S_47 : Cst) => ltv (up S_47 4 i1 ((S_47 4 i1) + x2)) (fun (S_57 : Cst) => ltv (up S_57 12 0 ((S_57 12 0) + x2)) (fun (S_65 : Cst) => ((S_65 3 i1), S_65)))) else ((-10002), C))) (fun K24 => (ltv (sX0_has C x1) (fun (r_2 : Int32) => (if r_2 = 0 then ((-10001), C) else (if x2 < 1 then ((-10001), C) else (if x2 ≤ 999 then K24 C x1.toNatClampNeg x2 else ((-10001), C)))))))
def sX0_oweByUses (C : Cst) (x1 : Int32) : Cst := ltl3 (fun R61 (C : Cst) (x3 : Int32) (i4 : Nat) => ltv (fun (C : Cst) (x3 : Int32) (i4 : Nat) => R61 C x3 (i4 + 1)) (fun K96 => ((if 8 ≤ (nI i4) then C else (if (C 5 i4) ≤ 0 then K96 C x3 i4 else (if x3 ≤ 0 then K96 C x3 i4 else ltv (up C 3 i4 ((C 3 i4) + 1)) (fun (S_92 : Cst) => ltv (x3 - 1) (fun (v3_93 : Int32) => K96 S_92 v3_93 i4)))))))) (fun (C : Cst) (x3 : Int32) (i4 : Nat) => C) (fun L61 => (ltv (fun (C : Cst) (x3 : Int32) => L61 9 C x3 0) (fun K58 => (ltl5 (fun R13 (C : Cst) (x1 : Int32) (x2 : Int32) (x3 : Int32) (i4 : Nat) => (if 8 ≤ (nI i4) then K58 C x3 else ltv (sX4_quotient (x1 * (C 5 i4)) x2) (fun (r_30 : Int32) => ltv (up C 3 i4 ((C 3 i4) + r_30)) (fun (S_46 : Cst) => ltv (x3 - r_30) (fun (v3_51 : Int32) => R13 S_46 x1 x2 v3_51 (i4 + 1)))))) (fun (C : Cst) (x1 : Int32) (x2 : Int32) (x3 : Int32) (i4 : Nat) => C) (fun L13 => (ltv (sX4_sumOf_5 C) (fun (r_4 : Int32) => L13 9 C x1 r_4 x1 0)))))))
def sX0_repairPoints (C : Cst) (x1 : Int32) : Int32 × Cst := ltv (fun (C : Cst) (x1 : Int32) (x3 : Int32) (x4 : Int32) => ltv (up C 12 0 ((C 12 0) - x3)) (fun (S_75 : Cst) => ltv (up S_75 11 0 ((S_75 11 0) + x1)) (fun (S_85 : Cst) => ltv (up S_85 16 0 ((S_85 16 0) + x1)) (fun (S_95 : Cst) => ltv (sX0_oweByUses S_95 x4) (fun (S_101 : Cst) => (x4, S_101)))))) (fun K68 => ((if x1 < 1 then ((-10001), C) else (if x1 ≤ 100 then ltv (x1 * (C 0 4)) (fun (v2_23 : Int32) => ltv (if (C 12 0) < v2_23 then (C 12 0) else v2_23) (fun (v3_32 : Int32) => ltv (v2_23 - v3_32) (fun (v4_36 : Int32) => (if 100 < ((C 11 0) + x1) then ((-10002), C) else (if v4_36 ≤ 0 then K68 C x1 v3_32 v4_36 else ltv (sX4_sumOf_5 C) (fun (r_58 : Int32) => (if ¬ r_58 = 0 then K68 C x1 v3_32 v4_36 else ((-10002), C)))))))) else ((-10001), C)))))
def sX0_pointsFromFund (C : Cst) : Int32 := ltv (sX4_quotient (C 12 0) (C 0 4)) (fun (r_17 : Int32) => (if r_17 < (100 - (C 11 0)) then r_17 else (100 - (C 11 0))))
def sX0_oweCharges (C : Cst) : Cst := ltl5 (fun R29 (C : Cst) (x1 : Int32) (x2 : Int32) (x3 : Int32) (i4 : Nat) => ltv (fun (C : Cst) (x1 : Int32) (x2 : Int32) (i4 : Nat) (t0 : Int32) => R29 C x1 x2 t0 (i4 + 1)) (fun K94 => (ltv (fun (C : Cst) (x1 : Int32) (x2 : Int32) (x3 : Int32) (i4 : Nat) => (if (C 9 0) ≤ (x3 + 1) then K94 C x1 x2 i4 0 else K94 C x1 x2 i4 (x3 + 1))) (fun K77 => ((if (C 9 0) ≤ (nI i4) then C else ltv (sX0_has C x3) (fun (r_40 : Int32) => (if r_40 = 0 then K77 C x1 x2 x3 i4 else ltv (x1 + (C 2 x3.toNatClampNeg)) (fun (v1_54 : Int32) => ltv (sX0_damageOf C v1_54) (fun (r_64 : Int32) => ltv (up C 3 x3.toNatClampNeg ((C 3 x3.toNatClampNeg) + (r_64 - x2))) (fun (S_70 : Cst) => ltv (sX0_damageOf S_70 v1_54) (fun (r_73 : Int32) => K77 S_70 v1_54 r_73 x3 i4)))))))))))) (fun (C : Cst) (x1 : Int32) (x2 : Int32) (x3 : Int32) (i4 : Nat) => C) (fun L29 => (ltv (fun (C : Cst) (x1 : Int32) (x2 : Int32) (t0 : Int32) => L29 9 C x1 x2 t0 0) (fun K25 => ((if 1 ≤ (C 9 0) then K25 C 0 0 ((C 10 0) % (C 9 0)) else K25 C 0 0 0)))))
def sX0_keepSeason (C : Cst) (x1 : Int32) (x2 : Int32) : Cst := ltv (((C 10 0) % 6) * 5) (fun (v3_9 : Int32) => ltv (up C 8 v3_9.toNatClampNeg (C 10 0)) (fun (S_19 : Cst) => ltv (up S_19 8 (v3_9 + 1).toNatClampNeg x1) (fun (S_28 : Cst) => ltv (up S_28 8 (v3_9 + 2).toNatClampNeg x2) (fun (S_37 : Cst) => ltv (up S_37 8 (v3_9 + 3).toNatClampNeg (S_37 11 0)) (fun (S_49 : Cst) => ltv (up S_49 8 (v3_9 + 4).toNatClampNeg (S_49 13 0)) (fun (S_61 : Cst) => S_61))))))
def sX0_bookUses (C : Cst) : Cst := ltl2 (fun R2 (C : Cst) (i1 : Nat) => (if 8 ≤ (nI i1) then C else ltv (up C 5 i1 ((C 5 i1) + (C 2 i1))) (fun (S_22 : Cst) => ltv (up S_22 6 i1 ((S_22 6 i1) + (S_22 2 i1))) (fun (S_37 : Cst) => ltv (up S_37 2 i1 0) (fun (S_44 : Cst) => R2 S_44 (i1 + 1)))))) (fun (C : Cst) (i1 : Nat) => C) (fun L2 => (L2 9 C 0))
def sX0_noteSeasonsOut (C : Cst) : Cst := ltl2 (fun R2 (C : Cst) (i1 : Nat) => ltv (fun (C : Cst) (i1 : Nat) => R2 C (i1 + 1)) (fun K26 => ((if 8 ≤ (nI i1) then C else ltv (sX0_isOut C (nI i1)) (fun (r_10 : Int32) => (if r_10 = 0 then K26 C i1 else ltv (up C 7 i1 ((C 7 i1) + 1)) (fun (S_25 : Cst) => K26 S_25 i1))))))) (fun (C : Cst) (i1 : Nat) => C) (fun L2 => (L2 9 C 0))
def sX0_turnsNeeded (C : Cst) : Int32 := ltv ((C 0 1) - (C 11 0)) (fun (v1_11 : Int32) => (if 0 < v1_11 then ltv (((v1_11 + 10) - 1) / 10) (fun (v2_27 : Int32) => (if ((C 9 0) - 1) < v2_27 then ((C 9 0) - 1) else v2_27)) else 0))
def sX0_heaviestNotIn (C : Cst) (x1 : Int32) : Int32 := ltl4 (fun R7 (x1 : Int32) (x2 : Int32) (x3 : Int32) (i4 : Nat) => ltv (fun (x1 : Int32) (x2 : Int32) (x3 : Int32) (i4 : Nat) => R7 x1 x2 x3 (i4 + 1)) (fun K54 => ((if 8 ≤ (nI i4) then x2 else (if (C 9 0) ≤ (nI i4) then x2 else (if ¬ ((x1 >>> ((nI i4) &&& 31)) &&& 1) = 0 then K54 x1 x2 x3 i4 else (if (C 6 i4) ≤ x3 then K54 x1 x2 x3 i4 else ltv (C 6 i4) (fun (v3_50 : Int32) => K54 x1 (nI i4) v3_50 i4)))))))) (fun (x1 : Int32) (x2 : Int32) (x3 : Int32) (i4 : Nat) => 0) (fun L7 => (L7 9 x1 (-1) (-1) 0))
def sX0_excludeInTurn (C : Cst) (x1 : Int32) : Cst := ltl4 (fun R7 (C : Cst) (x1 : Int32) (x2 : Int32) (i3 : Nat) => (if x2 ≤ (nI i3) then C else ltv (sX0_heaviestNotIn C (x1 ||| (C 13 0))) (fun (r_19 : Int32) => ltv (sX0_has C r_19) (fun (r_27 : Int32) => (if ¬ r_27 = 0 then ltv (up C 13 0 ((C 13 0) ||| (1 <<< (r_19 &&& 31)))) (fun (S_44 : Cst) => ltv (up S_44 6 r_19.toNatClampNeg 0) (fun (S_54 : Cst) => R7 S_54 x1 x2 (i3 + 1))) else C))))) (fun (C : Cst) (x1 : Int32) (x2 : Int32) (i3 : Nat) => C) (fun L7 => (ltv (sX0_turnsNeeded C) (fun (r_1 : Int32) => L7 (r_1.toNatClampNeg + 1) C x1 r_1 0)))
def sX0_excludeDebtors (C : Cst) : Cst := ltl2 (fun R2 (C : Cst) (i1 : Nat) => ltv (fun (C : Cst) (i1 : Nat) => R2 C (i1 + 1)) (fun K35 => ((if 8 ≤ (nI i1) then C else (if (C 3 i1) ≤ (C 0 3) then K35 C i1 else ltv (up C 13 0 ((C 13 0) ||| (1 <<< ((nI i1) &&& 31)))) (fun (S_32 : Cst) => K35 S_32 i1)))))) (fun (C : Cst) (i1 : Nat) => C) (fun L2 => (L2 9 C 0))
def sX0_endSeason (C : Cst) : Int32 × Cst := ltv (sX0_allUnits C) (fun (r_1 : Int32) => ltv (sX0_damageOf C r_1) (fun (r_7 : Int32) => ltv (C 13 0) (fun (v3_15 : Int32) => ltv (sX0_oweCharges C) (fun (S_17 : Cst) => ltv (up S_17 14 0 ((S_17 14 0) + r_7)) (fun (S_27 : Cst) => ltv (up S_27 15 0 ((S_27 15 0) + (if 0 < (r_7 - (S_27 11 0)) then (r_7 - (S_27 11 0)) else 0))) (fun (S_46 : Cst) => ltv (up S_46 11 0 (if 0 < ((S_46 11 0) - r_7) then ((S_46 11 0) - r_7) else 0)) (fun (S_60 : Cst) => ltv (up S_60 11 0 (if ((S_60 11 0) + (S_60 0 2)) < 100 then ((S_60 11 0) + (S_60 0 2)) else 100)) (fun (S_80 : Cst) => ltv (sX0_keepSeason S_80 r_1 r_7) (fun (S_86 : Cst) => ltv (sX0_bookUses S_86) (fun (S_90 : Cst) => ltv (up S_90 10 0 ((S_90 10 0) + 1)) (fun (S_100 : Cst) => ltv (up S_100 13 0 0) (fun (S_105 : Cst) => ltv (sX0_excludeInTurn S_105 v3_15) (fun (S_110 : Cst) => ltv (sX0_excludeDebtors S_110) (fun (S_114 : Cst) => ltv (sX0_noteSeasonsOut S_114) (fun (S_118 : Cst) => (r_7, S_118))))))))))))))))
def sX0_closeSeason (C : Cst) : Int32 × Cst := (if ¬ (C 9 0) = 0 then (if (C 10 0) < 999 then bnd (sX0_endSeason C) (fun (r_26 : Int32) (S_26 : Cst) => (r_26, S_26)) else ((-10003), C)) else ((-10002), C))
def sX0_liftedGain (C : Cst) (x1 : Int32) (x2 : Int32) : Int32 := ltv (fun (i1 : Nat) (x2 : Int32) => ltv (sX0_unitsAhead C (nI i1)) (fun (r_38 : Int32) => ltv (sX0_gainBehind C r_38 (C 1 i1) x2) (fun (r_48 : Int32) => (r_48 + 10000)))) (fun K35 => (ltv (fun (i1 : Nat) (x2 : Int32) => ltv (sX0_isOut C (nI i1)) (fun (r_21 : Int32) => (if r_21 = 0 then K35 i1 x2 else (if x2 = 0 then K35 i1 x2 else (-10002))))) (fun K19 => (ltv (sX0_has C x1) (fun (r_2 : Int32) => (if r_2 = 0 then (-10001) else ltv (sX4_isUnits x2) (fun (r_9 : Int32) => (if ¬ r_9 = 0 then K19 x1.toNatClampNeg x2 else (-10001)))))))))
def sX0_bestUnits (C : Cst) (i1 : Nat) : Int32 := ltl5 (fun R32 (i1 : Nat) (x2 : Int32) (x3 : Int32) (x4 : Int32) (i5 : Nat) => ltv (fun (i1 : Nat) (x2 : Int32) (x3 : Int32) (x4 : Int32) (i5 : Nat) => R32 i1 x2 x3 x4 (i5 + 1)) (fun K68 => ((if 20 < (nI i5) then x3 else ltv (sX0_gainBehind C x2 (C 1 i1) (nI i5)) (fun (r_49 : Int32) => (if r_49 ≤ x4 then K68 i1 x2 x3 x4 i5 else K68 i1 x2 (nI i5) r_49 i5)))))) (fun (i1 : Nat) (x2 : Int32) (x3 : Int32) (x4 : Int32) (i5 : Nat) => 0) (fun L32 => (ltv (sX0_has C (nI i1)) (fun (r_2 : Int32) => (if r_2 = 0 then 0 else ltv (sX0_isOut C (nI i1)) (fun (r_10 : Int32) => (if r_10 = 0 then ltv (sX0_unitsAhead C (nI i1)) (fun (r_20 : Int32) => L32 22 i1 r_20 0 0 1) else 0))))))
def sX0_roundChanges (C : Cst) : Int32 × Cst := ltl3 (fun R4 (C : Cst) (x1 : Int32) (i2 : Nat) => ltv (fun (C : Cst) (i2 : Nat) (x3 : Int32) (t0 : Int32) => ltv (up C 2 i2 x3) (fun (S_42 : Cst) => R4 S_42 t0 (i2 + 1))) (fun K35 => (ltv (fun (C : Cst) (i2 : Nat) (x3 : Int32) => K35 C i2 x3 1) (fun K30 => ((if 8 ≤ (nI i2) then (x1, C) else ltv (sX0_bestUnits C i2) (fun (r_12 : Int32) => (if ¬ x1 = 0 then K30 C i2 r_12 else (if r_12 = (C 2 i2) then K35 C i2 r_12 0 else K30 C i2 r_12))))))))) (fun (C : Cst) (x1 : Int32) (i2 : Nat) => (0, C)) (fun L4 => (L4 9 C 0 0))
def sX0_calmDown (C : Cst) : Int32 × Cst := ltl2 (fun R2 (C : Cst) (i1 : Nat) => (if 40 < (nI i1) then ((-10004), C) else bnd (sX0_roundChanges C) (fun (r_9 : Int32) (S_9 : Cst) => (if ¬ r_9 = 0 then R2 S_9 (i1 + 1) else ((nI i1), S_9))))) (fun (C : Cst) (i1 : Nat) => (0, C)) (fun L2 => (L2 42 C 1))
def sX0_worthiestWithRoom (C : Cst) : Int32 := ltl3 (fun R6 (x1 : Int32) (x2 : Int32) (i3 : Nat) => ltv (fun (x1 : Int32) (x2 : Int32) (i3 : Nat) => R6 x1 x2 (i3 + 1)) (fun K58 => ((if 8 ≤ (nI i3) then x1 else (if (C 9 0) ≤ (nI i3) then x1 else (if 20 ≤ (C 2 i3) then K58 x1 x2 i3 else ltv (sX0_isOut C (nI i3)) (fun (r_33 : Int32) => (if ¬ r_33 = 0 then K58 x1 x2 i3 else (if (C 1 i3) ≤ x2 then K58 x1 x2 i3 else ltv (C 1 i3) (fun (v2_55 : Int32) => K58 (nI i3) v2_55 i3)))))))))) (fun (x1 : Int32) (x2 : Int32) (i3 : Nat) => 0) (fun L6 => (L6 9 (-1) (-1) 0))
def sX0_useBestForAll (C : Cst) : Int32 × Cst := ltv (fun (C : Cst) (x1 : Int32) => ltv (sX0_damageOf C 160) (fun (r_98 : Int32) => ((x1 - r_98), C))) (fun K93 => (ltv (fun (C : Cst) (x1 : Int32) (x2 : Int32) => ltv (sX0_damageOf C x2) (fun (r_63 : Int32) => ((x1 - r_63), C))) (fun K60 => (ltl3 (fun R25 (C : Cst) (x1 : Int32) (i2 : Nat) => (if 160 ≤ (nI i2) then K93 C x1 else ltv (sX0_worthiestWithRoom C) (fun (r_33 : Int32) => ltv (sX0_has C r_33) (fun (r_39 : Int32) => (if r_39 = 0 then K60 C x1 (nI i2) else ltv (sX0_damageAdded C (nI i2) 1) (fun (r_54 : Int32) => (if r_54 < (C 1 r_33.toNatClampNeg) then ltv (up C 2 r_33.toNatClampNeg ((C 2 r_33.toNatClampNeg) + 1)) (fun (S_77 : Cst) => ltv (x1 + (S_77 1 r_33.toNatClampNeg)) (fun (v1_86 : Int32) => R25 S_77 v1_86 (i2 + 1))) else K60 C x1 (nI i2)))))))) (fun (C : Cst) (x1 : Int32) (i2 : Nat) => (0, C)) (fun L25 => (ltv (fun (C : Cst) => L25 161 C 0 0) (fun K21 => (ltl2 (fun R2 (C : Cst) (i1 : Nat) => (if 8 ≤ (nI i1) then K21 C else ltv (up C 2 i1 0) (fun (S_14 : Cst) => R2 S_14 (i1 + 1)))) (fun (C : Cst) (i1 : Nat) => (0, C)) (fun L2 => (L2 9 C 0))))))))))
def sX0_numberOfMember (C : Cst) (x1 : Int32) (x2 : Int32) : Int32 := ltv (fun (i1 : Nat) (x2 : Int32) => (if x2 = 0 then (C 1 i1) else (if x2 = 1 then (C 2 i1) else (if x2 = 2 then ltv (sX0_chargeOf C i1) (fun (r_84 : Int32) => r_84) else (if x2 = 3 then (C 3 i1) else (if x2 = 4 then (C 4 i1) else (if x2 = 5 then (C 5 i1) else (if x2 = 6 then (C 6 i1) else (if x2 = 7 then ltv (sX0_isOut C (nI i1)) (fun (r_118 : Int32) => (if r_118 = 0 then 0 else 1)) else (if x2 = 8 then (C 7 i1) else (if x2 = 9 then ltv (sX0_placeOf C (nI i1)) (fun (r_139 : Int32) => r_139) else (-10001)))))))))))) (fun K12 => (ltv (sX0_has C x1) (fun (r_2 : Int32) => (if ¬ r_2 = 0 then K12 x1.toNatClampNeg x2 else (-10001)))))
def sX0_numberOfAll (C : Cst) (x1 : Int32) : Int32 := (if x1 = 0 then (C 9 0) else (if x1 = 1 then (C 10 0) else (if x1 = 2 then (C 11 0) else (if x1 = 3 then ltv (sX0_allUnits C) (fun (r_76 : Int32) => r_76) else (if x1 = 4 then ltv (sX0_allUnits C) (fun (r_82 : Int32) => ltv (sX0_damageOf C r_82) (fun (r_85 : Int32) => r_85)) else (if x1 = 5 then (C 12 0) else (if x1 = 6 then ltv (sX4_sumOf_3 C) (fun (r_98 : Int32) => r_98) else (if x1 = 7 then (C 13 0) else (if x1 = 8 then (C 14 0) else (if x1 = 9 then (C 15 0) else (if x1 = 10 then (C 16 0) else (if x1 < 20 then (-10001) else (if 25 ≤ x1 then (-10001) else (C 0 (x1 - 20).toNatClampNeg))))))))))))))
def sX0_numberOfSeason (C : Cst) (x1 : Int32) (x2 : Int32) : Int32 := ltv (fun (i1 : Nat) (i2 : Nat) => (C 8 ((((((C 10 0) - 1) - (nI i1)) % 6) * 5) + (nI i2)).toNatClampNeg)) (fun K35 => ((if x1 < 0 then (-10001) else (if x2 < 0 then (-10001) else (if x2 < 5 then (if (C 10 0) ≤ x1 then (-10004) else (if x1 < 6 then K35 x1.toNatClampNeg x2.toNatClampNeg else (-10004))) else (-10001))))))
def IM (C : Cst) : Prop := 0 ≤ (C 0 5).toInt ∧ (C 0 5).toInt ≤ 8 ∧ ¬ C 0 0 = 0 ∧ ¬ C 0 4 = 0 ∧ 0 ≤ (C 0 12).toInt ∧ (C 0 12).toInt ≤ 6 ∧ 0 ≤ (C 3 0).toInt ∧ (C 3 0).toInt ≤ 4 ∧ 0 ≤ (C 6 0).toInt ∧ (C 6 0).toInt ≤ 60
def sX5_in (x0 : Int32) (x1 : Int32) (x2 : Int32) : Int32 := (if x0 < x1 then 0 else (if x2 < x0 then 0 else 1))
def sX5_copies_0_2 (C : Cst) : Cst := ltl2 (fun R2 (C : Cst) (i2 : Nat) => (if 107 ≤ (nI i2) then C else ltv (up C 2 i2 (C 0 i2)) (fun (S_13 : Cst) => R2 S_13 (i2 + 1)))) (fun (C : Cst) (i2 : Nat) => C) (fun L2 => (L2 108 C 0))
def sX5_copies_2_0 (C : Cst) : Cst := ltl2 (fun R2 (C : Cst) (i2 : Nat) => (if 107 ≤ (nI i2) then C else ltv (up C 0 i2 (C 2 i2)) (fun (S_13 : Cst) => R2 S_13 (i2 + 1)))) (fun (C : Cst) (i2 : Nat) => C) (fun L2 => (L2 108 C 0))
def sX5_copies_0_12 (C : Cst) : Cst := ltl2 (fun R2 (C : Cst) (i2 : Nat) => (if 107 ≤ (nI i2) then C else ltv (up C 12 i2 (C 0 i2)) (fun (S_13 : Cst) => R2 S_13 (i2 + 1)))) (fun (C : Cst) (i2 : Nat) => C) (fun L2 => (L2 108 C 0))
def sX5_copies_12_0 (C : Cst) : Cst := ltl2 (fun R2 (C : Cst) (i2 : Nat) => (if 107 ≤ (nI i2) then C else ltv (up C 0 i2 (C 12 i2)) (fun (S_13 : Cst) => R2 S_13 (i2 + 1)))) (fun (C : Cst) (i2 : Nat) => C) (fun L2 => (L2 108 C 0))
def sX5_isMember (C : Cst) (x1 : Int32) : Int32 := (if x1 < 0 then 0 else (if (C 0 5) ≤ x1 then 0 else 1))
def sX5_of (C : Cst) (i1 : Nat) (i2 : Nat) : Int32 := (C 0 ((13 + (8 * i1)) + i2))
def sX5_puts (C : Cst) (i1 : Nat) (i2 : Nat) (x3 : Int32) : Cst := ltv (up C 0 ((13 + (8 * i1)) + i2) x3) (fun (S_14 : Cst) => S_14)
def sX5_damage (C : Cst) (x1 : Int32) : Int32 := ((x1 * x1) / (C 0 0))
def sX5_placeOf (C : Cst) (x1 : Int32) : Int32 := (((x1 - ((C 0 6) % (C 0 5))) + (C 0 5)) % (C 0 5))
def sX5_keeps (C : Cst) (x1 : Int32) (x2 : Int32) (x3 : Int32) (x4 : Int32) : Cst := ltv (fun (C : Cst) (t0 : Int32) => ltv (up C 0 12 t0) (fun (S_117 : Cst) => S_117)) (fun K117 => (ltv (fun (C : Cst) (x1 : Int32) (x2 : Int32) (x3 : Int32) (x4 : Int32) => ltv (up C 0 77 x1) (fun (S_45 : Cst) => ltv (up S_45 0 78 x2) (fun (S_53 : Cst) => ltv (up S_53 0 79 x3) (fun (S_61 : Cst) => ltv (up S_61 0 80 (S_61 0 7)) (fun (S_75 : Cst) => ltv (up S_75 0 81 x4) (fun (S_84 : Cst) => (if ¬ (S_84 0 12) = 6 then K117 S_84 ((S_84 0 12) + 1) else K117 S_84 6))))))) (fun K38 => (ltl6 (fun R4 (C : Cst) (x1 : Int32) (x2 : Int32) (x3 : Int32) (x4 : Int32) (i5 : Nat) => (if (nI i5) ≤ 4 then K38 C x1 x2 x3 x4 else ltv (up C 0 (77 + i5) (C 0 ((77 + i5) - 5))) (fun (S_31 : Cst) => R4 S_31 x1 x2 x3 x4 (i5 - 1)))) (fun (C : Cst) (x1 : Int32) (x2 : Int32) (x3 : Int32) (x4 : Int32) (i5 : Nat) => C) (fun L4 => (L4 26 C x1 x2 x3 x4 29))))))
def sX5_changes (C : Cst) : Cst := ltv (fun (C : Cst) => ltv (up C 3 0 ((C 3 0) + 1)) (fun (S_97 : Cst) => S_97)) (fun K90 => (ltl2 (fun R58 (C : Cst) (i1 : Nat) => (if 107 ≤ (nI i1) then K90 C else ltv (up C 1 ((107 * (C 3 0)) + (nI i1)).toNatClampNeg (C 0 i1)) (fun (S_83 : Cst) => R58 S_83 (i1 + 1)))) (fun (C : Cst) (i1 : Nat) => C) (fun L58 => (ltv (fun (C : Cst) => L58 108 C 0) (fun K56 => (ltv (fun (C : Cst) => ltv (up C 3 0 ((C 3 0) - 1)) (fun (S_53 : Cst) => K56 S_53)) (fun K46 => (ltl2 (fun R18 (C : Cst) (i1 : Nat) => (if 321 ≤ (nI i1) then K46 C else ltv (up C 1 i1 (C 1 (i1 + 107))) (fun (S_39 : Cst) => R18 S_39 (i1 + 1)))) (fun (C : Cst) (i1 : Nat) => C) (fun L18 => ((if (C 4 0) = 0 then (if ¬ (C 3 0) = 4 then K56 C else L18 322 C 0) else C)))))))))))
def sX5_sum (C : Cst) (i1 : Nat) : Int32 := ltl3 (fun R4 (i1 : Nat) (x2 : Int32) (i3 : Nat) => (if (C 0 5) ≤ (nI i3) then x2 else ltv (sX5_of C i3 i1) (fun (r_18 : Int32) => ltv (x2 + r_18) (fun (v2_22 : Int32) => R4 i1 v2_22 (i3 + 1))))) (fun (i1 : Nat) (x2 : Int32) (i3 : Nat) => 0) (fun L4 => (L4 9 i1 0 0))
def sX5_ahead (C : Cst) (x1 : Int32) : Int32 := ltl3 (fun R4 (x1 : Int32) (x2 : Int32) (i3 : Nat) => ltv (fun (x1 : Int32) (i3 : Nat) (t0 : Int32) (t1 : Int32) => ltv (t1 + t0) (fun (v2_39 : Int32) => R4 x1 v2_39 (i3 + 1))) (fun K38 => ((if (C 0 5) ≤ (nI i3) then x2 else ltv (sX5_placeOf C (nI i3)) (fun (r_17 : Int32) => ltv (sX5_placeOf C x1) (fun (r_22 : Int32) => (if r_22 ≤ r_17 then K38 x1 i3 0 x2 else ltv (sX5_of C i3 1) (fun (r_31 : Int32) => K38 x1 i3 r_31 x2)))))))) (fun (x1 : Int32) (x2 : Int32) (i3 : Nat) => 0) (fun L4 => (L4 9 x1 0 0))
def sX5_chargeFor (C : Cst) (x1 : Int32) (x2 : Int32) : Int32 := ltv (sX5_ahead C x1) (fun (r_2 : Int32) => ltv (sX5_damage C (r_2 + x2)) (fun (r_10 : Int32) => ltv (sX5_damage C r_2) (fun (r_15 : Int32) => (r_10 - r_15))))
def sX5_outSet (C : Cst) : Int32 := ltl2 (fun R4 (x1 : Int32) (i2 : Nat) => (if (C 0 5) ≤ (nI i2) then x1 else ltv (sX5_of C i2 6) (fun (r_19 : Int32) => ltv (x1 ||| (r_19 <<< ((nI i2) &&& 31))) (fun (v1_25 : Int32) => R4 v1_25 (i2 + 1))))) (fun (x1 : Int32) (i2 : Nat) => 0) (fun L4 => (L4 9 0 0))
def sX5_gainFor (C : Cst) (i1 : Nat) (x2 : Int32) : Int32 := ltv (sX5_of C i1 0) (fun (r_3 : Int32) => ltv (sX5_chargeFor C (nI i1) x2) (fun (r_11 : Int32) => ((r_3 * x2) - r_11)))
def sX5_best (C : Cst) (i1 : Nat) : Int32 := ltl3 (fun R4 (i1 : Nat) (x2 : Int32) (i3 : Nat) => ltv (fun (i1 : Nat) (i3 : Nat) (t0 : Int32) => R4 i1 t0 (i3 + 1)) (fun K40 => ((if 20 < (nI i3) then x2 else ltv (sX5_of C i1 6) (fun (r_14 : Int32) => (if ¬ r_14 = 0 then x2 else ltv (sX5_gainFor C i1 (nI i3)) (fun (r_23 : Int32) => ltv (sX5_gainFor C i1 x2) (fun (r_29 : Int32) => (if r_23 ≤ r_29 then K40 i1 i3 x2 else K40 i1 i3 (nI i3)))))))))) (fun (i1 : Nat) (x2 : Int32) (i3 : Nat) => 0) (fun L4 => (L4 22 i1 0 1))
def sX5_memberOf (C : Cst) (x1 : Int32) (x2 : Int32) : Int32 := ltv (fun (i1 : Nat) (i2 : Nat) => (if 2 ≤ (nI i2) then (if ¬ (nI i2) = 2 then (if 9 ≤ (nI i2) then ltv (sX5_placeOf C (nI i1)) (fun (r_74 : Int32) => r_74) else ltv (sX5_of C i1 (i2 - 1)) (fun (r_66 : Int32) => r_66)) else ltv (sX5_of C i1 1) (fun (r_46 : Int32) => ltv (sX5_chargeFor C (nI i1) r_46) (fun (r_49 : Int32) => r_49))) else ltv (sX5_of C i1 i2) (fun (r_30 : Int32) => r_30))) (fun K22 => (ltv (sX5_isMember C x1) (fun (r_2 : Int32) => (if r_2 = 0 then (-10001) else ltv (sX5_in x2 0 9) (fun (r_12 : Int32) => (if ¬ r_12 = 0 then K22 x1.toNatClampNeg x2.toNatClampNeg else (-10001)))))))
def sX5_gain (C : Cst) (x1 : Int32) (x2 : Int32) : Int32 := ltv (fun (i1 : Nat) (x2 : Int32) => ltv (sX5_gainFor C i1 x2) (fun (r_46 : Int32) => (r_46 + 10000))) (fun K43 => (ltv (fun (i1 : Nat) (x2 : Int32) => ltv (sX5_of C i1 6) (fun (r_26 : Int32) => (if ¬ r_26 = 1 then K43 i1 x2 else (if x2 ≤ 0 then K43 i1 x2 else (-10002))))) (fun K22 => (ltv (sX5_isMember C x1) (fun (r_2 : Int32) => (if r_2 = 0 then (-10001) else ltv (sX5_in x2 0 20) (fun (r_12 : Int32) => (if ¬ r_12 = 0 then K22 x1.toNatClampNeg x2 else (-10001)))))))))
def sX5_bestUse (C : Cst) (x1 : Int32) : Int32 := ltv (fun (i1 : Nat) => ltv (sX5_best C i1) (fun (r_10 : Int32) => r_10)) (fun K8 => (ltv (sX5_isMember C x1) (fun (r_2 : Int32) => (if r_2 = 0 then (-10001) else K8 x1.toNatClampNeg))))
def sX5_count (C : Cst) (x1 : Int32) : Int32 := (if x1 = 0 then (C 0 (5 + x1).toNatClampNeg) else (if x1 = 1 then (C 0 (5 + x1).toNatClampNeg) else (if x1 = 2 then (C 0 (5 + x1).toNatClampNeg) else (if x1 = 3 then ltv (sX5_sum C 1) (fun (r_79 : Int32) => r_79) else (if x1 = 4 then ltv (sX5_sum C 1) (fun (r_86 : Int32) => ltv (sX5_damage C r_86) (fun (r_89 : Int32) => r_89)) else (if x1 = 5 then (C 0 8) else (if x1 = 6 then ltv (sX5_sum C 2) (fun (r_103 : Int32) => r_103) else (if x1 = 7 then ltv (sX5_outSet C) (fun (r_108 : Int32) => r_108) else (if x1 = 8 then (C 0 ((9 + x1) - 8).toNatClampNeg) else (if x1 = 9 then (C 0 ((9 + x1) - 8).toNatClampNeg) else (if x1 = 10 then (C 0 ((9 + x1) - 8).toNatClampNeg) else (if x1 = 11 then (C 3 0) else (if x1 = 12 then (C 6 0) else ltv (sX5_in x1 20 24) (fun (r_140 : Int32) => (if r_140 = 0 then (-10001) else (C 0 (x1 - 20).toNatClampNeg))))))))))))))))
def sX5_seasonOf (C : Cst) (x1 : Int32) (x2 : Int32) : Int32 := ltv (fun (i1 : Nat) (i2 : Nat) => (C 0 ((77 + (5 * i1)) + i2))) (fun K34 => ((if x1 < 0 then (-10001) else ltv (sX5_in x2 0 4) (fun (r_7 : Int32) => (if ¬ r_7 = 0 then (if x1 < (C 0 12) then K34 x1.toNatClampNeg x2.toNatClampNeg else (-10004)) else (-10001))))))
def sX5_canRepair (C : Cst) : Int32 := ltv ((C 0 8) / (C 0 4)) (fun (v1_14 : Int32) => (if v1_14 ≤ (100 - (C 0 7)) then v1_14 else (100 - (C 0 7))))
def sX5_member (C : Cst) (x1 : Int32) : Int32 × Cst := ltv (fun (C : Cst) (x1 : Int32) (i2 : Nat) => ltv (sX5_puts C i2 0 x1) (fun (S_60 : Cst) => ltv (up S_60 0 5 ((S_60 0 5) + 1)) (fun (S_72 : Cst) => ((nI i2), S_72)))) (fun K56 => (ltl4 (fun R37 (C : Cst) (x1 : Int32) (i2 : Nat) (i3 : Nat) => (if 8 ≤ (nI i3) then K56 C x1 i2 else ltv (sX5_puts C i2 i3 0) (fun (S_47 : Cst) => R37 S_47 x1 i2 (i3 + 1)))) (fun (C : Cst) (x1 : Int32) (i2 : Nat) (i3 : Nat) => (0, C)) (fun L37 => (ltv (fun (C : Cst) (x1 : Int32) (i2 : Nat) => ltv (sX5_changes C) (fun (S_32 : Cst) => L37 9 S_32 x1 i2 0)) (fun K31 => (ltv (sX5_in x1 0 30) (fun (r_4 : Int32) => (if ¬ r_4 = 0 then ltv (C 0 5) (fun (v2_20 : Int32) => (if ¬ v2_20 = 8 then K31 C x1 v2_20.toNatClampNeg else ((-10003), C))) else ((-10001), C)))))))))
def sX5_use (C : Cst) (x1 : Int32) (x2 : Int32) : Int32 × Cst := ltv (fun (C : Cst) (i1 : Nat) (x2 : Int32) => ltv (sX5_of C i1 6) (fun (r_26 : Int32) => (if ¬ r_26 = 1 then ltv (sX5_changes C) (fun (S_38 : Cst) => ltv (sX5_puts S_38 i1 1 x2) (fun (S_45 : Cst) => ltv (sX5_chargeFor S_45 (nI i1) x2) (fun (r_51 : Int32) => (r_51, S_45)))) else ((-10002), C)))) (fun K22 => (ltv (sX5_isMember C x1) (fun (r_2 : Int32) => (if r_2 = 0 then ((-10001), C) else ltv (sX5_in x2 0 20) (fun (r_12 : Int32) => (if ¬ r_12 = 0 then K22 C x1.toNatClampNeg x2 else ((-10001), C)))))))
def sX5_pay (C : Cst) (x1 : Int32) (x2 : Int32) : Int32 × Cst := ltv (fun (C : Cst) (i1 : Nat) (x2 : Int32) => ltv (sX5_of C i1 2) (fun (r_26 : Int32) => (if x2 ≤ r_26 then ltv (sX5_changes C) (fun (S_38 : Cst) => ltv (sX5_of S_38 i1 2) (fun (r_47 : Int32) => ltv (sX5_puts S_38 i1 2 (r_47 - x2)) (fun (S_52 : Cst) => ltv (sX5_of S_52 i1 3) (fun (r_61 : Int32) => ltv (sX5_puts S_52 i1 3 (r_61 + x2)) (fun (S_66 : Cst) => ltv (up S_66 0 8 ((S_66 0 8) + x2)) (fun (S_79 : Cst) => ltv (sX5_of S_79 i1 2) (fun (r_83 : Int32) => (r_83, S_79)))))))) else ((-10002), C)))) (fun K23 => (ltv (sX5_isMember C x1) (fun (r_2 : Int32) => (if r_2 = 0 then ((-10001), C) else ltv (sX5_in x2 1 999) (fun (r_13 : Int32) => (if ¬ r_13 = 0 then K23 C x1.toNatClampNeg x2 else ((-10001), C)))))))
def sX5_set (C : Cst) (x1 : Int32) (x2 : Int32) : Int32 × Cst := ltv (fun (C : Cst) (i1 : Nat) (x2 : Int32) => ltv (sX5_changes C) (fun (S_84 : Cst) => ltv (S_84 0 i1) (fun (v5_93 : Int32) => ltv (up S_84 0 i1 x2) (fun (S_101 : Cst) => (v5_93, S_101))))) (fun K83 => (ltv (fun (C : Cst) (x1 : Int32) (x2 : Int32) (x3 : Int32) (t0 : Int32) => ltv (sX5_in x1 0 4) (fun (r_63 : Int32) => (if r_63 = 0 then ((-10001), C) else ltv (sX5_in x2 x3 t0) (fun (r_73 : Int32) => (if ¬ r_73 = 0 then K83 C x1.toNatClampNeg x2 else ((-10001), C)))))) (fun K58 => (ltv (fun (C : Cst) (x1 : Int32) (x2 : Int32) (t0 : Int32) => (if ¬ x1 = 0 then (if ¬ x1 = 1 then (if ¬ x1 = 2 then (if ¬ x1 = 3 then K58 C x1 x2 t0 20 else K58 C x1 x2 t0 999) else K58 C x1 x2 t0 50) else K58 C x1 x2 t0 100) else K58 C x1 x2 t0 200)) (fun K14 => (ltv (fun (C : Cst) (x1 : Int32) (x2 : Int32) => K14 C x1 x2 1) (fun K9 => ((if x1 = 0 then K9 C x1 x2 else (if ¬ x1 = 4 then K14 C x1 x2 0 else K9 C x1 x2))))))))))
def sX5_repair (C : Cst) (x1 : Int32) : Int32 × Cst := ltl5 (fun R168 (C : Cst) (x3 : Int32) (x4 : Int32) (x5 : Int32) (i6 : Nat) => ltv (fun (C : Cst) (x3 : Int32) (x4 : Int32) (x5 : Int32) (i6 : Nat) (t0 : Int32) (t1 : Int32) (t3 : Nat) => ltv (sX5_puts C t3 2 (t1 + t0)) (fun (S_255 : Cst) => R168 S_255 x3 x4 x5 (i6 + 1))) (fun K254 => (ltv (fun (C : Cst) (x3 : Int32) (x4 : Int32) (i6 : Nat) (x7 : Int32) (t0 : Int32) (t1 : Int32) => ltv (t1 - t0) (fun (v5_218 : Int32) => ltv (sX5_of C i6 2) (fun (r_228 : Int32) => ltv (sX5_of C i6 4) (fun (r_236 : Int32) => (if x7 = 0 then K254 C x3 x4 v5_218 i6 0 (r_228 + ((x3 * r_236) / x4)) i6 else K254 C x3 x4 v5_218 i6 1 (r_228 + ((x3 * r_236) / x4)) i6))))) (fun K217 => (ltv (fun (C : Cst) (x3 : Int32) (x4 : Int32) (x5 : Int32) (i6 : Nat) (t0 : Int32) => (if t0 = 0 then K217 C x3 x4 i6 t0 0 x5 else K217 C x3 x4 i6 t0 1 x5)) (fun K203 => (ltv (fun (C : Cst) (x3 : Int32) (x4 : Int32) (x5 : Int32) (i6 : Nat) => K203 C x3 x4 x5 i6 0) (fun K202 => ((if (C 0 5) ≤ (nI i6) then (x3, C) else (if x3 ≤ 0 then (x3, C) else (if x5 ≤ 0 then K202 C x3 x4 x5 i6 else ltv (sX5_of C i6 4) (fun (r_192 : Int32) => (if r_192 ≤ 0 then K202 C x3 x4 x5 i6 else K203 C x3 x4 x5 i6 1)))))))))))))) (fun (C : Cst) (x3 : Int32) (x4 : Int32) (x5 : Int32) (i6 : Nat) => (0, C)) (fun L168 => (ltv (fun (C : Cst) (x3 : Int32) (x4 : Int32) (x5 : Int32) => L168 9 C x3 x4 x5 0) (fun K165 => (ltl5 (fun R127 (C : Cst) (x3 : Int32) (x4 : Int32) (x5 : Int32) (i6 : Nat) => (if (C 0 5) ≤ (nI i6) then K165 C x3 x4 x5 else (if x3 ≤ 0 then K165 C x3 x4 x5 else ltv (sX5_of C i6 4) (fun (r_149 : Int32) => ltv (x5 - ((x3 * r_149) / x4)) (fun (v5_157 : Int32) => R127 C x3 x4 v5_157 (i6 + 1)))))) (fun (C : Cst) (x3 : Int32) (x4 : Int32) (x5 : Int32) (i6 : Nat) => (0, C)) (fun L127 => (ltv (fun (C : Cst) (x1 : Int32) (x2 : Int32) (x3 : Int32) (x4 : Int32) => ltv (sX5_changes C) (fun (S_83 : Cst) => ltv (up S_83 0 8 ((S_83 0 8) - (x2 - x3))) (fun (S_98 : Cst) => ltv (up S_98 0 7 ((S_98 0 7) + x1)) (fun (S_109 : Cst) => ltv (up S_109 0 11 ((S_109 0 11) + x1)) (fun (S_120 : Cst) => L127 9 S_120 x3 x4 x3 0))))) (fun K82 => (ltv (fun (C : Cst) (x1 : Int32) (x2 : Int32) (t0 : Int32) => ltv (sX5_sum C 4) (fun (r_50 : Int32) => (if 100 < ((C 0 7) + x1) then ((-10002), C) else (if t0 ≤ 0 then K82 C x1 x2 t0 r_50 else (if ¬ r_50 = 0 then K82 C x1 x2 t0 r_50 else ((-10002), C)))))) (fun K47 => (ltv (sX5_in x1 1 100) (fun (r_4 : Int32) => (if ¬ r_4 = 0 then ltv (x1 * (C 0 4)) (fun (v2_22 : Int32) => (if v2_22 ≤ (C 0 8) then K47 C x1 v2_22 0 else K47 C x1 v2_22 (v2_22 - (C 0 8)))) else ((-10001), C)))))))))))))
def sX5_turns (C : Cst) : Int32 × Cst := ltl3 (fun R4 (C : Cst) (x1 : Int32) (i2 : Nat) => ltv (fun (C : Cst) (i2 : Nat) (x3 : Int32) (t0 : Int32) => ltv (sX5_puts C i2 1 x3) (fun (S_44 : Cst) => R4 S_44 t0 (i2 + 1))) (fun K39 => (ltv (fun (C : Cst) (i2 : Nat) (x3 : Int32) => K39 C i2 x3 1) (fun K34 => ((if (C 0 5) ≤ (nI i2) then (x1, C) else ltv (sX5_best C i2) (fun (r_16 : Int32) => (if ¬ x1 = 0 then K34 C i2 r_16 else ltv (sX5_of C i2 1) (fun (r_28 : Int32) => (if r_16 = r_28 then K39 C i2 r_16 0 else K34 C i2 r_16)))))))))) (fun (C : Cst) (x1 : Int32) (i2 : Nat) => (0, C)) (fun L4 => (L4 9 C 0 0))
def sX5_excludes (C : Cst) (x1 : Int32) : Cst := ltl3 (fun R177 (C : Cst) (x3 : Int32) (i4 : Nat) => ltv (fun (C : Cst) (x3 : Int32) (i4 : Nat) (t0 : Int32) (t2 : Nat) => ltv (sX5_puts C t2 6 t0) (fun (S_259 : Cst) => ltv (sX5_of S_259 i4 7) (fun (r_272 : Int32) => ltv (sX5_of S_259 i4 6) (fun (r_280 : Int32) => ltv (sX5_puts S_259 i4 7 (r_272 + r_280)) (fun (S_284 : Cst) => R177 S_284 x3 (i4 + 1)))))) (fun K259 => (ltv (fun (C : Cst) (x3 : Int32) (i4 : Nat) (t1 : Nat) => K259 C x3 i4 1 t1) (fun K254 => (ltv (fun (C : Cst) (x3 : Int32) (i4 : Nat) (x5 : Int32) (t0 : Int32) (t2 : Nat) => ltv (sX5_puts C t2 5 t0) (fun (S_225 : Cst) => (if ¬ x5 = 0 then K254 S_225 x3 i4 i4 else ltv (sX5_of S_225 i4 2) (fun (r_242 : Int32) => (if r_242 ≤ (S_225 0 3) then K259 S_225 x3 i4 0 i4 else K254 S_225 x3 i4 i4))))) (fun K225 => (ltv (fun (C : Cst) (x3 : Int32) (i4 : Nat) (t0 : Int32) => (if t0 = 0 then ltv (sX5_of C i4 5) (fun (r_222 : Int32) => K225 C x3 i4 t0 r_222 i4) else K225 C x3 i4 t0 0 i4)) (fun K203 => ((if (C 0 5) ≤ (nI i4) then C else (if ¬ ((x3 >>> ((nI i4) &&& 31)) &&& 1) = 1 then K203 C x3 i4 0 else K203 C x3 i4 1))))))))))) (fun (C : Cst) (x3 : Int32) (i4 : Nat) => C) (fun L177 => (ltv (fun (C : Cst) (x3 : Int32) => L177 9 C x3 0) (fun K174 => (ltl5 (fun R71 (C : Cst) (x1 : Int32) (x2 : Int32) (x3 : Int32) (i4 : Nat) => ltv (fun (C : Cst) (x1 : Int32) (x2 : Int32) (x3 : Int32) (i4 : Nat) => R71 C x1 x2 x3 (i4 + 1)) (fun K168 => (ltv (fun (C : Cst) (x1 : Int32) (x2 : Int32) (x3 : Int32) (i4 : Nat) (x5 : Int32) => (if x5 < 0 then K168 C x1 x2 x3 i4 else ltv (x3 ||| (1 <<< (x5 &&& 31))) (fun (v3_167 : Int32) => K168 C x1 x2 v3_167 i4))) (fun K156 => (ltl7 (fun R85 (C : Cst) (x1 : Int32) (x2 : Int32) (x3 : Int32) (i4 : Nat) (x5 : Int32) (i6 : Nat) => ltv (fun (C : Cst) (x1 : Int32) (x2 : Int32) (x3 : Int32) (i4 : Nat) (i6 : Nat) (t0 : Int32) => R85 C x1 x2 x3 i4 t0 (i6 + 1)) (fun K148 => (ltv (fun (C : Cst) (x1 : Int32) (x2 : Int32) (x3 : Int32) (i4 : Nat) (x5 : Int32) (i6 : Nat) => K148 C x1 x2 x3 i4 i6 x5) (fun K146 => (ltv (fun (C : Cst) (x1 : Int32) (x2 : Int32) (x3 : Int32) (i4 : Nat) (i6 : Nat) => K148 C x1 x2 x3 i4 i6 (nI i6)) (fun K141 => (ltv (fun (C : Cst) (x1 : Int32) (x2 : Int32) (x3 : Int32) (i4 : Nat) (i5 : Nat) (i6 : Nat) => ltv (sX5_of C i6 5) (fun (r_128 : Int32) => ltv (sX5_of C i5 5) (fun (r_135 : Int32) => (if r_128 ≤ r_135 then K146 C x1 x2 x3 i4 (nI i5) i6 else K141 C x1 x2 x3 i4 i6)))) (fun K124 => (ltv (fun (C : Cst) (x1 : Int32) (x2 : Int32) (x3 : Int32) (i4 : Nat) (x5 : Int32) (i6 : Nat) (t0 : Int32) => (if t0 = 0 then K146 C x1 x2 x3 i4 x5 i6 else (if x5 < 0 then K141 C x1 x2 x3 i4 i6 else K124 C x1 x2 x3 i4 x5.toNatClampNeg i6))) (fun K112 => ((if (C 0 5) ≤ (nI i6) then K156 C x1 x2 x3 i4 x5 else (if ¬ (((x1 ||| x3) >>> ((nI i6) &&& 31)) &&& 1) = 0 then K112 C x1 x2 x3 i4 x5 i6 0 else K112 C x1 x2 x3 i4 x5 i6 1))))))))))))) (fun (C : Cst) (x1 : Int32) (x2 : Int32) (x3 : Int32) (i4 : Nat) (x5 : Int32) (i6 : Nat) => C) (fun L85 => ((if x2 ≤ (nI i4) then K174 C x3 else L85 9 C x1 x2 x3 i4 (-10004) 0)))))))) (fun (C : Cst) (x1 : Int32) (x2 : Int32) (x3 : Int32) (i4 : Nat) => C) (fun L71 => (ltv (fun (C : Cst) (x1 : Int32) (t0 : Int32) => L71 (t0.toNatClampNeg + 1) C x1 t0 0 0) (fun K65 => (ltv (fun (C : Cst) (x1 : Int32) (t0 : Int32) => (if t0 ≤ ((C 0 5) - 1) then K65 C x1 t0 else K65 C x1 ((C 0 5) - 1))) (fun K40 => ((if (C 0 1) ≤ (C 0 7) then K40 C x1 0 else K40 C x1 ((((C 0 1) - (C 0 7)) + 9) / 10))))))))))))
def sX5_ends (C : Cst) : Int32 × Cst := ltv (fun (C : Cst) (x1 : Int32) (x2 : Int32) (x3 : Int32) (t0 : Int32) => ltv (up C 0 7 t0) (fun (S_271 : Cst) => ltv (sX5_keeps S_271 (S_271 0 6) x1 x2 x3) (fun (S_283 : Cst) => ltv (up S_283 0 6 ((S_283 0 6) + 1)) (fun (S_296 : Cst) => ltv (sX5_excludes S_296 x3) (fun (S_299 : Cst) => (x2, S_299)))))) (fun K271 => (ltv (fun (C : Cst) (x1 : Int32) (x2 : Int32) (x3 : Int32) (t0 : Int32) => ltv (up C 0 7 t0) (fun (S_226 : Cst) => (if ((S_226 0 7) + (S_226 0 2)) ≤ 100 then K271 S_226 x1 x2 x3 ((S_226 0 7) + (S_226 0 2)) else K271 S_226 x1 x2 x3 100))) (fun K226 => (ltv (fun (C : Cst) (x1 : Int32) (x2 : Int32) (x3 : Int32) (t0 : Int32) (t1 : Int32) => ltv (up C 0 10 (t1 + t0)) (fun (S_195 : Cst) => (if x2 ≤ (S_195 0 7) then K226 S_195 x1 x2 x3 ((S_195 0 7) - x2) else K226 S_195 x1 x2 x3 0))) (fun K194 => (ltv (fun (C : Cst) (x1 : Int32) (x2 : Int32) (x3 : Int32) => ltv (up C 0 9 ((C 0 9) + x2)) (fun (S_161 : Cst) => (if x2 ≤ (S_161 0 7) then K194 S_161 x1 x2 x3 0 (S_161 0 10) else K194 S_161 x1 x2 x3 (x2 - (S_161 0 7)) (S_161 0 10)))) (fun K151 => (ltl5 (fun R60 (C : Cst) (x1 : Int32) (x2 : Int32) (x3 : Int32) (i4 : Nat) => (if (C 0 5) ≤ (nI i4) then K151 C x1 x2 x3 else ltv (sX5_of C i4 2) (fun (r_79 : Int32) => ltv (sX5_puts C i4 2 (r_79 + (C 7 i4))) (fun (S_90 : Cst) => ltv (sX5_of S_90 i4 4) (fun (r_101 : Int32) => ltv (sX5_of S_90 i4 1) (fun (r_108 : Int32) => ltv (sX5_puts S_90 i4 4 (r_101 + r_108)) (fun (S_112 : Cst) => ltv (sX5_of S_112 i4 5) (fun (r_123 : Int32) => ltv (sX5_of S_112 i4 1) (fun (r_130 : Int32) => ltv (sX5_puts S_112 i4 5 (r_123 + r_130)) (fun (S_134 : Cst) => ltv (sX5_puts S_134 i4 1 0) (fun (S_142 : Cst) => R60 S_142 x1 x2 x3 (i4 + 1)))))))))))) (fun (C : Cst) (x1 : Int32) (x2 : Int32) (x3 : Int32) (i4 : Nat) => (0, C)) (fun L60 => (ltv (fun (C : Cst) (x1 : Int32) (x2 : Int32) (x3 : Int32) => L60 9 C x1 x2 x3 0) (fun K57 => (ltl5 (fun R20 (C : Cst) (x1 : Int32) (x2 : Int32) (x3 : Int32) (i4 : Nat) => (if (C 0 5) ≤ (nI i4) then K57 C x1 x2 x3 else ltv (sX5_of C i4 1) (fun (r_44 : Int32) => ltv (sX5_chargeFor C (nI i4) r_44) (fun (r_47 : Int32) => ltv (up C 7 i4 r_47) (fun (S_50 : Cst) => R20 S_50 x1 x2 x3 (i4 + 1)))))) (fun (C : Cst) (x1 : Int32) (x2 : Int32) (x3 : Int32) (i4 : Nat) => (0, C)) (fun L20 => (ltv (sX5_sum C 1) (fun (r_2 : Int32) => ltv (sX5_damage C r_2) (fun (r_8 : Int32) => ltv (sX5_outSet C) (fun (r_13 : Int32) => L20 9 C r_2 r_8 r_13 0)))))))))))))))))
def sX5_close (C : Cst) : Int32 × Cst := (if ¬ (C 0 5) = 0 then (if ¬ (C 0 6) = 999 then ltv (sX5_changes C) (fun (S_31 : Cst) => bnd (sX5_ends S_31) (fun (r_35 : Int32) (S_35 : Cst) => (r_35, S_35))) else ((-10003), C)) else ((-10002), C))
def sX5_calm (C : Cst) (x1 : Int32) : Int32 × Cst := ltv (fun (C : Cst) (x3 : Int32) (t0 : Int32) => ltv (sX5_copies_2_0 C) (fun (S_97 : Cst) => (if x3 = 0 then (t0, S_97) else ((-10004), S_97)))) (fun K87 => (ltv (fun (C : Cst) (i1 : Nat) (x3 : Int32) => ltv (sX5_of C i1 1) (fun (r_84 : Int32) => K87 C x3 r_84)) (fun K81 => (ltv (fun (C : Cst) (x1 : Int32) (x2 : Int32) (x3 : Int32) => (if ¬ x1 = (-1) then (if ¬ x1 = (-2) then K81 C x1.toNatClampNeg x3 else K87 C x3 x2) else ltv (sX5_sum C 1) (fun (r_65 : Int32) => K87 C x3 r_65))) (fun K58 => (ltl4 (fun R37 (C : Cst) (x1 : Int32) (i2 : Nat) (x3 : Int32) => (if x3 = 0 then K58 C x1 (nI i2) x3 else (if 40 ≤ (nI i2) then K58 C x1 (nI i2) x3 else bnd (sX5_turns C) (fun (r_48 : Int32) (S_48 : Cst) => R37 S_48 x1 (i2 + 1) r_48)))) (fun (C : Cst) (x1 : Int32) (i2 : Nat) (x3 : Int32) => (0, C)) (fun L37 => (ltv (fun (C : Cst) (x1 : Int32) => ltv (sX5_copies_0_2 C) (fun (S_30 : Cst) => L37 41 S_30 x1 0 1)) (fun K22 => (ltv (sX5_isMember C x1) (fun (r_2 : Int32) => (if ¬ r_2 = 0 then K22 C x1 else ltv (sX5_in x1 (-2) (-1)) (fun (r_12 : Int32) => (if ¬ r_12 = 0 then K22 C x1 else ((-10001), C)))))))))))))))
def sX5_wouldExclude (C : Cst) : Int32 × Cst := (if ¬ (C 0 5) = 0 then ltv (sX5_copies_0_2 C) (fun (S_19 : Cst) => bnd (sX5_ends S_19) (fun (r_23 : Int32) (S_23 : Cst) => ltv (sX5_outSet S_23) (fun (r_28 : Int32) => ltv (sX5_copies_2_0 S_23) (fun (S_40 : Cst) => (r_28, S_40))))) else (0, C))
def sX5_undo (C : Cst) : Int32 × Cst := ltl2 (fun R23 (C : Cst) (i1 : Nat) => (if 107 ≤ (nI i1) then ((C 3 0), C) else ltv (up C 0 i1 (C 1 ((107 * (C 3 0)) + (nI i1)).toNatClampNeg)) (fun (S_48 : Cst) => R23 S_48 (i1 + 1)))) (fun (C : Cst) (i1 : Nat) => (0, C)) (fun L23 => ((if ¬ (C 3 0) = 0 then ltv (up C 3 0 ((C 3 0) - 1)) (fun (S_18 : Cst) => L23 108 S_18 0) else ((-10002), C))))
def sX5_type (C : Cst) (x1 : Int32) : Int32 × Cst := ltv (sX5_in x1 32 126) (fun (r_5 : Int32) => (if ¬ r_5 = 0 then (if ¬ (C 6 0) = 60 then ltv (up C 5 (C 6 0).toNatClampNeg x1) (fun (S_37 : Cst) => ltv (up S_37 6 0 ((S_37 6 0) + 1)) (fun (S_45 : Cst) => ((S_45 6 0), S_45))) else ((-10003), C)) else ((-10001), C)))
def sX5_clearText (C : Cst) : Int32 × Cst := ltv (C 6 0) (fun (v1_4 : Int32) => ltv (up C 6 0 0) (fun (S_7 : Cst) => (v1_4, S_7)))
def sX5_bestForAll (C : Cst) (x1 : Int32) : Int32 := ltv (fun (x1 : Int32) (x3 : Int32) (x4 : Int32) => (if ¬ x1 = 0 then ltv (sX5_damage C x3) (fun (r_256 : Int32) => (x4 - r_256)) else x3)) (fun K244 => (ltl5 (fun R23 (x1 : Int32) (x2 : Int32) (x3 : Int32) (x4 : Int32) (x5 : Int32) => ltv (fun (x1 : Int32) (x3 : Int32) (x4 : Int32) (x5 : Int32) (t0 : Int32) (t1 : Int32) => ltv (t1 ||| t0) (fun (v2_240 : Int32) => R23 x1 v2_240 x3 x4 x5)) (fun K239 => (ltv (fun (x1 : Int32) (x2 : Int32) (x3 : Int32) (x4 : Int32) (x5 : Int32) (x6 : Int32) => (if x5 = 0 then K239 x1 x3 x4 x5 0 x2 else K239 x1 x3 x4 x5 (1 <<< (x6 &&& 31)) x2)) (fun K225 => (ltl7 (fun R131 (x1 : Int32) (x2 : Int32) (x3 : Int32) (x4 : Int32) (x5 : Int32) (x6 : Int32) (x7 : Int32) => ltv (fun (x1 : Int32) (x2 : Int32) (x3 : Int32) (x4 : Int32) (x5 : Int32) (i6 : Nat) (t0 : Int32) (t1 : Int32) => ltv (t1 + t0) (fun (v7_220 : Int32) => R131 x1 x2 x3 x4 x5 (nI i6) v7_220)) (fun K219 => (ltv (fun (x1 : Int32) (x2 : Int32) (x3 : Int32) (x5 : Int32) (i6 : Nat) (x7 : Int32) (t0 : Int32) (t1 : Int32) => ltv (t1 + t0) (fun (v4_205 : Int32) => (if x5 = 0 then K219 x1 x2 x3 v4_205 x5 i6 0 x7 else K219 x1 x2 x3 v4_205 x5 i6 1 x7))) (fun K204 => (ltv (fun (x1 : Int32) (x2 : Int32) (x4 : Int32) (x5 : Int32) (i6 : Nat) (x7 : Int32) (t0 : Int32) (t1 : Int32) => ltv (t1 + t0) (fun (v3_185 : Int32) => (if x5 = 0 then K204 x1 x2 v3_185 x5 i6 x7 0 x4 else ltv (sX5_of C i6 0) (fun (r_197 : Int32) => K204 x1 x2 v3_185 x5 i6 x7 r_197 x4)))) (fun K184 => (ltv (fun (x1 : Int32) (x2 : Int32) (x3 : Int32) (x4 : Int32) (i6 : Nat) (x7 : Int32) (t0 : Int32) => (if t0 = 0 then K184 x1 x2 x4 t0 i6 x7 0 x3 else K184 x1 x2 x4 t0 i6 x7 1 x3)) (fun K171 => (ltv (fun (x1 : Int32) (x2 : Int32) (x3 : Int32) (x4 : Int32) (i6 : Nat) (x7 : Int32) => ltv (sX5_of C i6 0) (fun (r_147 : Int32) => ltv (sX5_damage C (x3 + 1)) (fun (r_154 : Int32) => ltv (sX5_damage C x3) (fun (r_159 : Int32) => (if r_147 ≤ (r_154 - r_159) then K171 x1 x2 x3 x4 i6 x7 0 else K171 x1 x2 x3 x4 i6 x7 1))))) (fun K143 => ((if x5 = 0 then K225 x1 x2 x3 x4 x5 x6 else (if 20 ≤ x7 then K225 x1 x2 x3 x4 x5 x6 else K143 x1 x2 x3 x4 x6.toNatClampNeg x7))))))))))))) (fun (x1 : Int32) (x2 : Int32) (x3 : Int32) (x4 : Int32) (x5 : Int32) (x6 : Int32) (x7 : Int32) => 0) (fun L131 => (ltv (fun (x1 : Int32) (x2 : Int32) (x3 : Int32) (x4 : Int32) (x6 : Int32) (t0 : Int32) => L131 22 x1 x2 x3 x4 t0 x6 0) (fun K126 => (ltv (fun (x1 : Int32) (x2 : Int32) (x3 : Int32) (x4 : Int32) (x6 : Int32) => (if x6 < 0 then K126 x1 x2 x3 x4 x6 0 else K126 x1 x2 x3 x4 x6 1)) (fun K116 => (ltl6 (fun R36 (x1 : Int32) (x2 : Int32) (x3 : Int32) (x4 : Int32) (x6 : Int32) (i7 : Nat) => ltv (fun (x1 : Int32) (x2 : Int32) (x3 : Int32) (x4 : Int32) (i7 : Nat) (t0 : Int32) => R36 x1 x2 x3 x4 t0 (i7 + 1)) (fun K108 => (ltv (fun (x1 : Int32) (x2 : Int32) (x3 : Int32) (x4 : Int32) (x6 : Int32) (i7 : Nat) => K108 x1 x2 x3 x4 i7 x6) (fun K106 => (ltv (fun (x1 : Int32) (x2 : Int32) (x3 : Int32) (x4 : Int32) (i7 : Nat) => K108 x1 x2 x3 x4 i7 (nI i7)) (fun K101 => (ltv (fun (x1 : Int32) (x2 : Int32) (x3 : Int32) (x4 : Int32) (i6 : Nat) (i7 : Nat) => ltv (sX5_of C i7 0) (fun (r_88 : Int32) => ltv (sX5_of C i6 0) (fun (r_95 : Int32) => (if r_88 ≤ r_95 then K106 x1 x2 x3 x4 (nI i6) i7 else K101 x1 x2 x3 x4 i7)))) (fun K84 => (ltv (fun (x1 : Int32) (x2 : Int32) (x3 : Int32) (x4 : Int32) (x6 : Int32) (i7 : Nat) (t0 : Int32) => (if t0 = 0 then K106 x1 x2 x3 x4 x6 i7 else (if x6 < 0 then K101 x1 x2 x3 x4 i7 else K84 x1 x2 x3 x4 x6.toNatClampNeg i7))) (fun K72 => (ltv (fun (x1 : Int32) (x2 : Int32) (x3 : Int32) (x4 : Int32) (x6 : Int32) (i7 : Nat) => K72 x1 x2 x3 x4 x6 i7 0) (fun K71 => ((if (C 0 5) ≤ (nI i7) then K116 x1 x2 x3 x4 x6 else ltv (sX5_of C i7 6) (fun (r_52 : Int32) => (if ¬ r_52 = 0 then K71 x1 x2 x3 x4 x6 i7 else (if ¬ ((x2 >>> ((nI i7) &&& 31)) &&& 1) = 0 then K71 x1 x2 x3 x4 x6 i7 else K72 x1 x2 x3 x4 x6 i7 1))))))))))))))))) (fun (x1 : Int32) (x2 : Int32) (x3 : Int32) (x4 : Int32) (x6 : Int32) (i7 : Nat) => 0) (fun L36 => ((if x5 = 0 then K244 x1 x3 x4 else L36 9 x1 x2 x3 x4 (-10004) 0)))))))))))))) (fun (x1 : Int32) (x2 : Int32) (x3 : Int32) (x4 : Int32) (x5 : Int32) => 0) (fun L23 => (ltv (sX5_in x1 0 1) (fun (r_3 : Int32) => (if ¬ r_3 = 0 then L23 258 x1 0 0 0 1 else (-10001)))))))
def sX5_isAt (C : Cst) (x1 : Int32) (x2 : Int32) : Int32 := (if (C 6 0) ≤ (C 8 0) then 0 else ltv (sX5_in (C 5 (C 8 0).toNatClampNeg) x1 x2) (fun (r_22 : Int32) => (if r_22 = 0 then 0 else 1)))
def sX5_number (C : Cst) (i1 : Nat) (x2 : Int32) : Int32 × Cst := ltv (fun (C : Cst) (t0 : Int32) => ltv (up C 8 0 ((C 8 0) + 1)) (fun (S_105 : Cst) => (t0, S_105))) (fun K96 => (ltv (fun (C : Cst) => K96 C 0) (fun K95 => (ltv (fun (C : Cst) (x2 : Int32) (x3 : Int32) => (if (C 8 0) ≤ x3 then K95 C else ltv (sX5_isAt C x2 x2) (fun (r_85 : Int32) => (if r_85 = 0 then K95 C else K96 C 1)))) (fun K74 => (ltl4 (fun R12 (C : Cst) (i1 : Nat) (x2 : Int32) (x3 : Int32) => ltv (sX5_isAt C 48 57) (fun (r_17 : Int32) => (if r_17 = 0 then K74 C x2 x3 else (if 3 ≤ ((C 8 0) - x3) then K74 C x2 x3 else ltv (up C 11 i1 (((10 * (C 11 i1)) + (C 5 (C 8 0).toNatClampNeg)) - 48)) (fun (S_60 : Cst) => ltv (up S_60 8 0 ((S_60 8 0) + 1)) (fun (S_68 : Cst) => R12 S_68 i1 x2 x3)))))) (fun (C : Cst) (i1 : Nat) (x2 : Int32) (x3 : Int32) => (0, C)) (fun L12 => (ltv (C 8 0) (fun (v3_4 : Int32) => ltv (up C 11 i1 0) (fun (S_11 : Cst) => L12 4 S_11 i1 x2 v3_4))))))))))
def sX5_isForm (C : Cst) (x1 : Int32) : Int32 × Cst := ltv (fun (C : Cst) => bnd (sX5_number C 0 44) (fun (r_73 : Int32) (S_73 : Cst) => (if r_73 = 0 then (0, S_73) else bnd (sX5_number S_73 1 59) (fun (r_83 : Int32) (S_83 : Cst) => (if r_83 = 0 then (0, S_83) else (1, S_83)))))) (fun K69 => (ltv (fun (C : Cst) => bnd (sX5_number C 0 59) (fun (r_53 : Int32) (S_53 : Cst) => (r_53, S_53))) (fun K49 => (ltv (up C 8 0 ((C 8 0) + 1)) (fun (S_7 : Cst) => (if ¬ x1 = 99 then (if x1 = 109 then K49 S_7 else (if ¬ x1 = 114 then (if x1 = 117 then K69 S_7 else (if ¬ x1 = 112 then (0, S_7) else K69 S_7)) else K49 S_7)) else ltv (sX5_isAt S_7 59 59) (fun (r_21 : Int32) => ltv (up S_7 8 0 ((S_7 8 0) + 1)) (fun (S_32 : Cst) => (r_21, S_32)))))))))
def sX5_calls (C : Cst) (x1 : Int32) : Int32 × Cst := (if x1 = 99 then bnd (sX5_close C) (fun (r_73 : Int32) (S_73 : Cst) => (r_73, S_73)) else (if x1 = 109 then bnd (sX5_member C (C 11 0)) (fun (r_51 : Int32) (S_51 : Cst) => (r_51, S_51)) else (if x1 = 112 then bnd (sX5_pay C (C 11 0) (C 11 1)) (fun (r_90 : Int32) (S_90 : Cst) => (r_90, S_90)) else (if x1 = 117 then bnd (sX5_use C (C 11 0) (C 11 1)) (fun (r_68 : Int32) (S_68 : Cst) => (r_68, S_68)) else bnd (sX5_repair C (C 11 0)) (fun (r_101 : Int32) (S_101 : Cst) => (r_101, S_101))))))
def sX5_plays (C : Cst) : Int32 × Cst := ltv (fun (C : Cst) (x1 : Int32) (x2 : Int32) => ltv (up C 4 0 0) (fun (S_107 : Cst) => (if x2 = 0 then (x1, S_107) else ((-10004), S_107)))) (fun K105 => (ltl3 (fun R19 (C : Cst) (x1 : Int32) (x2 : Int32) => ltv (fun (C : Cst) (x1 : Int32) (t0 : Int32) => ltv (up C 10 0 ((C 10 0) + 1)) (fun (S_99 : Cst) => R19 S_99 x1 t0)) (fun K91 => (ltv (fun (C : Cst) (x1 : Int32) => K91 C x1 0) (fun K90 => (ltv (fun (C : Cst) (x1 : Int32) (x4 : Int32) (t0 : Int32) => ltv (up C 9 0 t0) (fun (S_71 : Cst) => (if x4 = 0 then K90 S_71 x1 else (if (S_71 9 0) < 0 then K90 S_71 x1 else K91 S_71 x1 1)))) (fun K71 => ((if (C 6 0) ≤ (C 8 0) then K105 C x1 x2 else (if x2 = 0 then K105 C x1 x2 else ltv (C 8 0) (fun (v1_38 : Int32) => ltv (C 5 (C 8 0).toNatClampNeg) (fun (v3_48 : Int32) => bnd (sX5_isForm C v3_48) (fun (r_51 : Int32) (S_51 : Cst) => (if r_51 = 0 then K71 S_51 v1_38 r_51 0 else bnd (sX5_calls S_51 v3_48) (fun (r_64 : Int32) (S_64 : Cst) => K71 S_64 v1_38 r_51 r_64)))))))))))))) (fun (C : Cst) (x1 : Int32) (x2 : Int32) => (0, C)) (fun L19 => (ltv (up C 4 0 1) (fun (S_2 : Cst) => ltv (up S_2 8 0 0) (fun (S_7 : Cst) => ltv (up S_7 10 0 0) (fun (S_12 : Cst) => L19 71 S_12 0 1)))))))
def sX5_fault (C : Cst) (x1 : Int32) : Int32 × Cst := ltv (sX5_in x1 0 2) (fun (r_3 : Int32) => (if ¬ r_3 = 0 then ltv (sX5_copies_0_12 C) (fun (S_21 : Cst) => bnd (sX5_plays S_21) (fun (r_25 : Int32) (S_25 : Cst) => ltv (sX5_copies_12_0 S_25) (fun (S_37 : Cst) => (if r_25 = (-10004) then (r_25, S_37) else (if ¬ x1 = 0 then (if ¬ x1 = 1 then (if ¬ (S_37 9 0) = 0 then ((S_37 9 0), S_37) else ((-10004), S_37)) else (if ¬ (S_37 9 0) = 0 then (2, S_37) else (1, S_37))) else (r_25, S_37)))))) else ((-10001), C)))
def sX5_play (C : Cst) : Int32 × Cst := ltv (sX5_copies_0_12 C) (fun (S_8 : Cst) => bnd (sX5_plays S_8) (fun (r_12 : Int32) (S_12 : Cst) => ltv (sX5_copies_12_0 S_12) (fun (S_24 : Cst) => (if r_12 = (-10004) then ltv (sX5_changes S_24) (fun (S_39 : Cst) => bnd (sX5_plays S_39) (fun (r_43 : Int32) (S_43 : Cst) => (if ¬ r_43 = (-10004) then ((-10004), S_43) else ((S_43 10 0), S_43)))) else ((-10002), S_24)))))
abbrev Xst : Type := Nat → Cst
def upx (S : Xst) (j : Nat) (C : Cst) : Xst := fun j' => if j' = j then C else S j'
def cpR (C O : Cst) (k n : Nat) : Cst := fun k' => if k' = k then va_cpy (O k) (C k) 0 0 n else C k'
def sX4_copyRow_0 (C O : Cst) : Cst := cpR C O 0 5
def sX4_copyRow_1 (C O : Cst) : Cst := cpR C O 1 8
def sX4_copyRow_2 (C O : Cst) : Cst := cpR C O 2 8
def sX4_copyRow_3 (C O : Cst) : Cst := cpR C O 3 8
def sX4_copyRow_4 (C O : Cst) : Cst := cpR C O 4 8
def sX4_copyRow_5 (C O : Cst) : Cst := cpR C O 5 8
def sX4_copyRow_6 (C O : Cst) : Cst := cpR C O 6 8
def sX4_copyRow_7 (C O : Cst) : Cst := cpR C O 7 8
def sX4_copyRow_8 (C O : Cst) : Cst := cpR C O 8 30
def sX0_takeOver (C : Cst) (O : Cst) : Cst := ltv (sX4_copyRow_0 C O) (fun (S_8 : Cst) => ltv (sX4_copyRow_1 S_8 O) (fun (S_19 : Cst) => ltv (sX4_copyRow_2 S_19 O) (fun (S_30 : Cst) => ltv (sX4_copyRow_3 S_30 O) (fun (S_41 : Cst) => ltv (sX4_copyRow_4 S_41 O) (fun (S_52 : Cst) => ltv (sX4_copyRow_5 S_52 O) (fun (S_63 : Cst) => ltv (sX4_copyRow_6 S_63 O) (fun (S_74 : Cst) => ltv (sX4_copyRow_7 S_74 O) (fun (S_85 : Cst) => ltv (sX4_copyRow_8 S_85 O) (fun (S_96 : Cst) => ltv (up S_96 9 0 (O 9 0)) (fun (S_104 : Cst) => ltv (up S_104 10 0 (O 10 0)) (fun (S_112 : Cst) => ltv (up S_112 11 0 (O 11 0)) (fun (S_120 : Cst) => ltv (up S_120 12 0 (O 12 0)) (fun (S_128 : Cst) => ltv (up S_128 13 0 (O 13 0)) (fun (S_136 : Cst) => ltv (up S_136 14 0 (O 14 0)) (fun (S_144 : Cst) => ltv (up S_144 15 0 (O 15 0)) (fun (S_152 : Cst) => ltv (up S_152 16 0 (O 16 0)) (fun (S_160 : Cst) => O)))))))))))))))))
def sX3_append (S : Xst) (x1 : Int32) : Int32 × Xst := (if x1 < 32 then ((-10001), S) else (if x1 ≤ 126 then (if ((S 7) 1 0) < 60 then ltv (upx S 7 (up (S 7) 0 ((S 7) 1 0).toNatClampNeg (vp_nar .char (((x1).toUInt32 % 65536).toInt32)))) (fun (S_39 : Xst) => ltv (upx S_39 7 (up (S_39 7) 1 0 (((S_39 7) 1 0) + 1))) (fun (S_47 : Xst) => (((S_47 7) 1 0), S_47))) else ((-10003), S)) else ((-10001), S)))
def sX3_signAhead (S : Xst) : Int32 := (if ((S 7) 2 0) < 0 then (-1) else (if ((S 7) 1 0) ≤ ((S 7) 2 0) then (-1) else (if 60 ≤ ((S 7) 2 0) then (-1) else ((S 7) 0 ((S 7) 2 0).toNatClampNeg))))
def sX3_passes (S : Xst) (x1 : Int32) : Int32 × Xst := ltv (sX3_signAhead S) (fun (r_1 : Int32) => (if r_1 = x1 then ltv (upx S 7 (up (S 7) 2 0 (((S 7) 2 0) + 1))) (fun (S_17 : Xst) => (1, S_17)) else (0, S)))
def sX3_readNumber (S : Xst) : Int32 × Xst := ltl3 (fun R4 (S : Xst) (x1 : Int32) (i2 : Nat) => (if 3 ≤ (nI i2) then (x1, S) else ltv (sX3_signAhead S) (fun (r_10 : Int32) => (if r_10 < 48 then (x1, S) else (if r_10 ≤ 57 then ltv (((if x1 < 0 then 0 else x1) * 10) + (r_10 - 48)) (fun (v1_41 : Int32) => ltv (upx S 7 (up (S 7) 2 0 (((S 7) 2 0) + 1))) (fun (S_49 : Xst) => R4 S_49 v1_41 (i2 + 1))) else (x1, S)))))) (fun (S : Xst) (x1 : Int32) (i2 : Nat) => (0, S)) (fun L4 => (L4 4 S (-1) 0))
def sX3_readCommand (S : Xst) : Int32 × Xst := ltv (fun (S : Xst) => (if ((S 7) 4 0) < 0 then (0, S) else (if ((S 7) 5 0) < 0 then (0, S) else bnd (sX3_passes S 59) (fun (r_147 : Int32) (S_147 : Xst) => (if r_147 = 0 then (0, S_147) else (1, S_147)))))) (fun K130 => (ltv (sX3_signAhead S) (fun (r_2 : Int32) => ltv (upx S 7 (up (S 7) 3 0 r_2)) (fun (S_5 : Xst) => ltv (upx S_5 7 (up (S_5 7) 2 0 (((S_5 7) 2 0) + 1))) (fun (S_15 : Xst) => ltv (upx S_15 7 (up (S_15 7) 4 0 0)) (fun (S_20 : Xst) => ltv (upx S_20 7 (up (S_20 7) 5 0 0)) (fun (S_25 : Xst) => (if ((S_25 7) 3 0) = 99 then K130 S_25 else (if ((S_25 7) 3 0) = 109 then bnd (sX3_readNumber S_25) (fun (r_89 : Int32) (S_89 : Xst) => ltv (upx S_89 7 (up (S_89 7) 4 0 r_89)) (fun (S_92 : Xst) => K130 S_92)) else (if ((S_25 7) 3 0) = 112 then bnd (sX3_readNumber S_25) (fun (r_100 : Int32) (S_100 : Xst) => ltv (upx S_100 7 (up (S_100 7) 4 0 r_100)) (fun (S_103 : Xst) => bnd (sX3_passes S_103 44) (fun (r_109 : Int32) (S_109 : Xst) => (if ¬ r_109 = 0 then bnd (sX3_readNumber S_109) (fun (r_119 : Int32) (S_119 : Xst) => ltv (upx S_119 7 (up (S_119 7) 5 0 r_119)) (fun (S_122 : Xst) => K130 S_122)) else (0, S_109))))) else (if ((S_25 7) 3 0) = 114 then bnd (sX3_readNumber S_25) (fun (r_89 : Int32) (S_89 : Xst) => ltv (upx S_89 7 (up (S_89 7) 4 0 r_89)) (fun (S_92 : Xst) => K130 S_92)) else (if ((S_25 7) 3 0) = 117 then bnd (sX3_readNumber S_25) (fun (r_100 : Int32) (S_100 : Xst) => ltv (upx S_100 7 (up (S_100 7) 4 0 r_100)) (fun (S_103 : Xst) => bnd (sX3_passes S_103 44) (fun (r_109 : Int32) (S_109 : Xst) => (if ¬ r_109 = 0 then bnd (sX3_readNumber S_109) (fun (r_119 : Int32) (S_119 : Xst) => ltv (upx S_119 7 (up (S_119 7) 5 0 r_119)) (fun (S_122 : Xst) => K130 S_122)) else (0, S_109))))) else (0, S_25)))))))))))))
def sX2_begin (S : Xst) : Xst := ltv (upx S 8 (up (S 8) 0 0 0)) (fun (S_2 : Xst) => ltv (upx S_2 8 (up (S_2 8) 1 0 0)) (fun (S_7 : Xst) => ltv (upx S_7 8 (up (S_7 8) 2 0 0)) (fun (S_12 : Xst) => ltv (upx S_12 8 (up (S_12 8) 3 0 0)) (fun (S_17 : Xst) => S_17))))
def sX2_isStoppedBy (S : Xst) (x1 : Int32) : Int32 × Xst := (if x1 < 0 then ltv (upx S 8 (up (S 8) 1 0 2)) (fun (S_18 : Xst) => ltv (upx S_18 8 (up (S_18 8) 2 0 x1)) (fun (S_23 : Xst) => (1, S_23))) else ltv (upx S 8 (up (S 8) 3 0 (((S 8) 3 0) + 1))) (fun (S_11 : Xst) => (0, S_11)))
def IC (C : Cst) : Prop := 0 ≤ (C 9 0).toInt ∧ (C 9 0).toInt ≤ 8 ∧ 0 ≤ (C 10 0).toInt
def sL : Nat → Int32 := fun j => [1, 0, 0, 0, 1].getD j 0
def sM : Nat → Int32 := fun j => [200, 100, 50, 999, 20].getD j 0
def sX1_record (S : Xst) : Xst := ltv (fun (S : Xst) => (if ((((S 2) 1 0) + ((S 2) 2 0)) % 4) = 0 then ltv (upx S 3 (sX0_takeOver (S 3) (S 0))) (fun (S_53 : Xst) => ltv (upx S_53 2 (up (S_53 2) 2 0 (((S_53 2) 2 0) + 1))) (fun (S_63 : Xst) => S_63)) else (if ((((S 2) 1 0) + ((S 2) 2 0)) % 4) = 1 then ltv (upx S 4 (sX0_takeOver (S 4) (S 0))) (fun (S_53 : Xst) => ltv (upx S_53 2 (up (S_53 2) 2 0 (((S_53 2) 2 0) + 1))) (fun (S_63 : Xst) => S_63)) else (if ((((S 2) 1 0) + ((S 2) 2 0)) % 4) = 2 then ltv (upx S 5 (sX0_takeOver (S 5) (S 0))) (fun (S_53 : Xst) => ltv (upx S_53 2 (up (S_53 2) 2 0 (((S_53 2) 2 0) + 1))) (fun (S_63 : Xst) => S_63)) else ltv (upx S 6 (sX0_takeOver (S 6) (S 0))) (fun (S_53 : Xst) => ltv (upx S_53 2 (up (S_53 2) 2 0 (((S_53 2) 2 0) + 1))) (fun (S_63 : Xst) => S_63)))))) (fun K30 => ((if ¬ ((S 2) 2 0) = 4 then K30 S else ltv (upx S 2 (up (S 2) 1 0 ((((S 2) 1 0) + 1) % 4))) (fun (S_17 : Xst) => ltv (upx S_17 2 (up (S_17 2) 2 0 (((S_17 2) 2 0) - 1))) (fun (S_27 : Xst) => K30 S_27)))))
def sX1_restoreLatest (S : Xst) : Xst := (if 1 ≤ ((S 2) 2 0) then ltv (upx S 2 (up (S 2) 2 0 (((S 2) 2 0) - 1))) (fun (S_16 : Xst) => (if ((((S_16 2) 1 0) + ((S_16 2) 2 0)) % 4) = 0 then ltv (upx S_16 0 (sX0_takeOver (S_16 0) (S_16 3))) (fun (S_42 : Xst) => S_42) else (if ((((S_16 2) 1 0) + ((S_16 2) 2 0)) % 4) = 1 then ltv (upx S_16 0 (sX0_takeOver (S_16 0) (S_16 4))) (fun (S_42 : Xst) => S_42) else (if ((((S_16 2) 1 0) + ((S_16 2) 2 0)) % 4) = 2 then ltv (upx S_16 0 (sX0_takeOver (S_16 0) (S_16 5))) (fun (S_42 : Xst) => S_42) else ltv (upx S_16 0 (sX0_takeOver (S_16 0) (S_16 6))) (fun (S_42 : Xst) => S_42))))) else S)
def sX4_keptIfDone (S : Xst) (x1 : Int32) : Int32 × Xst := (if x1 < 0 then (x1, S) else ltv (sX1_record S) (fun (S_12 : Xst) => ltv (upx S_12 0 (sX0_takeOver (S_12 0) (S_12 1))) (fun (S_23 : Xst) => (x1, S_23))))
def sX4_member (S : Xst) (x1 : Int32) : Int32 × Xst := ltv (upx S 1 (sX0_takeOver (S 1) (S 0))) (fun (S_8 : Xst) => bnd (sX0_addMember (S_8 1) x1) (fun (r_17 : Int32) (C_17 : Cst) => ltv (upx S_8 1 C_17) (fun (S_17 : Xst) => bnd (sX4_keptIfDone S_17 r_17) (fun (r_20 : Int32) (S_20 : Xst) => (r_20, S_20)))))
def sX4_use (S : Xst) (x1 : Int32) (x2 : Int32) : Int32 × Xst := ltv (upx S 1 (sX0_takeOver (S 1) (S 0))) (fun (S_8 : Xst) => bnd (sX0_declareUse (S_8 1) x1 x2) (fun (r_18 : Int32) (C_18 : Cst) => ltv (upx S_8 1 C_18) (fun (S_18 : Xst) => bnd (sX4_keptIfDone S_18 r_18) (fun (r_21 : Int32) (S_21 : Xst) => (r_21, S_21)))))
def sX4_close (S : Xst) : Int32 × Xst := ltv (upx S 1 (sX0_takeOver (S 1) (S 0))) (fun (S_8 : Xst) => bnd (sX0_closeSeason (S_8 1)) (fun (r_16 : Int32) (C_16 : Cst) => ltv (upx S_8 1 C_16) (fun (S_16 : Xst) => bnd (sX4_keptIfDone S_16 r_16) (fun (r_19 : Int32) (S_19 : Xst) => (r_19, S_19)))))
def sX4_pay (S : Xst) (x1 : Int32) (x2 : Int32) : Int32 × Xst := ltv (upx S 1 (sX0_takeOver (S 1) (S 0))) (fun (S_8 : Xst) => bnd (sX0_payCoins (S_8 1) x1 x2) (fun (r_18 : Int32) (C_18 : Cst) => ltv (upx S_8 1 C_18) (fun (S_18 : Xst) => bnd (sX4_keptIfDone S_18 r_18) (fun (r_21 : Int32) (S_21 : Xst) => (r_21, S_21)))))
def sX4_repair (S : Xst) (x1 : Int32) : Int32 × Xst := ltv (upx S 1 (sX0_takeOver (S 1) (S 0))) (fun (S_8 : Xst) => bnd (sX0_repairPoints (S_8 1) x1) (fun (r_17 : Int32) (C_17 : Cst) => ltv (upx S_8 1 C_17) (fun (S_17 : Xst) => bnd (sX4_keptIfDone S_17 r_17) (fun (r_20 : Int32) (S_20 : Xst) => (r_20, S_20)))))
def sX4_memberOf (S : Xst) (x1 : Int32) (x2 : Int32) : Int32 := ltv (sX0_numberOfMember (S 0) x1 x2) (fun (r_6 : Int32) => r_6)
def sX4_count (S : Xst) (x1 : Int32) : Int32 := (if ¬ x1 = 11 then (if ¬ x1 = 12 then ltv (sX0_numberOfAll (S 0) x1) (fun (r_33 : Int32) => r_33) else ((S 7) 1 0)) else ((S 2) 2 0))
def sX4_seasonOf (S : Xst) (x1 : Int32) (x2 : Int32) : Int32 := ltv (sX0_numberOfSeason (S 0) x1 x2) (fun (r_6 : Int32) => r_6)
def sX4_gain (S : Xst) (x1 : Int32) (x2 : Int32) : Int32 := ltv (sX0_liftedGain (S 0) x1 x2) (fun (r_6 : Int32) => r_6)
def sX4_bestUse (S : Xst) (x1 : Int32) : Int32 := ltv (fun (i1 : Nat) => ltv (sX0_bestUnits (S 0) i1) (fun (r_16 : Int32) => r_16)) (fun K11 => (ltv (sX0_has (S 0) x1) (fun (r_5 : Int32) => (if r_5 = 0 then (-10001) else K11 x1.toNatClampNeg))))
def sX4_calm (S : Xst) (x1 : Int32) : Int32 × Xst := ltv (fun (S : Xst) (x1 : Int32) => ltv (upx S 1 (sX0_takeOver (S 1) (S 0))) (fun (S_34 : Xst) => bnd (sX0_calmDown (S_34 1)) (fun (r_41 : Int32) (C_41 : Cst) => ltv (upx S_34 1 C_41) (fun (S_41 : Xst) => (if r_41 = (-10004) then (r_41, S_41) else (if ¬ x1 = (-2) then ltv (sX0_has (S_41 1) x1) (fun (r_65 : Int32) => (if r_65 = 0 then ltv (sX0_allUnits (S_41 1)) (fun (r_87 : Int32) => (r_87, S_41)) else (((S_41 1) 2 x1.toNatClampNeg), S_41))) else (r_41, S_41))))))) (fun K26 => (ltv (sX0_has (S 0) x1) (fun (r_5 : Int32) => (if ¬ r_5 = 0 then K26 S x1 else (if x1 = (-1) then K26 S x1 else (if x1 = (-2) then K26 S x1 else ((-10001), S)))))))
def sX4_bestForAll (S : Xst) (x1 : Int32) : Int32 × Xst := ltv (fun (S : Xst) (x1 : Int32) => ltv (upx S 1 (sX0_takeOver (S 1) (S 0))) (fun (S_21 : Xst) => bnd (sX0_useBestForAll (S_21 1)) (fun (r_28 : Int32) (C_28 : Cst) => ltv (upx S_21 1 C_28) (fun (S_28 : Xst) => (if ¬ x1 = 0 then (r_28, S_28) else ltv (sX0_allUnits (S_28 1)) (fun (r_40 : Int32) => (r_40, S_28))))))) (fun K13 => ((if x1 = 0 then K13 S x1 else (if x1 = 1 then K13 S x1 else ((-10001), S)))))
def sX4_wouldExclude (S : Xst) : Int32 × Xst := ltv (upx S 1 (sX0_takeOver (S 1) (S 0))) (fun (S_8 : Xst) => bnd (sX0_endSeason (S_8 1)) (fun (r_15 : Int32) (C_15 : Cst) => ltv (upx S_8 1 C_15) (fun (S_15 : Xst) => (((S_15 1) 13 0), S_15))))
def sX4_canRepair (S : Xst) : Int32 := ltv (sX0_pointsFromFund (S 0)) (fun (r_4 : Int32) => r_4)
def sX4_undo (S : Xst) : Int32 × Xst := (if ¬ ((S 2) 2 0) = 0 then ltv (sX1_restoreLatest S) (fun (S_22 : Xst) => (((S_22 2) 2 0), S_22)) else ((-10002), S))
def sX4_type (S : Xst) (x1 : Int32) : Int32 × Xst := bnd (sX3_append S x1) (fun (r_5 : Int32) (S_5 : Xst) => (r_5, S_5))
def sX4_clearText (S : Xst) : Int32 × Xst := ltv ((S 7) 1 0) (fun (v1_7 : Int32) => ltv (upx S 7 (up (S 7) 1 0 0)) (fun (S_13 : Xst) => (v1_7, S_13)))
def sX4_commandOnTrial (S : Xst) : Int32 × Xst := (if ((S 7) 3 0) = 99 then bnd (sX0_closeSeason (S 1)) (fun (r_97 : Int32) (C_97 : Cst) => ltv (upx S 1 C_97) (fun (S_97 : Xst) => (r_97, S_97))) else (if ((S 7) 3 0) = 109 then bnd (sX0_addMember (S 1) ((S 7) 4 0)) (fun (r_67 : Int32) (C_67 : Cst) => ltv (upx S 1 C_67) (fun (S_67 : Xst) => (r_67, S_67))) else (if ((S 7) 3 0) = 112 then bnd (sX0_payCoins (S 1) ((S 7) 4 0) ((S 7) 5 0)) (fun (r_119 : Int32) (C_119 : Cst) => ltv (upx S 1 C_119) (fun (S_119 : Xst) => (r_119, S_119))) else (if ((S 7) 3 0) = 114 then bnd (sX0_repairPoints (S 1) ((S 7) 4 0)) (fun (r_134 : Int32) (C_134 : Cst) => ltv (upx S 1 C_134) (fun (S_134 : Xst) => (r_134, S_134))) else (if ((S 7) 3 0) = 117 then bnd (sX0_declareUse (S 1) ((S 7) 4 0) ((S 7) 5 0)) (fun (r_89 : Int32) (C_89 : Cst) => ltv (upx S 1 C_89) (fun (S_89 : Xst) => (r_89, S_89))) else ((-10002), S))))))
def sX4_rehearse (S : Xst) : Xst := ltv (fun (S : Xst) => ltv (upx S 8 (up (S 8) 1 0 1)) (fun (S_80 : Xst) => S_80)) (fun K75 => (ltl2 (fun R28 (S : Xst) (i1 : Nat) => (if 60 ≤ (nI i1) then S else (if ((S 7) 1 0) ≤ ((S 7) 2 0) then S else ltv (upx S 8 (up (S 8) 0 0 ((S 7) 2 0))) (fun (S_62 : Xst) => bnd (sX3_readCommand S_62) (fun (r_69 : Int32) (S_69 : Xst) => (if ¬ r_69 = 0 then bnd (sX4_commandOnTrial S_69) (fun (r_89 : Int32) (S_89 : Xst) => bnd (sX2_isStoppedBy S_89 r_89) (fun (r_92 : Int32) (S_92 : Xst) => (if r_92 = 0 then R28 S_92 (i1 + 1) else S_92))) else K75 S_69)))))) (fun (S : Xst) (i1 : Nat) => S) (fun L28 => (ltv (upx S 1 (sX0_takeOver (S 1) (S 0))) (fun (S_8 : Xst) => ltv (sX2_begin S_8) (fun (S_15 : Xst) => ltv (upx S_15 7 (up (S_15 7) 2 0 0)) (fun (S_23 : Xst) => L28 61 S_23 0)))))))
def sX4_fault (S : Xst) (x1 : Int32) : Int32 × Xst := (if x1 < 0 then ((-10001), S) else (if x1 ≤ 2 then ltv (sX4_rehearse S) (fun (S_14 : Xst) => (if ¬ ((S_14 8) 1 0) = 0 then (if ¬ x1 = 0 then (if ¬ x1 = 1 then (if ¬ ((S_14 8) 1 0) = 1 then (((S_14 8) 2 0), S_14) else ((-10004), S_14)) else (((S_14 8) 1 0), S_14)) else (((S_14 8) 0 0), S_14)) else ((-10004), S_14))) else ((-10001), S)))
def sX4_play (S : Xst) : Int32 × Xst := ltv (fun (S : Xst) (t0 : Int32) => bnd (sX4_keptIfDone S t0) (fun (r_28 : Int32) (S_28 : Xst) => (r_28, S_28))) (fun K28 => (ltv (sX4_rehearse S) (fun (S_1 : Xst) => (if ¬ ((S_1 8) 1 0) = 0 then K28 S_1 (-10002) else K28 S_1 ((S_1 8) 3 0)))))
def sX0_changeSetting (C : Cst) (x1 : Int32) (x2 : Int32) : Int32 × Cst := ltv (fun (C : Cst) (i1 : Nat) (x2 : Int32) => (if x2 < (sL i1) then ((-10001), C) else (if x2 ≤ (sM i1) then ltv (C 0 i1) (fun (v3_41 : Int32) => ltv (up C 0 i1 x2) (fun (S_48 : Cst) => (v3_41, S_48))) else ((-10001), C)))) (fun K13 => ((if x1 < 0 then ((-10001), C) else (if x1 < 5 then K13 C x1.toNatClampNeg x2 else ((-10001), C)))))
def sX4_set (S : Xst) (x1 : Int32) (x2 : Int32) : Int32 × Xst := ltv (upx S 1 (sX0_takeOver (S 1) (S 0))) (fun (S_8 : Xst) => bnd (sX0_changeSetting (S_8 1) x1 x2) (fun (r_18 : Int32) (C_18 : Cst) => ltv (upx S_8 1 C_18) (fun (S_18 : Xst) => bnd (sX4_keptIfDone S_18 r_18) (fun (r_21 : Int32) (S_21 : Xst) => (r_21, S_21)))))
def i0s : Nat → Int32 := upd (upd (upd (upd (upd (fun _ => 0) 0 40) 1 40) 2 5) 3 50) 4 3
def iC : Cst := fun k => match k with
  | 0 => i0s
  | 11 => fun _ => 100
  | _ => fun _ => 0
def i5s : Nat → Int32 := upd i0s 7 100
def iM : Cst := fun k => match k with
  | 0 => i5s
  | _ => fun _ => 0
def iT : Cst := fun _ _ => 0
def iX : Xst := fun j => match j with
  | 0 => iC
  | 1 => iC
  | 3 => iC
  | 4 => iC
  | 5 => iC
  | 6 => iC
  | _ => iT
end
section
theorem pw1 {α a : Type} {body : (a → α) → a → α} {dft : a → α} {P : α → Prop} (Inv : Nat → a → Prop) (N : Nat) (hs : ∀ (R : a → α) (k : Nat) x0, k < N → Inv k x0 → (∀ x0', Inv (k + 1) x0' → P (R x0')) → P (body R x0)) (he : ∀ (R : a → α) x0, Inv N x0 → P (body R x0)) : ∀ (fuel k : Nat) x0, N < k + fuel → k ≤ N → Inv k x0 → P (zp1 body dft fuel x0) := by
  intro fuel
  induction fuel with
  | zero => intro k x0 h1 h2; exact absurd h1 (by omega)
  | succ n ih =>
    intro k x0 h1 h2 h3
    by_cases h4 : k = N
    · subst h4; exact he _ _ h3
    · exact hs _ k _ (by omega) h3 (fun x0' h5 => ih (k + 1) x0' (by omega) (by omega) h5)
theorem pw2 {α a b : Type} {body : (a → b → α) → a → b → α} {dft : a → b → α} {P : α → Prop} (Inv : Nat → a → b → Prop) (N : Nat) (hs : ∀ (R : a → b → α) (k : Nat) x0 x1, k < N → Inv k x0 x1 → (∀ x0' x1', Inv (k + 1) x0' x1' → P (R x0' x1')) → P (body R x0 x1)) (he : ∀ (R : a → b → α) x0 x1, Inv N x0 x1 → P (body R x0 x1)) : ∀ (fuel k : Nat) x0 x1, N < k + fuel → k ≤ N → Inv k x0 x1 → P (zp2 body dft fuel x0 x1) := by
  intro fuel
  induction fuel with
  | zero => intro k x0 x1 h1 h2; exact absurd h1 (by omega)
  | succ n ih =>
    intro k x0 x1 h1 h2 h3
    by_cases h4 : k = N
    · subst h4; exact he _ _ _ h3
    · exact hs _ k _ _ (by omega) h3 (fun x0' x1' h5 => ih (k + 1) x0' x1' (by omega) (by omega) h5)
theorem pw3 {α a b c : Type} {body : (a → b → c → α) → a → b → c → α} {dft : a → b → c → α} {P : α → Prop} (Inv : Nat → a → b → c → Prop) (N : Nat) (hs : ∀ (R : a → b → c → α) (k : Nat) x0 x1 x2, k < N → Inv k x0 x1 x2 → (∀ x0' x1' x2', Inv (k + 1) x0' x1' x2' → P (R x0' x1' x2')) → P (body R x0 x1 x2)) (he : ∀ (R : a → b → c → α) x0 x1 x2, Inv N x0 x1 x2 → P (body R x0 x1 x2)) : ∀ (fuel k : Nat) x0 x1 x2, N < k + fuel → k ≤ N → Inv k x0 x1 x2 → P (zp3 body dft fuel x0 x1 x2) := by
  intro fuel
  induction fuel with
  | zero => intro k x0 x1 x2 h1 h2; exact absurd h1 (by omega)
  | succ n ih =>
    intro k x0 x1 x2 h1 h2 h3
    by_cases h4 : k = N
    · subst h4; exact he _ _ _ _ h3
    · exact hs _ k _ _ _ (by omega) h3 (fun x0' x1' x2' h5 => ih (k + 1) x0' x1' x2' (by omega) (by omega) h5)
theorem pw4 {α a b c d : Type} {body : (a → b → c → d → α) → a → b → c → d → α} {dft : a → b → c → d → α} {P : α → Prop} (Inv : Nat → a → b → c → d → Prop) (N : Nat) (hs : ∀ (R : a → b → c → d → α) (k : Nat) x0 x1 x2 x3, k < N → Inv k x0 x1 x2 x3 → (∀ x0' x1' x2' x3', Inv (k + 1) x0' x1' x2' x3' → P (R x0' x1' x2' x3')) → P (body R x0 x1 x2 x3)) (he : ∀ (R : a → b → c → d → α) x0 x1 x2 x3, Inv N x0 x1 x2 x3 → P (body R x0 x1 x2 x3)) : ∀ (fuel k : Nat) x0 x1 x2 x3, N < k + fuel → k ≤ N → Inv k x0 x1 x2 x3 → P (zp4 body dft fuel x0 x1 x2 x3) := by
  intro fuel
  induction fuel with
  | zero => intro k x0 x1 x2 x3 h1 h2; exact absurd h1 (by omega)
  | succ n ih =>
    intro k x0 x1 x2 x3 h1 h2 h3
    by_cases h4 : k = N
    · subst h4; exact he _ _ _ _ _ h3
    · exact hs _ k _ _ _ _ (by omega) h3 (fun x0' x1' x2' x3' h5 => ih (k + 1) x0' x1' x2' x3' (by omega) (by omega) h5)
theorem pw5 {α a b c d e : Type} {body : (a → b → c → d → e → α) → a → b → c → d → e → α} {dft : a → b → c → d → e → α} {P : α → Prop} (Inv : Nat → a → b → c → d → e → Prop) (N : Nat) (hs : ∀ (R : a → b → c → d → e → α) (k : Nat) x0 x1 x2 x3 x4, k < N → Inv k x0 x1 x2 x3 x4 → (∀ x0' x1' x2' x3' x4', Inv (k + 1) x0' x1' x2' x3' x4' → P (R x0' x1' x2' x3' x4')) → P (body R x0 x1 x2 x3 x4)) (he : ∀ (R : a → b → c → d → e → α) x0 x1 x2 x3 x4, Inv N x0 x1 x2 x3 x4 → P (body R x0 x1 x2 x3 x4)) : ∀ (fuel k : Nat) x0 x1 x2 x3 x4, N < k + fuel → k ≤ N → Inv k x0 x1 x2 x3 x4 → P (zp5 body dft fuel x0 x1 x2 x3 x4) := by
  intro fuel
  induction fuel with
  | zero => intro k x0 x1 x2 x3 x4 h1 h2; exact absurd h1 (by omega)
  | succ n ih =>
    intro k x0 x1 x2 x3 x4 h1 h2 h3
    by_cases h4 : k = N
    · subst h4; exact he _ _ _ _ _ _ h3
    · exact hs _ k _ _ _ _ _ (by omega) h3 (fun x0' x1' x2' x3' x4' h5 => ih (k + 1) x0' x1' x2' x3' x4' (by omega) (by omega) h5)
theorem pw6 {α a b c d e f : Type} {body : (a → b → c → d → e → f → α) → a → b → c → d → e → f → α} {dft : a → b → c → d → e → f → α} {P : α → Prop} (Inv : Nat → a → b → c → d → e → f → Prop) (N : Nat) (hs : ∀ (R : a → b → c → d → e → f → α) (k : Nat) x0 x1 x2 x3 x4 x5, k < N → Inv k x0 x1 x2 x3 x4 x5 → (∀ x0' x1' x2' x3' x4' x5', Inv (k + 1) x0' x1' x2' x3' x4' x5' → P (R x0' x1' x2' x3' x4' x5')) → P (body R x0 x1 x2 x3 x4 x5)) (he : ∀ (R : a → b → c → d → e → f → α) x0 x1 x2 x3 x4 x5, Inv N x0 x1 x2 x3 x4 x5 → P (body R x0 x1 x2 x3 x4 x5)) : ∀ (fuel k : Nat) x0 x1 x2 x3 x4 x5, N < k + fuel → k ≤ N → Inv k x0 x1 x2 x3 x4 x5 → P (zp6 body dft fuel x0 x1 x2 x3 x4 x5) := by
  intro fuel
  induction fuel with
  | zero => intro k x0 x1 x2 x3 x4 x5 h1 h2; exact absurd h1 (by omega)
  | succ n ih =>
    intro k x0 x1 x2 x3 x4 x5 h1 h2 h3
    by_cases h4 : k = N
    · subst h4; exact he _ _ _ _ _ _ _ h3
    · exact hs _ k _ _ _ _ _ _ (by omega) h3 (fun x0' x1' x2' x3' x4' x5' h5 => ih (k + 1) x0' x1' x2' x3' x4' x5' (by omega) (by omega) h5)
theorem pw7 {α a b c d e f g : Type} {body : (a → b → c → d → e → f → g → α) → a → b → c → d → e → f → g → α} {dft : a → b → c → d → e → f → g → α} {P : α → Prop} (Inv : Nat → a → b → c → d → e → f → g → Prop) (N : Nat) (hs : ∀ (R : a → b → c → d → e → f → g → α) (k : Nat) x0 x1 x2 x3 x4 x5 x6, k < N → Inv k x0 x1 x2 x3 x4 x5 x6 → (∀ x0' x1' x2' x3' x4' x5' x6', Inv (k + 1) x0' x1' x2' x3' x4' x5' x6' → P (R x0' x1' x2' x3' x4' x5' x6')) → P (body R x0 x1 x2 x3 x4 x5 x6)) (he : ∀ (R : a → b → c → d → e → f → g → α) x0 x1 x2 x3 x4 x5 x6, Inv N x0 x1 x2 x3 x4 x5 x6 → P (body R x0 x1 x2 x3 x4 x5 x6)) : ∀ (fuel k : Nat) x0 x1 x2 x3 x4 x5 x6, N < k + fuel → k ≤ N → Inv k x0 x1 x2 x3 x4 x5 x6 → P (zp7 body dft fuel x0 x1 x2 x3 x4 x5 x6) := by
  intro fuel
  induction fuel with
  | zero => intro k x0 x1 x2 x3 x4 x5 x6 h1 h2; exact absurd h1 (by omega)
  | succ n ih =>
    intro k x0 x1 x2 x3 x4 x5 x6 h1 h2 h3
    by_cases h4 : k = N
    · subst h4; exact he _ _ _ _ _ _ _ _ h3
    · exact hs _ k _ _ _ _ _ _ _ (by omega) h3 (fun x0' x1' x2' x3' x4' x5' x6' h5 => ih (k + 1) x0' x1' x2' x3' x4' x5' x6' (by omega) (by omega) h5)
theorem pu_8n {i : Nat} (h : i < 8) : ¬ (8 : Int32) ≤ nI i := nI_ge h (by decide)
theorem pu_8y : (8 : Int32) ≤ nI 8 := by decide
def pu_sm (f : Nat → Int32) : Nat → Int32
  | 0 => 0
  | k + 1 => pu_sm f k + f k
theorem pu_sm_congr {f g : Nat → Int32} : ∀ {n : Nat}, (∀ i, i < n → f i = g i) → pu_sm f n = pu_sm g n
  | 0, _ => rfl
  | n + 1, h => by
    show pu_sm f n + f n = pu_sm g n + g n
    rw [pu_sm_congr (fun i hi => h i (by omega)), h n (by omega)]
theorem pu_sm_zero {f : Nat → Int32} {n : Nat} : ∀ {m : Nat}, n ≤ m → (∀ i, n ≤ i → i < m → f i = 0) → pu_sm f m = pu_sm f n
  | 0, h, _ => by rw [show n = 0 by omega]
  | m + 1, h, h0 => by
    by_cases e : n = m + 1
    · rw [e]
    · show pu_sm f m + f m = _
      rw [pu_sm_zero (m := m) (by omega) (fun i h1 h2 => h0 i h1 (by omega)), h0 m (by omega) (by omega), Int32.add_zero]
theorem pu_sm_ins {f : Nat → Int32} {q : Nat → Prop} [dq : DecidablePred q] {j : Nat} (hq : ¬ q j) : ∀ {n : Nat}, pu_sm (fun k => if q k ∨ k = j then f k else 0) n = (if j < n then pu_sm (fun k => if q k then f k else 0) n + f j else pu_sm (fun k => if q k then f k else 0) n)
  | 0 => by rfl
  | n + 1 => by
    show pu_sm _ n + (if q n ∨ n = j then f n else 0) = _
    rw [pu_sm_ins hq (n := n)]
    show _ = (if j < n + 1 then (pu_sm (fun k => if q k then f k else 0) n + (if q n then f n else 0)) + f j else (pu_sm (fun k => if q k then f k else 0) n + (if q n then f n else 0)))
    by_cases e : n = j
    · subst e
      rw [if_neg (Nat.lt_irrefl n), if_pos (Or.inr rfl), if_pos (Nat.lt_succ_self n), if_neg hq, Int32.add_zero]
    · by_cases h : q n
      · rw [if_pos (Or.inl h), if_pos h]
        by_cases h2 : j < n
        · rw [if_pos h2, if_pos (by omega)]; ac_rfl
        · rw [if_neg h2, if_neg (by omega)]
      · rw [if_neg (show ¬ (q n ∨ n = j) from fun hh => hh.elim h e), if_neg h, Int32.add_zero, Int32.add_zero]
        by_cases h2 : j < n
        · rw [if_pos h2, if_pos (by omega)]
        · rw [if_neg h2, if_neg (by omega)]
theorem pu_bits : ∀ m, m < 256 → ∀ i, i < 8 → ((nI m >>> (nI i &&& 31)) &&& 1) = (if m.testBit i then 1 else 0) := by decide +kernel
theorem pu_orb : ∀ m, m < 256 → ∀ i, i < 8 → (nI m ||| (1 <<< (nI i &&& 31))) = nI (m ||| 2 ^ i) ∧ m ||| 2 ^ i < 256 := by decide +kernel
theorem pu_orm : ∀ m, m < 256 → ∀ i, i < 256 → (nI m ||| nI i) = nI (m ||| i) ∧ m ||| i < 256 := by decide +kernel
theorem pu_acc : ∀ m, m < 256 → ∀ k, k < 8 → (nI (m % 2 ^ k) ||| ((if m.testBit k then (1 : Int32) else 0) <<< (nI k &&& 31))) = nI (m % 2 ^ (k + 1)) := by decide +kernel
end
section
theorem pu_sum2 (C : Cst) : sX4_sumOf_2 C = pu_sm (C 2) 8 := by
  dsimp only [sX4_sumOf_2, ltl2, ltv]
  refine pw2 (P := fun v => v = pu_sm (C 2) 8) (fun k x i => i = k ∧ x = pu_sm (C 2) k) 8 ?_ ?_ 9 0 0 0 (by decide) (by decide) ⟨rfl, rfl⟩
  · rintro R k x i hk ⟨rfl, rfl⟩ hR
    exact (if_neg (pu_8n hk)).trans (hR _ _ ⟨rfl, rfl⟩)
  · rintro R x i ⟨rfl, rfl⟩
    exact if_pos pu_8y
theorem pu_sum3 (C : Cst) : sX4_sumOf_3 C = pu_sm (C 3) 8 := by
  dsimp only [sX4_sumOf_3, ltl2, ltv]
  refine pw2 (P := fun v => v = pu_sm (C 3) 8) (fun k x i => i = k ∧ x = pu_sm (C 3) k) 8 ?_ ?_ 9 0 0 0 (by decide) (by decide) ⟨rfl, rfl⟩
  · rintro R k x i hk ⟨rfl, rfl⟩ hR
    exact (if_neg (pu_8n hk)).trans (hR _ _ ⟨rfl, rfl⟩)
  · rintro R x i ⟨rfl, rfl⟩
    exact if_pos pu_8y
theorem pu_sum5 (C : Cst) : sX4_sumOf_5 C = pu_sm (C 5) 8 := by
  dsimp only [sX4_sumOf_5, ltl2, ltv]
  refine pw2 (P := fun v => v = pu_sm (C 5) 8) (fun k x i => i = k ∧ x = pu_sm (C 5) k) 8 ?_ ?_ 9 0 0 0 (by decide) (by decide) ⟨rfl, rfl⟩
  · rintro R k x i hk ⟨rfl, rfl⟩ hR
    exact (if_neg (pu_8n hk)).trans (hR _ _ ⟨rfl, rfl⟩)
  · rintro R x i ⟨rfl, rfl⟩
    exact if_pos pu_8y
theorem pu_5n {n i : Nat} (h : i < n) (hn : n ≤ 8) : ¬ nI n ≤ nI i := nI_ge h (by omega)
theorem pu_sum5r {M : Cst} {n w : Nat} (hn : n ≤ 8) (h5 : M 0 5 = nI n) : sX5_sum M w = pu_sm (fun i => M 0 (13 + 8 * i + w)) n := by
  dsimp only [sX5_sum, ltl3, ltv]
  refine pw3 (P := fun v => v = pu_sm (fun i => M 0 (13 + 8 * i + w)) n) (fun k w' x i => w' = w ∧ i = k ∧ x = pu_sm (fun i => M 0 (13 + 8 * i + w)) k) n ?_ ?_ 9 0 w 0 0 (by omega) (by omega) ⟨rfl, rfl, rfl⟩
  · rintro R k w' x i hk ⟨rfl, rfl, rfl⟩ hR
    exact (if_neg (by rw [h5]; exact pu_5n hk hn)).trans (hR _ _ _ ⟨rfl, rfl, rfl⟩)
  · rintro R w' x i ⟨rfl, rfl, rfl⟩
    exact if_pos (by rw [h5]; exact nI_le (Nat.le_refl _) (by omega))
theorem pu_outSet {M : Cst} {n m : Nat} (hn : n ≤ 8) (h5 : M 0 5 = nI n) (hm : m < 2 ^ n) (hb : ∀ i, i < n → M 0 (13 + 8 * i + 6) = (if m.testBit i then 1 else 0)) : sX5_outSet M = nI m := by
  have hm8 : m < 256 := Nat.lt_of_lt_of_le hm (show 2 ^ n ≤ 2 ^ 8 from Nat.pow_le_pow_right (by decide) hn)
  dsimp only [sX5_outSet, ltl2, ltv]
  refine pw2 (P := fun v => v = nI m) (fun k x i => i = k ∧ x = nI (m % 2 ^ k)) n ?_ ?_ 9 0 0 0 (by omega) (by omega) ⟨rfl, by rw [Nat.pow_zero, Nat.mod_one]; rfl⟩
  · rintro R k x i hk ⟨rfl, rfl⟩ hR
    refine (if_neg (by rw [h5]; exact pu_5n hk hn)).trans (hR _ _ ⟨rfl, ?_⟩)
    show nI (m % 2 ^ i) ||| (M 0 (13 + 8 * i + 6)) <<< (nI i &&& 31) = _
    rw [hb i hk]; exact pu_acc m hm8 i (by omega)
  · rintro R x i ⟨rfl, rfl⟩
    refine (if_pos (by rw [h5]; exact nI_le (Nat.le_refl _) (by omega))).trans ?_
    rw [Nat.mod_eq_of_lt hm]
theorem pu_mod {a b : Nat} (ha : a < 2 ^ 31) (hb : b < 2 ^ 31) : nI a % nI b = nI (a % b) := by
  apply Int32.toInt_inj.mp
  have h1 : a % b < 2 ^ 31 := Nat.lt_of_le_of_lt (Nat.mod_le a b) ha
  rw [Int32.toInt_mod, nI_toInt ha, nI_toInt hb, nI_toInt h1, Int.tmod_eq_emod_of_nonneg (by omega)]
  rfl
def pu_pl (n t k : Nat) : Nat := if t % n ≤ k then k - t % n else k + n - t % n
theorem pu_pl_lt {n t k : Nat} (hn : 0 < n) (hk : k < n) : pu_pl n t k < n := by
  have := Nat.mod_lt t hn
  unfold pu_pl; split <;> omega
theorem pu_sba (i n a : Nat) (h : a ≤ i + n) : (nI i - nI a) + nI n = nI (i + n - a) := by
  have : (nI i - nI a) + nI n = (nI i + nI n) - nI a := by
    rw [Int32.sub_eq_add_neg, Int32.sub_eq_add_neg]; ac_rfl
  rw [this, nI_add, nI_sub h]
theorem pu_place {C : Cst} {n t i : Nat} (h9 : C 9 0 = nI n) (h10 : C 10 0 = nI t) (h0 : 0 < n) (hn : n ≤ 8) (ht : t ≤ 1000) (hi : i < 8) : sX0_placeOf C (nI i) = nI (pu_pl n t i) := by
  dsimp only [sX0_placeOf, ltv]
  have hm := Nat.mod_lt t h0
  rw [h9, h10, if_pos (show (1 : Int32) ≤ nI n from nI_le (a := 1) h0 (by omega)), pu_mod (by omega) (by omega)]
  unfold pu_pl
  by_cases h : t % n ≤ i
  · rw [if_neg (nI_nlt h (by omega)), if_pos h, nI_sub h]
  · rw [if_pos (nI_lt (Nat.not_le.mp h) (by omega)), if_neg h, pu_sba _ _ _ (by omega)]
theorem pu_placeR {M : Cst} {n t i : Nat} (h5 : M 0 5 = nI n) (h6 : M 0 6 = nI t) (hn : n ≤ 8) (ht : t ≤ 1000) (hi : i < n) : sX5_placeOf M (nI i) = nI (pu_pl n t i) := by
  dsimp only [sX5_placeOf]
  have hm := Nat.mod_lt t (show 0 < n by omega)
  rw [h5, h6, pu_mod (by omega) (by omega), pu_sba _ _ _ (by omega), pu_mod (by omega) (by omega)]
  unfold pu_pl
  by_cases h : t % n ≤ i
  · rw [if_pos h, show i + n - t % n = (i - t % n) + n by omega, Nat.add_mod_right, Nat.mod_eq_of_lt (by omega)]
  · rw [if_neg h, Nat.mod_eq_of_lt (by omega)]
/-- the units of those ahead of a place -/
def pu_ah (u : Nat → Int32) (n t p : Nat) : Int32 := pu_sm (fun k => if pu_pl n t k < p then u k else 0) n
theorem pu_ahead {C : Cst} {n t i : Nat} (h9 : C 9 0 = nI n) (h10 : C 10 0 = nI t) (h0 : 0 < n) (hn : n ≤ 8) (ht : t ≤ 1000) (hi : i < 8) (hz : ∀ k, n ≤ k → k < 8 → C 2 k = 0) : sX0_unitsAhead C (nI i) = pu_ah (C 2) n t (pu_pl n t i) := by
  have hp : ∀ k, k < 8 → pu_pl n t k < 2 ^ 31 := by
    intro k hk
    have := Nat.mod_lt t h0
    unfold pu_pl; split <;> omega
  have e : pu_ah (C 2) n t (pu_pl n t i) = pu_sm (fun k => if pu_pl n t k < pu_pl n t i then C 2 k else 0) 8 := by
    refine (pu_sm_zero hn (fun k h1 h2 => ?_)).symm
    rw [hz k h1 h2]; split <;> rfl
  rw [e]
  dsimp only [sX0_unitsAhead, ltl3, ltv]
  rw [pu_place h9 h10 h0 hn ht hi]
  refine pw3 (P := fun v => v = _) (fun k x2 x i' => i' = k ∧ x2 = nI (pu_pl n t i) ∧ x = pu_sm (fun k => if pu_pl n t k < pu_pl n t i then C 2 k else 0) k) 8 ?_ ?_ 9 0 _ 0 0 (by decide) (by decide) ⟨rfl, rfl, rfl⟩
  · rintro R k x2 x i' hk ⟨rfl, rfl, rfl⟩ hR
    refine (if_neg (pu_8n hk)).trans ?_
    rw [pu_place h9 h10 h0 hn ht hk]
    by_cases h : pu_pl n t i' < pu_pl n t i
    · rw [if_neg (nI_ge h (hp i hi))]
      refine hR _ _ _ ⟨rfl, rfl, ?_⟩
      show _ = _ + (if _ then _ else _)
      rw [if_pos h]
    · rw [if_pos (nI_le (Nat.not_lt.mp h) (hp i' hk))]
      refine hR _ _ _ ⟨rfl, rfl, ?_⟩
      show _ = _ + (if _ then _ else _)
      rw [if_neg h, Int32.add_zero]
  · rintro R x2 x i' ⟨rfl, rfl, rfl⟩
    exact if_pos pu_8y
theorem pu_aheadR {M : Cst} {n t i : Nat} (h5 : M 0 5 = nI n) (h6 : M 0 6 = nI t) (hn : n ≤ 8) (ht : t ≤ 1000) (hi : i < n) : sX5_ahead M (nI i) = pu_ah (fun k => M 0 (13 + 8 * k + 1)) n t (pu_pl n t i) := by
  have hp : ∀ k, k < n → pu_pl n t k < 2 ^ 31 := fun k hk => Nat.lt_of_lt_of_le (pu_pl_lt (by omega) hk) (by omega)
  dsimp only [sX5_ahead, ltl3, ltv]
  refine pw3 (P := fun v => v = _) (fun k x1 x i' => i' = k ∧ x1 = nI i ∧ x = pu_sm (fun k => if pu_pl n t k < pu_pl n t i then M 0 (13 + 8 * k + 1) else 0) k) n ?_ ?_ 9 0 _ 0 0 (by omega) (by omega) ⟨rfl, rfl, rfl⟩
  · rintro R k x1 x i' hk ⟨rfl, rfl, rfl⟩ hR
    refine (if_neg (by rw [h5]; exact pu_5n hk hn)).trans ?_
    rw [pu_placeR h5 h6 hn ht hk, pu_placeR h5 h6 hn ht hi]
    by_cases h : pu_pl n t i' < pu_pl n t i
    · rw [if_neg (nI_ge h (hp i hi))]
      refine hR _ _ _ ⟨rfl, rfl, ?_⟩
      show _ = _ + (if _ then _ else _)
      rw [if_pos h]; rfl
    · rw [if_pos (nI_le (Nat.not_lt.mp h) (hp i' hk))]
      refine hR _ _ _ ⟨rfl, rfl, ?_⟩
      show _ = _ + (if _ then _ else _)
      rw [if_neg h]
  · rintro R x1 x i' ⟨rfl, rfl, rfl⟩
    exact if_pos (by rw [h5]; exact nI_le (Nat.le_refl _) (by omega))
end
section
/-! damage, charges, gains, best uses -/
def pu_dm (d x : Int32) : Int32 := (x * x) / d
theorem pu_damage {C : Cst} (h : 1 ≤ C 0 0) (x : Int32) : sX0_damageOf C x = pu_dm (C 0 0) x := by
  dsimp only [sX0_damageOf, ltv]
  rw [if_pos h]; rfl
theorem pu_damageR (M : Cst) (x : Int32) : sX5_damage M x = pu_dm (M 0 0) x := rfl
theorem pu_dm0 (d : Int32) : pu_dm d 0 = 0 := by
  show (0 * 0) / d = 0
  rw [Int32.zero_mul, Int32.zero_div]
/-- a charge for x units behind a units -/
def pu_ch (d a x : Int32) : Int32 := pu_dm d (a + x) - pu_dm d a
theorem pu_added {C : Cst} (h : 1 ≤ C 0 0) (a x : Int32) : sX0_damageAdded C a x = pu_ch (C 0 0) a x := by
  dsimp only [sX0_damageAdded, ltv]
  rw [pu_damage h, pu_damage h]; rfl
def pu_gn (d a w x : Int32) : Int32 := w * x - pu_ch d a x
theorem pu_gain {C : Cst} (h : 1 ≤ C 0 0) (a w x : Int32) : sX0_gainBehind C a w x = pu_gn (C 0 0) a w x := by
  dsimp only [sX0_gainBehind, ltv]
  rw [pu_added h]; rfl
theorem pu_gn0 (d a w : Int32) : pu_gn d a w 0 = 0 := by
  show w * 0 - (pu_dm d (a + 0) - pu_dm d a) = 0
  rw [Int32.add_zero, Int32.sub_self, Int32.mul_zero, Int32.sub_self]
theorem pu_chargeR {M : Cst} {n t i : Nat} (h5 : M 0 5 = nI n) (h6 : M 0 6 = nI t) (hn : n ≤ 8) (ht : t ≤ 1000) (hi : i < n) (x : Int32) : sX5_chargeFor M (nI i) x = pu_ch (M 0 0) (pu_ah (fun k => M 0 (13 + 8 * k + 1)) n t (pu_pl n t i)) x := by
  dsimp only [sX5_chargeFor, ltv]
  rw [pu_aheadR h5 h6 hn ht hi]; rfl
theorem pu_gainR {M : Cst} {n t i : Nat} (h5 : M 0 5 = nI n) (h6 : M 0 6 = nI t) (hn : n ≤ 8) (ht : t ≤ 1000) (hi : i < n) (x : Int32) : sX5_gainFor M i x = pu_gn (M 0 0) (pu_ah (fun k => M 0 (13 + 8 * k + 1)) n t (pu_pl n t i)) (M 0 (13 + 8 * i + 0)) x := by
  dsimp only [sX5_gainFor, ltv]
  rw [pu_chargeR h5 h6 hn ht hi]; rfl
/-- the best of 1 to k units -/
def pu_bst (g : Int32 → Int32) : Nat → Nat
  | 0 => 0
  | k + 1 => if g (nI (k + 1)) ≤ g (nI (pu_bst g k)) then pu_bst g k else k + 1
theorem pu_bst_le (g : Int32 → Int32) : ∀ k, pu_bst g k ≤ k
  | 0 => Nat.le_refl 0
  | k + 1 => by
    have := pu_bst_le g k
    simp only [pu_bst]; split <;> omega
theorem pu_20n {i : Nat} (h : i ≤ 20) : ¬ (20 : Int32) < nI i := nI_nlt (b := i) (a := 20) h (by decide)
theorem pu_has1 {C : Cst} {n i : Nat} (h9 : C 9 0 = nI n) (hn : n ≤ 8) (hi : i < n) : sX0_has C (nI i) = 1 := by
  dsimp only [sX0_has]
  rw [if_neg (nI_pos (by omega)), h9, if_neg (nI_ge hi (by omega)), if_neg (pu_8n (by omega))]
theorem pu_has0 {C : Cst} {n i : Nat} (h9 : C 9 0 = nI n) (hi : n ≤ i) (h8 : i ≤ 8) : sX0_has C (nI i) = 0 := by
  dsimp only [sX0_has]
  rw [if_neg (nI_pos (by omega)), h9, if_pos (nI_le hi (by omega))]
theorem pu_isOut {C : Cst} {m i : Nat} (h13 : C 13 0 = nI m) (hm : m < 256) (hi : i < 8) : sX0_isOut C (nI i) = if m.testBit i then 1 else 0 := by
  dsimp only [sX0_isOut]
  rw [h13, pu_bits m hm i hi]
  by_cases h : m.testBit i = true
  · rw [if_pos h, if_neg (fun h => h rfl)]
  · rw [if_neg h, if_pos (by decide)]
theorem pu_bestUnits {C : Cst} {n t m i : Nat} (h9 : C 9 0 = nI n) (h10 : C 10 0 = nI t) (h13 : C 13 0 = nI m) (hm : m < 256) (hd : 1 ≤ C 0 0) (hn : n ≤ 8) (ht : t ≤ 1000) (hi : i < n) (hz : ∀ k, n ≤ k → k < 8 → C 2 k = 0) : sX0_bestUnits C i = if m.testBit i then 0 else nI (pu_bst (pu_gn (C 0 0) (pu_ah (C 2) n t (pu_pl n t i)) (C 1 i)) 20) := by
  dsimp only [sX0_bestUnits, ltl5, ltv]
  rw [pu_has1 h9 hn hi, if_neg (by decide), pu_isOut h13 hm (by omega)]
  by_cases h : m.testBit i = true
  · rw [if_pos h, if_pos h, if_neg (by decide)]
  rw [if_neg h, if_neg h, if_pos rfl, pu_ahead h9 h10 (by omega) hn ht (by omega) hz]
  generalize hg : pu_gn (C 0 0) (pu_ah (C 2) n t (pu_pl n t i)) (C 1 i) = g
  have g0 : g 0 = 0 := by rw [← hg]; exact pu_gn0 _ _ _
  refine pw5 (P := fun v => v = _) (fun k i1 x2 x3 x4 i5 => i5 = k + 1 ∧ i1 = i ∧ x2 = pu_ah (C 2) n t (pu_pl n t i) ∧ x3 = nI (pu_bst g k) ∧ x4 = g (nI (pu_bst g k))) 20 ?_ ?_ 22 0 _ _ 0 0 1 (by decide) (by decide) ⟨rfl, rfl, rfl, rfl, g0.symm⟩
  · rintro R k i1 x2 x3 x4 i5 hk ⟨rfl, rfl, rfl, rfl, rfl⟩ hR
    refine (if_neg (pu_20n (by omega))).trans ?_
    rw [pu_gain hd, hg]
    by_cases h : g (nI (k + 1)) ≤ g (nI (pu_bst g k))
    · rw [if_pos h]
      refine hR _ _ _ _ _ ⟨rfl, rfl, rfl, ?_, ?_⟩ <;> (show _ = _; simp only [pu_bst]; rw [if_pos h])
    · rw [if_neg h]
      refine hR _ _ _ _ _ ⟨rfl, rfl, rfl, ?_, ?_⟩ <;> (show _ = _; simp only [pu_bst]; rw [if_neg h])
  · rintro R i1 x2 x3 x4 i5 ⟨rfl, rfl, rfl, rfl, rfl⟩
    exact if_pos (by decide)
theorem pu_bestR {M : Cst} {n t i : Nat} (h5 : M 0 5 = nI n) (h6 : M 0 6 = nI t) (hn : n ≤ 8) (ht : t ≤ 1000) (hi : i < n) : sX5_best M i = if M 0 (13 + 8 * i + 6) = 0 then nI (pu_bst (pu_gn (M 0 0) (pu_ah (fun k => M 0 (13 + 8 * k + 1)) n t (pu_pl n t i)) (M 0 (13 + 8 * i + 0))) 20) else 0 := by
  dsimp only [sX5_best, ltl3, ltv, sX5_of]
  by_cases h : M 0 (13 + 8 * i + 6) = 0
  · rw [if_pos h]
    generalize hg : pu_gn (M 0 0) (pu_ah (fun k => M 0 (13 + 8 * k + 1)) n t (pu_pl n t i)) (M 0 (13 + 8 * i + 0)) = g
    refine pw3 (P := fun v => v = _) (fun k i1 x2 i3 => i3 = k + 1 ∧ i1 = i ∧ x2 = nI (pu_bst g k)) 20 ?_ ?_ 22 0 _ 0 1 (by decide) (by decide) ⟨rfl, rfl, rfl⟩
    · rintro R k i1 x2 i3 hk ⟨rfl, rfl, rfl⟩ hR
      refine (if_neg (pu_20n (by omega))).trans ?_
      rw [if_neg (fun hh => hh h), pu_gainR h5 h6 hn ht hi, pu_gainR h5 h6 hn ht hi, hg]
      by_cases h : g (nI (k + 1)) ≤ g (nI (pu_bst g k))
      · rw [if_pos h]
        refine hR _ _ _ ⟨rfl, rfl, ?_⟩; (show _ = _; simp only [pu_bst]; rw [if_pos h])
      · rw [if_neg h]
        refine hR _ _ _ ⟨rfl, rfl, ?_⟩; (show _ = _; simp only [pu_bst]; rw [if_neg h])
    · rintro R i1 x2 i3 ⟨rfl, rfl, rfl⟩
      exact if_pos (by decide)
  · rw [if_neg h]
    rw [show (22 : Nat) = 21 + 1 from rfl, zp3_s, if_neg (by decide), if_pos h]
end
section
/-! the relation of a state of the class to the reference's row -/
theorem pu_up (C : Cst) (k i : Nat) (x : Int32) (k' i' : Nat) : up C k i x k' i' = if k' = k then (if i' = i then x else C k' i') else C k' i' := by
  unfold up
  by_cases h : k' = k
  · subst h; rw [if_pos rfl, if_pos rfl]; rfl
  · rw [if_neg h, if_neg h]
theorem pu_un (C : Cst) {k k' : Nat} (i : Nat) (x : Int32) (h : k' ≠ k) : up C k i x k' = C k' := by unfold up; rw [if_neg h]
def RCb (n t h m : Nat) : Prop := n ≤ 8 ∧ t ≤ 1000 ∧ h ≤ 100 ∧ m < 2 ^ n
def RCs (C : Cst) (r : Nat → Int32) (n t h m g : Nat) : Prop := C 9 0 = nI n ∧ r 5 = nI n ∧ C 10 0 = nI t ∧ r 6 = nI t ∧ C 11 0 = nI h ∧ r 7 = nI h ∧ C 12 0 = nI g ∧ r 8 = nI g ∧ C 13 0 = nI m ∧ r 9 = C 14 0 ∧ r 10 = C 15 0 ∧ r 11 = C 16 0
def RCk (C : Cst) (r : Nat → Int32) : Prop := (∀ k, k < 5 → r k = C 0 k) ∧ ∀ k, k < 5 → sL k ≤ C 0 k ∧ C 0 k ≤ sM k
def RCr (C : Cst) (r : Nat → Int32) (n m : Nat) : Prop := ∀ i, i < n → r (13 + 8 * i + 0) = C 1 i ∧ r (13 + 8 * i + 1) = C 2 i ∧ r (13 + 8 * i + 2) = C 3 i ∧ r (13 + 8 * i + 3) = C 4 i ∧ r (13 + 8 * i + 4) = C 5 i ∧ r (13 + 8 * i + 5) = C 6 i ∧ r (13 + 8 * i + 6) = (if m.testBit i then 1 else 0) ∧ r (13 + 8 * i + 7) = C 7 i
def RCd (C : Cst) (t : Nat) : Prop := ∀ i, i < 8 → (∃ a, a ≤ 30 ∧ C 1 i = nI a) ∧ (∃ a, a ≤ 20 ∧ C 2 i = nI a) ∧ (∃ a, a ≤ 20 * t ∧ C 5 i = nI a) ∧ (∃ a, a ≤ 20 * t ∧ C 6 i = nI a)
def RCz (C : Cst) (n : Nat) : Prop := ∀ i, n ≤ i → i < 8 → C 1 i = 0 ∧ C 2 i = 0 ∧ C 3 i = 0 ∧ C 4 i = 0 ∧ C 5 i = 0 ∧ C 6 i = 0 ∧ C 7 i = 0
def RCh (C : Cst) (r : Nat → Int32) (t : Nat) : Prop := r 12 = nI (min t 6) ∧ ∀ k w, k < min t 6 → w < 5 → r (77 + 5 * k + w) = C 8 (((t - 1 - k) % 6) * 5 + w)
def RC (n t h m g : Nat) (C : Cst) (r : Nat → Int32) : Prop := RCb n t h m ∧ RCs C r n t h m g ∧ RCk C r ∧ RCr C r n m ∧ RCd C t ∧ RCz C n ∧ RCh C r t
/-- the relation with its numbers hidden: the season not beyond T, the fund not beyond f -/
def RF (T f : Nat) (C : Cst) (r : Nat → Int32) : Prop := ∃ n t h m g, t ≤ T ∧ g ≤ f ∧ RC n t h m g C r
theorem pu_m8 {n m : Nat} (hn : n ≤ 8) (hm : m < 2 ^ n) : m < 256 := Nat.lt_of_lt_of_le hm (show 2 ^ n ≤ 2 ^ 8 from Nat.pow_le_pow_right (by decide) hn)
theorem pu_has_mem {C : Cst} {M : Cst} {n : Nat} (h9 : C 9 0 = nI n) (h5 : M 0 5 = nI n) (hn : n ≤ 8) (x : Int32) : (sX0_has C x = 0 ∧ sX5_isMember M x = 0 ∧ (∀ i, i < n → ¬ x = nI i)) ∨ (∃ i, i < n ∧ x = nI i ∧ sX0_has C x = 1 ∧ sX5_isMember M x = 1) := by
  by_cases h : x < 0
  · refine Or.inl ⟨?_, ?_, fun i hi e => ?_⟩
    · dsimp only [sX0_has]; rw [if_pos h]
    · dsimp only [sX5_isMember]; rw [if_pos h]
    · rw [e] at h; exact nI_pos (by omega) h
  · obtain ⟨j, hj, rfl⟩ := nI_of h
    by_cases hjn : j < n
    · refine Or.inr ⟨j, hjn, rfl, pu_has1 h9 hn hjn, ?_⟩
      dsimp only [sX5_isMember]; rw [if_neg h, h5, if_neg (nI_ge hjn (by omega))]
    · refine Or.inl ⟨?_, ?_, fun i hi e => ?_⟩
      · dsimp only [sX0_has]; rw [if_neg h, h9, if_pos (nI_le (by omega) hj)]
      · dsimp only [sX5_isMember]; rw [if_neg h, h5, if_pos (nI_le (by omega) hj)]
      · have := (nI_eq hj (by omega)).mp e; omega
theorem pu_in (x : Int32) (a b : Int32) : sX5_in x a b = if x < a ∨ b < x then 0 else 1 := by
  dsimp only [sX5_in]
  by_cases h : x < a
  · rw [if_pos h, if_pos (Or.inl h)]
  · by_cases h2 : b < x
    · rw [if_neg h, if_pos h2, if_pos (Or.inr h2)]
    · rw [if_neg h, if_neg h2, if_neg (fun hh => hh.elim h h2)]
end
section
theorem pl1 {α a : Type} {body : (a → α) → a → α} {F : Nat → a → α} (hF : ∀ (n : Nat) x0, F (n + 1) x0 = body (F n) x0) {P : α → Prop} (Inv : Nat → a → Prop) (N : Nat) (hs : ∀ (R : a → α) (k : Nat) x0, k < N → Inv k x0 → (∀ x0', Inv (k + 1) x0' → P (R x0')) → P (body R x0)) (he : ∀ (R : a → α) x0, Inv N x0 → P (body R x0)) : ∀ (fuel k : Nat) x0, N < k + fuel → k ≤ N → Inv k x0 → P (F fuel x0) := by
  intro fuel
  induction fuel with
  | zero => intro k x0 h1 h2; exact absurd h1 (by omega)
  | succ n ih =>
    intro k x0 h1 h2 h3
    rw [hF]
    by_cases h4 : k = N
    · subst h4; exact he _ _ h3
    · exact hs _ k _ (by omega) h3 (fun x0' h5 => ih (k + 1) x0' (by omega) (by omega) h5)
theorem pl2 {α a b : Type} {body : (a → b → α) → a → b → α} {F : Nat → a → b → α} (hF : ∀ (n : Nat) x0 x1, F (n + 1) x0 x1 = body (F n) x0 x1) {P : α → Prop} (Inv : Nat → a → b → Prop) (N : Nat) (hs : ∀ (R : a → b → α) (k : Nat) x0 x1, k < N → Inv k x0 x1 → (∀ x0' x1', Inv (k + 1) x0' x1' → P (R x0' x1')) → P (body R x0 x1)) (he : ∀ (R : a → b → α) x0 x1, Inv N x0 x1 → P (body R x0 x1)) : ∀ (fuel k : Nat) x0 x1, N < k + fuel → k ≤ N → Inv k x0 x1 → P (F fuel x0 x1) := by
  intro fuel
  induction fuel with
  | zero => intro k x0 x1 h1 h2; exact absurd h1 (by omega)
  | succ n ih =>
    intro k x0 x1 h1 h2 h3
    rw [hF]
    by_cases h4 : k = N
    · subst h4; exact he _ _ _ h3
    · exact hs _ k _ _ (by omega) h3 (fun x0' x1' h5 => ih (k + 1) x0' x1' (by omega) (by omega) h5)
theorem pl3 {α a b c : Type} {body : (a → b → c → α) → a → b → c → α} {F : Nat → a → b → c → α} (hF : ∀ (n : Nat) x0 x1 x2, F (n + 1) x0 x1 x2 = body (F n) x0 x1 x2) {P : α → Prop} (Inv : Nat → a → b → c → Prop) (N : Nat) (hs : ∀ (R : a → b → c → α) (k : Nat) x0 x1 x2, k < N → Inv k x0 x1 x2 → (∀ x0' x1' x2', Inv (k + 1) x0' x1' x2' → P (R x0' x1' x2')) → P (body R x0 x1 x2)) (he : ∀ (R : a → b → c → α) x0 x1 x2, Inv N x0 x1 x2 → P (body R x0 x1 x2)) : ∀ (fuel k : Nat) x0 x1 x2, N < k + fuel → k ≤ N → Inv k x0 x1 x2 → P (F fuel x0 x1 x2) := by
  intro fuel
  induction fuel with
  | zero => intro k x0 x1 x2 h1 h2; exact absurd h1 (by omega)
  | succ n ih =>
    intro k x0 x1 x2 h1 h2 h3
    rw [hF]
    by_cases h4 : k = N
    · subst h4; exact he _ _ _ _ h3
    · exact hs _ k _ _ _ (by omega) h3 (fun x0' x1' x2' h5 => ih (k + 1) x0' x1' x2' (by omega) (by omega) h5)
theorem pl4 {α a b c d : Type} {body : (a → b → c → d → α) → a → b → c → d → α} {F : Nat → a → b → c → d → α} (hF : ∀ (n : Nat) x0 x1 x2 x3, F (n + 1) x0 x1 x2 x3 = body (F n) x0 x1 x2 x3) {P : α → Prop} (Inv : Nat → a → b → c → d → Prop) (N : Nat) (hs : ∀ (R : a → b → c → d → α) (k : Nat) x0 x1 x2 x3, k < N → Inv k x0 x1 x2 x3 → (∀ x0' x1' x2' x3', Inv (k + 1) x0' x1' x2' x3' → P (R x0' x1' x2' x3')) → P (body R x0 x1 x2 x3)) (he : ∀ (R : a → b → c → d → α) x0 x1 x2 x3, Inv N x0 x1 x2 x3 → P (body R x0 x1 x2 x3)) : ∀ (fuel k : Nat) x0 x1 x2 x3, N < k + fuel → k ≤ N → Inv k x0 x1 x2 x3 → P (F fuel x0 x1 x2 x3) := by
  intro fuel
  induction fuel with
  | zero => intro k x0 x1 x2 x3 h1 h2; exact absurd h1 (by omega)
  | succ n ih =>
    intro k x0 x1 x2 x3 h1 h2 h3
    rw [hF]
    by_cases h4 : k = N
    · subst h4; exact he _ _ _ _ _ h3
    · exact hs _ k _ _ _ _ (by omega) h3 (fun x0' x1' x2' x3' h5 => ih (k + 1) x0' x1' x2' x3' (by omega) (by omega) h5)
theorem pl5 {α a b c d e : Type} {body : (a → b → c → d → e → α) → a → b → c → d → e → α} {F : Nat → a → b → c → d → e → α} (hF : ∀ (n : Nat) x0 x1 x2 x3 x4, F (n + 1) x0 x1 x2 x3 x4 = body (F n) x0 x1 x2 x3 x4) {P : α → Prop} (Inv : Nat → a → b → c → d → e → Prop) (N : Nat) (hs : ∀ (R : a → b → c → d → e → α) (k : Nat) x0 x1 x2 x3 x4, k < N → Inv k x0 x1 x2 x3 x4 → (∀ x0' x1' x2' x3' x4', Inv (k + 1) x0' x1' x2' x3' x4' → P (R x0' x1' x2' x3' x4')) → P (body R x0 x1 x2 x3 x4)) (he : ∀ (R : a → b → c → d → e → α) x0 x1 x2 x3 x4, Inv N x0 x1 x2 x3 x4 → P (body R x0 x1 x2 x3 x4)) : ∀ (fuel k : Nat) x0 x1 x2 x3 x4, N < k + fuel → k ≤ N → Inv k x0 x1 x2 x3 x4 → P (F fuel x0 x1 x2 x3 x4) := by
  intro fuel
  induction fuel with
  | zero => intro k x0 x1 x2 x3 x4 h1 h2; exact absurd h1 (by omega)
  | succ n ih =>
    intro k x0 x1 x2 x3 x4 h1 h2 h3
    rw [hF]
    by_cases h4 : k = N
    · subst h4; exact he _ _ _ _ _ _ h3
    · exact hs _ k _ _ _ _ _ (by omega) h3 (fun x0' x1' x2' x3' x4' h5 => ih (k + 1) x0' x1' x2' x3' x4' (by omega) (by omega) h5)
theorem pl6 {α a b c d e f : Type} {body : (a → b → c → d → e → f → α) → a → b → c → d → e → f → α} {F : Nat → a → b → c → d → e → f → α} (hF : ∀ (n : Nat) x0 x1 x2 x3 x4 x5, F (n + 1) x0 x1 x2 x3 x4 x5 = body (F n) x0 x1 x2 x3 x4 x5) {P : α → Prop} (Inv : Nat → a → b → c → d → e → f → Prop) (N : Nat) (hs : ∀ (R : a → b → c → d → e → f → α) (k : Nat) x0 x1 x2 x3 x4 x5, k < N → Inv k x0 x1 x2 x3 x4 x5 → (∀ x0' x1' x2' x3' x4' x5', Inv (k + 1) x0' x1' x2' x3' x4' x5' → P (R x0' x1' x2' x3' x4' x5')) → P (body R x0 x1 x2 x3 x4 x5)) (he : ∀ (R : a → b → c → d → e → f → α) x0 x1 x2 x3 x4 x5, Inv N x0 x1 x2 x3 x4 x5 → P (body R x0 x1 x2 x3 x4 x5)) : ∀ (fuel k : Nat) x0 x1 x2 x3 x4 x5, N < k + fuel → k ≤ N → Inv k x0 x1 x2 x3 x4 x5 → P (F fuel x0 x1 x2 x3 x4 x5) := by
  intro fuel
  induction fuel with
  | zero => intro k x0 x1 x2 x3 x4 x5 h1 h2; exact absurd h1 (by omega)
  | succ n ih =>
    intro k x0 x1 x2 x3 x4 x5 h1 h2 h3
    rw [hF]
    by_cases h4 : k = N
    · subst h4; exact he _ _ _ _ _ _ _ h3
    · exact hs _ k _ _ _ _ _ _ (by omega) h3 (fun x0' x1' x2' x3' x4' x5' h5 => ih (k + 1) x0' x1' x2' x3' x4' x5' (by omega) (by omega) h5)
theorem pl7 {α a b c d e f g : Type} {body : (a → b → c → d → e → f → g → α) → a → b → c → d → e → f → g → α} {F : Nat → a → b → c → d → e → f → g → α} (hF : ∀ (n : Nat) x0 x1 x2 x3 x4 x5 x6, F (n + 1) x0 x1 x2 x3 x4 x5 x6 = body (F n) x0 x1 x2 x3 x4 x5 x6) {P : α → Prop} (Inv : Nat → a → b → c → d → e → f → g → Prop) (N : Nat) (hs : ∀ (R : a → b → c → d → e → f → g → α) (k : Nat) x0 x1 x2 x3 x4 x5 x6, k < N → Inv k x0 x1 x2 x3 x4 x5 x6 → (∀ x0' x1' x2' x3' x4' x5' x6', Inv (k + 1) x0' x1' x2' x3' x4' x5' x6' → P (R x0' x1' x2' x3' x4' x5' x6')) → P (body R x0 x1 x2 x3 x4 x5 x6)) (he : ∀ (R : a → b → c → d → e → f → g → α) x0 x1 x2 x3 x4 x5 x6, Inv N x0 x1 x2 x3 x4 x5 x6 → P (body R x0 x1 x2 x3 x4 x5 x6)) : ∀ (fuel k : Nat) x0 x1 x2 x3 x4 x5 x6, N < k + fuel → k ≤ N → Inv k x0 x1 x2 x3 x4 x5 x6 → P (F fuel x0 x1 x2 x3 x4 x5 x6) := by
  intro fuel
  induction fuel with
  | zero => intro k x0 x1 x2 x3 x4 x5 x6 h1 h2; exact absurd h1 (by omega)
  | succ n ih =>
    intro k x0 x1 x2 x3 x4 x5 x6 h1 h2 h3
    rw [hF]
    by_cases h4 : k = N
    · subst h4; exact he _ _ _ _ _ _ _ _ h3
    · exact hs _ k _ _ _ _ _ _ _ (by omega) h3 (fun x0' x1' x2' x3' x4' x5' x6' h5 => ih (k + 1) x0' x1' x2' x3' x4' x5' x6' (by omega) (by omega) h5)
theorem p_lz1 {α a : Type} {Q9 : α → Prop} {body : (a → α) → a → α} {dft : a → α} {F : (Nat → a → α) → α} (k : ∀ (B : (a → α) → a → α) (Z : Nat → a → α), B = body → (∀ (n : Nat) x0, Z (n + 1) x0 = B (Z n) x0) → Q9 (F Z)) : Q9 (ltl1 body dft F) := k body (zp1 body dft) rfl (fun _ _ => rfl)
theorem p_lz2 {α a b : Type} {Q9 : α → Prop} {body : (a → b → α) → a → b → α} {dft : a → b → α} {F : (Nat → a → b → α) → α} (k : ∀ (B : (a → b → α) → a → b → α) (Z : Nat → a → b → α), B = body → (∀ (n : Nat) x0 x1, Z (n + 1) x0 x1 = B (Z n) x0 x1) → Q9 (F Z)) : Q9 (ltl2 body dft F) := k body (zp2 body dft) rfl (fun _ _ _ => rfl)
theorem p_lz3 {α a b c : Type} {Q9 : α → Prop} {body : (a → b → c → α) → a → b → c → α} {dft : a → b → c → α} {F : (Nat → a → b → c → α) → α} (k : ∀ (B : (a → b → c → α) → a → b → c → α) (Z : Nat → a → b → c → α), B = body → (∀ (n : Nat) x0 x1 x2, Z (n + 1) x0 x1 x2 = B (Z n) x0 x1 x2) → Q9 (F Z)) : Q9 (ltl3 body dft F) := k body (zp3 body dft) rfl (fun _ _ _ _ => rfl)
theorem p_lz4 {α a b c d : Type} {Q9 : α → Prop} {body : (a → b → c → d → α) → a → b → c → d → α} {dft : a → b → c → d → α} {F : (Nat → a → b → c → d → α) → α} (k : ∀ (B : (a → b → c → d → α) → a → b → c → d → α) (Z : Nat → a → b → c → d → α), B = body → (∀ (n : Nat) x0 x1 x2 x3, Z (n + 1) x0 x1 x2 x3 = B (Z n) x0 x1 x2 x3) → Q9 (F Z)) : Q9 (ltl4 body dft F) := k body (zp4 body dft) rfl (fun _ _ _ _ _ => rfl)
theorem p_lz5 {α a b c d e : Type} {Q9 : α → Prop} {body : (a → b → c → d → e → α) → a → b → c → d → e → α} {dft : a → b → c → d → e → α} {F : (Nat → a → b → c → d → e → α) → α} (k : ∀ (B : (a → b → c → d → e → α) → a → b → c → d → e → α) (Z : Nat → a → b → c → d → e → α), B = body → (∀ (n : Nat) x0 x1 x2 x3 x4, Z (n + 1) x0 x1 x2 x3 x4 = B (Z n) x0 x1 x2 x3 x4) → Q9 (F Z)) : Q9 (ltl5 body dft F) := k body (zp5 body dft) rfl (fun _ _ _ _ _ _ => rfl)
theorem p_lz6 {α a b c d e f : Type} {Q9 : α → Prop} {body : (a → b → c → d → e → f → α) → a → b → c → d → e → f → α} {dft : a → b → c → d → e → f → α} {F : (Nat → a → b → c → d → e → f → α) → α} (k : ∀ (B : (a → b → c → d → e → f → α) → a → b → c → d → e → f → α) (Z : Nat → a → b → c → d → e → f → α), B = body → (∀ (n : Nat) x0 x1 x2 x3 x4 x5, Z (n + 1) x0 x1 x2 x3 x4 x5 = B (Z n) x0 x1 x2 x3 x4 x5) → Q9 (F Z)) : Q9 (ltl6 body dft F) := k body (zp6 body dft) rfl (fun _ _ _ _ _ _ _ => rfl)
theorem p_lz7 {α a b c d e f g : Type} {Q9 : α → Prop} {body : (a → b → c → d → e → f → g → α) → a → b → c → d → e → f → g → α} {dft : a → b → c → d → e → f → g → α} {F : (Nat → a → b → c → d → e → f → g → α) → α} (k : ∀ (B : (a → b → c → d → e → f → g → α) → a → b → c → d → e → f → g → α) (Z : Nat → a → b → c → d → e → f → g → α), B = body → (∀ (n : Nat) x0 x1 x2 x3 x4 x5 x6, Z (n + 1) x0 x1 x2 x3 x4 x5 x6 = B (Z n) x0 x1 x2 x3 x4 x5 x6) → Q9 (F Z)) : Q9 (ltl7 body dft F) := k body (zp7 body dft) rfl (fun _ _ _ _ _ _ _ _ => rfl)
/-! the reference's own record of what was -/
theorem pu_ch1 {M : Cst} (h : ¬ M 4 0 = 0) : sX5_changes M = M := by
  unfold sX5_changes
  refine p_ltv (Q9 := fun v => v = M) (fun K90 e90 => ?_)
  refine p_lz2 (Q9 := fun v => v = M) (fun B58 L58 b58 h58 => ?_)
  refine p_ltv (Q9 := fun v => v = M) (fun K56 e56 => ?_)
  refine p_ltv (Q9 := fun v => v = M) (fun K46 e46 => ?_)
  refine p_lz2 (Q9 := fun v => v = M) (fun B18 L18 b18 h18 => ?_)
  exact p_ite (Q9 := fun v => v = M) (fun c => absurd c h) (fun _ => rfl)
theorem pu_ch2 {P : Cst → Prop} {M : Cst} {p : Nat} (h : M 4 0 = 0) (hp : p ≤ 4) (h3 : M 3 0 = nI p) (k : ∀ M' : Cst, M' 0 = M 0 → (∀ j, j ≠ 1 → j ≠ 3 → M' j = M j) → M' 3 0 = nI (min p 3 + 1) → (∀ j i, j < min p 3 → i < 107 → M' 1 (107 * j + i) = M 1 (107 * (j + (p - min p 3)) + i)) → (∀ i, i < 107 → M' 1 (107 * min p 3 + i) = M 0 i) → P M') : P (sX5_changes M) := by
  unfold sX5_changes
  refine p_ltv (Q9 := P) (fun K90 e90 => ?_)
  refine p_lz2  (fun B58 L58 b58 h58 => ?_)
  have tail : ∀ (X : Cst) (q : Nat), q ≤ 3 → X 3 0 = nI q → (∀ M' : Cst, (∀ j, j ≠ 1 → j ≠ 3 → M' j = X j) → M' 3 0 = nI (q + 1) → (∀ i, i < 107 * q → M' 1 i = X 1 i) → (∀ i, i < 107 → M' 1 (107 * q + i) = X 0 i) → P M') → P (L58 108 X 0) := by
    intro X q hq hX3 kk
    refine pl2 h58 (fun k M' i => i = k ∧ (∀ j, j ≠ 1 → M' j = X j) ∧ (∀ i, i < 107 * q → M' 1 i = X 1 i) ∧ (∀ i, i < k → M' 1 (107 * q + i) = X 0 i)) 107 ?_ ?_ 108 0 _ 0 (by decide) (by decide) ⟨rfl, fun _ _ => rfl, fun _ _ => rfl, fun i hi => absurd hi (Nat.not_lt_zero i)⟩
    · rintro R k M' i hk ⟨rfl, h1, h2, h4⟩ hR
      rw [b58]
      refine p_ite (fun c => absurd c (nI_ge (b := 107) hk (by decide))) (fun _ => p_ltv (fun S eS => ?_))
      have e : (107 * M' 3 0 + nI i).toNatClampNeg = 107 * q + i := by
        rw [h1 3 (by decide), hX3, show (107 : Int32) = nI 107 from rfl, nI_mul, nI_add, nI_clamp (by omega)]
      rw [e] at eS; subst eS
      refine hR _ _ ⟨rfl, fun j hj => (pu_un _ _ _ hj).trans (h1 j hj), fun i' hi' => ?_, fun i' hi' => ?_⟩
      · rw [pu_up, if_pos rfl, if_neg (by omega)]; exact h2 i' hi'
      · rw [pu_up, if_pos rfl]
        by_cases e2 : i' = i
        · rw [if_pos (by omega), e2, h1 0 (by decide)]
        · rw [if_neg (by omega)]; exact h4 i' (by omega)
    · rintro R M' i ⟨rfl, h1, h2, h4⟩
      rw [b58]
      refine p_ite (fun _ => ?_) (fun c => absurd (show (107 : Int32) ≤ nI 107 from by decide) c)
      subst e90
      refine p_ltv (fun S eS => ?_)
      subst eS
      refine kk _ (fun j hj hj3 => (pu_un _ _ _ hj3).trans (h1 j hj)) ?_ (fun i hi => ?_) (fun i hi => ?_)
      · rw [pu_up, if_pos rfl, if_pos rfl, h1 3 (by decide), hX3]; exact nI_1 q
      · rw [pu_un _ _ _ (by decide)]; exact h2 i hi
      · rw [pu_un _ _ _ (by decide)]; exact h4 i hi
  refine p_ltv (fun K56 e56 => ?_)
  refine p_ltv (fun K46 e46 => ?_)
  refine p_lz2  (fun B18 L18 b18 h18 => ?_)
  refine p_ite (fun _ => ?_) (fun c => absurd h c)
  by_cases h4 : p = 4
  · subst h4
    refine p_ite (fun c => absurd h3 c) (fun _ => ?_)
    refine pl2 h18 (fun k M' i => i = k ∧ (∀ j, j ≠ 1 → M' j = M j) ∧ (∀ i, i < k → M' 1 i = M 1 (i + 107)) ∧ (∀ i, k ≤ i → M' 1 i = M 1 i)) 321 ?_ ?_ 322 0 _ 0 (by decide) (by decide) ⟨rfl, fun _ _ => rfl, fun i hi => absurd hi (Nat.not_lt_zero i), fun _ _ => rfl⟩
    · rintro R k M' i hk ⟨rfl, h1, h2, h6⟩ hR
      rw [b18]
      refine p_ite (fun c => absurd c (nI_ge (b := 321) hk (by decide))) (fun _ => p_ltv (fun S eS => ?_))
      subst eS
      refine hR _ _ ⟨rfl, fun j hj => (pu_un _ _ _ hj).trans (h1 j hj), fun i' hi' => ?_, fun i' hi' => ?_⟩
      · rw [pu_up, if_pos rfl]
        by_cases e2 : i' = i
        · rw [if_pos e2, e2]; exact h6 _ (by omega)
        · rw [if_neg e2]; exact h2 i' (by omega)
      · rw [pu_up, if_pos rfl, if_neg (by omega)]; exact h6 i' (by omega)
    · rintro R M' i ⟨rfl, h1, h2, h6⟩
      rw [b18]
      refine p_ite (fun _ => ?_) (fun c => absurd (show (321 : Int32) ≤ nI 321 from by decide) c)
      subst e46
      refine p_ltv (fun S eS => ?_)
      subst eS
      subst e56
      refine tail _ 3 (by decide) (by rw [pu_up, if_pos rfl, if_pos rfl, h1 3 (by decide), h3]; decide) (fun M2 g1 g2 g3 g4 => k M2 ?_ (fun j hj hj3 => ?_) ?_ (fun j i hj hi => ?_) (fun i hi => ?_))
      · rw [g1 0 (by decide) (by decide), pu_un _ _ _ (by decide), h1 0 (by decide)]
      · rw [g1 j hj hj3, pu_un _ _ _ hj3, h1 j hj]
      · rw [g2]; rfl
      · have hj' : j < 3 := hj
        rw [g3 _ (by omega), pu_un _ _ _ (by decide), h2 _ (by omega), show 107 * (j + (4 - min 4 3)) + i = 107 * j + i + 107 by omega]
      · have := g4 i hi
        rw [show 107 * min 4 3 + i = 107 * 3 + i from rfl, this, pu_un _ _ _ (by decide), h1 0 (by decide)]
  · refine p_ite (fun _ => ?_) (fun c => absurd (fun hh => h4 ((nI_eq (b := 4) (by omega) (by decide)).mp (h3.symm.trans hh))) c)
    have e : min p 3 = p := by omega
    subst e56
    refine tail _ p (by omega) h3 (fun M2 g1 g2 g3 g4 => k M2 (g1 0 (by decide) (by decide)) g1 ?_ (fun j i hj hi => ?_) (fun i hi => ?_))
    · rw [g2, e]
    · rw [e] at hj; rw [g3 _ (by omega), show 107 * (j + (p - min p 3)) + i = 107 * j + i by omega]
    · rw [e]; exact g4 i hi
end
section
/-! a new member -/
theorem pu_memberR {P : Int32 × Cst → Prop} {M : Cst} {x : Int32} {n : Nat} (h5 : M 0 5 = nI n) (hn : n ≤ 8) (hc : sX5_changes M 0 = M 0) (k1 : x < 0 ∨ 30 < x → P ((-10001), M)) (k2 : ¬ (x < 0 ∨ 30 < x) → n = 8 → P ((-10003), M)) (k3 : ¬ (x < 0 ∨ 30 < x) → n < 8 → ∀ M' : Cst, (∀ j, j ≠ 0 → M' j = sX5_changes M j) → (∀ i, M' 0 i = if i = 5 then nI (n + 1) else if i = 13 + 8 * n + 0 then x else if 13 + 8 * n ≤ i ∧ i < 13 + 8 * n + 8 then 0 else M 0 i) → P (nI n, M')) : P (sX5_member M x) := by
  unfold sX5_member
  refine p_ltv (Q9 := P) (fun K56 e56 => ?_)
  refine p_lz4 (fun B37 L37 b37 h37 => ?_)
  refine p_ltv (fun K31 e31 => ?_)
  refine p_ltv (fun r_4 e4 => ?_)
  rw [pu_in] at e4
  refine p_ite (fun c => ?_) (fun c => ?_)
  · have hx : ¬ (x < 0 ∨ 30 < x) := fun hh => c (by rw [e4, if_pos hh])
    refine p_ltv (fun v ev => ?_)
    rw [h5] at ev
    refine p_ite (fun c2 => ?_) (fun c2 => ?_)
    · have h8 : n < 8 := by
        rcases Nat.lt_or_ge n 8 with h | h
        · exact h
        · exact absurd (show v = 8 from by rw [ev, show n = 8 by omega]; rfl) c2
      rw [ev, nI_clamp (by omega)]
      subst e31
      refine p_ltv (fun S eS => ?_)
      refine pl4 h37 (fun k M' x' i2 i3 => x' = x ∧ i2 = n ∧ i3 = k ∧ (∀ j, j ≠ 0 → M' j = sX5_changes M j) ∧ ∀ i, M' 0 i = if 13 + 8 * n ≤ i ∧ i < 13 + 8 * n + k then 0 else M 0 i) 8 ?_ ?_ 9 0 _ _ _ _ (by decide) (by decide) ⟨rfl, rfl, rfl, fun j _ => by rw [eS], fun i => by rw [if_neg (by omega), eS, hc]⟩
      · rintro R k M' x' i2 i3 hk ⟨rfl, rfl, rfl, g1, g2⟩ hR
        rw [b37]
        refine p_ite (fun c => absurd c (pu_8n hk)) (fun _ => p_ltv (fun S2 eS2 => ?_))
        have eS3 : S2 = up M' 0 ((13 + (8 * i2)) + i3) 0 := eS2
        subst eS3
        refine hR _ _ _ _ ⟨rfl, rfl, rfl, fun j hj => (pu_un _ _ _ hj).trans (g1 j hj), fun i => ?_⟩
        rw [pu_up, if_pos rfl, g2 i]
        by_cases h1 : i = 13 + 8 * i2 + i3
        · rw [if_pos h1, if_pos (by omega)]
        · rw [if_neg h1]
          by_cases h2 : 13 + 8 * i2 ≤ i ∧ i < 13 + 8 * i2 + i3
          · rw [if_pos h2, if_pos (by omega)]
          · rw [if_neg h2, if_neg (by omega)]
      · rintro R M' x' i2 i3 ⟨rfl, rfl, rfl, g1, g2⟩
        rw [b37]
        refine p_ite (fun _ => ?_) (fun c => absurd pu_8y c)
        subst e56
        refine p_ltv (fun S2 eS2 => ?_)
        have eS3 : S2 = up M' 0 ((13 + (8 * i2)) + 0) x' := eS2
        subst eS3
        refine p_ltv (fun S4 eS4 => ?_)
        subst eS4
        refine k3 hx h8 _ (fun j hj => ?_) (fun i => ?_)
        · rw [pu_un _ _ _ hj, pu_un _ _ _ hj]; exact g1 j hj
        · rw [pu_up, if_pos rfl]
          by_cases h1 : i = 5
          · rw [if_pos h1, if_pos h1, pu_up, if_pos rfl, if_neg (by omega), g2, if_neg (by omega), h5]; exact nI_1 i2
          · rw [if_neg h1, if_neg h1, pu_up, if_pos rfl, g2]
    · have : n = 8 := by
        rcases Nat.lt_or_ge n 8 with h | h
        · exact absurd (fun hh : v = 8 => by rw [ev] at hh; have := (nI_eq (b := 8) (by omega) (by decide)).mp hh; omega) c2
        · omega
      exact k2 hx this
  · refine k1 (Decidable.byContradiction (fun hh => c (by rw [e4, if_neg hh]; decide)))
def CMD (T f : Nat) (M : Cst) (a b : Int32 × Cst) : Prop := a.1 = b.1 ∧ ((a.1 < 0 ∧ b.2 = M) ∨ (¬ a.1 < 0 ∧ RF T f a.2 (b.2 0) ∧ ∀ k, k ≠ 0 → k ≠ 7 → b.2 k = sX5_changes M k))
theorem CMD_ok {T f : Nat} {M C' M' : Cst} {a : Int32} (ha : ¬ a < 0) (hR : RF T f C' (M' 0)) (hk : ∀ k, k ≠ 0 → k ≠ 7 → M' k = sX5_changes M k) : CMD T f M (a, C') (a, M') := ⟨rfl, Or.inr ⟨ha, hR, hk⟩⟩
theorem pu_n1 : ((-10001) : Int32) < 0 := by decide
theorem pu_n2 : ((-10002) : Int32) < 0 := by decide
theorem pu_n3 : ((-10003) : Int32) < 0 := by decide
theorem pu_n4 : ((-10004) : Int32) < 0 := by decide
theorem pu_tb {m n : Nat} (h : m < 2 ^ n) : m.testBit n = false := Nat.testBit_lt_two_pow h
theorem pu_CMDmember {T f n t h m g : Nat} {C M : Cst} (x : Int32) (hc : sX5_changes M 0 = M 0) (hT : t ≤ T) (hf : g ≤ f) (hR : RC n t h m g C (M 0)) : CMD T f M (sX0_addMember C x) (sX5_member M x) := by
  obtain ⟨⟨hn, ht, hh, hm⟩, ⟨h9, r5, h10, r6, h11, r7, h12, r8, h13, r9, r10, r11⟩, ⟨hs1, hs2⟩, hr, hd, hz, hk1, hk2⟩ := hR
  refine pu_memberR (P := fun b => CMD T f M (sX0_addMember C x) b) r5 hn hc (fun c => ?_) (fun c h8 => ?_) (fun c h8 M' g1 g2 => ?_)
  · have : sX0_addMember C x = ((-10001), C) := by
      unfold sX0_addMember
      by_cases h : x < 0
      · rw [if_pos h]
      · rw [if_neg h, if_neg (Int32.not_le.mpr (c.resolve_left h))]
    rw [this]; exact ⟨rfl, Or.inl ⟨pu_n1, rfl⟩⟩
  · have : sX0_addMember C x = ((-10003), C) := by
      unfold sX0_addMember
      rw [if_neg (fun q => c (Or.inl q)), if_pos (Int32.not_lt.mp (fun q => c (Or.inr q))), h9, h8, if_neg (by decide)]
    rw [this]; exact ⟨rfl, Or.inl ⟨pu_n3, rfl⟩⟩
  · have : sX0_addMember C x = (nI n, up (up C 1 n x) 9 0 (nI (n + 1))) := by
      dsimp only [sX0_addMember, ltv]
      rw [if_neg (fun q => c (Or.inl q)), if_pos (Int32.not_lt.mp (fun q => c (Or.inr q))), h9, if_pos (show nI n < (8 : Int32) from nI_lt (b := 8) h8 (by decide)), nI_clamp (by omega)]
      have e : up C 1 n x 9 0 + 1 = nI (n + 1) := by rw [pu_un _ _ _ (by decide), h9]; exact nI_1 n
      rw [e, pu_up, if_pos rfl, if_pos rfl, nI_pred]
    rw [this]
    obtain ⟨a, ha, rfl⟩ := nI_of2 (M := 30) (n := 30) rfl (fun q => c (Or.inl q)) (Int32.not_lt.mp (fun q => c (Or.inr q)))
    have g0 : M' 0 5 = nI (n + 1) := by rw [g2, if_pos rfl]
    have gx : M' 0 (13 + 8 * n + 0) = nI a := by rw [g2, if_neg (by omega), if_pos rfl]
    have gz : ∀ w, 0 < w → w < 8 → M' 0 (13 + 8 * n + w) = 0 := fun w h1 h2 => by rw [g2, if_neg (by omega), if_neg (by omega), if_pos (by omega)]
    have g3 : ∀ i, i ≠ 5 → i < 13 + 8 * n ∨ 13 + 8 * n + 8 ≤ i → M' 0 i = M 0 i := fun i h1 h2 => by rw [g2, if_neg h1, if_neg (by omega), if_neg (by omega)]
    generalize hC : up (up C 1 n (nI a)) 9 0 (nI (n + 1)) = C'
    have c9 : C' 9 0 = nI (n + 1) := by rw [← hC, pu_up, if_pos rfl, if_pos rfl]
    have cc : ∀ k, k ≠ 9 → k ≠ 1 → C' k = C k := fun k h1 h2 => by rw [← hC, pu_un _ _ _ h1, pu_un _ _ _ h2]
    have c1 : ∀ i, C' 1 i = if i = n then nI a else C 1 i := fun i => by rw [← hC, pu_un _ _ _ (by decide), pu_up, if_pos rfl]
    refine CMD_ok (nI_pos (by omega)) ⟨n + 1, t, h, m, g, hT, hf, ?_⟩ (fun k h0 _ => g1 k h0)
    refine ⟨⟨by omega, ht, hh, Nat.lt_of_lt_of_le hm (Nat.pow_le_pow_right (by decide) (by omega))⟩, ?_, ⟨fun k hk => ?_, fun k hk => ?_⟩, fun i hi => ?_, fun i hi => ?_, fun i hi h8' => ?_, ?_, fun k w hk hw => ?_⟩
    · rw [RCs, c9, cc 10 (by decide) (by decide), cc 11 (by decide) (by decide), cc 12 (by decide) (by decide), cc 13 (by decide) (by decide), cc 14 (by decide) (by decide), cc 15 (by decide) (by decide), cc 16 (by decide) (by decide), g0, g3 6 (by decide) (by omega), g3 7 (by decide) (by omega), g3 8 (by decide) (by omega), g3 9 (by decide) (by omega), g3 10 (by decide) (by omega), g3 11 (by decide) (by omega)]
      exact ⟨rfl, rfl, h10, r6, h11, r7, h12, r8, h13, r9, r10, r11⟩
    · show M' 0 k = C' 0 k
      rw [g3 k (by omega) (by omega), cc 0 (by decide) (by decide)]; exact hs1 k hk
    · rw [cc 0 (by decide) (by decide)]; exact hs2 k hk
    · show M' 0 _ = _ ∧ M' 0 _ = _ ∧ M' 0 _ = _ ∧ M' 0 _ = _ ∧ M' 0 _ = _ ∧ M' 0 _ = _ ∧ M' 0 _ = _ ∧ M' 0 _ = _
      rw [c1, cc 2 (by decide) (by decide), cc 3 (by decide) (by decide), cc 4 (by decide) (by decide), cc 5 (by decide) (by decide), cc 6 (by decide) (by decide), cc 7 (by decide) (by decide)]
      by_cases e : i = n
      · subst e
        obtain ⟨z1, z2, z3, z4, z5, z6, z7⟩ := hz i (Nat.le_refl _) h8
        rw [if_pos rfl, gx, gz 1 (by decide) (by decide), gz 2 (by decide) (by decide), gz 3 (by decide) (by decide), gz 4 (by decide) (by decide), gz 5 (by decide) (by decide), gz 6 (by decide) (by decide), gz 7 (by decide) (by decide), z2, z3, z4, z5, z6, z7, pu_tb hm, if_neg (by decide)]
        exact ⟨rfl, rfl, rfl, rfl, rfl, rfl, rfl, rfl⟩
      · rw [if_neg e, g3 _ (by omega) (by omega), g3 _ (by omega) (by omega), g3 _ (by omega) (by omega), g3 _ (by omega) (by omega), g3 _ (by omega) (by omega), g3 _ (by omega) (by omega), g3 _ (by omega) (by omega), g3 _ (by omega) (by omega)]
        exact hr i (by omega)
    · obtain ⟨d1, d2, d3, d4⟩ := hd i hi
      rw [c1, cc 2 (by decide) (by decide), cc 5 (by decide) (by decide), cc 6 (by decide) (by decide)]
      refine ⟨?_, d2, d3, d4⟩
      by_cases e : i = n
      · rw [if_pos e]; exact ⟨a, ha, rfl⟩
      · rw [if_neg e]; exact d1
    · rw [c1, if_neg (by omega), cc 2 (by decide) (by decide), cc 3 (by decide) (by decide), cc 4 (by decide) (by decide), cc 5 (by decide) (by decide), cc 6 (by decide) (by decide), cc 7 (by decide) (by decide)]
      exact hz i (by omega) h8'
    · show M' 0 12 = _
      rw [g3 12 (by decide) (by omega)]; exact hk1
    · show M' 0 _ = _
      rw [g3 _ (by omega) (by omega), cc 8 (by decide) (by decide)]; exact hk2 k w hk hw
end
section
theorem pu_10 : ¬ (1 : Int32) = 0 := by decide
theorem pu_00 : ¬ ¬ (0 : Int32) = 0 := fun h => h rfl
/-! numbers of charges; use -/
theorem pu_sm_bd {f : Nat → Int32} {b : Nat} : ∀ {n : Nat}, (∀ i, i < n → ∃ a, a ≤ b ∧ f i = nI a) → ∃ s, s ≤ n * b ∧ pu_sm f n = nI s
  | 0, _ => ⟨0, Nat.zero_le _, rfl⟩
  | n + 1, h => by
    obtain ⟨s, hs, e⟩ := pu_sm_bd (n := n) (fun i hi => h i (by omega))
    obtain ⟨a, ha, e2⟩ := h n (by omega)
    refine ⟨s + a, by rw [Nat.add_mul, Nat.one_mul]; omega, ?_⟩
    show pu_sm f n + f n = _
    rw [e, e2, nI_add]
theorem pu_ah_bd {u : Nat → Int32} {n t p : Nat} (hn : n ≤ 8) (h : ∀ i, i < n → ∃ a, a ≤ 20 ∧ u i = nI a) : ∃ s, s ≤ 160 ∧ pu_ah u n t p = nI s := by
  obtain ⟨s, hs, e⟩ := pu_sm_bd (f := fun k => if pu_pl n t k < p then u k else 0) (b := 20) (n := n) (fun i hi => by
    by_cases c : pu_pl n t i < p
    · simp only [if_pos c]; exact h i hi
    · simp only [if_neg c]; exact ⟨0, by omega, rfl⟩)
  exact ⟨s, by omega, e⟩
theorem pu_ah_congr {u v : Nat → Int32} {n t p : Nat} (h : ∀ i, i < n → u i = v i) : pu_ah u n t p = pu_ah v n t p :=
  pu_sm_congr (fun i hi => by rw [h i hi])
theorem pu_dmN {d x : Nat} (h0 : 0 < d) (hd : d ≤ 200) (hx : x ≤ 200) : pu_dm (nI d) (nI x) = nI (x * x / d) := by
  have : x * x ≤ 200 * 200 := Nat.mul_le_mul hx hx
  show (nI x * nI x) / nI d = _
  rw [nI_mul, pk_div (by omega) h0 (by omega)]
theorem pu_dmB {d x : Nat} (hx : x ≤ 200) : x * x / d ≤ 40000 := Nat.le_trans (Nat.div_le_self _ _) (Nat.mul_le_mul hx hx)
theorem pu_chN {d a x : Nat} (h0 : 0 < d) (hd : d ≤ 200) (hx : a + x ≤ 200) : ∃ c, c ≤ 40000 ∧ pu_ch (nI d) (nI a) (nI x) = nI c := by
  refine ⟨(a + x) * (a + x) / d - a * a / d, Nat.le_trans (Nat.sub_le _ _) (pu_dmB hx), ?_⟩
  show pu_dm (nI d) (nI a + nI x) - pu_dm (nI d) (nI a) = _
  rw [nI_add, pu_dmN h0 hd hx, pu_dmN h0 hd (by omega), nI_sub]
  exact Nat.div_le_div_right (Nat.mul_le_mul (by omega) (by omega))
theorem pu_k0 {C : Cst} (h : ∀ k, k < 5 → sL k ≤ C 0 k ∧ C 0 k ≤ sM k) : ∃ d, 0 < d ∧ d ≤ 200 ∧ C 0 0 = nI d ∧ 1 ≤ C 0 0 := by
  obtain ⟨h1, h2⟩ := h 0 (by decide)
  have h1' : (1 : Int32) ≤ C 0 0 := h1
  have h2' : C 0 0 ≤ (200 : Int32) := h2
  obtain ⟨d, hd, e⟩ := nI_of2 (M := 200) (n := 200) rfl (fun q => absurd (Int32.le_trans h1' (Int32.le_of_lt q)) (by decide)) h2'
  refine ⟨d, ?_, hd, e, h1'⟩
  rcases Nat.eq_zero_or_pos d with h0 | h0
  · rw [e, h0] at h1'; exact absurd h1' (by decide)
  · exact h0
theorem pu_kn {C : Cst} {k b : Nat} {B : Int32} (hB : B.toInt = b) (h : sL k ≤ C 0 k ∧ C 0 k ≤ sM k) (h0 : 0 ≤ sL k) (hM : sM k = B) : ∃ d, d ≤ b ∧ C 0 k = nI d := by
  obtain ⟨d, hd, e⟩ := nI_of2 hB (x := C 0 k) (fun q => absurd (Int32.le_trans h0 h.1) (Int32.not_le.mpr q)) (by rw [← hM]; exact h.2)
  exact ⟨d, hd, e⟩
theorem pu_chargeOf {C : Cst} {n t i : Nat} (h9 : C 9 0 = nI n) (h10 : C 10 0 = nI t) (hd : 1 ≤ C 0 0) (hn : n ≤ 8) (ht : t ≤ 1000) (hi : i < n) (hz : ∀ k, n ≤ k → k < 8 → C 2 k = 0) : sX0_chargeOf C i = pu_ch (C 0 0) (pu_ah (C 2) n t (pu_pl n t i)) (C 2 i) := by
  dsimp only [sX0_chargeOf, ltv]
  rw [pu_ahead h9 h10 (by omega) hn ht (by omega) hz, pu_added hd]
/-- the relation behind one new use -/
theorem RC_use {n t h m g i a : Nat} {C C' : Cst} {r r' : Nat → Int32} (hR : RC n t h m g C r) (hi : i < n) (ha : a ≤ 20) (hC : ∀ k, k ≠ 2 → C' k = C k) (hC2 : ∀ j, C' 2 j = if j = i then nI a else C 2 j) (hr1 : r' (13 + 8 * i + 1) = nI a) (hr : ∀ j, j ≠ 13 + 8 * i + 1 → r' j = r j) : RC n t h m g C' r' := by
  obtain ⟨⟨hn, ht, hh, hm⟩, ⟨h9, r5, h10, r6, h11, r7, h12, r8, h13, r9, r10, r11⟩, ⟨hs1, hs2⟩, hrr, hd, hz, hk1, hk2⟩ := hR
  refine ⟨⟨hn, ht, hh, hm⟩, ?_, ⟨fun k hk => ?_, fun k hk => ?_⟩, fun j hj => ?_, fun j hj => ?_, fun j hj h8 => ?_, ?_, fun k w hk hw => ?_⟩
  · rw [RCs, hC 9 (by decide), hC 10 (by decide), hC 11 (by decide), hC 12 (by decide), hC 13 (by decide), hC 14 (by decide), hC 15 (by decide), hC 16 (by decide), hr 5 (by omega), hr 6 (by omega), hr 7 (by omega), hr 8 (by omega), hr 9 (by omega), hr 10 (by omega), hr 11 (by omega)]
    exact ⟨h9, r5, h10, r6, h11, r7, h12, r8, h13, r9, r10, r11⟩
  · rw [hr k (by omega), hC 0 (by decide)]; exact hs1 k hk
  · rw [hC 0 (by decide)]; exact hs2 k hk
  · obtain ⟨q0, q1, q2, q3, q4, q5, q6, q7⟩ := hrr j hj
    rw [hC 1 (by decide), hC2, hC 3 (by decide), hC 4 (by decide), hC 5 (by decide), hC 6 (by decide), hC 7 (by decide), hr _ (by omega), hr (13 + 8 * j + 2) (by omega), hr (13 + 8 * j + 3) (by omega), hr (13 + 8 * j + 4) (by omega), hr (13 + 8 * j + 5) (by omega), hr (13 + 8 * j + 6) (by omega), hr (13 + 8 * j + 7) (by omega)]
    refine ⟨q0, ?_, q2, q3, q4, q5, q6, q7⟩
    by_cases e : j = i
    · rw [if_pos e, e]; exact hr1
    · rw [if_neg e, hr _ (by omega)]; exact q1
  · obtain ⟨d1, d2, d3, d4⟩ := hd j hj
    rw [hC 1 (by decide), hC2, hC 5 (by decide), hC 6 (by decide)]
    refine ⟨d1, ?_, d3, d4⟩
    by_cases e : j = i
    · rw [if_pos e]; exact ⟨a, ha, rfl⟩
    · rw [if_neg e]; exact d2
  · rw [hC 1 (by decide), hC2, if_neg (by omega), hC 3 (by decide), hC 4 (by decide), hC 5 (by decide), hC 6 (by decide), hC 7 (by decide)]
    exact hz j hj h8
  · rw [hr 12 (by omega)]; exact hk1
  · rw [hr _ (by omega), hC 8 (by decide)]; exact hk2 k w hk hw
theorem pu_inN {x : Int32} {b : Nat} {B : Int32} (hB : B.toInt = b) : sX5_in x 0 B = 0 ∨ (sX5_in x 0 B = 1 ∧ ∃ a, a ≤ b ∧ x = nI a) := by
  rw [pu_in]
  by_cases c : x < 0 ∨ B < x
  · exact Or.inl (if_pos c)
  · exact Or.inr ⟨if_neg c, nI_of2 hB (fun q => c (Or.inl q)) (Int32.not_lt.mp (fun q => c (Or.inr q)))⟩
theorem pu_units (x : Int32) : sX4_isUnits x = sX5_in x 0 20 := rfl
theorem pu_CMDuse {T f n t h m g : Nat} {C M : Cst} (x y : Int32) (hc : sX5_changes M 0 = M 0) (hT : t ≤ T) (hf : g ≤ f) (hR : RC n t h m g C (M 0)) : CMD T f M (sX0_declareUse C x y) (sX5_use M x y) := by
  have hR' := hR
  obtain ⟨⟨hn, ht, hh, hm⟩, ⟨h9, r5, h10, r6, h11, r7, h12, r8, h13, r9, r10, r11⟩, ⟨hs1, hs2⟩, hrr, hd, hz, hk1, hk2⟩ := hR
  dsimp only [sX0_declareUse, sX5_use, ltv]
  rw [pu_units]
  rcases pu_has_mem h9 r5 hn x with ⟨e1, e2, _⟩ | ⟨i, hi, rfl, e1, e2⟩
  · rw [e1, e2, if_pos rfl, if_pos rfl]; exact ⟨rfl, Or.inl ⟨pu_n1, rfl⟩⟩
  rw [e1, e2, if_neg pu_10, if_neg pu_10]
  rcases pu_inN (x := y) (b := 20) (B := 20) rfl with e3 | ⟨e3, a, ha, rfl⟩
  · rw [e3, if_neg pu_00, if_neg pu_00]; exact ⟨rfl, Or.inl ⟨pu_n1, rfl⟩⟩
  rw [e3, if_pos pu_10, if_pos pu_10, nI_clamp (by omega), pu_isOut h13 (pu_m8 hn hm) (by omega)]
  have e6 : sX5_of M i 6 = if m.testBit i then 1 else 0 := (hrr i hi).2.2.2.2.2.2.1
  rw [e6]
  by_cases ho : m.testBit i = true
  · rw [if_pos ho, if_neg pu_10, if_neg (fun hh => hh rfl)]; exact ⟨rfl, Or.inl ⟨pu_n2, rfl⟩⟩
  rw [if_neg ho, if_pos rfl, if_pos (show ¬ (0 : Int32) = 1 by decide)]
  obtain ⟨d, d0, d200, ed, e1d⟩ := pu_k0 hs2
  generalize hC' : up C 2 i (nI a) = C'
  have c2 : ∀ j, C' 2 j = if j = i then nI a else C 2 j := fun j => by rw [← hC', pu_up, if_pos rfl]
  have cc : ∀ k, k ≠ 2 → C' k = C k := fun k hk => by rw [← hC', pu_un _ _ _ hk]
  generalize hM' : sX5_puts (sX5_changes M) i 1 (nI a) = M'
  have m1 : M' 0 (13 + 8 * i + 1) = nI a := by rw [← hM']; show up (sX5_changes M) 0 (13 + 8 * i + 1) (nI a) 0 _ = _; rw [pu_up, if_pos rfl, if_pos rfl]
  have mm : ∀ j, j ≠ 13 + 8 * i + 1 → M' 0 j = M 0 j := fun j hj => by rw [← hM']; show up (sX5_changes M) 0 (13 + 8 * i + 1) (nI a) 0 _ = _; rw [pu_up, if_pos rfl, if_neg hj, hc]
  have mk : ∀ k, k ≠ 0 → M' k = sX5_changes M k := fun k hk => by rw [← hM']; exact pu_un _ _ _ hk
  have hR2 : RC n t h m g C' (M' 0) := RC_use hR' hi ha cc c2 m1 mm
  obtain ⟨⟨_, _, _, _⟩, ⟨h9', r5', h10', r6', _⟩, ⟨hs1', hs2'⟩, hrr', hd', hz', _⟩ := hR2
  have eA : sX0_chargeOf C' i = pu_ch (C' 0 0) (pu_ah (C' 2) n t (pu_pl n t i)) (nI a) := by
    rw [pu_chargeOf h9' h10' (by rw [cc 0 (by decide)]; exact e1d) hn ht hi (fun k h1 h2 => (hz' k h1 h2).2.1), c2, if_pos rfl]
  have eB : sX5_chargeFor M' (nI i) (nI a) = pu_ch (C' 0 0) (pu_ah (C' 2) n t (pu_pl n t i)) (nI a) := by
    rw [pu_chargeR r5' r6' hn ht hi, hs1' 0 (by decide), pu_ah_congr (fun k hk => (hrr' k hk).2.1)]
  rw [eA, eB]
  refine CMD_ok ?_ ⟨n, t, h, m, g, hT, hf, RC_use hR' hi ha cc c2 m1 mm⟩ (fun k hk _ => mk k hk)
  obtain ⟨s, hs, es⟩ := pu_ah_bd (u := C' 2) (t := t) (p := pu_pl n t i) hn (fun k hk => (hd' k (by omega)).2.1)
  obtain ⟨c, hc, ec⟩ := pu_chN (a := s) (x := a) d0 d200 (by omega)
  rw [cc 0 (by decide), ed, es, ec]
  exact nI_pos (by omega)
end
section
/-! pay, set -/
theorem pu_subnn {x y : Int32} (h1 : 0 ≤ y) (h : y ≤ x) : ¬ x - y < 0 := by
  obtain ⟨b, hb, rfl⟩ := nI_of (Int32.not_lt.mpr h1)
  obtain ⟨a, ha, rfl⟩ := nI_of (Int32.not_lt.mpr (Int32.le_trans h1 h))
  have := (nI_leI hb ha).mp h
  rw [nI_sub this]; exact nI_pos (by omega)
theorem pu_CMDpay {T f n t h m g : Nat} {C M : Cst} (x y : Int32) (hc : sX5_changes M 0 = M 0) (hT : t ≤ T) (hf : g ≤ f) (hR : RC n t h m g C (M 0)) : CMD T (f + 999) M (sX0_payCoins C x y) (sX5_pay M x y) := by
  obtain ⟨⟨hn, ht, hh, hm⟩, ⟨h9, r5, h10, r6, h11, r7, h12, r8, h13, r9, r10, r11⟩, ⟨hs1, hs2⟩, hrr, hd, hz, hk1, hk2⟩ := hR
  dsimp only [sX0_payCoins, sX5_pay, ltv]
  rcases pu_has_mem h9 r5 hn x with ⟨e1, e2, _⟩ | ⟨i, hi, rfl, e1, e2⟩
  · rw [e1, e2, if_pos rfl, if_pos rfl]; exact ⟨rfl, Or.inl ⟨pu_n1, rfl⟩⟩
  rw [e1, e2, if_neg pu_10, if_neg pu_10, pu_in]
  by_cases c1 : y < 1
  · rw [if_pos c1, if_pos (Or.inl c1), if_neg pu_00]; exact ⟨rfl, Or.inl ⟨pu_n1, rfl⟩⟩
  by_cases c2 : 999 < y
  · rw [if_neg c1, if_neg (Int32.not_le.mpr c2), if_pos (Or.inr c2), if_neg pu_00]; exact ⟨rfl, Or.inl ⟨pu_n1, rfl⟩⟩
  rw [if_neg c1, if_pos (Int32.not_lt.mp c2), if_neg (show ¬ (y < 1 ∨ 999 < y) from fun q => q.elim c1 c2), if_pos pu_10, nI_clamp (by omega)]
  obtain ⟨q0, q1, q2, q3, q4, q5, q6, q7⟩ := hrr i hi
  rw [show sX5_of M i 2 = C 3 i from q2]
  by_cases c3n : ¬ y ≤ C 3 i
  · rw [if_neg c3n, if_neg c3n]; exact ⟨rfl, Or.inl ⟨pu_n2, rfl⟩⟩
  have c3 : y ≤ C 3 i := Decidable.not_not.mp c3n
  rw [if_pos c3, if_pos c3]
  have y1 : (1 : Int32) ≤ y := Int32.not_lt.mp c1
  obtain ⟨b, hb, rfl⟩ := nI_of2 (M := 999) (n := 999) rfl (fun q => absurd (Int32.le_trans y1 (Int32.le_of_lt q)) (by decide)) (Int32.not_lt.mp c2)
  have a3 : up C 3 i (C 3 i - nI b) 4 i = C 4 i := by rw [pu_un _ _ _ (by decide)]
  have a12 : up (up C 3 i (C 3 i - nI b)) 4 i (up C 3 i (C 3 i - nI b) 4 i + nI b) 12 0 = nI g := by rw [pu_un _ _ _ (by decide), pu_un _ _ _ (by decide), h12]
  rw [a12, a3, nI_add]
  generalize hC' : up (up (up C 3 i (C 3 i - nI b)) 4 i (C 4 i + nI b)) 12 0 (nI (g + b)) = C'
  have c12 : C' 12 0 = nI (g + b) := by rw [← hC', pu_up, if_pos rfl, if_pos rfl]
  have cc : ∀ k, k ≠ 3 → k ≠ 4 → k ≠ 12 → C' k = C k := fun k h1 h2 h3 => by rw [← hC', pu_un _ _ _ h3, pu_un _ _ _ h2, pu_un _ _ _ h1]
  have c_3 : ∀ j, C' 3 j = if j = i then C 3 i - nI b else C 3 j := fun j => by rw [← hC', pu_un _ _ _ (by decide), pu_un _ _ _ (by decide), pu_up, if_pos rfl]
  have c_4 : ∀ j, C' 4 j = if j = i then C 4 i + nI b else C 4 j := fun j => by rw [← hC', pu_un _ _ _ (by decide), pu_up, if_pos rfl, pu_un _ _ _ (by decide)]
  have f2 : sX5_of (sX5_changes M) i 2 = C 3 i := by show sX5_changes M 0 _ = _; rw [hc]; exact q2
  have f3 : sX5_of (sX5_puts (sX5_changes M) i 2 (C 3 i - nI b)) i 3 = C 4 i := by
    show up (sX5_changes M) 0 (13 + 8 * i + 2) _ 0 (13 + 8 * i + 3) = _
    rw [pu_up, if_pos rfl, if_neg (by omega), hc]; exact q3
  have f8 : sX5_puts (sX5_puts (sX5_changes M) i 2 (C 3 i - nI b)) i 3 (C 4 i + nI b) 0 8 = nI g := by
    show up (up (sX5_changes M) 0 (13 + 8 * i + 2) _) 0 (13 + 8 * i + 3) _ 0 8 = _
    rw [pu_up, if_pos rfl, if_neg (by omega), pu_up, if_pos rfl, if_neg (by omega), hc, r8]
  rw [f2, f3, f8, nI_add]
  generalize hM' : up (sX5_puts (sX5_puts (sX5_changes M) i 2 (C 3 i - nI b)) i 3 (C 4 i + nI b)) 0 8 (nI (g + b)) = M'
  have hM2 : M' = up (up (up (sX5_changes M) 0 (13 + 8 * i + 2) (C 3 i - nI b)) 0 (13 + 8 * i + 3) (C 4 i + nI b)) 0 8 (nI (g + b)) := hM'.symm
  have m8 : M' 0 8 = nI (g + b) := by rw [hM2, pu_up, if_pos rfl, if_pos rfl]
  have m2 : M' 0 (13 + 8 * i + 2) = C 3 i - nI b := by rw [hM2, pu_up, if_pos rfl, if_neg (by omega), pu_up, if_pos rfl, if_neg (by omega), pu_up, if_pos rfl, if_pos rfl]
  have m3 : M' 0 (13 + 8 * i + 3) = C 4 i + nI b := by rw [hM2, pu_up, if_pos rfl, if_neg (by omega), pu_up, if_pos rfl, if_pos rfl]
  have mm : ∀ j, j ≠ 8 → j ≠ 13 + 8 * i + 2 → j ≠ 13 + 8 * i + 3 → M' 0 j = M 0 j := fun j h1 h2 h3 => by rw [hM2, pu_up, if_pos rfl, if_neg h1, pu_up, if_pos rfl, if_neg h3, pu_up, if_pos rfl, if_neg h2, hc]
  have mk : ∀ k, k ≠ 0 → M' k = sX5_changes M k := fun k hk => by rw [hM2, pu_un _ _ _ hk, pu_un _ _ _ hk, pu_un _ _ _ hk]
  rw [show sX5_of M' i 2 = C 3 i - nI b from m2, c_3, if_pos rfl]
  refine CMD_ok (pu_subnn (nI_pos' (by omega)) c3) ⟨n, t, h, m, g + b, hT, by omega, ?_⟩ (fun k hk _ => mk k hk)
  refine ⟨⟨hn, ht, hh, hm⟩, ?_, ⟨fun k hk => ?_, fun k hk => ?_⟩, fun j hj => ?_, fun j hj => ?_, fun j hj h8 => ?_, ?_, fun k w hk hw => ?_⟩
  · rw [RCs, cc 9 (by decide) (by decide) (by decide), cc 10 (by decide) (by decide) (by decide), cc 11 (by decide) (by decide) (by decide), c12, cc 13 (by decide) (by decide) (by decide), cc 14 (by decide) (by decide) (by decide), cc 15 (by decide) (by decide) (by decide), cc 16 (by decide) (by decide) (by decide), m8, mm 5 (by decide) (by omega) (by omega), mm 6 (by decide) (by omega) (by omega), mm 7 (by decide) (by omega) (by omega), mm 9 (by decide) (by omega) (by omega), mm 10 (by decide) (by omega) (by omega), mm 11 (by decide) (by omega) (by omega)]
    exact ⟨h9, r5, h10, r6, h11, r7, rfl, rfl, h13, r9, r10, r11⟩
  · rw [mm k (by omega) (by omega) (by omega), cc 0 (by decide) (by decide) (by decide)]; exact hs1 k hk
  · rw [cc 0 (by decide) (by decide) (by decide)]; exact hs2 k hk
  · rw [cc 1 (by decide) (by decide) (by decide), cc 2 (by decide) (by decide) (by decide), c_3, c_4, cc 5 (by decide) (by decide) (by decide), cc 6 (by decide) (by decide) (by decide), cc 7 (by decide) (by decide) (by decide)]
    rw [mm (13 + 8 * j + 0) (by omega) (by omega) (by omega), mm (13 + 8 * j + 1) (by omega) (by omega) (by omega), mm (13 + 8 * j + 4) (by omega) (by omega) (by omega), mm (13 + 8 * j + 5) (by omega) (by omega) (by omega), mm (13 + 8 * j + 6) (by omega) (by omega) (by omega), mm (13 + 8 * j + 7) (by omega) (by omega) (by omega)]
    obtain ⟨p0, p1, p2, p3, p4, p5, p6, p7⟩ := hrr j hj
    refine ⟨p0, p1, ?_, ?_, p4, p5, p6, p7⟩
    · by_cases e : j = i
      · rw [if_pos e, e]; exact m2
      · rw [if_neg e, mm _ (by omega) (by omega) (by omega)]; exact p2
    · by_cases e : j = i
      · rw [if_pos e, e]; exact m3
      · rw [if_neg e, mm _ (by omega) (by omega) (by omega)]; exact p3
  · rw [cc 1 (by decide) (by decide) (by decide), cc 2 (by decide) (by decide) (by decide), cc 5 (by decide) (by decide) (by decide), cc 6 (by decide) (by decide) (by decide)]; exact hd j hj
  · rw [cc 1 (by decide) (by decide) (by decide), cc 2 (by decide) (by decide) (by decide), c_3, if_neg (by omega), c_4, if_neg (by omega), cc 5 (by decide) (by decide) (by decide), cc 6 (by decide) (by decide) (by decide), cc 7 (by decide) (by decide) (by decide)]
    exact hz j hj h8
  · rw [mm 12 (by decide) (by omega) (by omega)]; exact hk1
  · rw [mm _ (by omega) (by omega) (by omega), cc 8 (by decide) (by decide) (by decide)]; exact hk2 k w hk hw
theorem pu_setb : ∀ i, i < 5 → 0 ≤ sL i := by decide
theorem pu_CMDset {T f n t hl m g : Nat} {C M : Cst} (x y : Int32) (hc : sX5_changes M 0 = M 0) (hT : t ≤ T) (hf : g ≤ f) (hR : RC n t hl m g C (M 0)) : CMD T f M (sX0_changeSetting C x y) (sX5_set M x y) := by
  obtain ⟨⟨hn, ht, hh, hm⟩, ⟨h9, r5, h10, r6, h11, r7, h12, r8, h13, r9, r10, r11⟩, ⟨hs1, hs2⟩, hrr, hd, hz, hk1, hk2⟩ := hR
  have eR : ∀ i, i < 5 → sX5_set M (nI i) y = if y < sL i ∨ sM i < y then ((-10001), M) else (sX5_changes M 0 i, up (sX5_changes M) 0 i y) := by
    intro i hi
    have hcase : i = 0 ∨ i = 1 ∨ i = 2 ∨ i = 3 ∨ i = 4 := by omega
    dsimp only [sX5_set, ltv]
    rw [nI_clamp (by omega)]
    rcases hcase with rfl | rfl | rfl | rfl | rfl
    · rw [if_pos (show nI 0 = 0 from rfl), if_neg (show ¬ ¬ nI 0 = 0 by decide), show sX5_in (nI 0) 0 4 = 1 by decide, if_neg pu_10, pu_in]
      show (if ¬ (if y < sL 0 ∨ sM 0 < y then (0 : Int32) else 1) = 0 then _ else _) = _
      by_cases c : y < sL 0 ∨ sM 0 < y
      · rw [if_pos c, if_pos c, if_neg pu_00]
      · rw [if_neg c, if_neg c, if_pos pu_10]
    · rw [if_neg (show ¬ nI 1 = 0 by decide), if_pos (show ¬ nI 1 = 4 by decide), if_pos (show ¬ nI 1 = 0 by decide), if_neg (show ¬ ¬ nI 1 = 1 by decide), show sX5_in (nI 1) 0 4 = 1 by decide, if_neg pu_10, pu_in]
      show (if ¬ (if y < sL 1 ∨ sM 1 < y then (0 : Int32) else 1) = 0 then _ else _) = _
      by_cases c : y < sL 1 ∨ sM 1 < y
      · rw [if_pos c, if_pos c, if_neg pu_00]
      · rw [if_neg c, if_neg c, if_pos pu_10]
    · rw [if_neg (show ¬ nI 2 = 0 by decide), if_pos (show ¬ nI 2 = 4 by decide), if_pos (show ¬ nI 2 = 0 by decide), if_pos (show ¬ nI 2 = 1 by decide), if_neg (show ¬ ¬ nI 2 = 2 by decide), show sX5_in (nI 2) 0 4 = 1 by decide, if_neg pu_10, pu_in]
      show (if ¬ (if y < sL 2 ∨ sM 2 < y then (0 : Int32) else 1) = 0 then _ else _) = _
      by_cases c : y < sL 2 ∨ sM 2 < y
      · rw [if_pos c, if_pos c, if_neg pu_00]
      · rw [if_neg c, if_neg c, if_pos pu_10]
    · rw [if_neg (show ¬ nI 3 = 0 by decide), if_pos (show ¬ nI 3 = 4 by decide), if_pos (show ¬ nI 3 = 0 by decide), if_pos (show ¬ nI 3 = 1 by decide), if_pos (show ¬ nI 3 = 2 by decide), if_neg (show ¬ ¬ nI 3 = 3 by decide), show sX5_in (nI 3) 0 4 = 1 by decide, if_neg pu_10, pu_in]
      show (if ¬ (if y < sL 3 ∨ sM 3 < y then (0 : Int32) else 1) = 0 then _ else _) = _
      by_cases c : y < sL 3 ∨ sM 3 < y
      · rw [if_pos c, if_pos c, if_neg pu_00]
      · rw [if_neg c, if_neg c, if_pos pu_10]
    · rw [if_neg (show ¬ nI 4 = 0 by decide), if_neg (show ¬ ¬ nI 4 = 4 by decide), if_pos (show ¬ nI 4 = 0 by decide), if_pos (show ¬ nI 4 = 1 by decide), if_pos (show ¬ nI 4 = 2 by decide), if_pos (show ¬ nI 4 = 3 by decide), show sX5_in (nI 4) 0 4 = 1 by decide, if_neg pu_10, pu_in]
      show (if ¬ (if y < sL 4 ∨ sM 4 < y then (0 : Int32) else 1) = 0 then _ else _) = _
      by_cases c : y < sL 4 ∨ sM 4 < y
      · rw [if_pos c, if_pos c, if_neg pu_00]
      · rw [if_neg c, if_neg c, if_pos pu_10]
  by_cases h : x < 0
  · have e1 : sX0_changeSetting C x y = ((-10001), C) := by
      dsimp only [sX0_changeSetting, ltv]; rw [if_pos h]
    have e2 : sX5_set M x y = ((-10001), M) := by
      dsimp only [sX5_set, ltv]
      rw [if_neg (show ¬ x = 0 from fun q => by rw [q] at h; exact absurd h (by decide)), if_pos (show ¬ x = 4 from fun q => by rw [q] at h; exact absurd h (by decide)), if_pos (show ¬ x = 0 from fun q => by rw [q] at h; exact absurd h (by decide)), if_pos (show ¬ x = 1 from fun q => by rw [q] at h; exact absurd h (by decide)), if_pos (show ¬ x = 2 from fun q => by rw [q] at h; exact absurd h (by decide)), if_pos (show ¬ x = 3 from fun q => by rw [q] at h; exact absurd h (by decide)), pu_in x, if_pos (Or.inl h), if_pos rfl]
    rw [e1, e2]; exact ⟨rfl, Or.inl ⟨pu_n1, rfl⟩⟩
  obtain ⟨i, hi, rfl⟩ := nI_of h
  by_cases h5 : 5 ≤ i
  · have e1 : sX0_changeSetting C (nI i) y = ((-10001), C) := by
      dsimp only [sX0_changeSetting, ltv]; rw [if_neg h, if_neg (show ¬ nI i < (5 : Int32) from nI_nlt (a := i) (b := 5) h5 hi)]
    have ne : ∀ k, k < 5 → ¬ nI i = nI k := fun k hk q => by have := (nI_eq hi (by omega)).mp q; omega
    have e2 : sX5_set M (nI i) y = ((-10001), M) := by
      dsimp only [sX5_set, ltv]
      rw [if_neg (show ¬ nI i = 0 from ne 0 (by decide)), if_pos (show ¬ nI i = 4 from ne 4 (by decide)), if_pos (show ¬ nI i = 0 from ne 0 (by decide)), if_pos (show ¬ nI i = 1 from ne 1 (by decide)), if_pos (show ¬ nI i = 2 from ne 2 (by decide)), if_pos (show ¬ nI i = 3 from ne 3 (by decide)), pu_in (nI i), if_pos (show nI i < 0 ∨ (4 : Int32) < nI i from Or.inr (nI_lt (a := 4) (by omega) hi)), if_pos rfl]
    rw [e1, e2]; exact ⟨rfl, Or.inl ⟨pu_n1, rfl⟩⟩
  have hi5 : i < 5 := by omega
  rw [eR i hi5]
  dsimp only [sX0_changeSetting, ltv]
  rw [if_neg h, if_pos (show nI i < (5 : Int32) from nI_lt (b := 5) hi5 (by decide)), nI_clamp hi]
  by_cases c1 : y < sL i
  · rw [if_pos c1, if_pos (Or.inl c1)]; exact ⟨rfl, Or.inl ⟨pu_n1, rfl⟩⟩
  by_cases c2 : sM i < y
  · rw [if_neg c1, if_neg (Int32.not_le.mpr c2), if_pos (Or.inr c2)]; exact ⟨rfl, Or.inl ⟨pu_n1, rfl⟩⟩
  rw [if_neg c1, if_pos (Int32.not_lt.mp c2), if_neg (show ¬ (y < sL i ∨ sM i < y) from fun q => q.elim c1 c2), hc, hs1 i hi5]
  refine CMD_ok (Int32.not_lt.mpr (Int32.le_trans (pu_setb i hi5) (hs2 i hi5).1)) ⟨n, t, hl, m, g, hT, hf, ?_⟩ (fun k hk _ => pu_un _ _ _ hk)
  have cc : ∀ k, k ≠ 0 → up C 0 i y k = C k := fun k hk => pu_un _ _ _ hk
  have mm : ∀ j, j ≠ i → up (sX5_changes M) 0 i y 0 j = M 0 j := fun j hj => by rw [pu_up, if_pos rfl, if_neg hj, hc]
  refine ⟨⟨hn, ht, hh, hm⟩, ?_, ⟨fun k hk => ?_, fun k hk => ?_⟩, fun j hj => ?_, fun j hj => ?_, fun j hj h8 => ?_, ?_, fun k w hk hw => ?_⟩
  · rw [RCs, cc 9 (by decide), cc 10 (by decide), cc 11 (by decide), cc 12 (by decide), cc 13 (by decide), cc 14 (by decide), cc 15 (by decide), cc 16 (by decide), mm 5 (by omega), mm 6 (by omega), mm 7 (by omega), mm 8 (by omega), mm 9 (by omega), mm 10 (by omega), mm 11 (by omega)]
    exact ⟨h9, r5, h10, r6, h11, r7, h12, r8, h13, r9, r10, r11⟩
  · rw [pu_up, if_pos rfl, pu_up, if_pos rfl]
    by_cases e : k = i
    · rw [if_pos e, if_pos e]
    · rw [if_neg e, if_neg e, hc]; exact hs1 k hk
  · rw [pu_up, if_pos rfl]
    by_cases e : k = i
    · rw [if_pos e, e]; exact ⟨Int32.not_lt.mp c1, Int32.not_lt.mp c2⟩
    · rw [if_neg e]; exact hs2 k hk
  · rw [cc 1 (by decide), cc 2 (by decide), cc 3 (by decide), cc 4 (by decide), cc 5 (by decide), cc 6 (by decide), cc 7 (by decide), mm _ (by omega), mm _ (by omega), mm _ (by omega), mm _ (by omega), mm _ (by omega), mm _ (by omega), mm _ (by omega), mm _ (by omega)]
    exact hrr j hj
  · rw [cc 1 (by decide), cc 2 (by decide), cc 5 (by decide), cc 6 (by decide)]; exact hd j hj
  · rw [cc 1 (by decide), cc 2 (by decide), cc 3 (by decide), cc 4 (by decide), cc 5 (by decide), cc 6 (by decide), cc 7 (by decide)]
    exact hz j hj h8
  · rw [mm 12 (by omega)]; exact hk1
  · rw [mm _ (by omega), cc 8 (by decide)]; exact hk2 k w hk hw
end
section
/-! repair -/
def pu_l1 (q : Nat → Int32) (x : Int32) : Nat → Int32
  | 0 => x
  | k + 1 => pu_l1 q x k - q k
theorem pu_l1_zero {q : Nat → Int32} {x : Int32} {n : Nat} : ∀ {m : Nat}, n ≤ m → (∀ i, n ≤ i → i < m → q i = 0) → pu_l1 q x m = pu_l1 q x n
  | 0, h, _ => by rw [show n = 0 by omega]
  | m + 1, h, h0 => by
    by_cases e : n = m + 1
    · rw [e]
    · show pu_l1 q x m - q m = _
      rw [pu_l1_zero (m := m) (by omega) (fun i h1 h2 => h0 i h1 (by omega)), h0 m (by omega) (by omega), Int32.sub_zero]
theorem pu_l1_congr {f g : Nat → Int32} {x : Int32} : ∀ {n : Nat}, (∀ i, i < n → f i = g i) → pu_l1 f x n = pu_l1 g x n
  | 0, _ => rfl
  | n + 1, h => by
    show pu_l1 f x n - f n = pu_l1 g x n - g n
    rw [pu_l1_congr (fun i hi => h i (by omega)), h n (by omega)]
def pu_lv (u : Nat → Int32) (L : Int32) : Nat → Int32
  | 0 => L
  | k + 1 => if 0 < u k ∧ 0 < pu_lv u L k then pu_lv u L k - 1 else pu_lv u L k
theorem pu_lv_congr {f g : Nat → Int32} {x : Int32} : ∀ {n : Nat}, (∀ i, i < n → f i = g i) → pu_lv f x n = pu_lv g x n
  | 0, _ => rfl
  | n + 1, h => by
    simp only [pu_lv]
    rw [pu_lv_congr (fun i hi => h i (by omega)), h n (by omega)]
def pu_mo (u : Nat → Int32) (L : Int32) (i : Nat) : Int32 := if 0 < u i ∧ 0 < pu_lv u L i then 1 else 0
theorem pu_owe {P : Cst → Prop} {C : Cst} {x : Int32} {q : Nat → Int32} (hq : ∀ i, q i = sX4_quotient (x * C 5 i) (pu_sm (C 5) 8)) (k : ∀ C' : Cst, (∀ k, k ≠ 3 → C' k = C k) → (∀ i, i < 8 → C' 3 i = C 3 i + q i + pu_mo (C 5) (pu_l1 q x 8) i) → P C') : P (sX0_oweByUses C x) := by
  unfold sX0_oweByUses
  refine p_lz3 (Q9 := P) (fun B61 L61 b61 h61 => ?_)
  refine p_ltv (fun K58 e58 => ?_)
  refine p_lz5 (fun B13 L13 b13 h13 => ?_)
  refine p_ltv (fun all eall => ?_)
  rw [pu_sum5] at eall
  refine pl5 h13 (fun k C' x1 x2 x3 i4 => i4 = k ∧ x1 = x ∧ x2 = all ∧ x3 = pu_l1 q x k ∧ (∀ k, k ≠ 3 → C' k = C k) ∧ (∀ i, C' 3 i = if i < k then C 3 i + q i else C 3 i)) 8 ?_ ?_ 9 0 _ _ _ _ _ (by decide) (by decide) ⟨rfl, rfl, rfl, rfl, fun _ _ => rfl, fun i => by rw [if_neg (by omega)]⟩
  · rintro R k C' x1 x2 x3 i4 hk ⟨rfl, rfl, rfl, rfl, g1, g2⟩ hR
    rw [b13]
    refine p_ite (fun c => absurd c (pu_8n hk)) (fun _ => p_ltv (fun r er => ?_))
    have er2 : r = q i4 := by rw [er, g1 5 (by decide), hq, eall]
    subst er2
    refine p_ltv (fun S eS => p_ltv (fun v ev => ?_))
    subst eS
    subst ev
    refine hR _ _ _ _ _ ⟨rfl, rfl, rfl, rfl, fun k hk3 => (pu_un _ _ _ hk3).trans (g1 k hk3), fun i => ?_⟩
    rw [pu_up, if_pos rfl, g2, g2]
    by_cases e : i = i4
    · rw [if_pos e, if_neg (by omega), if_pos (by omega), e]
    · rw [if_neg e]
      by_cases e2 : i < i4
      · rw [if_pos e2, if_pos (by omega)]
      · rw [if_neg e2, if_neg (by omega)]
  · rintro R C1 x1 x2 x3 i4 ⟨rfl, rfl, rfl, rfl, g1, g2⟩
    rw [b13]
    refine p_ite (fun _ => ?_) (fun c => absurd pu_8y c)
    subst e58
    generalize hL : pu_l1 q x1 8 = L0 at *
    refine pl3 h61 (fun k C' x3 i4 => i4 = k ∧ x3 = pu_lv (C 5) L0 k ∧ (∀ k, k ≠ 3 → C' k = C k) ∧ (∀ i, i < 8 → C' 3 i = if i < k then C 3 i + q i + pu_mo (C 5) L0 i else C 3 i + q i)) 8 ?_ ?_ 9 0 _ _ _ (by decide) (by decide) ⟨rfl, rfl, g1, fun i hi => by rw [if_neg (by omega), g2, if_pos hi]⟩
    · rintro R k C' x3 i4 hk ⟨rfl, rfl, f1, f2⟩ hR
      rw [b61]
      refine p_ltv (fun K96 e96 => ?_)
      have step : ∀ Y x3', x3' = pu_lv (C 5) L0 (i4 + 1) → (∀ k, k ≠ 3 → Y k = C k) → (∀ i, i < 8 → Y 3 i = if i = i4 then C 3 i + q i + pu_mo (C 5) L0 i else C' 3 i) → P (K96 Y x3' i4) := by
        intro Y x3' hx hy1 hy2
        subst e96
        refine hR _ _ _ ⟨rfl, hx, hy1, fun i hi => ?_⟩
        rw [hy2 i hi]
        by_cases e : i = i4
        · rw [if_pos e, if_pos (by omega)]
        · rw [if_neg e, f2 i hi]
          by_cases e2 : i < i4
          · rw [if_pos e2, if_pos (by omega)]
          · rw [if_neg e2, if_neg (by omega)]
      have same : ¬ (0 < C 5 i4 ∧ 0 < pu_lv (C 5) L0 i4) → P (K96 C' (pu_lv (C 5) L0 i4) i4) := by
        intro hn
        refine step _ _ ?_ f1 (fun i hi => ?_)
        · simp only [pu_lv]; rw [if_neg hn]
        · by_cases e : i = i4
          · rw [if_pos e, f2 i hi, if_neg (by omega), e]
            unfold pu_mo; rw [if_neg hn, Int32.add_zero]
          · rw [if_neg e]
      refine p_ite (fun c => absurd c (pu_8n hk)) (fun _ => p_ite (fun c => ?_) (fun c => p_ite (fun c2 => ?_) (fun c2 => ?_)))
      · rw [f1 5 (by decide)] at c; exact same (fun hh => Int32.not_lt.mpr c hh.1)
      · exact same (fun hh => Int32.not_lt.mpr c2 hh.2)
      · rw [f1 5 (by decide)] at c
        have hp : 0 < C 5 i4 ∧ 0 < pu_lv (C 5) L0 i4 := ⟨Int32.not_le.mp c, Int32.not_le.mp c2⟩
        refine p_ltv (fun S eS => p_ltv (fun v ev => ?_))
        subst eS
        refine step _ _ ?_ (fun k hk3 => (pu_un _ _ _ hk3).trans (f1 k hk3)) (fun i hi => ?_)
        · rw [ev]; simp only [pu_lv]; rw [if_pos hp]
        · rw [pu_up, if_pos rfl]
          by_cases e : i = i4
          · rw [if_pos e, if_pos e, f2 i4 (by omega), if_neg (by omega), e]
            unfold pu_mo; rw [if_pos hp]
          · rw [if_neg e, if_neg e]
    · rintro R C' x3 i4 ⟨rfl, rfl, f1, f2⟩
      rw [b61]
      refine p_ltv (fun K96 e96 => p_ite (fun _ => k _ f1 (fun i hi => by rw [f2 i hi, if_pos hi])) (fun c => absurd pu_8y c))
end
section
theorem pu_repairR {P : Int32 × Cst → Prop} {M : Cst} {x rest all : Int32} {n : Nat} {q : Nat → Int32} (h5 : M 0 5 = nI n) (hn : n ≤ 8) (hc : sX5_changes M 0 = M 0) (hrest : rest = if x * M 0 4 ≤ M 0 8 then 0 else x * M 0 4 - M 0 8) (hall : all = pu_sm (fun i => M 0 (13 + 8 * i + 4)) n) (hq : ∀ i, i < n → q i = (rest * M 0 (13 + 8 * i + 4)) / all) (k1 : x < 1 ∨ 100 < x → P ((-10001), M)) (k2 : ¬ (x < 1 ∨ 100 < x) → (100 < M 0 7 + x ∨ (0 < rest ∧ all = 0)) → P ((-10002), M)) (k3 : ¬ (x < 1 ∨ 100 < x) → ¬ (100 < M 0 7 + x ∨ (0 < rest ∧ all = 0)) → ∀ M' : Cst, (∀ j, j ≠ 0 → M' j = sX5_changes M j) → M' 0 8 = M 0 8 - (x * M 0 4 - rest) → M' 0 7 = M 0 7 + x → M' 0 11 = M 0 11 + x → (∀ i, i < n → M' 0 (13 + 8 * i + 2) = if 0 < rest then M 0 (13 + 8 * i + 2) + q i + pu_mo (fun i => M 0 (13 + 8 * i + 4)) (pu_l1 q rest n) i else M 0 (13 + 8 * i + 2)) → (∀ j, j ≠ 7 → j ≠ 8 → j ≠ 11 → (∀ i, i < n → j ≠ 13 + 8 * i + 2) → M' 0 j = M 0 j) → P (rest, M')) : P (sX5_repair M x) := by
  unfold sX5_repair
  refine p_lz5 (Q9 := P) (fun B168 L168 b168 h168 => ?_)
  refine p_ltv (fun K165 e165 => ?_)
  refine p_lz5 (fun B127 L127 b127 h127 => ?_)
  refine p_ltv (fun K82 e82 => ?_)
  have fin : ¬ (x < 1 ∨ 100 < x) → ¬ (100 < M 0 7 + x ∨ (0 < rest ∧ all = 0)) → P (K82 M x (x * M 0 4) rest all) := by
    intro hx hy
    subst e82
    refine p_ltv (fun S0 eS0 => p_ltv (fun S1 eS1 => p_ltv (fun S2 eS2 => p_ltv (fun S3 eS3 => ?_))))
    have s8 : S3 0 8 = M 0 8 - (x * M 0 4 - rest) := by rw [eS3, pu_up, if_pos rfl, if_neg (by decide), eS2, pu_up, if_pos rfl, if_neg (by decide), eS1, pu_up, if_pos rfl, if_pos rfl, eS0, hc]
    have s7 : S3 0 7 = M 0 7 + x := by rw [eS3, pu_up, if_pos rfl, if_neg (by decide), eS2, pu_up, if_pos rfl, if_pos rfl, eS1, pu_up, if_pos rfl, if_neg (by decide), eS0, hc]
    have s11 : S3 0 11 = M 0 11 + x := by rw [eS3, pu_up, if_pos rfl, if_pos rfl, eS2, pu_up, if_pos rfl, if_neg (by decide), eS1, pu_up, if_pos rfl, if_neg (by decide), eS0, hc]
    have ss : ∀ j, j ≠ 7 → j ≠ 8 → j ≠ 11 → S3 0 j = M 0 j := fun j h1 h2 h3 => by rw [eS3, pu_up, if_pos rfl, if_neg h3, eS2, pu_up, if_pos rfl, if_neg h1, eS1, pu_up, if_pos rfl, if_neg h2, eS0, hc]
    have sk : ∀ j, j ≠ 0 → S3 j = sX5_changes M j := fun j hj => by rw [eS3, pu_un _ _ _ hj, eS2, pu_un _ _ _ hj, eS1, pu_un _ _ _ hj, eS0]
    clear eS0 eS1 eS2 eS3
    have s5 : S3 0 5 = nI n := by rw [ss 5 (by decide) (by decide) (by decide), h5]
    have last : ∀ L0, (0 < rest → L0 = pu_l1 q rest n) → P (L168 9 S3 rest all L0 0) := by
      intro L0 hL0
      by_cases hp : 0 < rest
      · have hL := hL0 hp
        subst hL
        generalize pu_l1 q rest n = L0 at *
        refine pl5 h168 (fun k C' x3 x4 x5 i6 => i6 = k ∧ x3 = rest ∧ x4 = all ∧ x5 = pu_lv (fun i => M 0 (13 + 8 * i + 4)) L0 k ∧ (∀ j, j ≠ 0 → C' j = S3 j) ∧ (∀ i, i < n → C' 0 (13 + 8 * i + 2) = if i < k then M 0 (13 + 8 * i + 2) + q i + pu_mo (fun i => M 0 (13 + 8 * i + 4)) L0 i else M 0 (13 + 8 * i + 2)) ∧ (∀ j, (∀ i, i < n → j ≠ 13 + 8 * i + 2) → C' 0 j = S3 0 j)) n ?_ ?_ 9 0 _ _ _ _ _ (by omega) (by omega) ⟨rfl, rfl, rfl, rfl, fun _ _ => rfl, fun i hi => by rw [if_neg (by omega), ss _ (by omega) (by omega) (by omega)], fun _ _ => rfl⟩
        · rintro R k C' x3 x4 x5 i6 hk ⟨rfl, rfl, rfl, rfl, g1, g2, g3⟩ hR
          rw [b168]
          have c5 : C' 0 5 = nI n := by rw [g3 5 (fun i _ => by omega), s5]
          have c4 : C' 0 (13 + 8 * i6 + 4) = M 0 (13 + 8 * i6 + 4) := by rw [g3 _ (fun i _ => by omega), ss _ (by omega) (by omega) (by omega)]
          refine p_ltv (fun K254 e254 => p_ltv (fun K217 e217 => p_ltv (fun K203 e203 => p_ltv (fun K202 e202 => ?_))))
          have step : ∀ b v, b = pu_mo (fun i => M 0 (13 + 8 * i + 4)) L0 i6 → v = pu_lv (fun i => M 0 (13 + 8 * i + 4)) L0 (i6 + 1) → P (K254 C' x3 x4 v i6 b (M 0 (13 + 8 * i6 + 2) + q i6) i6) := by
            intro b v hb hv
            subst e254
            refine p_ltv (fun S eS => ?_)
            have eS2 : S = up C' 0 (13 + 8 * i6 + 2) (M 0 (13 + 8 * i6 + 2) + q i6 + b) := eS
            subst eS2
            refine hR _ _ _ _ _ ⟨rfl, rfl, rfl, hv, fun j hj => (pu_un _ _ _ hj).trans (g1 j hj), fun i hi => ?_, fun j hj => ?_⟩
            · rw [pu_up, if_pos rfl]
              by_cases e : i = i6
              · rw [if_pos (by omega), if_pos (by omega), hb, e]
              · rw [if_neg (by omega), g2 i hi]
                by_cases e2 : i < i6
                · rw [if_pos e2, if_pos (by omega)]
                · rw [if_neg e2, if_neg (by omega)]
            · rw [pu_up, if_pos rfl, if_neg (hj i6 hk)]; exact g3 j hj
          have k217 : ∀ y b, (b = 0 ∧ y = 0 ∨ b = 1 ∧ ¬ y = 0) → b = pu_mo (fun i => M 0 (13 + 8 * i + 4)) L0 i6 → P (K217 C' x3 x4 i6 y b (pu_lv (fun i => M 0 (13 + 8 * i + 4)) L0 i6)) := by
            intro y b hyb hb
            subst e217
            have hv : pu_lv (fun i => M 0 (13 + 8 * i + 4)) L0 i6 - b = pu_lv (fun i => M 0 (13 + 8 * i + 4)) L0 (i6 + 1) := by
              rw [hb]; unfold pu_mo; simp only [pu_lv]
              by_cases c : 0 < M 0 (13 + 8 * i6 + 4) ∧ 0 < pu_lv (fun i => M 0 (13 + 8 * i + 4)) L0 i6
              · rw [if_pos c, if_pos c]
              · rw [if_neg c, if_neg c, Int32.sub_zero]
            refine p_ltv (fun v ev => p_ltv (fun r2 er2 => p_ltv (fun r4 er4 => ?_)))
            have er2' : r2 = M 0 (13 + 8 * i6 + 2) := by rw [er2]; show C' 0 _ = _; rw [g2 i6 hk, if_neg (by omega)]
            have er4' : r4 = M 0 (13 + 8 * i6 + 4) := er4.trans c4
            have eq : x3 * r4 / x4 = q i6 := by rw [er4', hq i6 hk]
            rw [eq, er2', ev, hv]
            refine p_ite (fun c => step _ _ ?_ rfl) (fun c => step _ _ ?_ rfl)
            · rcases hyb with ⟨hb0, _⟩ | ⟨_, hy⟩
              · rw [← hb0]; exact hb
              · exact absurd c hy
            · rcases hyb with ⟨_, hy⟩ | ⟨hb1, _⟩
              · exact absurd hy c
              · rw [← hb1]; exact hb
          have k203 : ∀ b, (b = 0 ∨ b = 1) → b = pu_mo (fun i => M 0 (13 + 8 * i + 4)) L0 i6 → P (K203 C' x3 x4 (pu_lv (fun i => M 0 (13 + 8 * i + 4)) L0 i6) i6 b) := by
            intro b hb01 hb
            subst e203
            refine p_ite (fun c => k217 _ _ (Or.inl ⟨rfl, c⟩) (c ▸ hb)) (fun c => k217 _ _ (Or.inr ⟨rfl, c⟩) ((hb01.resolve_left c) ▸ hb))
          have no : ¬ (0 < M 0 (13 + 8 * i6 + 4) ∧ 0 < pu_lv (fun i => M 0 (13 + 8 * i + 4)) L0 i6) → P (K202 C' x3 x4 (pu_lv (fun i => M 0 (13 + 8 * i + 4)) L0 i6) i6) := by
            intro hn0
            subst e202
            exact k203 0 (Or.inl rfl) (by unfold pu_mo; rw [if_neg hn0])
          refine p_ite (fun c => absurd c (by rw [c5]; exact pu_5n hk hn)) (fun _ => p_ite (fun c => absurd hp (Int32.not_lt.mpr c)) (fun _ => p_ite (fun c => no (fun hh => Int32.not_lt.mpr c hh.2)) (fun c => p_ltv (fun r er => ?_))))
          have er' : r = M 0 (13 + 8 * i6 + 4) := er.trans c4
          subst er'
          refine p_ite (fun c2 => no (fun hh => Int32.not_lt.mpr c2 hh.1)) (fun c2 => k203 1 (Or.inr rfl) (by unfold pu_mo; rw [if_pos ⟨Int32.not_le.mp c2, Int32.not_le.mp c⟩]))
        · rintro R C' x3 x4 x5 i6 ⟨rfl, rfl, rfl, rfl, g1, g2, g3⟩
          rw [b168]
          have c5 : C' 0 5 = nI i6 := by rw [g3 5 (fun i _ => by omega), s5]
          refine p_ltv (fun K254 e254 => p_ltv (fun K217 e217 => p_ltv (fun K203 e203 => p_ltv (fun K202 e202 => p_ite (fun _ => ?_) (fun c => absurd (by rw [c5]; exact nI_le (Nat.le_refl _) (by omega)) c)))))
          refine k3 hx hy C' (fun j hj => (g1 j hj).trans (sk j hj)) ?_ ?_ ?_ (fun i hi => ?_) (fun j h1 h2 h3 h4 => ?_)
          · rw [g3 8 (fun i _ => by omega), s8]
          · rw [g3 7 (fun i _ => by omega), s7]
          · rw [g3 11 (fun i _ => by omega), s11]
          · rw [g2 i hi, if_pos hi, if_pos hp]
          · rw [g3 j h4, ss j h1 h2 h3]
      · rw [h168, b168]
        have out : P (rest, S3) := k3 hx hy S3 sk s8 s7 s11 (fun i hi => by rw [if_neg hp, ss _ (by omega) (by omega) (by omega)]) (fun j h1 h2 h3 _ => ss j h1 h2 h3)
        exact p_ltv (fun K254 e254 => p_ltv (fun K217 e217 => p_ltv (fun K203 e203 => p_ltv (fun K202 e202 => p_ite (fun _ => out) (fun _ => p_ite (fun _ => out) (fun c => absurd (Int32.not_le.mp c) hp))))))
    by_cases hp : 0 < rest
    · refine pl5 h127 (fun k C' x3 x4 x5 i6 => i6 = k ∧ C' = S3 ∧ x3 = rest ∧ x4 = all ∧ x5 = pu_l1 q rest k) n ?_ ?_ 9 0 _ _ _ _ _ (by omega) (by omega) ⟨rfl, rfl, rfl, rfl, rfl⟩
      · rintro R k C' x3 x4 x5 i6 hk ⟨rfl, rfl, rfl, rfl, rfl⟩ hR
        rw [b127]
        refine p_ite (fun c => absurd c (by rw [s5]; exact pu_5n hk hn)) (fun _ => p_ite (fun c => absurd hp (Int32.not_lt.mpr c)) (fun _ => p_ltv (fun r er => p_ltv (fun v ev => ?_))))
        refine hR _ _ _ _ _ ⟨rfl, rfl, rfl, rfl, ?_⟩
        rw [ev]
        show _ = pu_l1 q x3 i6 - q i6
        have er' : r = M 0 (13 + 8 * i6 + 4) := er.trans (ss _ (by omega) (by omega) (by omega))
        rw [hq i6 hk, er']
      · rintro R C' x3 x4 x5 i6 ⟨rfl, rfl, rfl, rfl, rfl⟩
        rw [b127]
        refine p_ite (fun _ => ?_) (fun c => absurd (by rw [s5]; exact nI_le (Nat.le_refl _) (by omega)) c)
        subst e165
        exact last _ (fun _ => rfl)
    · rw [h127, b127]
      refine p_ite (fun _ => ?_) (fun _ => p_ite (fun _ => ?_) (fun c => absurd (Int32.not_le.mp c) hp))
      · subst e165; exact last _ (fun h => absurd h hp)
      · subst e165; exact last _ (fun h => absurd h hp)
  refine p_ltv (fun K47 e47 => ?_)
  have mid : ¬ (x < 1 ∨ 100 < x) → P (K47 M x (x * M 0 4) rest) := by
    intro hx
    subst e47
    refine p_ltv (fun s es => ?_)
    rw [pu_sum5r hn h5, ← hall] at es
    subst es
    refine p_ite (fun c => k2 hx (Or.inl c)) (fun c => p_ite (fun c2 => fin hx (fun hh => hh.elim c (fun h => absurd h.1 (Int32.not_lt.mpr c2)))) (fun c2 => p_ite (fun c3 => fin hx (fun hh => hh.elim c (fun h => c3 h.2))) (fun c3 => k2 hx (Or.inr ⟨Int32.not_le.mp c2, Decidable.not_not.mp c3⟩))))
  refine p_ltv (fun r er => ?_)
  rw [pu_in] at er
  refine p_ite (fun c => ?_) (fun c => ?_)
  · have hx : ¬ (x < 1 ∨ 100 < x) := fun hh => c (by rw [er, if_pos hh])
    refine p_ltv (fun v ev => ?_)
    subst ev
    refine p_ite (fun c2 => ?_) (fun c2 => ?_)
    · have : rest = 0 := by rw [hrest, if_pos c2]
      rw [← this]; exact mid hx
    · have : rest = x * M 0 4 - M 0 8 := by rw [hrest, if_neg c2]
      rw [← this]; exact mid hx
  · exact k1 (Decidable.byContradiction (fun hh => c (by rw [er, if_neg hh]; decide)))
end
section
theorem pu_lv0 (u : Nat → Int32) : ∀ k, pu_lv u 0 k = 0
  | 0 => rfl
  | k + 1 => by
    simp only [pu_lv]
    rw [pu_lv0 u k, if_neg (fun h => absurd h.2 (by decide))]
theorem pu_l10 {q : Nat → Int32} : ∀ {n : Nat}, (∀ i, i < n → q i = 0) → pu_l1 q 0 n = 0
  | 0, _ => rfl
  | n + 1, h => by
    show pu_l1 q 0 n - q n = 0
    rw [pu_l10 (fun i hi => h i (by omega)), h n (by omega)]; rfl
theorem pu_mo_congr {f g : Nat → Int32} {x : Int32} {i : Nat} (h : ∀ j, j ≤ i → f j = g j) : pu_mo f x i = pu_mo g x i := by
  unfold pu_mo
  rw [pu_lv_congr (fun j hj => h j (by omega)), h i (Nat.le_refl i)]
theorem pu_quot {a b : Int32} (h : 1 ≤ b) : sX4_quotient a b = a / b := by dsimp only [sX4_quotient]; rw [if_pos h]
theorem pu_CMDrepair {T f n t hl m g : Nat} {C M : Cst} (x : Int32) (hc : sX5_changes M 0 = M 0) (hT : t ≤ T) (hf : g ≤ f) (hf2 : f < 2 ^ 30) (hR : RC n t hl m g C (M 0)) : CMD T f M (sX0_repairPoints C x) (sX5_repair M x) := by
  obtain ⟨⟨hn, ht, hh, hm⟩, ⟨h9, r5, h10, r6, h11, r7, h12, r8, h13, r9, r10, r11⟩, ⟨hs1, hs2⟩, hrr, hd, hz, hk1, hk2⟩ := hR
  obtain ⟨e, he, ee⟩ := pu_kn (b := 20) (B := 20) rfl (hs2 4 (by decide)) (by decide) rfl
  have e4 : M 0 4 = nI e := by rw [hs1 4 (by decide), ee]
  have sm4 : pu_sm (fun i => M 0 (13 + 8 * i + 4)) n = pu_sm (C 5) 8 := by
    rw [pu_sm_congr (g := C 5) (fun i hi => (hrr i hi).2.2.2.2.1), pu_sm_zero hn (fun i h1 h2 => (hz i h1 h2).2.2.2.2.1)]
  obtain ⟨A, hA, eA⟩ := pu_sm_bd (f := C 5) (b := 20 * t) (n := 8) (fun i hi => (hd i hi).2.2.1)
  refine pu_repairR (P := fun b => CMD T f M (sX0_repairPoints C x) b) (rest := if x * M 0 4 ≤ M 0 8 then 0 else x * M 0 4 - M 0 8) (all := pu_sm (C 5) 8) (q := fun i => ((if x * M 0 4 ≤ M 0 8 then 0 else x * M 0 4 - M 0 8) * M 0 (13 + 8 * i + 4)) / pu_sm (C 5) 8) r5 hn hc rfl sm4.symm (fun i hi => rfl) (fun c => ?_) (fun c c2 => ?_) (fun c c2 M' g1 g8 g7 g11 g2 g3 => ?_)
  · have : sX0_repairPoints C x = ((-10001), C) := by
      dsimp only [sX0_repairPoints, ltv]
      by_cases h : x < 1
      · rw [if_pos h]
      · rw [if_neg h, if_neg (Int32.not_le.mpr (c.resolve_left h))]
    rw [this]; exact ⟨rfl, Or.inl ⟨pu_n1, rfl⟩⟩
  all_goals
    have x1 : (1 : Int32) ≤ x := Int32.not_lt.mp (fun q => c (Or.inl q))
    obtain ⟨p, hp, rfl⟩ := nI_of2 (M := 100) (n := 100) rfl (fun q => absurd (Int32.le_trans x1 (Int32.le_of_lt q)) (by decide)) (Int32.not_lt.mp (fun q => c (Or.inr q)))
    have hpe : p * e ≤ 100 * 20 := Nat.mul_le_mul hp he
    have ec : nI p * C 0 4 = nI (p * e) := by rw [ee, nI_mul]
    have eR : (if nI p * M 0 4 ≤ M 0 8 then 0 else nI p * M 0 4 - M 0 8) = nI (p * e - g) := by
      rw [e4, nI_mul, r8]
      by_cases hq : p * e ≤ g
      · rw [if_pos (nI_le hq (by omega)), show p * e - g = 0 by omega]; rfl
      · rw [if_neg (nI_ge (by omega) (by omega)), nI_sub (by omega)]
    have ev3 : (if C 12 0 < nI (p * e) then C 12 0 else nI (p * e)) = nI (min (p * e) g) := by
      rw [h12]
      by_cases hq : g < p * e
      · rw [if_pos (nI_lt hq (by omega)), show min (p * e) g = g by omega]
      · rw [if_neg (nI_nlt (by omega) (by omega)), show min (p * e) g = p * e by omega]
    have ev4 : nI (p * e) - nI (min (p * e) g) = nI (p * e - g) := by rw [nI_sub (by omega), show p * e - min (p * e) g = p * e - g by omega]
  · rw [eR] at c2
    have : sX0_repairPoints C (nI p) = ((-10002), C) := by
      dsimp only [sX0_repairPoints, ltv]
      rw [if_neg (fun q => c (Or.inl q)), if_pos (Int32.not_lt.mp (fun q => c (Or.inr q))), ec, ev3, ev4]
      by_cases c3 : 100 < C 11 0 + nI p
      · rw [if_pos c3]
      · rw [if_neg c3]
        rcases c2 with c2 | ⟨c2, c4⟩
        · rw [r7, ← h11] at c2; exact absurd c2 c3
        · rw [if_neg (Int32.not_le.mpr c2), pu_sum5, if_neg (fun q => q c4)]
    rw [this]; exact ⟨rfl, Or.inl ⟨pu_n2, rfl⟩⟩
  · rw [eR] at c2 g8
    have g2' : ∀ i, i < n → M' 0 (13 + 8 * i + 2) = if 0 < nI (p * e - g) then M 0 (13 + 8 * i + 2) + nI (p * e - g) * M 0 (13 + 8 * i + 4) / pu_sm (C 5) 8 + pu_mo (fun i => M 0 (13 + 8 * i + 4)) (pu_l1 (fun i => nI (p * e - g) * M 0 (13 + 8 * i + 4) / pu_sm (C 5) 8) (nI (p * e - g)) n) i else M 0 (13 + 8 * i + 2) := by
      intro i hi
      have := g2 i hi
      rw [eR] at this; exact this
    clear g2
    rw [eR]
    generalize hK : p * e - g = K at *
    have c3 : ¬ 100 < C 11 0 + nI p := fun q => c2 (Or.inl (by rw [r7, ← h11]; exact q))
    have main : ∀ S, S = up (up (up C 12 0 (C 12 0 - nI (min (p * e) g))) 11 0 (up C 12 0 (C 12 0 - nI (min (p * e) g)) 11 0 + nI p)) 16 0 (up (up C 12 0 (C 12 0 - nI (min (p * e) g))) 11 0 (up C 12 0 (C 12 0 - nI (min (p * e) g)) 11 0 + nI p) 16 0 + nI p) → CMD T f M (nI K, sX0_oweByUses S (nI K)) (nI K, M') := by
      intro S hS
      have s12 : S 12 0 = nI (g - min (p * e) g) := by rw [hS, pu_un _ _ _ (by decide), pu_un _ _ _ (by decide), pu_up, if_pos rfl, if_pos rfl, h12, nI_sub (by omega)]
      have s11 : S 11 0 = nI (hl + p) := by rw [hS, pu_un _ _ _ (by decide), pu_up, if_pos rfl, if_pos rfl, pu_un _ _ _ (by decide), h11, nI_add]
      have s16 : S 16 0 = C 16 0 + nI p := by rw [hS, pu_up, if_pos rfl, if_pos rfl, pu_un _ _ _ (by decide), pu_un _ _ _ (by decide)]
      have ss : ∀ k, k ≠ 11 → k ≠ 12 → k ≠ 16 → S k = C k := fun k h1 h2 h3 => by rw [hS, pu_un _ _ _ h3, pu_un _ _ _ h1, pu_un _ _ _ h2]
      clear hS
      refine pu_owe (P := fun C' => CMD T f M (nI K, C') (nI K, M')) (q := fun i => sX4_quotient (nI K * S 5 i) (pu_sm (S 5) 8)) (fun i => rfl) (fun C' d1 d3 => ?_)
      rw [ss 5 (by decide) (by decide) (by decide)] at d3
      have d3' : ∀ i, i < 8 → C' 3 i = C 3 i + sX4_quotient (nI K * C 5 i) (pu_sm (C 5) 8) + pu_mo (C 5) (pu_l1 (fun i => sX4_quotient (nI K * C 5 i) (pu_sm (C 5) 8)) (nI K) 8) i := fun i hi => by rw [d3 i hi, ss 3 (by decide) (by decide) (by decide)]
      clear d3
      have zq : ∀ i, C 5 i = 0 → sX4_quotient (nI K * C 5 i) (pu_sm (C 5) 8) = 0 := by
        intro i hi
        rw [hi, Int32.mul_zero]
        dsimp only [sX4_quotient]
        by_cases q : 1 ≤ pu_sm (C 5) 8
        · rw [if_pos q, Int32.zero_div]
        · rw [if_neg q]
      have hz3 : ∀ i, n ≤ i → i < 8 → C' 3 i = 0 := by
        intro i h1 h2
        obtain ⟨_, _, z3, _, z5, _, _⟩ := hz i h1 h2
        rw [d3' i h2, z3, zq i z5]
        unfold pu_mo
        rw [z5, if_neg (fun h => absurd h.1 (by decide))]; rfl
      have h32 : ∀ i, i < n → M' 0 (13 + 8 * i + 2) = C' 3 i := by
        intro i hi
        rw [g2' i hi, d3' i (by omega), (hrr i hi).2.2.1]
        by_cases hp0 : 0 < nI K
        · rw [if_pos hp0]
          have hA1 : 1 ≤ pu_sm (C 5) 8 := by
            rw [eA]
            rcases Nat.eq_zero_or_pos A with h | h
            · exact absurd (Or.inr ⟨hp0, by rw [eA, h]; rfl⟩) c2
            · exact nI_le (a := 1) h (by omega)
          have eq : ∀ j, j < n → sX4_quotient (nI K * C 5 j) (pu_sm (C 5) 8) = nI K * M 0 (13 + 8 * j + 4) / pu_sm (C 5) 8 := fun j hj => by rw [pu_quot hA1, (hrr j hj).2.2.2.2.1]
          rw [eq i hi, pu_l1_zero hn (fun j h1 h2 => zq j (hz j h1 h2).2.2.2.2.1), pu_l1_congr eq, pu_mo_congr (f := C 5) (g := fun i => M 0 (13 + 8 * i + 4)) (fun j hj => ((hrr j (by omega)).2.2.2.2.1).symm)]
        · rw [if_neg hp0]
          have hK0 : K = 0 := by
            rcases Nat.eq_zero_or_pos K with h | h
            · exact h
            · exact absurd (nI_lt (a := 0) h (by omega)) hp0
          have q0 : ∀ j, sX4_quotient (nI K * C 5 j) (pu_sm (C 5) 8) = 0 := by
            intro j
            rw [hK0, show nI 0 = (0 : Int32) from rfl, Int32.zero_mul]
            dsimp only [sX4_quotient]
            by_cases q : 1 ≤ pu_sm (C 5) 8
            · rw [if_pos q, Int32.zero_div]
            · rw [if_neg q]
          rw [q0 i, Int32.add_zero]
          unfold pu_mo
          rw [show nI K = (0 : Int32) by rw [hK0]; rfl, pu_l10 (fun j _ => by have := q0 j; rw [hK0] at this; exact this), pu_lv0, if_neg (fun h => absurd h.2 (by decide)), Int32.add_zero]
      have dd : ∀ k, k ≠ 3 → k ≠ 11 → k ≠ 12 → k ≠ 16 → C' k = C k := fun k h0 h1 h2 h3 => by rw [d1 k h0, ss k h1 h2 h3]
      have hl100 : hl + p ≤ 100 := by
        rw [h11, nI_add] at c3
        exact Nat.not_lt.mp (fun q => c3 (nI_lt (a := 100) q (by omega)))
      refine CMD_ok (nI_pos (by omega)) ⟨n, t, hl + p, m, g - min (p * e) g, hT, by omega, ?_⟩ (fun k hk _ => g1 k hk)
      refine ⟨⟨hn, ht, hl100, hm⟩, ?_, ⟨fun k hk => ?_, fun k hk => ?_⟩, fun j hj => ?_, fun j hj => ?_, fun j hj h8 => ?_, ?_, fun k w hk hw => ?_⟩
      · rw [RCs, dd 9 (by decide) (by decide) (by decide) (by decide), dd 10 (by decide) (by decide) (by decide) (by decide), dd 13 (by decide) (by decide) (by decide) (by decide), dd 14 (by decide) (by decide) (by decide) (by decide), dd 15 (by decide) (by decide) (by decide) (by decide), d1 11 (by decide), d1 12 (by decide), d1 16 (by decide), s11, s12, s16, g7, g8, g11, g3 5 (by decide) (by decide) (by decide) (fun i _ => by omega), g3 6 (by decide) (by decide) (by decide) (fun i _ => by omega), g3 9 (by decide) (by decide) (by decide) (fun i _ => by omega), g3 10 (by decide) (by decide) (by decide) (fun i _ => by omega)]
        refine ⟨h9, r5, h10, r6, rfl, by rw [r7, nI_add], rfl, ?_, h13, r9, r10, by rw [r11]⟩
        rw [e4, nI_mul, r8, nI_sub (by omega), nI_sub (by omega), show g - (p * e - K) = g - min (p * e) g by omega]
      · rw [g3 k (by omega) (by omega) (by omega) (fun i _ => by omega), dd 0 (by decide) (by decide) (by decide) (by decide)]; exact hs1 k hk
      · rw [dd 0 (by decide) (by decide) (by decide) (by decide)]; exact hs2 k hk
      · rw [dd 1 (by decide) (by decide) (by decide) (by decide), dd 2 (by decide) (by decide) (by decide) (by decide), dd 4 (by decide) (by decide) (by decide) (by decide), dd 5 (by decide) (by decide) (by decide) (by decide), dd 6 (by decide) (by decide) (by decide) (by decide), dd 7 (by decide) (by decide) (by decide) (by decide)]
        obtain ⟨p0, p1, p2, p3, p4, p5, p6, p7⟩ := hrr j hj
        refine ⟨?_, ?_, h32 j hj, ?_, ?_, ?_, ?_, ?_⟩ <;> rw [g3 _ (by omega) (by omega) (by omega) (fun i _ => by omega)] <;> assumption
      · rw [dd 1 (by decide) (by decide) (by decide) (by decide), dd 2 (by decide) (by decide) (by decide) (by decide), dd 5 (by decide) (by decide) (by decide) (by decide), dd 6 (by decide) (by decide) (by decide) (by decide)]; exact hd j hj
      · rw [dd 1 (by decide) (by decide) (by decide) (by decide), dd 2 (by decide) (by decide) (by decide) (by decide), dd 4 (by decide) (by decide) (by decide) (by decide), dd 5 (by decide) (by decide) (by decide) (by decide), dd 6 (by decide) (by decide) (by decide) (by decide), dd 7 (by decide) (by decide) (by decide) (by decide)]
        obtain ⟨z1, z2, z3, z4, z5, z6, z7⟩ := hz j hj h8
        exact ⟨z1, z2, hz3 j hj h8, z4, z5, z6, z7⟩
      · rw [g3 12 (by decide) (by decide) (by decide) (fun i _ => by omega)]; exact hk1
      · rw [g3 _ (by omega) (by omega) (by omega) (fun i _ => by omega), dd 8 (by decide) (by decide) (by decide) (by decide)]; exact hk2 k w hk hw
    dsimp only [sX0_repairPoints, ltv]
    rw [if_neg (fun q => c (Or.inl q)), if_pos (Int32.not_lt.mp (fun q => c (Or.inr q))), ec, ev3, ev4, if_neg c3]
    by_cases c5 : nI K ≤ 0
    · rw [if_pos c5]; exact main _ rfl
    · rw [if_neg c5, pu_sum5, if_pos (fun q => c2 (Or.inr ⟨Int32.not_le.mp c5, q⟩))]; exact main _ rfl
end
section
/-! who is the heaviest, who is excluded in turn -/
def pu_am (p : Nat → Bool) (f : Nat → Int32) : Nat → Option Nat
  | 0 => none
  | k + 1 => if p k = true then (match pu_am p f k with
      | none => some k
      | some j => if f j < f k then some k else some j) else pu_am p f k
theorem pu_am0 {p : Nat → Bool} {f : Nat → Int32} {k : Nat} (h : ¬ p k = true) : pu_am p f (k + 1) = pu_am p f k := by simp only [pu_am]; rw [if_neg h]
theorem pu_am1 {p : Nat → Bool} {f : Nat → Int32} {k : Nat} (h : p k = true) (h1 : pu_am p f k = none) : pu_am p f (k + 1) = some k := by simp only [pu_am]; rw [if_pos h, h1]
theorem pu_am2 {p : Nat → Bool} {f : Nat → Int32} {k j : Nat} (h : p k = true) (h1 : pu_am p f k = some j) (h2 : f j < f k) : pu_am p f (k + 1) = some k := by simp only [pu_am]; rw [if_pos h, h1]; exact if_pos h2
theorem pu_am3 {p : Nat → Bool} {f : Nat → Int32} {k j : Nat} (h : p k = true) (h1 : pu_am p f k = some j) (h2 : ¬ f j < f k) : pu_am p f (k + 1) = some j := by simp only [pu_am]; rw [if_pos h, h1]; exact if_neg h2
theorem pu_am_some {p : Nat → Bool} {f : Nat → Int32} : ∀ {k j : Nat}, pu_am p f k = some j → j < k ∧ p j = true
  | 0, j, h => by cases h
  | k + 1, j, h => by
    by_cases hp : p k = true
    · cases h1 : pu_am p f k with
      | none => rw [pu_am1 hp h1] at h; cases h; exact ⟨by omega, hp⟩
      | some i =>
        by_cases h2 : f i < f k
        · rw [pu_am2 hp h1 h2] at h; cases h; exact ⟨by omega, hp⟩
        · rw [pu_am3 hp h1 h2] at h; cases h
          have := pu_am_some h1; exact ⟨by omega, this.2⟩
    · rw [pu_am0 hp] at h
      have := pu_am_some h; exact ⟨by omega, this.2⟩
theorem pu_am_congr {p q : Nat → Bool} {f g : Nat → Int32} : ∀ {k : Nat}, (∀ i, i < k → p i = q i) → (∀ i, i < k → p i = true → f i = g i) → pu_am p f k = pu_am q g k
  | 0, _, _ => rfl
  | k + 1, h1, h2 => by
    have ih := pu_am_congr (p := p) (q := q) (f := f) (g := g) (k := k) (fun i hi => h1 i (by omega)) (fun i hi => h2 i (by omega))
    by_cases hp : p k = true
    · have hq : q k = true := by rw [← h1 k (by omega)]; exact hp
      cases e : pu_am p f k with
      | none => rw [pu_am1 hp e, pu_am1 hq (ih ▸ e)]
      | some j =>
        have hj := pu_am_some e
        have e1 := h2 j (by omega) hj.2
        have e2 := h2 k (by omega) hp
        by_cases h3 : f j < f k
        · rw [pu_am2 hp e h3, pu_am2 hq (ih ▸ e) (by rw [← e1, ← e2]; exact h3)]
        · rw [pu_am3 hp e h3, pu_am3 hq (ih ▸ e) (by rw [← e1, ← e2]; exact h3)]
    · rw [pu_am0 hp, pu_am0 (by rw [← h1 k (by omega)]; exact hp), ih]
def pu_oc (d : Int32) (f : Nat → Int32) : Option Nat → Int32
  | none => d
  | some j => f j
theorem pu_heavy {C : Cst} {n X : Nat} (h9 : C 9 0 = nI n) (hn : n ≤ 8) (hX : X < 256) (h6 : ∀ i, i < n → ∃ a, a < 2 ^ 31 ∧ C 6 i = nI a) : sX0_heaviestNotIn C (nI X) = pu_oc (-1) nI (pu_am (fun i => !X.testBit i) (C 6) n) := by
  dsimp only [sX0_heaviestNotIn, ltl4, ltv]
  refine pw4 (P := fun v => v = _) (fun k x1 x2 x3 i4 => i4 = k ∧ x1 = nI X ∧ x2 = pu_oc (-1) nI (pu_am (fun i => !X.testBit i) (C 6) k) ∧ x3 = pu_oc (-1) (C 6) (pu_am (fun i => !X.testBit i) (C 6) k)) n ?_ ?_ 9 0 _ _ _ 0 (by omega) (by omega) ⟨rfl, rfl, rfl, rfl⟩
  · rintro R k x1 x2 x3 i4 hk ⟨rfl, rfl, rfl, rfl⟩ hR
    refine (if_neg (pu_8n (by omega))).trans ?_
    rw [if_neg (by rw [h9]; exact pu_5n hk hn), pu_bits X hX i4 (by omega)]
    by_cases c : X.testBit i4 = true
    · rw [if_pos c, if_pos pu_10]
      refine hR _ _ _ _ ⟨rfl, rfl, ?_, ?_⟩ <;> rw [pu_am0 (by simp [c])]
    · rw [if_neg c, if_neg pu_00]
      have cp : (fun i => !X.testBit i) i4 = true := by simp [c]
      cases e : pu_am (fun i => !X.testBit i) (C 6) i4 with
      | none =>
        obtain ⟨a, ha, ea⟩ := h6 i4 hk
        refine (if_neg (show ¬ C 6 i4 ≤ (-1 : Int32) by rw [ea]; exact fun q => absurd (Int32.le_trans (nI_pos' ha) q) (by decide))).trans ?_
        refine hR _ _ _ _ ⟨rfl, rfl, ?_, ?_⟩ <;> rw [pu_am1 cp e] <;> rfl
      | some j =>
        by_cases c2 : C 6 j < C 6 i4
        · refine (if_neg (show ¬ C 6 i4 ≤ C 6 j from Int32.not_le.mpr c2)).trans ?_
          refine hR _ _ _ _ ⟨rfl, rfl, ?_, ?_⟩ <;> rw [pu_am2 cp e c2] <;> rfl
        · refine (if_pos (show C 6 i4 ≤ C 6 j from Int32.not_lt.mp c2)).trans ?_
          refine hR _ _ _ _ ⟨rfl, rfl, ?_, ?_⟩ <;> rw [pu_am3 cp e c2]
  · rintro R x1 x2 x3 i4 ⟨rfl, rfl, rfl, rfl⟩
    by_cases c : i4 = 8
    · rw [c]; exact if_pos pu_8y
    · refine (if_neg (pu_8n (by omega))).trans (if_pos ?_)
      rw [h9]; exact nI_le (Nat.le_refl _) (by omega)
/-- the set of those excluded in turn, after k turns -/
def pu_ex (f : Nat → Int32) (B n : Nat) : Nat → Nat
  | 0 => 0
  | k + 1 => match pu_am (fun i => !(B ||| pu_ex f B n k).testBit i) f n with
      | none => pu_ex f B n k
      | some j => pu_ex f B n k ||| 2 ^ j
theorem pu_ex0 {f : Nat → Int32} {B n k : Nat} (h : pu_am (fun i => !(B ||| pu_ex f B n k).testBit i) f n = none) : pu_ex f B n (k + 1) = pu_ex f B n k := by simp only [pu_ex]; rw [h]
theorem pu_ex1 {f : Nat → Int32} {B n k j : Nat} (h : pu_am (fun i => !(B ||| pu_ex f B n k).testBit i) f n = some j) : pu_ex f B n (k + 1) = pu_ex f B n k ||| 2 ^ j := by simp only [pu_ex]; rw [h]
theorem pu_ex_stop {f : Nat → Int32} {B n k : Nat} (h : pu_am (fun i => !(B ||| pu_ex f B n k).testBit i) f n = none) : ∀ d, pu_ex f B n (k + d) = pu_ex f B n k
  | 0 => rfl
  | d + 1 => by
    have ih := pu_ex_stop h d
    rw [show k + (d + 1) = (k + d) + 1 by omega, pu_ex0 (by rw [ih]; exact h), ih]
theorem pu_ex_lt {f : Nat → Int32} {B n : Nat} (hn : n ≤ 8) : ∀ k, pu_ex f B n k < 256
  | 0 => (by decide : 0 < 256)
  | k + 1 => by
    cases e : pu_am (fun i => !(B ||| pu_ex f B n k).testBit i) f n with
    | none => rw [pu_ex0 e]; exact pu_ex_lt hn k
    | some j =>
      rw [pu_ex1 e]
      have := pu_am_some e
      exact (pu_orb _ (pu_ex_lt hn k) j (by omega)).2
theorem pu_tor (m j i : Nat) : (m ||| 2 ^ j).testBit i = (m.testBit i || decide (j = i)) := by
  rw [Nat.testBit_or, Nat.testBit_two_pow]
theorem pu_ex_hi {f : Nat → Int32} {B n i : Nat} (hi : n ≤ i) : ∀ k, (pu_ex f B n k).testBit i = false
  | 0 => Nat.zero_testBit i
  | k + 1 => by
    cases e : pu_am (fun i => !(B ||| pu_ex f B n k).testBit i) f n with
    | none => rw [pu_ex0 e]; exact pu_ex_hi hi k
    | some j =>
      have := pu_am_some e
      rw [pu_ex1 e, pu_tor, pu_ex_hi hi k, decide_eq_false (by omega)]; rfl
def pu_tn (l h n : Nat) : Nat := if h < l then min ((l - h + 9) / 10) (n - 1) else 0
end
section
/-! the pieces of a season's end: the class -/
theorem pu_sub0 : ∀ l, l < 101 → ∀ h, h < 101 → l ≤ h → ¬ (0 : Int32) < nI l - nI h := by decide +kernel
theorem pu_turns {C : Cst} {n l h : Nat} (h9 : C 9 0 = nI n) (hl : C 0 1 = nI l) (hh : C 11 0 = nI h) (hn : n ≤ 8) (h1 : l ≤ 100) (h2 : h ≤ 100) : sX0_turnsNeeded C ≤ nI (pu_tn l h n) ∧ (0 < pu_tn l h n → sX0_turnsNeeded C = nI (pu_tn l h n)) := by
  dsimp only [sX0_turnsNeeded, ltv]
  rw [h9, hl, hh]
  unfold pu_tn
  by_cases c : h < l
  · rw [if_pos c, nI_sub (by omega), if_pos (show (0 : Int32) < nI (l - h) from nI_lt (a := 0) (by omega) (by omega))]
    have e : (nI (l - h) + 10) - 1 = nI (l - h + 9) := by
      rw [show (10 : Int32) = nI 10 from rfl, nI_add, show l - h + 10 = (l - h + 9) + 1 by omega, nI_pred]
    rw [e, show (10 : Int32) = nI 10 from rfl, pk_div (by omega) (by decide) (by decide)]
    rcases Nat.eq_zero_or_pos n with h0 | h0
    · subst h0
      rw [if_pos (show nI 0 - 1 < nI ((l - h + 9) / 10) from Int32.lt_of_lt_of_le (show nI 0 - 1 < 0 by decide) (nI_pos' (by omega)))]
      refine ⟨Int32.le_trans (show nI 0 - 1 ≤ 0 by decide) (nI_pos' (by omega)), fun q => ?_⟩
      omega
    · have e1 : nI n - 1 = nI (n - 1) := by rw [show n = (n - 1) + 1 by omega, nI_pred]; rfl
      rw [e1]
      by_cases c2 : n - 1 < (l - h + 9) / 10
      · rw [if_pos (nI_lt c2 (by omega)), show min ((l - h + 9) / 10) (n - 1) = n - 1 by omega]
        exact ⟨nI_le (Nat.le_refl _) (by omega), fun _ => rfl⟩
      · rw [if_neg (nI_nlt (by omega) (by omega)), show min ((l - h + 9) / 10) (n - 1) = (l - h + 9) / 10 by omega]
        exact ⟨nI_le (Nat.le_refl _) (by omega), fun _ => rfl⟩
  · rw [if_neg c, if_neg (pu_sub0 l (by omega) h (by omega) (by omega))]
    exact ⟨by decide, fun q => absurd q (by decide)⟩
theorem pu_exT {P : Cst → Prop} {C : Cst} {n B T : Nat} (h9 : C 9 0 = nI n) (hn : n ≤ 8) (hB : B < 256) (hT : T ≤ 100) (t1 : sX0_turnsNeeded C ≤ nI T) (t2 : 0 < T → sX0_turnsNeeded C = nI T) (h13 : C 13 0 = 0) (h6 : ∀ i, i < n → ∃ a, a < 2 ^ 31 ∧ C 6 i = nI a) (k : ∀ C' : Cst, (∀ j, j ≠ 6 → j ≠ 13 → C' j = C j) → C' 13 0 = nI (pu_ex (C 6) B n T) → (∀ i, C' 6 i = if (pu_ex (C 6) B n T).testBit i then 0 else C 6 i) → P C') : P (sX0_excludeInTurn C (nI B)) := by
  unfold sX0_excludeInTurn
  refine p_lz4 (Q9 := P) (fun B7 L7 b7 h7 => ?_)
  refine p_ltv (fun r er => ?_)
  rw [← er] at t1 t2
  refine pl4 h7 (fun k C' x1 x2 i3 => i3 = k ∧ x1 = nI B ∧ x2 = r ∧ (∀ j, j ≠ 6 → j ≠ 13 → C' j = C j) ∧ C' 13 0 = nI (pu_ex (C 6) B n k) ∧ (∀ i, C' 6 i = if (pu_ex (C 6) B n k).testBit i then 0 else C 6 i)) T ?_ ?_ _ 0 _ _ _ _ ?_ (by omega) ⟨rfl, rfl, rfl, fun _ _ _ => rfl, h13, fun i => by rw [show pu_ex (C 6) B n 0 = 0 from rfl, Nat.zero_testBit, if_neg (by decide)]⟩
  · rintro R q C' x1 x2 i3 hk ⟨rfl, rfl, rfl, g1, g2, g3⟩ hR
    rw [b7]
    refine p_ite (fun c => absurd c (by rw [t2 (by omega)]; exact nI_ge hk (by omega))) (fun _ => p_ltv (fun r1 er1 => p_ltv (fun r2 er2 => ?_)))
    have hx := pu_ex_lt (f := C 6) (B := B) hn i3
    have ho := pu_orm B hB _ hx
    have c9 : C' 9 0 = nI n := by rw [g1 9 (by decide) (by decide), h9]
    rw [g2, ho.1, pu_heavy c9 hn ho.2 (fun i hi => by
      rw [g3]; by_cases c : (pu_ex (C 6) B n i3).testBit i = true
      · rw [if_pos c]; exact ⟨0, by decide, rfl⟩
      · rw [if_neg c]; exact h6 i hi), pu_am_congr (q := fun i => !(B ||| pu_ex (C 6) B n i3).testBit i) (g := C 6) (fun i _ => rfl) (fun i hi hp => by
        have hp2 : (!(B ||| pu_ex (C 6) B n i3).testBit i) = true := hp
        rw [Nat.testBit_or] at hp2
        have : (pu_ex (C 6) B n i3).testBit i = false := by
          revert hp2; cases (pu_ex (C 6) B n i3).testBit i <;> cases B.testBit i <;> decide
        rw [g3, this, if_neg (by decide)])] at er1
    cases e : pu_am (fun i => !(B ||| pu_ex (C 6) B n i3).testBit i) (C 6) n with
    | none =>
      rw [e] at er1
      have : r2 = 0 := by rw [er2, er1]; rfl
      refine p_ite (fun c => absurd this c) (fun _ => ?_)
      have es := pu_ex_stop e (T - i3)
      rw [show i3 + (T - i3) = T by omega] at es
      exact k C' g1 (by rw [es]; exact g2) (fun i => by rw [es]; exact g3 i)
    | some j =>
      rw [e] at er1
      have er1' : r1 = nI j := er1
      have hj := (pu_am_some e).1
      have hr2 : r2 = 1 := by rw [er2, er1']; exact pu_has1 c9 hn hj
      refine p_ite (fun _ => ?_) (fun c => absurd (show ¬ r2 = 0 by rw [hr2]; decide) c)
      refine p_ltv (fun S eS => p_ltv (fun S2 eS2 => ?_))
      rw [g2, er1', (pu_orb _ hx j (by omega)).1, ← pu_ex1 e] at eS
      rw [er1', nI_clamp (by omega)] at eS2
      refine hR _ _ _ _ ⟨rfl, rfl, rfl, fun q h1 h2 => ?_, ?_, fun i => ?_⟩
      · rw [eS2, pu_un _ _ _ h1, eS, pu_un _ _ _ h2, g1 q h1 h2]
      · rw [eS2, pu_un _ _ _ (by decide), eS, pu_up, if_pos rfl, if_pos rfl]
      · rw [eS2, pu_up, if_pos rfl, eS, pu_un _ _ _ (by decide), g3, pu_ex1 e, pu_tor]
        by_cases c : i = j
        · rw [if_pos c, if_pos (by rw [decide_eq_true c.symm, Bool.or_true])]
        · rw [if_neg c, decide_eq_false (fun q => c q.symm), Bool.or_false]
  · rintro R C' x1 x2 i3 ⟨rfl, rfl, rfl, g1, g2, g3⟩
    rw [b7]
    exact p_ite (fun _ => k C' g1 g2 g3) (fun c => absurd t1 c)
  · rcases Nat.eq_zero_or_pos T with h0 | h0
    · omega
    · rw [t2 h0, nI_clamp (by omega)]; omega
def pu_db (p : Nat → Bool) (X : Nat) : Nat → Nat
  | 0 => X
  | k + 1 => if p k = true then pu_db p X k ||| 2 ^ k else pu_db p X k
theorem pu_db_lt {p : Nat → Bool} {X : Nat} (hX : X < 256) : ∀ k, k ≤ 8 → pu_db p X k < 256
  | 0, _ => hX
  | k + 1, h => by
    simp only [pu_db]
    by_cases c : p k = true
    · rw [if_pos c]; exact (pu_orb _ (pu_db_lt hX k (by omega)) k (by omega)).2
    · rw [if_neg c]; exact pu_db_lt hX k (by omega)
theorem pu_db_bit {p : Nat → Bool} {X i : Nat} : ∀ k, (pu_db p X k).testBit i = (X.testBit i || (decide (i < k) && p i))
  | 0 => by simp [pu_db]
  | k + 1 => by
    simp only [pu_db]
    by_cases c : p k = true
    · rw [if_pos c, pu_tor, pu_db_bit k]
      by_cases e : k = i
      · subst e; simp [c]
      · rw [decide_eq_false e, Bool.or_false]
        by_cases e2 : i < k
        · rw [decide_eq_true e2, decide_eq_true (show i < k + 1 by omega)]
        · rw [decide_eq_false e2, decide_eq_false (show ¬ i < k + 1 by omega)]
    · rw [if_neg c, pu_db_bit k]
      by_cases e : k = i
      · subst e; simp [c]
      · by_cases e2 : i < k
        · rw [decide_eq_true e2, decide_eq_true (show i < k + 1 by omega)]
        · rw [decide_eq_false e2, decide_eq_false (show ¬ i < k + 1 by omega)]
theorem pu_debt {P : Cst → Prop} {C : Cst} {X : Nat} (hX : X < 256) (h13 : C 13 0 = nI X) (k : ∀ C' : Cst, (∀ j, j ≠ 13 → C' j = C j) → C' 13 0 = nI (pu_db (fun i => decide (C 0 3 < C 3 i)) X 8) → P C') : P (sX0_excludeDebtors C) := by
  unfold sX0_excludeDebtors
  refine p_lz2 (Q9 := P) (fun B2 L2 b2 h2 => ?_)
  refine pl2 h2 (fun k C' i1 => i1 = k ∧ (∀ j, j ≠ 13 → C' j = C j) ∧ C' 13 0 = nI (pu_db (fun i => decide (C 0 3 < C 3 i)) X k)) 8 ?_ ?_ 9 0 _ _ (by decide) (by decide) ⟨rfl, fun _ _ => rfl, h13⟩
  · rintro R q C' i1 hk ⟨rfl, g1, g2⟩ hR
    rw [b2]
    refine p_ltv (fun K eK => p_ite (fun c => absurd c (pu_8n hk)) (fun _ => p_ite (fun c => ?_) (fun c => p_ltv (fun S eS => ?_))))
    · subst eK
      refine hR _ _ ⟨rfl, g1, ?_⟩
      rw [g1 3 (by decide), g1 0 (by decide)] at c
      rw [g2]; simp only [pu_db]; rw [if_neg (by simp [Int32.not_lt.mpr c])]
    · subst eK
      rw [g1 3 (by decide), g1 0 (by decide)] at c
      refine hR _ _ ⟨rfl, fun j hj => by rw [eS, pu_un _ _ _ hj]; exact g1 j hj, ?_⟩
      rw [eS, pu_up, if_pos rfl, if_pos rfl, g2, (pu_orb _ (pu_db_lt hX i1 (by omega)) i1 hk).1]
      simp only [pu_db]; rw [if_pos (by simp [Int32.not_le.mp c])]
  · rintro R C' i1 ⟨rfl, g1, g2⟩
    rw [b2]
    exact p_ltv (fun K eK => p_ite (fun _ => k C' g1 g2) (fun c => absurd pu_8y c))
theorem pu_note {P : Cst → Prop} {C : Cst} {X : Nat} (hX : X < 256) (h13 : C 13 0 = nI X) (k : ∀ C' : Cst, (∀ j, j ≠ 7 → C' j = C j) → (∀ i, i < 8 → C' 7 i = C 7 i + (if X.testBit i then 1 else 0)) → P C') : P (sX0_noteSeasonsOut C) := by
  unfold sX0_noteSeasonsOut
  refine p_lz2 (Q9 := P) (fun B2 L2 b2 h2 => ?_)
  refine pl2 h2 (fun k C' i1 => i1 = k ∧ (∀ j, j ≠ 7 → C' j = C j) ∧ (∀ i, C' 7 i = if i < k then C 7 i + (if X.testBit i then 1 else 0) else C 7 i)) 8 ?_ ?_ 9 0 _ _ (by decide) (by decide) ⟨rfl, fun _ _ => rfl, fun i => by rw [if_neg (by omega)]⟩
  · rintro R q C' i1 hk ⟨rfl, g1, g2⟩ hR
    rw [b2]
    refine p_ltv (fun K eK => p_ite (fun c => absurd c (pu_8n hk)) (fun _ => p_ltv (fun r er => ?_)))
    rw [pu_isOut (by rw [g1 13 (by decide)]; exact h13) hX hk] at er
    refine p_ite (fun c => ?_) (fun c => p_ltv (fun S eS => ?_))
    · subst eK
      have hb : ¬ X.testBit i1 = true := fun hh => by rw [er, if_pos hh] at c; exact pu_10 c
      refine hR _ _ ⟨rfl, g1, fun i => ?_⟩
      rw [g2]
      by_cases e : i = i1
      · rw [if_neg (show ¬ i < i1 by omega), if_pos (show i < i1 + 1 by omega), e, if_neg hb, Int32.add_zero]
      · by_cases e2 : i < i1
        · rw [if_pos e2, if_pos (show i < i1 + 1 by omega)]
        · rw [if_neg e2, if_neg (by omega)]
    · subst eK
      have hb : X.testBit i1 = true := Decidable.byContradiction (fun hh => c (by rw [er, if_neg hh]))
      refine hR _ _ ⟨rfl, fun j hj => by rw [eS, pu_un _ _ _ hj]; exact g1 j hj, fun i => ?_⟩
      rw [eS, pu_up, if_pos rfl, g2, g2]
      by_cases e : i = i1
      · rw [if_pos e, if_neg (by omega), if_pos (by omega), e, if_pos hb]
      · rw [if_neg e]
        by_cases e2 : i < i1
        · rw [if_pos e2, if_pos (show i < i1 + 1 by omega)]
        · rw [if_neg e2, if_neg (by omega)]
  · rintro R C' i1 ⟨rfl, g1, g2⟩
    rw [b2]
    exact p_ltv (fun K eK => p_ite (fun _ => k C' g1 (fun i hi => by rw [g2, if_pos hi])) (fun c => absurd pu_8y c))
theorem pu_book {P : Cst → Prop} {C : Cst} (k : ∀ C' : Cst, (∀ j, j ≠ 2 → j ≠ 5 → j ≠ 6 → C' j = C j) → (∀ i, i < 8 → C' 2 i = 0 ∧ C' 5 i = C 5 i + C 2 i ∧ C' 6 i = C 6 i + C 2 i) → P C') : P (sX0_bookUses C) := by
  unfold sX0_bookUses
  refine p_lz2 (Q9 := P) (fun B2 L2 b2 h2 => ?_)
  refine pl2 h2 (fun k C' i1 => i1 = k ∧ (∀ j, j ≠ 2 → j ≠ 5 → j ≠ 6 → C' j = C j) ∧ (∀ i, i < k → C' 2 i = 0 ∧ C' 5 i = C 5 i + C 2 i ∧ C' 6 i = C 6 i + C 2 i) ∧ (∀ i, k ≤ i → C' 2 i = C 2 i ∧ C' 5 i = C 5 i ∧ C' 6 i = C 6 i)) 8 ?_ ?_ 9 0 _ _ (by decide) (by decide) ⟨rfl, fun _ _ _ _ => rfl, fun i hi => absurd hi (Nat.not_lt_zero i), fun i _ => ⟨rfl, rfl, rfl⟩⟩
  · rintro R q C' i1 hk ⟨rfl, g1, g2, g3⟩ hR
    rw [b2]
    refine p_ite (fun c => absurd c (pu_8n hk)) (fun _ => p_ltv (fun S eS => p_ltv (fun S2 eS2 => p_ltv (fun S3 eS3 => ?_))))
    obtain ⟨z2, z5, z6⟩ := g3 i1 (Nat.le_refl _)
    have a2 : ∀ i, S3 2 i = if i = i1 then 0 else C' 2 i := fun i => by rw [eS3, pu_up, if_pos rfl, eS2, pu_un _ _ _ (by decide), eS, pu_un _ _ _ (by decide)]
    have a5 : ∀ i, S3 5 i = if i = i1 then C 5 i1 + C 2 i1 else C' 5 i := fun i => by rw [eS3, pu_un _ _ _ (by decide), eS2, pu_un _ _ _ (by decide), eS, pu_up, if_pos rfl, z5, z2]
    have a6 : ∀ i, S3 6 i = if i = i1 then C 6 i1 + C 2 i1 else C' 6 i := fun i => by rw [eS3, pu_un _ _ _ (by decide), eS2, pu_up, if_pos rfl, eS, pu_un _ _ _ (by decide), pu_un _ _ _ (by decide), z6, z2]
    refine hR _ _ ⟨rfl, fun j h1 h3 h4 => ?_, fun i hi => ?_, fun i hi => ?_⟩
    · rw [eS3, pu_un _ _ _ h1, eS2, pu_un _ _ _ h4, eS, pu_un _ _ _ h3, g1 j h1 h3 h4]
    · rw [a2, a5, a6]
      by_cases e : i = i1
      · rw [if_pos e, if_pos e, if_pos e, e]; exact ⟨rfl, rfl, rfl⟩
      · rw [if_neg e, if_neg e, if_neg e]; exact g2 i (by omega)
    · rw [a2, a5, a6, if_neg (by omega), if_neg (by omega), if_neg (by omega)]; exact g3 i (by omega)
  · rintro R C' i1 ⟨rfl, g1, g2, g3⟩
    rw [b2]
    exact p_ite (fun _ => k C' g1 g2) (fun c => absurd pu_8y c)
end
section
/-- who is charged in the place k -/
def pu_at (n t k : Nat) : Nat := if t % n + k < n then t % n + k else t % n + k - n
theorem pu_pl_at {n t k i : Nat} (hi : i < n) (hk : k < n) : pu_pl n t i = k ↔ i = pu_at n t k := by
  have := Nat.mod_lt t (show 0 < n by omega)
  unfold pu_pl pu_at
  constructor <;> intro h <;> split at h <;> split <;> omega
theorem pu_at_lt {n t k : Nat} (hk : k < n) : pu_at n t k < n := by
  have := Nat.mod_lt t (show 0 < n by omega)
  unfold pu_at; split <;> omega
theorem pu_ah_succ {u : Nat → Int32} {n t k : Nat} (hk : k < n) : pu_ah u n t (k + 1) = pu_ah u n t k + u (pu_at n t k) := by
  have hj := pu_at_lt (t := t) hk
  have e1 : pu_ah u n t (k + 1) = pu_sm (fun i => if pu_pl n t i < k ∨ i = pu_at n t k then u i else 0) n := by
    refine pu_sm_congr (fun i hi => ?_)
    have := pu_pl_at (t := t) hi hk
    by_cases c : pu_pl n t i < k + 1
    · rw [if_pos c]
      by_cases c2 : pu_pl n t i < k
      · rw [if_pos (Or.inl c2)]
      · rw [if_pos (Or.inr (this.mp (by omega)))]
    · rw [if_neg c, if_neg (fun hh => hh.elim (fun q => c (by omega)) (fun q => c (by rw [this.mpr q]; omega)))]
  rw [e1, pu_sm_ins (q := fun i => pu_pl n t i < k) (j := pu_at n t k) (by rw [(pu_pl_at hj hk).mpr rfl]; omega), if_pos hj]
  rfl
theorem pu_ah0 (u : Nat → Int32) (n t : Nat) : pu_ah u n t 0 = 0 := pu_sm_zero (n := 0) (Nat.zero_le n) (fun i _ _ => if_neg (Nat.not_lt_zero _))
/-- what each member is charged -/
def pu_cg (d : Int32) (u : Nat → Int32) (n t i : Nat) : Int32 := pu_ch d (pu_ah u n t (pu_pl n t i)) (u i)
theorem pu_owec {P : Cst → Prop} {C : Cst} {n t : Nat} (h9 : C 9 0 = nI n) (h10 : C 10 0 = nI t) (hd : 1 ≤ C 0 0) (hn : n ≤ 8) (ht : t ≤ 1000) (k : ∀ C' : Cst, (∀ j, j ≠ 3 → C' j = C j) → (∀ i, C' 3 i = if i < n then C 3 i + pu_cg (C 0 0) (C 2) n t i else C 3 i) → P C') : P (sX0_oweCharges C) := by
  unfold sX0_oweCharges
  refine p_lz5 (Q9 := P) (fun B29 L29 b29 h29 => ?_)
  refine p_ltv (fun K25 e25 => ?_)
  rw [h9]
  rcases Nat.eq_zero_or_pos n with h0 | h0
  · subst h0
    refine p_ite (fun c => absurd c (by decide)) (fun _ => ?_)
    subst e25
    show P (L29 9 C 0 0 0 0)
    rw [h29, b29]
    refine p_ltv (fun K94 e94 => p_ltv (fun K77 e77 => p_ite (fun _ => k C (fun _ _ => rfl) (fun i => by rw [if_neg (by omega)])) (fun c => absurd (show C 9 0 ≤ nI 0 by rw [h9]; decide) c)))
  · refine p_ite (fun _ => ?_) (fun c => absurd (show (1 : Int32) ≤ nI n from nI_le (a := 1) h0 (by omega)) c)
    rw [h10, pu_mod (by omega) (by omega)]
    subst e25
    have hm := Nat.mod_lt t h0
    refine pl5 h29 (fun k C' x1 x2 x3 i4 => i4 = k ∧ x1 = pu_ah (C 2) n t k ∧ x2 = pu_dm (C 0 0) (pu_ah (C 2) n t k) ∧ x3 = nI (pu_at n t k) ∧ (∀ j, j ≠ 3 → C' j = C j) ∧ (∀ i, C' 3 i = if i < n ∧ pu_pl n t i < k then C 3 i + pu_cg (C 0 0) (C 2) n t i else C 3 i)) n ?_ ?_ 9 0 _ _ _ _ _ (by omega) (by omega) ⟨rfl, (pu_ah0 _ _ _).symm, by rw [pu_ah0, pu_dm0], by rw [pu_at, if_pos (by omega)]; rfl, fun _ _ => rfl, fun i => by rw [if_neg (by omega)]⟩
    · rintro R k C' x1 x2 x3 i4 hk ⟨rfl, rfl, rfl, rfl, g1, g2⟩ hR
      rw [b29]
      have hj := pu_at_lt (t := t) hk
      have hpj := (pu_pl_at hj hk).mpr rfl
      have c9 : C' 9 0 = nI n := by rw [g1 9 (by decide), h9]
      have cd : ∀ X : Cst, X 0 = C 0 → ∀ x, sX0_damageOf X x = pu_dm (C 0 0) x := fun X hX x => by rw [pu_damage (by rw [hX]; exact hd), hX]
      refine p_ltv (fun K94 e94 => p_ltv (fun K77 e77 => p_ite (fun c => absurd c (by rw [c9]; exact pu_5n hk hn)) (fun _ => p_ltv (fun r er => ?_))))
      rw [pu_has1 c9 hn hj] at er
      refine p_ite (fun c => absurd c (by rw [er]; decide)) (fun _ => p_ltv (fun v ev => p_ltv (fun w ew => p_ltv (fun S eS => p_ltv (fun w2 ew2 => ?_)))))
      rw [nI_clamp (by omega), g1 2 (by decide), ← pu_ah_succ hk] at ev
      rw [nI_clamp (by omega)] at eS
      rw [cd C' (g1 0 (by decide)), ev] at ew
      have s0 : S 0 = C 0 := by rw [eS, pu_un _ _ _ (by decide), g1 0 (by decide)]
      rw [cd S s0, ev] at ew2
      have s3 : ∀ i, S 3 i = if i < n ∧ pu_pl n t i < i4 + 1 then C 3 i + pu_cg (C 0 0) (C 2) n t i else C 3 i := by
        intro i
        rw [eS, pu_up, if_pos rfl, g2, g2]
        by_cases e : i = pu_at n t i4
        · rw [if_pos e, e, if_neg (by omega), if_pos (by omega), ew, pu_ah_succ hk]
          unfold pu_cg pu_ch; rw [hpj]
        · rw [if_neg e]
          by_cases c : i < n ∧ pu_pl n t i < i4
          · rw [if_pos c, if_pos (by omega)]
          · rw [if_neg c, if_neg (fun hh => c ⟨hh.1, by
              rcases Nat.lt_or_ge (pu_pl n t i) i4 with q | q
              · exact q
              · exact absurd ((pu_pl_at hh.1 hk).mp (by omega)) e⟩)]
      have sj : ∀ j, j ≠ 3 → S j = C j := fun j hj3 => by rw [eS, pu_un _ _ _ hj3, g1 j hj3]
      have s9 : S 9 0 = nI n := by rw [sj 9 (by decide), h9]
      subst e77
      have nx : (if pu_at n t i4 + 1 < n then pu_at n t i4 + 1 else 0) = pu_at n t (i4 + 1) := by
        unfold pu_at; split <;> split <;> split <;> omega
      refine p_ite (fun c => ?_) (fun c => ?_)
      · have hc : ¬ pu_at n t i4 + 1 < n := fun q => by
          rw [s9, nI_1] at c; exact nI_ge q (by omega) c
        rw [if_neg hc] at nx
        subst e94
        refine hR _ _ _ _ _ ⟨rfl, ev, ew2, by rw [← nx]; rfl, sj, s3⟩
      · have hc : pu_at n t i4 + 1 < n := Decidable.byContradiction (fun q => c (by rw [s9, nI_1]; exact nI_le (by omega) (by omega)))
        rw [if_pos hc] at nx
        subst e94
        refine hR _ _ _ _ _ ⟨rfl, ev, ew2, by rw [← nx]; exact nI_1 _, sj, s3⟩
    · rintro R C' x1 x2 x3 i4 ⟨rfl, rfl, rfl, rfl, g1, g2⟩
      rw [b29]
      refine p_ltv (fun K94 e94 => p_ltv (fun K77 e77 => p_ite (fun _ => k C' g1 (fun i => ?_)) (fun c => absurd (show C' 9 0 ≤ nI i4 by rw [g1 9 (by decide), h9]; exact nI_le (Nat.le_refl _) (by omega)) c)))
      rw [g2]
      by_cases c : i < i4
      · rw [if_pos ⟨c, pu_pl_lt h0 c⟩, if_pos c]
      · rw [if_neg (fun q => c q.1), if_neg c]
end
section
theorem pu_ex_congr {f g : Nat → Int32} {B n : Nat} (h : ∀ i, i < n → f i = g i) : ∀ k, pu_ex f B n k = pu_ex g B n k
  | 0 => rfl
  | k + 1 => by
    have ih := pu_ex_congr (B := B) h k
    simp only [pu_ex]
    rw [ih, pu_am_congr (f := f) (g := g) (fun i _ => rfl) (fun i hi _ => h i hi)]
theorem pu_subInt {a b : Nat} (ha : a < 2 ^ 30) (hb : b < 2 ^ 30) : (nI a - nI b).toInt = (a : Int) - b := by
  rw [Int32.toInt_sub, nI_toInt (by omega), nI_toInt (by omega)]
  exact zbmod (by omega) (by omega)
theorem pu_max0 {a b : Nat} (ha : a < 2 ^ 30) (hb : b < 2 ^ 30) : (if 0 < nI a - nI b then nI a - nI b else 0) = nI (a - b) := by
  by_cases c : b < a
  · rw [nI_sub (by omega), if_pos (show (0 : Int32) < nI (a - b) from nI_lt (a := 0) (by omega) (by omega))]
  · have : ¬ (0 : Int32) < nI a - nI b := by
      rw [Int32.lt_iff_toInt_lt, pu_subInt ha hb, show (0 : Int32).toInt = 0 from by decide]; omega
    rw [if_neg this, show a - b = 0 by omega]; rfl
theorem pu_min100 {a b : Nat} (ha : a < 2 ^ 30) (hb : b < 2 ^ 30) : (if nI a + nI b < 100 then nI a + nI b else 100) = nI (min 100 (a + b)) := by
  rw [nI_add]
  by_cases c : a + b < 100
  · rw [if_pos (show nI (a + b) < (100 : Int32) from nI_lt (b := 100) c (by decide)), show min 100 (a + b) = a + b by omega]
  · rw [if_neg (show ¬ nI (a + b) < (100 : Int32) from nI_nlt (b := 100) (by omega) (by omega)), show min 100 (a + b) = 100 by omega]; rfl
def pu_nd (C : Cst) (n t i : Nat) : Int32 := if i < n then C 3 i + pu_cg (C 0 0) (C 2) n t i else C 3 i
theorem pu_endC {P : Int32 × Cst → Prop} {C : Cst} {n t h m u D gr l h2 X m' : Nat} (h9 : C 9 0 = nI n) (h10 : C 10 0 = nI t) (h11 : C 11 0 = nI h) (h13 : C 13 0 = nI m) (hd : 1 ≤ C 0 0) (hn : n ≤ 8) (ht : t ≤ 1000) (hh : h ≤ 100) (hm : m < 256) (hu : pu_sm (C 2) 8 = nI u) (hD : pu_dm (C 0 0) (nI u) = nI D) (hD4 : D ≤ 40000) (hgr : C 0 2 = nI gr) (hgr5 : gr ≤ 50) (hl : C 0 1 = nI l) (hl1 : l ≤ 100) (h6 : ∀ i, i < n → ∃ a, a < 2 ^ 31 ∧ C 6 i + C 2 i = nI a) (eh2 : h2 = min 100 (h - D + gr)) (eX : X = pu_ex (fun i => C 6 i + C 2 i) m n (pu_tn l h2 n)) (em : m' = pu_db (fun i => decide (C 0 3 < pu_nd C n t i)) X 8)
    (k : ∀ C' : Cst, (∀ j, (j = 0 ∨ j = 1 ∨ j = 4 ∨ j = 9 ∨ j = 12 ∨ j = 16) → C' j = C j) → C' 10 0 = nI (t + 1) → C' 11 0 = nI h2 → C' 13 0 = nI m' → C' 14 0 = C 14 0 + nI D → C' 15 0 = C 15 0 + nI (D - h) → (∀ i, i < 8 → C' 2 i = 0 ∧ C' 3 i = pu_nd C n t i ∧ C' 5 i = C 5 i + C 2 i ∧ C' 6 i = (if X.testBit i then 0 else C 6 i + C 2 i) ∧ C' 7 i = C 7 i + (if m'.testBit i then 1 else 0)) → (∀ j, C' 8 j = if j = (t % 6) * 5 + 4 then nI m else if j = (t % 6) * 5 + 3 then nI h2 else if j = (t % 6) * 5 + 2 then nI D else if j = (t % 6) * 5 + 1 then nI u else if j = (t % 6) * 5 then nI t else C 8 j) → P (nI D, C')) : P (sX0_endSeason C) := by
  unfold sX0_endSeason
  refine p_ltv (Q9 := P) (fun r er => p_ltv (fun d ed => p_ltv (fun v ev => ?_)))
  have er' : r = nI u := by rw [er]; dsimp only [sX0_allUnits, ltv]; rw [pu_sum2, hu]
  have ed' : d = nI D := by rw [ed, er', pu_damage hd, hD]
  rw [h13] at ev
  subst er' ed' ev
  refine p_ltv (fun S1 e1 => ?_)
  have f1 := pu_owec (P := fun Y => (∀ j, j ≠ 3 → Y j = C j) ∧ ∀ i, Y 3 i = pu_nd C n t i) h9 h10 hd hn ht (fun C' a b => ⟨a, b⟩)
  rw [← e1] at f1
  obtain ⟨a1, b1⟩ := f1
  clear e1
  refine p_ltv (fun S2 e2 => p_ltv (fun S3 e3 => p_ltv (fun S4 e4 => p_ltv (fun S5 e5 => ?_))))
  have x11 : S2 11 0 = nI h := by rw [e2, pu_un _ _ _ (by decide), a1 11 (by decide), h11]
  rw [x11, pu_max0 (by omega) (by omega)] at e3
  have x11' : S3 11 0 = nI h := by rw [e3, pu_un _ _ _ (by decide), x11]
  rw [x11', pu_max0 (by omega) (by omega)] at e4
  have y11 : S4 11 0 = nI (h - D) := by rw [e4, pu_up, if_pos rfl, if_pos rfl]
  have y02 : S4 0 2 = nI gr := by rw [e4, pu_un _ _ _ (by decide), e3, pu_un _ _ _ (by decide), e2, pu_un _ _ _ (by decide), a1 0 (by decide), hgr]
  rw [y11, y02, pu_min100 (by omega) (by omega), ← eh2] at e5
  have c14 : S5 14 0 = C 14 0 + nI D := by rw [e5, pu_un _ _ _ (by decide), e4, pu_un _ _ _ (by decide), e3, pu_un _ _ _ (by decide), e2, pu_up, if_pos rfl, if_pos rfl, a1 14 (by decide)]
  have c15 : S5 15 0 = C 15 0 + nI (D - h) := by rw [e5, pu_un _ _ _ (by decide), e4, pu_un _ _ _ (by decide), e3, pu_up, if_pos rfl, if_pos rfl, e2, pu_un _ _ _ (by decide), a1 15 (by decide)]
  have c11 : S5 11 0 = nI h2 := by rw [e5, pu_up, if_pos rfl, if_pos rfl]
  have cc : ∀ j, j ≠ 11 → j ≠ 14 → j ≠ 15 → S5 j = S1 j := fun j q1 q2 q3 => by rw [e5, pu_un _ _ _ q1, e4, pu_un _ _ _ q1, e3, pu_un _ _ _ q3, e2, pu_un _ _ _ q2]
  clear e2 e3 e4 e5 x11 x11' y11 y02
  refine p_ltv (fun S6 e6 => ?_)
  have s10 : S5 10 0 = nI t := by rw [cc 10 (by decide) (by decide) (by decide), a1 10 (by decide), h10]
  have s13 : S5 13 0 = nI m := by rw [cc 13 (by decide) (by decide) (by decide), a1 13 (by decide), h13]
  have tm := Nat.mod_lt t (show 0 < 6 by decide)
  have ev3 : ((S5 10 0 % 6) * 5) = nI ((t % 6) * 5) := by rw [s10, show (6 : Int32) = nI 6 from rfl, pu_mod (by omega) (by decide), show (5 : Int32) = nI 5 from rfl, nI_mul]
  dsimp only [sX0_keepSeason, ltv] at e6
  rw [ev3, show (1 : Int32) = nI 1 from rfl, show (2 : Int32) = nI 2 from rfl, show (3 : Int32) = nI 3 from rfl, show (4 : Int32) = nI 4 from rfl, nI_add, nI_add, nI_add, nI_add, nI_clamp (by omega), nI_clamp (by omega), nI_clamp (by omega), nI_clamp (by omega), nI_clamp (by omega)] at e6
  have k8 : ∀ j, S6 8 j = if j = (t % 6) * 5 + 4 then nI m else if j = (t % 6) * 5 + 3 then nI h2 else if j = (t % 6) * 5 + 2 then nI D else if j = (t % 6) * 5 + 1 then nI u else if j = (t % 6) * 5 then nI t else C 8 j := by
    intro j
    rw [e6]
    simp only [pu_up, show ¬ (11 : Nat) = 8 by decide, show ¬ (13 : Nat) = 8 by decide, if_true, if_false]
    rw [c11, s13, s10, cc 8 (by decide) (by decide) (by decide), a1 8 (by decide)]
  have cc6 : ∀ j, j ≠ 8 → S6 j = S5 j := fun j q => by rw [e6, pu_un _ _ _ q, pu_un _ _ _ q, pu_un _ _ _ q, pu_un _ _ _ q, pu_un _ _ _ q]
  clear e6
  refine p_ltv (fun S7 e7 => ?_)
  have f7 := pu_book (C := S6) (P := fun Y => (∀ j, j ≠ 2 → j ≠ 5 → j ≠ 6 → Y j = S6 j) ∧ ∀ i, i < 8 → Y 2 i = 0 ∧ Y 5 i = S6 5 i + S6 2 i ∧ Y 6 i = S6 6 i + S6 2 i) (fun C' a b => ⟨a, b⟩)
  rw [← e7] at f7
  obtain ⟨a7, b7⟩ := f7
  clear e7
  have p2 : S6 2 = C 2 := by rw [cc6 2 (by decide), cc 2 (by decide) (by decide) (by decide), a1 2 (by decide)]
  have p5 : S6 5 = C 5 := by rw [cc6 5 (by decide), cc 5 (by decide) (by decide) (by decide), a1 5 (by decide)]
  have p6 : S6 6 = C 6 := by rw [cc6 6 (by decide), cc 6 (by decide) (by decide) (by decide), a1 6 (by decide)]
  rw [p2, p5, p6] at b7
  refine p_ltv (fun S8 e8 => p_ltv (fun S9 e9 => p_ltv (fun S10 e10 => ?_)))
  have c89 : ∀ j, j ≠ 10 → j ≠ 13 → S9 j = S7 j := fun j q1 q2 => by rw [e9, pu_un _ _ _ q2, e8, pu_un _ _ _ q1]
  have s913 : S9 13 0 = 0 := by rw [e9, pu_up, if_pos rfl, if_pos rfl]
  have s910 : S9 10 0 = nI (t + 1) := by
    rw [e9, pu_un _ _ _ (by decide), e8, pu_up, if_pos rfl, if_pos rfl, a7 10 (by decide) (by decide) (by decide), cc6 10 (by decide), s10, nI_1]
  clear e8 e9
  have q9 : ∀ j, j ≠ 2 → j ≠ 3 → j ≠ 5 → j ≠ 6 → j ≠ 8 → j ≠ 10 → j ≠ 11 → j ≠ 13 → j ≠ 14 → j ≠ 15 → S9 j = C j := fun j z2 z3 z5 z6 z8 z10 z11 z13 z14 z15 => by rw [c89 j z10 z13, a7 j z2 z5 z6, cc6 j z8, cc j z11 z14 z15, a1 j z3]
  have s99 : S9 9 0 = nI n := by rw [q9 9 (by decide) (by decide) (by decide) (by decide) (by decide) (by decide) (by decide) (by decide) (by decide) (by decide), h9]
  have s90 : S9 0 = C 0 := q9 0 (by decide) (by decide) (by decide) (by decide) (by decide) (by decide) (by decide) (by decide) (by decide) (by decide)
  have s911 : S9 11 0 = nI h2 := by rw [c89 11 (by decide) (by decide), a7 11 (by decide) (by decide) (by decide), cc6 11 (by decide), c11]
  have tt := pu_turns (C := S9) s99 (by rw [s90, hl]) s911 hn hl1 (by omega)
  have ht100 : pu_tn l h2 n ≤ 100 := by unfold pu_tn; split <;> omega
  have s96 : ∀ i, i < 8 → S9 6 i = C 6 i + C 2 i := fun i hi => by rw [c89 6 (by decide) (by decide)]; exact (b7 i hi).2.2
  have f10 := pu_exT (C := S9) (B := m) (P := fun Y => (∀ j, j ≠ 6 → j ≠ 13 → Y j = S9 j) ∧ Y 13 0 = nI (pu_ex (S9 6) m n (pu_tn l h2 n)) ∧ ∀ i, Y 6 i = if (pu_ex (S9 6) m n (pu_tn l h2 n)).testBit i then 0 else S9 6 i) s99 hn hm ht100 tt.1 tt.2 s913 (fun i hi => by rw [s96 i (by omega)]; exact h6 i hi) (fun C' a b c => ⟨a, b, c⟩)
  rw [← e10, pu_ex_congr (f := S9 6) (g := fun i => C 6 i + C 2 i) (fun i hi => s96 i (by omega)), ← eX] at f10
  obtain ⟨a10, b10, d10⟩ := f10
  have hX : X < 256 := by rw [eX]; exact pu_ex_lt hn _
  clear e10 tt
  refine p_ltv (fun S11 e11 => ?_)
  have f11 := pu_debt (C := S10) (P := fun Y => (∀ j, j ≠ 13 → Y j = S10 j) ∧ Y 13 0 = nI (pu_db (fun i => decide (S10 0 3 < S10 3 i)) X 8)) hX b10 (fun C' a b => ⟨a, b⟩)
  have q103 : S10 3 = fun i => pu_nd C n t i := by
    funext i
    rw [a10 3 (by decide) (by decide), c89 3 (by decide) (by decide), a7 3 (by decide) (by decide) (by decide), cc6 3 (by decide), cc 3 (by decide) (by decide) (by decide)]; exact b1 i
  rw [← e11, q103, a10 0 (by decide) (by decide), s90, ← em] at f11
  obtain ⟨a11, b11⟩ := f11
  clear e11
  refine p_ltv (fun S12 e12 => ?_)
  have hm' : m' < 256 := by rw [em]; exact pu_db_lt hX 8 (by decide)
  have f12 := pu_note (C := S11) (P := fun Y => (∀ j, j ≠ 7 → Y j = S11 j) ∧ ∀ i, i < 8 → Y 7 i = S11 7 i + (if m'.testBit i then 1 else 0)) hm' b11 (fun C' a b => ⟨a, b⟩)
  rw [← e12] at f12
  obtain ⟨a12, b12⟩ := f12
  clear e12
  have z : ∀ j, j ≠ 6 → j ≠ 7 → j ≠ 13 → S12 j = S9 j := fun j z6 z7 z13 => by rw [a12 j z7, a11 j z13, a10 j z6 z13]
  have z89 : ∀ j, j ≠ 2 → j ≠ 5 → j ≠ 6 → j ≠ 7 → j ≠ 8 → j ≠ 10 → j ≠ 13 → S12 j = S5 j := fun j z2 z5 z6 z7 z8 z10 z13 => by rw [z j z6 z7 z13, c89 j z10 z13, a7 j z2 z5 z6, cc6 j z8]
  refine k S12 (fun j hj => ?_) ?_ ?_ ?_ ?_ ?_ (fun i hi => ⟨?_, ?_, ?_, ?_, ?_⟩) (fun j => ?_)
  · rw [z j (by omega) (by omega) (by omega), q9 j (by omega) (by omega) (by omega) (by omega) (by omega) (by omega) (by omega) (by omega) (by omega) (by omega)]
  · rw [z 10 (by decide) (by decide) (by decide), s910]
  · rw [z 11 (by decide) (by decide) (by decide), s911]
  · rw [a12 13 (by decide), b11]
  · rw [z89 14 (by decide) (by decide) (by decide) (by decide) (by decide) (by decide) (by decide), c14]
  · rw [z89 15 (by decide) (by decide) (by decide) (by decide) (by decide) (by decide) (by decide), c15]
  · rw [z 2 (by decide) (by decide) (by decide), c89 2 (by decide) (by decide)]; exact (b7 i hi).1
  · rw [a12 3 (by decide), a11 3 (by decide), q103]
  · rw [z 5 (by decide) (by decide) (by decide), c89 5 (by decide) (by decide)]; exact (b7 i hi).2.1
  · rw [a12 6 (by decide), a11 6 (by decide), d10, s96 i hi]
  · rw [b12 i hi, a11 7 (by decide), a10 7 (by decide) (by decide), q9 7 (by decide) (by decide) (by decide) (by decide) (by decide) (by decide) (by decide) (by decide) (by decide) (by decide)]
  · rw [z 8 (by decide) (by decide) (by decide), c89 8 (by decide) (by decide), a7 8 (by decide) (by decide) (by decide)]; exact k8 j
end
section
/-! the pieces of a season's end: the reference -/
theorem pu_keeps {P : Cst → Prop} {M : Cst} {x1 x2 x3 x4 : Int32} (k : ∀ M' : Cst, (∀ j, j ≠ 0 → M' j = M j) → (∀ i, i < 77 → i ≠ 12 → M' 0 i = M 0 i) → M' 0 12 = (if M 0 12 = 6 then 6 else M 0 12 + 1) → M' 0 77 = x1 → M' 0 78 = x2 → M' 0 79 = x3 → M' 0 80 = M 0 7 → M' 0 81 = x4 → (∀ i, 82 ≤ i → i < 107 → M' 0 i = M 0 (i - 5)) → P M') : P (sX5_keeps M x1 x2 x3 x4) := by
  unfold sX5_keeps
  refine p_ltv (Q9 := P) (fun K117 e117 => p_ltv (fun K38 e38 => p_lz6 (fun B4 L4 b4 h4 => ?_)))
  refine pl6 h4 (fun k M' y1 y2 y3 y4 i5 => i5 + k = 29 ∧ y1 = x1 ∧ y2 = x2 ∧ y3 = x3 ∧ y4 = x4 ∧ (∀ j, j ≠ 0 → M' j = M j) ∧ (∀ i, M' 0 i = if 106 - k < i ∧ i ≤ 106 then M 0 (i - 5) else M 0 i)) 25 ?_ ?_ 26 0 _ _ _ _ _ _ (by decide) (by decide) ⟨rfl, rfl, rfl, rfl, rfl, fun _ _ => rfl, fun i => by rw [if_neg (by omega)]⟩
  · rintro R q M' y1 y2 y3 y4 i5 hk ⟨hi, rfl, rfl, rfl, rfl, g1, g2⟩ hR
    rw [b4]
    refine p_ite (fun c => absurd c (nI_ge (a := 4) (by omega) (by omega))) (fun _ => p_ltv (fun S eS => ?_))
    refine hR _ _ _ _ _ _ ⟨by omega, rfl, rfl, rfl, rfl, fun j hj => by rw [eS, pu_un _ _ _ hj]; exact g1 j hj, fun i => ?_⟩
    rw [eS, pu_up, if_pos rfl, g2, g2]
    by_cases e : i = 77 + i5
    · rw [if_pos e, if_neg (by omega), if_pos (by omega), e]
    · rw [if_neg e]
      by_cases c : 106 - q < i ∧ i ≤ 106
      · rw [if_pos c, if_pos (by omega)]
      · rw [if_neg c, if_neg (by omega)]
  · rintro R M' y1 y2 y3 y4 i5 ⟨hi, rfl, rfl, rfl, rfl, g1, g2⟩
    rw [b4]
    have hi4 : i5 = 4 := by omega
    subst hi4
    refine p_ite (fun _ => ?_) (fun c => absurd (show nI 4 ≤ (4 : Int32) from by decide) c)
    subst e38
    refine p_ltv (fun S1 e1 => p_ltv (fun S2 e2 => p_ltv (fun S3 e3 => p_ltv (fun S4 e4 => p_ltv (fun S5 e5 => ?_)))))
    have s5 : ∀ i, S5 0 i = if i = 81 then y4 else if i = 80 then M 0 7 else if i = 79 then y3 else if i = 78 then y2 else if i = 77 then y1 else if 81 < i ∧ i ≤ 106 then M 0 (i - 5) else M 0 i := by
      intro i
      have a7 : S3 0 7 = M 0 7 := by rw [e3, pu_up, if_pos rfl, if_neg (by decide), e2, pu_up, if_pos rfl, if_neg (by decide), e1, pu_up, if_pos rfl, if_neg (by decide), g2, if_neg (by decide)]
      rw [e5, pu_up, if_pos rfl, e4, pu_up, if_pos rfl, a7, e3, pu_up, if_pos rfl, e2, pu_up, if_pos rfl, e1, pu_up, if_pos rfl, g2]
    have sj : ∀ j, j ≠ 0 → S5 j = M j := fun j hj => by rw [e5, pu_un _ _ _ hj, e4, pu_un _ _ _ hj, e3, pu_un _ _ _ hj, e2, pu_un _ _ _ hj, e1, pu_un _ _ _ hj, g1 j hj]
    clear e1 e2 e3 e4 e5
    have s12 : S5 0 12 = M 0 12 := by rw [s5]; simp
    have fin : ∀ v, v = (if M 0 12 = 6 then 6 else M 0 12 + 1) → P (up S5 0 12 v) := by
      intro v hv
      refine k _ (fun j hj => (pu_un _ _ _ hj).trans (sj j hj)) (fun i h1 h2 => ?_) ?_ ?_ ?_ ?_ ?_ ?_ (fun i h1 h2 => ?_)
      · rw [pu_up, if_pos rfl, if_neg h2, s5, if_neg (by omega), if_neg (by omega), if_neg (by omega), if_neg (by omega), if_neg (by omega), if_neg (by omega)]
      · rw [pu_up, if_pos rfl, if_pos rfl, hv]
      · rw [pu_up, if_pos rfl, if_neg (by decide), s5]; rfl
      · rw [pu_up, if_pos rfl, if_neg (by decide), s5]; rfl
      · rw [pu_up, if_pos rfl, if_neg (by decide), s5]; rfl
      · rw [pu_up, if_pos rfl, if_neg (by decide), s5]; rfl
      · rw [pu_up, if_pos rfl, if_neg (by decide), s5]; rfl
      · rw [pu_up, if_pos rfl, if_neg (by omega), s5, if_neg (by omega), if_neg (by omega), if_neg (by omega), if_neg (by omega), if_neg (by omega), if_pos (by omega)]
    refine p_ite (fun c => ?_) (fun c => ?_)
    · subst e117
      refine p_ltv (fun S6 e6 => ?_)
      rw [e6]; exact fin _ (by rw [s12] at c ⊢; rw [if_neg c])
    · subst e117
      refine p_ltv (fun S6 e6 => ?_)
      rw [e6]; exact fin _ (by rw [s12] at c; rw [if_pos (Decidable.not_not.mp c)])
theorem pu_tnR {l h n : Nat} (h0 : 0 < n) (hn : n ≤ 8) (h1 : l ≤ 100) (h2 : h ≤ 100) : (if (if nI l ≤ nI h then (0 : Int32) else ((nI l - nI h) + 9) / 10) ≤ nI n - 1 then (if nI l ≤ nI h then (0 : Int32) else ((nI l - nI h) + 9) / 10) else nI n - 1) = nI (pu_tn l h n) := by
  have e1 : nI n - 1 = nI (n - 1) := by rw [show n = (n - 1) + 1 by omega, nI_pred]; rfl
  rw [e1]
  unfold pu_tn
  by_cases c : h < l
  · rw [if_neg (nI_ge c (by omega)), if_pos c, nI_sub (by omega), show (9 : Int32) = nI 9 from rfl, nI_add, show (10 : Int32) = nI 10 from rfl, pk_div (by omega) (by decide) (by decide)]
    by_cases c2 : (l - h + 9) / 10 ≤ n - 1
    · rw [if_pos (nI_le c2 (by omega)), show min ((l - h + 9) / 10) (n - 1) = (l - h + 9) / 10 by omega]
    · rw [if_neg (nI_ge (by omega) (by omega)), show min ((l - h + 9) / 10) (n - 1) = n - 1 by omega]
  · rw [if_pos (nI_le (by omega) (by omega)), if_neg c, if_pos (show (0 : Int32) ≤ nI (n - 1) from nI_pos' (by omega))]; rfl
theorem pu_excl {P : Cst → Prop} {M : Cst} {n l h B X : Nat} (h5 : M 0 5 = nI n) (hl : M 0 1 = nI l) (hh : M 0 7 = nI h) (h0 : 0 < n) (hn : n ≤ 8) (hl1 : l ≤ 100) (hh1 : h ≤ 100) (hB : B < 256) (eX : X = pu_ex (fun i => M 0 (13 + 8 * i + 5)) B n (pu_tn l h n)) (k : ∀ M' : Cst, (∀ j, j ≠ 0 → M' j = M j) → (∀ i, i < n → M' 0 (13 + 8 * i + 5) = (if X.testBit i then 0 else M 0 (13 + 8 * i + 5)) ∧ M' 0 (13 + 8 * i + 6) = (if (X.testBit i || decide (M 0 3 < M 0 (13 + 8 * i + 2))) = true then 1 else 0) ∧ M' 0 (13 + 8 * i + 7) = M 0 (13 + 8 * i + 7) + (if (X.testBit i || decide (M 0 3 < M 0 (13 + 8 * i + 2))) = true then 1 else 0)) → (∀ j, (∀ i, i < n → j ≠ 13 + 8 * i + 5 ∧ j ≠ 13 + 8 * i + 6 ∧ j ≠ 13 + 8 * i + 7) → M' 0 j = M 0 j) → P M') : P (sX5_excludes M (nI B)) := by
  have hX : X < 256 := by rw [eX]; exact pu_ex_lt hn _
  unfold sX5_excludes
  refine p_lz3 (Q9 := P) (fun B177 L177 b177 h177 => p_ltv (fun K174 e174 => p_lz5 (fun B71 L71 b71 h71 => p_ltv (fun K65 e65 => p_ltv (fun K40 e40 => ?_)))))
  have last : P (K174 M (nI X)) := by
    subst e174
    refine pl3 h177 (fun q M' x3 i4 => i4 = q ∧ x3 = nI X ∧ (∀ j, j ≠ 0 → M' j = M j) ∧ (∀ i, i < n → if i < q then M' 0 (13 + 8 * i + 5) = (if X.testBit i then 0 else M 0 (13 + 8 * i + 5)) ∧ M' 0 (13 + 8 * i + 6) = (if (X.testBit i || decide (M 0 3 < M 0 (13 + 8 * i + 2))) = true then 1 else 0) ∧ M' 0 (13 + 8 * i + 7) = M 0 (13 + 8 * i + 7) + (if (X.testBit i || decide (M 0 3 < M 0 (13 + 8 * i + 2))) = true then 1 else 0) else M' 0 (13 + 8 * i + 5) = M 0 (13 + 8 * i + 5) ∧ M' 0 (13 + 8 * i + 7) = M 0 (13 + 8 * i + 7)) ∧ (∀ j, (∀ i, i < n → j ≠ 13 + 8 * i + 5 ∧ j ≠ 13 + 8 * i + 6 ∧ j ≠ 13 + 8 * i + 7) → M' 0 j = M 0 j)) n ?_ ?_ 9 0 _ _ _ (by omega) (by omega) ⟨rfl, rfl, fun _ _ => rfl, fun i hi => by rw [if_neg (by omega)]; exact ⟨rfl, rfl⟩, fun _ _ => rfl⟩
    · rintro R q M' x3 i4 hk ⟨rfl, rfl, g1, g2, g3⟩ hR
      rw [b177]
      have c5 : M' 0 5 = nI n := by rw [g3 5 (fun i _ => by omega), h5]
      have c2 : M' 0 (13 + 8 * i4 + 2) = M 0 (13 + 8 * i4 + 2) := g3 _ (fun i _ => by omega)
      have c3 : M' 0 3 = M 0 3 := g3 _ (fun i _ => by omega)
      have c57 := g2 i4 hk
      rw [if_neg (by omega)] at c57
      refine p_ltv (fun K259 e259 => p_ltv (fun K254 e254 => p_ltv (fun K225 e225 => p_ltv (fun K203 e203 => ?_))))
      have k259 : ∀ S b, b = (if (X.testBit i4 || decide (M 0 3 < M 0 (13 + 8 * i4 + 2))) = true then 1 else 0) → (∀ j, j ≠ 0 → S j = M j) → (∀ j, S 0 j = if j = 13 + 8 * i4 + 5 then (if X.testBit i4 then 0 else M 0 (13 + 8 * i4 + 5)) else M' 0 j) → P (K259 S (nI X) i4 b i4) := by
        intro S b hb s1 s2
        subst e259
        refine p_ltv (fun T eT => p_ltv (fun r7 er7 => p_ltv (fun r6 er6 => p_ltv (fun U eU => ?_))))
        have eT2 : T = up S 0 (13 + 8 * i4 + 6) b := eT
        have er7' : r7 = M 0 (13 + 8 * i4 + 7) := by rw [er7]; show T 0 _ = _; rw [eT2, pu_up, if_pos rfl, if_neg (by omega), s2, if_neg (by omega)]; exact c57.2
        have er6' : r6 = b := by rw [er6]; show T 0 _ = _; rw [eT2, pu_up, if_pos rfl, if_pos rfl]
        have eU2 : U = up T 0 (13 + 8 * i4 + 7) (r7 + r6) := eU
        have uu : ∀ j, U 0 j = if j = 13 + 8 * i4 + 7 then M 0 (13 + 8 * i4 + 7) + b else if j = 13 + 8 * i4 + 6 then b else if j = 13 + 8 * i4 + 5 then (if X.testBit i4 then 0 else M 0 (13 + 8 * i4 + 5)) else M' 0 j := fun j => by rw [eU2, pu_up, if_pos rfl, er7', er6', eT2, pu_up, if_pos rfl, s2]
        refine hR _ _ _ ⟨rfl, rfl, fun j hj => by rw [eU2, pu_un _ _ _ hj, eT2, pu_un _ _ _ hj, s1 j hj], fun i hi => ?_, fun j hj => ?_⟩
        · by_cases e : i = i4
          · subst e
            rw [if_pos (by omega)]
            refine ⟨?_, ?_, ?_⟩
            · rw [uu, if_neg (by omega), if_neg (by omega), if_pos rfl]
            · rw [uu, if_neg (by omega), if_pos rfl, hb]
            · rw [uu, if_pos rfl, hb]
          · have u5 : U 0 (13 + 8 * i + 5) = M' 0 (13 + 8 * i + 5) := by rw [uu, if_neg (by omega), if_neg (by omega), if_neg (by omega)]
            have u6 : U 0 (13 + 8 * i + 6) = M' 0 (13 + 8 * i + 6) := by rw [uu, if_neg (by omega), if_neg (by omega), if_neg (by omega)]
            have u7 : U 0 (13 + 8 * i + 7) = M' 0 (13 + 8 * i + 7) := by rw [uu, if_neg (by omega), if_neg (by omega), if_neg (by omega)]
            rw [u5, u6, u7]
            have := g2 i hi
            by_cases e2 : i < i4
            · rw [if_pos e2] at this; rw [if_pos (by omega)]; exact this
            · rw [if_neg e2] at this; rw [if_neg (by omega)]; exact this
        · obtain ⟨q1, q2, q3⟩ := hj i4 hk
          rw [uu, if_neg q3, if_neg q2, if_neg q1]; exact g3 j hj
      have k254 : ∀ S, (X.testBit i4 || decide (M 0 3 < M 0 (13 + 8 * i4 + 2))) = true → (∀ j, j ≠ 0 → S j = M j) → (∀ j, S 0 j = if j = 13 + 8 * i4 + 5 then (if X.testBit i4 then 0 else M 0 (13 + 8 * i4 + 5)) else M' 0 j) → P (K254 S (nI X) i4 i4) := by
        intro S hb s1 s2
        subst e254
        exact k259 S 1 (by rw [if_pos hb]) s1 s2
      have k225 : ∀ y v, v = (if X.testBit i4 then 0 else M 0 (13 + 8 * i4 + 5)) → (¬ y = 0 ↔ X.testBit i4 = true) → P (K225 M' (nI X) i4 y v i4) := by
        intro y v hv hy
        subst e225
        refine p_ltv (fun S eS => ?_)
        have eS2 : S = up M' 0 (13 + 8 * i4 + 5) v := eS
        have s1 : ∀ j, j ≠ 0 → S j = M j := fun j hj => by rw [eS2, pu_un _ _ _ hj, g1 j hj]
        have s2 : ∀ j, S 0 j = if j = 13 + 8 * i4 + 5 then (if X.testBit i4 then 0 else M 0 (13 + 8 * i4 + 5)) else M' 0 j := fun j => by rw [eS2, pu_up, if_pos rfl, hv]
        refine p_ite (fun c => k254 S (by rw [hy.mp c]; rfl) s1 s2) (fun c => p_ltv (fun r er => ?_))
        have er' : r = M 0 (13 + 8 * i4 + 2) := by rw [er]; show S 0 _ = _; rw [s2, if_neg (by omega), c2]
        have hb : X.testBit i4 = false := by
          cases hx : X.testBit i4 with
          | true => exact absurd (hy.mpr hx) c
          | false => rfl
        refine p_ite (fun c4 => k259 S 0 ?_ s1 s2) (fun c4 => k254 S ?_ s1 s2)
        · rw [er', s2 3, if_neg (by omega), c3] at c4
          rw [hb, decide_eq_false (Int32.not_lt.mpr c4), if_neg (by decide)]
        · rw [er', s2 3, if_neg (by omega), c3] at c4
          rw [decide_eq_true (Int32.not_le.mp c4), Bool.or_true]
      refine p_ite (fun c => absurd c (by rw [c5]; exact pu_5n hk hn)) (fun _ => ?_)
      rw [pu_bits X hX i4 (by omega)]
      refine p_ite (fun c => ?_) (fun c => ?_)
      · have hb : ¬ X.testBit i4 = true := fun q => c (by rw [if_pos q])
        subst e203
        refine p_ite (fun _ => p_ltv (fun r er => ?_)) (fun c => absurd rfl c)
        have er' : r = M 0 (13 + 8 * i4 + 5) := er.trans c57.1
        exact k225 0 r (by rw [er', if_neg hb]) ⟨fun q => absurd rfl q, fun q => absurd q hb⟩
      · have hb : X.testBit i4 = true := Decidable.byContradiction (fun q => c (by rw [if_neg q]; decide))
        subst e203
        refine p_ite (fun c => absurd c (by decide)) (fun _ => ?_)
        exact k225 1 0 (by rw [if_pos hb]) ⟨fun _ => hb, fun _ => by decide⟩
    · rintro R M' x3 i4 ⟨rfl, rfl, g1, g2, g3⟩
      rw [b177]
      have c5 : M' 0 5 = nI i4 := by rw [g3 5 (fun i _ => by omega), h5]
      refine p_ltv (fun K259 e259 => p_ltv (fun K254 e254 => p_ltv (fun K225 e225 => p_ltv (fun K203 e203 => p_ite (fun _ => k M' g1 (fun i hi => ?_) g3) (fun c => absurd (show M' 0 5 ≤ nI i4 by rw [c5]; exact nI_le (Nat.le_refl _) (by omega)) c)))))
      have := g2 i hi
      rw [if_pos hi] at this; exact this
  have ht100 : pu_tn l h n ≤ 100 := by unfold pu_tn; split <;> omega
  have outer : P (K65 M (nI B) (nI (pu_tn l h n))) := by
    subst e65
    show P (L71 ((nI (pu_tn l h n)).toNatClampNeg + 1) M (nI B) (nI (pu_tn l h n)) 0 0)
    rw [nI_clamp (by omega)]
    refine pl5 h71 (fun q M' x1 x2 x3 i4 => i4 = q ∧ M' = M ∧ x1 = nI B ∧ x2 = nI (pu_tn l h n) ∧ x3 = nI (pu_ex (fun i => M 0 (13 + 8 * i + 5)) B n q)) (pu_tn l h n) ?_ ?_ _ 0 _ _ _ _ _ (by omega) (by omega) ⟨rfl, rfl, rfl, rfl, rfl⟩
    · rintro R q M' x1 x2 x3 i4 hk ⟨rfl, rfl, rfl, rfl, rfl⟩ hR
      rw [b71]
      have hx := pu_ex_lt (f := fun i => M' 0 (13 + 8 * i + 5)) (B := B) hn i4
      generalize hE : pu_ex (fun i => M' 0 (13 + 8 * i + 5)) B n i4 = E at *
      have ho := pu_orm B hB E hx
      refine p_ltv (fun K168 e168 => p_ltv (fun K156 e156 => p_lz7 (fun B85 L85 b85 h85 => p_ite (fun c => absurd c (nI_ge hk (by omega))) (fun _ => ?_))))
      refine pl7 h85 (fun q M2 x1 x2 x3 i4' x5 i6 => i6 = q ∧ M2 = M' ∧ x1 = nI B ∧ x2 = nI (pu_tn l h n) ∧ x3 = nI E ∧ i4' = i4 ∧ x5 = pu_oc (-10004) nI (pu_am (fun i => !(B ||| E).testBit i) (fun i => M' 0 (13 + 8 * i + 5)) q)) n ?_ ?_ 9 0 _ _ _ _ _ _ _ (by omega) (by omega) ⟨rfl, rfl, rfl, rfl, rfl, rfl, rfl⟩
      · rintro R2 q M2 x1 x2 x3 i4' x5 i6 hk2 ⟨rfl, rfl, rfl, rfl, rfl, rfl, rfl⟩ hR2
        rw [b85]
        refine p_ltv (fun K148 e148 => p_ltv (fun K146 e146 => p_ltv (fun K141 e141 => p_ltv (fun K124 e124 => p_ltv (fun K112 e112 => ?_)))))
        have k148 : ∀ v, v = pu_oc (-10004) nI (pu_am (fun i => !(B ||| E).testBit i) (fun i => M2 0 (13 + 8 * i + 5)) (i6 + 1)) → P (K148 M2 (nI B) (nI (pu_tn l h n)) (nI E) i4' i6 v) := by
          intro v hv
          subst e148
          exact hR2 _ _ _ _ _ _ _ ⟨rfl, rfl, rfl, rfl, rfl, rfl, hv⟩
        have k146 : ∀ v, v = pu_oc (-10004) nI (pu_am (fun i => !(B ||| E).testBit i) (fun i => M2 0 (13 + 8 * i + 5)) (i6 + 1)) → P (K146 M2 (nI B) (nI (pu_tn l h n)) (nI E) i4' v i6) := by
          intro v hv
          subst e146
          exact k148 _ hv
        have k141 : nI i6 = pu_oc (-10004) nI (pu_am (fun i => !(B ||| E).testBit i) (fun i => M2 0 (13 + 8 * i + 5)) (i6 + 1)) → P (K141 M2 (nI B) (nI (pu_tn l h n)) (nI E) i4' i6) := by
          intro hv
          subst e141
          exact k148 _ hv
        refine p_ite (fun c => absurd c (by rw [h5]; exact pu_5n hk2 hn)) (fun _ => ?_)
        rw [ho.1, pu_bits _ ho.2 i6 (by omega)]
        refine p_ite (fun c => ?_) (fun c => ?_)
        · have hb : (B ||| E).testBit i6 = true := Decidable.byContradiction (fun q => c (by rw [if_neg q]))
          subst e112
          refine p_ite (fun _ => k146 _ ?_) (fun c => absurd rfl c)
          rw [pu_am0 (by simp [hb])]
        · have hb : ¬ (B ||| E).testBit i6 = true := fun q => c (by rw [if_pos q]; decide)
          have hp : (fun i => !(B ||| E).testBit i) i6 = true := by simp [hb]
          subst e112
          refine p_ite (fun c => absurd c (by decide)) (fun _ => ?_)
          cases e : pu_am (fun i => !(B ||| E).testBit i) (fun i => M2 0 (13 + 8 * i + 5)) i6 with
          | none =>
            refine p_ite (fun _ => k141 ?_) (fun c => absurd (show (-10004 : Int32) < 0 from pu_n4) c)
            rw [pu_am1 hp e]; rfl
          | some j =>
            have hj := (pu_am_some e).1
            refine p_ite (fun c => absurd c (nI_pos (n := j) (by omega))) (fun _ => ?_)
            show P (K124 M2 (nI B) (nI (pu_tn l h n)) (nI E) i4' (nI j).toNatClampNeg i6)
            rw [nI_clamp (by omega)]
            subst e124
            refine p_ltv (fun r er => p_ltv (fun r2 er2 => p_ite (fun c => k146 _ ?_) (fun c => k141 ?_)))
            · rw [pu_am3 hp e (Int32.not_lt.mpr (by rw [er, er2] at c; exact c))]; rfl
            · rw [pu_am2 hp e (by rw [er, er2] at c; exact Int32.not_le.mp c)]; rfl
      · rintro R2 M2 x1 x2 x3 i4' x5 i6 ⟨rfl, rfl, rfl, rfl, rfl, rfl, rfl⟩
        rw [b85]
        refine p_ltv (fun K148 e148 => p_ltv (fun K146 e146 => p_ltv (fun K141 e141 => p_ltv (fun K124 e124 => p_ltv (fun K112 e112 => p_ite (fun _ => ?_) (fun c => absurd (show M2 0 5 ≤ nI i6 by rw [h5]; exact nI_le (Nat.le_refl _) (by omega)) c))))))
        subst e156
        cases e : pu_am (fun i => !(B ||| E).testBit i) (fun i => M2 0 (13 + 8 * i + 5)) i6 with
        | none =>
          refine p_ite (fun _ => ?_) (fun c => absurd (show (-10004 : Int32) < 0 from pu_n4) c)
          subst e168
          refine hR _ _ _ _ _ ⟨rfl, rfl, rfl, rfl, ?_⟩
          rw [pu_ex0 (by rw [hE]; exact e), hE]
        | some j =>
          have hj := (pu_am_some e).1
          refine p_ite (fun c => absurd c (nI_pos (n := j) (by omega))) (fun _ => p_ltv (fun v ev => ?_))
          subst e168
          refine hR _ _ _ _ _ ⟨rfl, rfl, rfl, rfl, ?_⟩
          rw [pu_ex1 (by rw [hE]; exact e), hE, ev]
          exact (pu_orb E hx j (by omega)).1
    · rintro R M' x1 x2 x3 i4 ⟨rfl, rfl, rfl, rfl, rfl⟩
      rw [b71]
      refine p_ltv (fun K168 e168 => p_ltv (fun K156 e156 => p_lz7 (fun B85 L85 b85 h85 => p_ite (fun _ => ?_) (fun c => absurd (nI_le (Nat.le_refl _) (by omega)) c))))
      rw [← eX]; exact last
  have k40 : ∀ v, v = (if nI l ≤ nI h then (0 : Int32) else ((nI l - nI h) + 9) / 10) → P (K40 M (nI B) v) := by
    intro v hv
    have := pu_tnR h0 hn hl1 hh1
    rw [← hv] at this
    subst e40
    refine p_ite (fun c => ?_) (fun c => ?_)
    · rw [h5] at c; rw [if_pos c] at this; rw [this]; exact outer
    · rw [h5] at c; rw [if_neg c] at this; rw [h5, this]; exact outer
  refine p_ite (fun c => ?_) (fun c => ?_)
  · rw [hl, hh] at c; exact k40 _ (by rw [if_pos c])
  · rw [hl, hh] at c; exact k40 _ (by rw [if_neg c, hl, hh])
end
section
theorem pu_endR {P : Int32 × Cst → Prop} {M : Cst} {n t h m u D gr l h2 X : Nat} (h5 : M 0 5 = nI n) (h6 : M 0 6 = nI t) (h7 : M 0 7 = nI h) (h0 : 0 < n) (hn : n ≤ 8) (ht : t ≤ 1000) (hh : h ≤ 100) (hm : m < 2 ^ n) (hb : ∀ i, i < n → M 0 (13 + 8 * i + 6) = (if m.testBit i then 1 else 0)) (hu : pu_sm (fun i => M 0 (13 + 8 * i + 1)) n = nI u) (hD : pu_dm (M 0 0) (nI u) = nI D) (hD4 : D ≤ 40000) (hgr : M 0 2 = nI gr) (hgr5 : gr ≤ 50) (hl : M 0 1 = nI l) (hl1 : l ≤ 100) (eh2 : h2 = min 100 (h - D + gr)) (eX : X = pu_ex (fun i => M 0 (13 + 8 * i + 5) + M 0 (13 + 8 * i + 1)) m n (pu_tn l h2 n))
    (k : ∀ M' : Cst, (∀ j, j ≠ 0 → j ≠ 7 → M' j = M j) → (∀ j, j < 13 → j ≠ 6 → j ≠ 7 → j ≠ 9 → j ≠ 10 → j ≠ 12 → M' 0 j = M 0 j) → M' 0 6 = nI (t + 1) → M' 0 7 = nI h2 → M' 0 9 = M 0 9 + nI D → M' 0 10 = M 0 10 + nI (D - h) → M' 0 12 = (if M 0 12 = 6 then 6 else M 0 12 + 1) → (∀ i, i < n → M' 0 (13 + 8 * i + 0) = M 0 (13 + 8 * i + 0) ∧ M' 0 (13 + 8 * i + 1) = 0 ∧ M' 0 (13 + 8 * i + 2) = M 0 (13 + 8 * i + 2) + pu_cg (M 0 0) (fun k => M 0 (13 + 8 * k + 1)) n t i ∧ M' 0 (13 + 8 * i + 3) = M 0 (13 + 8 * i + 3) ∧ M' 0 (13 + 8 * i + 4) = M 0 (13 + 8 * i + 4) + M 0 (13 + 8 * i + 1) ∧ M' 0 (13 + 8 * i + 5) = (if X.testBit i then 0 else M 0 (13 + 8 * i + 5) + M 0 (13 + 8 * i + 1)) ∧ M' 0 (13 + 8 * i + 6) = (if (X.testBit i || decide (M 0 3 < M 0 (13 + 8 * i + 2) + pu_cg (M 0 0) (fun k => M 0 (13 + 8 * k + 1)) n t i)) = true then 1 else 0) ∧ M' 0 (13 + 8 * i + 7) = M 0 (13 + 8 * i + 7) + (if (X.testBit i || decide (M 0 3 < M 0 (13 + 8 * i + 2) + pu_cg (M 0 0) (fun k => M 0 (13 + 8 * k + 1)) n t i)) = true then 1 else 0)) → M' 0 77 = nI t → M' 0 78 = nI u → M' 0 79 = nI D → M' 0 80 = nI h2 → M' 0 81 = nI m → (∀ i, 82 ≤ i → i < 107 → M' 0 i = M 0 (i - 5)) → P (nI D, M')) : P (sX5_ends M) := by
  unfold sX5_ends
  refine p_ltv (Q9 := P) (fun K271 e271 => p_ltv (fun K226 e226 => p_ltv (fun K194 e194 => p_ltv (fun K151 e151 => p_lz5 (fun B60 L60 b60 h60 => p_ltv (fun K57 e57 => p_lz5 (fun B20 L20 b20 h20 => p_ltv (fun x1 ex1 => p_ltv (fun x2 ex2 => p_ltv (fun x3 ex3 => ?_))))))))))
  rw [pu_sum5r hn h5, hu] at ex1
  rw [ex1] at ex2
  have ex2' : x2 = nI D := ex2.trans hD
  rw [pu_outSet hn h5 hm hb] at ex3
  rw [ex1, ex2', ex3]
  clear ex1 ex2 ex2' ex3
  have fin : ∀ Y : Cst, (∀ j, j ≠ 0 → j ≠ 7 → Y j = M j) → (∀ i, i < n → Y 0 (13 + 8 * i + 1) = 0 ∧ Y 0 (13 + 8 * i + 2) = M 0 (13 + 8 * i + 2) + pu_cg (M 0 0) (fun k => M 0 (13 + 8 * k + 1)) n t i ∧ Y 0 (13 + 8 * i + 4) = M 0 (13 + 8 * i + 4) + M 0 (13 + 8 * i + 1) ∧ Y 0 (13 + 8 * i + 5) = M 0 (13 + 8 * i + 5) + M 0 (13 + 8 * i + 1)) → (∀ j, (∀ i, i < n → j ≠ 13 + 8 * i + 1 ∧ j ≠ 13 + 8 * i + 2 ∧ j ≠ 13 + 8 * i + 4 ∧ j ≠ 13 + 8 * i + 5) → Y 0 j = M 0 j) → P (K151 Y (nI u) (nI D) (nI m)) := by
    intro Y y1 y2 y3
    subst e151
    refine p_ltv (fun S1 e1 => ?_)
    have s17 : S1 0 7 = nI h := by rw [e1, pu_up, if_pos rfl, if_neg (by decide), y3 7 (fun i _ => by omega), h7]
    have k271 : ∀ S4 : Cst, (∀ j, j ≠ 0 → S4 j = Y j) → (∀ j, j ≠ 7 → S4 0 j = if j = 10 then M 0 10 + nI (D - h) else if j = 9 then M 0 9 + nI D else Y 0 j) → ∀ v, v = nI h2 → P (K271 S4 (nI u) (nI D) (nI m) v) := by
      intro S4 q1 q2 v hv
      subst e271
      refine p_ltv (fun S5 e5 => p_ltv (fun S6 e6 => p_ltv (fun S7 e7 => p_ltv (fun S8 e8 => ?_))))
      have s5 : ∀ j, S5 0 j = if j = 7 then nI h2 else if j = 10 then M 0 10 + nI (D - h) else if j = 9 then M 0 9 + nI D else Y 0 j := by
        intro j
        rw [e5, pu_up, if_pos rfl, hv]
        by_cases c : j = 7
        · rw [if_pos c, if_pos c]
        · rw [if_neg c, if_neg c, q2 j c]
      have s5k : ∀ j, j ≠ 0 → S5 j = Y j := fun j hj => by rw [e5, pu_un _ _ _ hj, q1 j hj]
      have s56 : S5 0 6 = nI t := by rw [s5, if_neg (by decide), if_neg (by decide), if_neg (by decide), y3 6 (fun i _ => by omega), h6]
      rw [s56] at e6
      have f6 := pu_keeps (M := S5) (x1 := nI t) (x2 := nI u) (x3 := nI D) (x4 := nI m) (P := fun Z => (∀ j, j ≠ 0 → Z j = S5 j) ∧ (∀ i, i < 77 → i ≠ 12 → Z 0 i = S5 0 i) ∧ Z 0 12 = (if S5 0 12 = 6 then 6 else S5 0 12 + 1) ∧ Z 0 77 = nI t ∧ Z 0 78 = nI u ∧ Z 0 79 = nI D ∧ Z 0 80 = S5 0 7 ∧ Z 0 81 = nI m ∧ ∀ i, 82 ≤ i → i < 107 → Z 0 i = S5 0 (i - 5)) (fun Z a b c d e f g i j => ⟨a, b, c, d, e, f, g, i, j⟩)
      rw [← e6] at f6
      obtain ⟨a6, b6, c6, k77, k78, k79, k80, k81, k82⟩ := f6
      have s512 : S5 0 12 = M 0 12 := by rw [s5, if_neg (by decide), if_neg (by decide), if_neg (by decide), y3 12 (fun i _ => by omega)]
      rw [s512] at c6
      rw [s5, if_pos rfl] at k80
      have s6 : ∀ i, i < 77 → i ≠ 12 → i ≠ 7 → i ≠ 9 → i ≠ 10 → S6 0 i = Y 0 i := fun i z1 z2 z3 z4 z5 => by rw [b6 i z1 z2, s5, if_neg z3, if_neg z5, if_neg z4]
      have s67 : S6 0 7 = nI h2 := by rw [b6 7 (by decide) (by decide), s5, if_pos rfl]
      have s69 : S6 0 9 = M 0 9 + nI D := by rw [b6 9 (by decide) (by decide), s5]; rfl
      have s610 : S6 0 10 = M 0 10 + nI (D - h) := by rw [b6 10 (by decide) (by decide), s5]; rfl
      have s6r : ∀ i w, i < n → w < 8 → S6 0 (13 + 8 * i + w) = Y 0 (13 + 8 * i + w) := fun i w z1 z2 => s6 _ (by omega) (by omega) (by omega) (by omega) (by omega)
      have s7 : ∀ j, S7 0 j = if j = 6 then nI (t + 1) else S6 0 j := by
        intro j
        rw [e7, pu_up, if_pos rfl, b6 6 (by decide) (by decide), s56, nI_1]
      have s7k : ∀ j, j ≠ 0 → S7 j = Y j := fun j hj => by rw [e7, pu_un _ _ _ hj, a6 j hj, s5k j hj]
      clear e5 e6 e7
      have s7r : ∀ i w, i < n → w < 8 → S7 0 (13 + 8 * i + w) = Y 0 (13 + 8 * i + w) := fun i w z1 z2 => by rw [s7, if_neg (by omega), s6r i w z1 z2]
      have s7s : ∀ j, j < 13 → j ≠ 6 → j ≠ 7 → j ≠ 9 → j ≠ 10 → j ≠ 12 → S7 0 j = M 0 j := fun j z0 z6 z7 z9 z10 z12 => by rw [s7, if_neg z6, s6 j (by omega) z12 z7 z9 z10, y3 j (fun i _ => by omega)]
      have f8 := pu_excl (M := S7) (n := n) (l := l) (h := h2) (B := m) (X := X) (P := fun Z => (∀ j, j ≠ 0 → Z j = S7 j) ∧ (∀ i, i < n → Z 0 (13 + 8 * i + 5) = (if X.testBit i then 0 else S7 0 (13 + 8 * i + 5)) ∧ Z 0 (13 + 8 * i + 6) = (if (X.testBit i || decide (S7 0 3 < S7 0 (13 + 8 * i + 2))) = true then 1 else 0) ∧ Z 0 (13 + 8 * i + 7) = S7 0 (13 + 8 * i + 7) + (if (X.testBit i || decide (S7 0 3 < S7 0 (13 + 8 * i + 2))) = true then 1 else 0)) ∧ (∀ j, (∀ i, i < n → j ≠ 13 + 8 * i + 5 ∧ j ≠ 13 + 8 * i + 6 ∧ j ≠ 13 + 8 * i + 7) → Z 0 j = S7 0 j)) (by rw [s7s 5 (by decide) (by decide) (by decide) (by decide) (by decide) (by decide), h5]) (by rw [s7s 1 (by decide) (by decide) (by decide) (by decide) (by decide) (by decide), hl]) (by rw [s7, if_neg (by decide), s67]) h0 hn hl1 (by omega) (pu_m8 hn hm) (by rw [eX]; exact pu_ex_congr (fun i hi => by rw [s7r i 5 hi (by decide), (y2 i hi).2.2.2]) _) (fun Z a b c => ⟨a, b, c⟩)
      rw [← e8] at f8
      obtain ⟨a8, b8, c8⟩ := f8
      clear e8
      have c8s : ∀ j, j < 13 ∨ 77 ≤ j → S8 0 j = S7 0 j := fun j hj => c8 j (fun i _ => by omega)
      refine k S8 (fun j z0 z7 => by rw [a8 j z0, s7k j z0, y1 j z0 z7]) (fun j z0 z6 z7 z9 z10 z12 => by rw [c8s j (by omega), s7s j z0 z6 z7 z9 z10 z12]) ?_ ?_ ?_ ?_ ?_ (fun i hi => ?_) ?_ ?_ ?_ ?_ ?_ (fun i z1 z2 => ?_)
      · rw [c8s 6 (by decide), s7, if_pos rfl]
      · rw [c8s 7 (by decide), s7, if_neg (by decide), s67]
      · rw [c8s 9 (by decide), s7, if_neg (by decide), s69]
      · rw [c8s 10 (by decide), s7, if_neg (by decide), s610]
      · rw [c8s 12 (by decide), s7, if_neg (by decide), c6]
      · obtain ⟨p5, p6, p7⟩ := b8 i hi
        obtain ⟨z1, z2, z4, z5⟩ := y2 i hi
        rw [s7r i 5 hi (by decide), z5] at p5
        rw [s7s 3 (by decide) (by decide) (by decide) (by decide) (by decide) (by decide), s7r i 2 hi (by decide), z2] at p6 p7
        rw [s7r i 7 hi (by decide), y3 (13 + 8 * i + 7) (fun i _ => by omega)] at p7
        refine ⟨?_, ?_, ?_, ?_, ?_, p5, p6, p7⟩
        · rw [c8 _ (fun i _ => by omega), s7r i 0 hi (by decide), y3 _ (fun i _ => by omega)]
        · rw [c8 _ (fun i _ => by omega), s7r i 1 hi (by decide), z1]
        · rw [c8 _ (fun i _ => by omega), s7r i 2 hi (by decide), z2]
        · rw [c8 _ (fun i _ => by omega), s7r i 3 hi (by decide), y3 _ (fun i _ => by omega)]
        · rw [c8 _ (fun i _ => by omega), s7r i 4 hi (by decide), z4]
      · rw [c8s 77 (by decide), s7, if_neg (by decide), k77]
      · rw [c8s 78 (by decide), s7, if_neg (by decide), k78]
      · rw [c8s 79 (by decide), s7, if_neg (by decide), k79]
      · rw [c8s 80 (by decide), s7, if_neg (by decide), k80]
      · rw [c8s 81 (by decide), s7, if_neg (by decide), k81]
      · rw [c8s i (by omega), s7, if_neg (by omega), k82 i z1 z2, s5, if_neg (by omega), if_neg (by omega), if_neg (by omega), y3 _ (fun i _ => by omega)]
    have k226 : ∀ S3 : Cst, (∀ j, j ≠ 0 → S3 j = Y j) → (∀ j, S3 0 j = if j = 10 then M 0 10 + nI (D - h) else if j = 9 then M 0 9 + nI D else Y 0 j) → ∀ v, v = nI (h - D) → P (K226 S3 (nI u) (nI D) (nI m) v) := by
      intro S3 q1 q2 v hv
      subst e226
      refine p_ltv (fun S4 e4 => ?_)
      have s47 : S4 0 7 = nI (h - D) := by rw [e4, pu_up, if_pos rfl, if_pos rfl, hv]
      have s42 : S4 0 2 = nI gr := by rw [e4, pu_up, if_pos rfl, if_neg (by decide), q2, if_neg (by decide), if_neg (by decide), y3 2 (fun i _ => by omega), hgr]
      have s4k : ∀ j, j ≠ 0 → S4 j = Y j := fun j hj => by rw [e4, pu_un _ _ _ hj, q1 j hj]
      have s4 : ∀ j, j ≠ 7 → S4 0 j = if j = 10 then M 0 10 + nI (D - h) else if j = 9 then M 0 9 + nI D else Y 0 j := fun j hj => by rw [e4, pu_up, if_pos rfl, if_neg hj, q2]
      rw [s47, s42, nI_add]
      refine p_ite (fun c => k271 S4 s4k s4 _ ?_) (fun c => k271 S4 s4k s4 _ ?_)
      · have : h - D + gr ≤ 100 := (nI_leI (b := 100) (by omega) (by decide)).mp c
        rw [eh2, show min 100 (h - D + gr) = h - D + gr by omega]
      · have : ¬ h - D + gr ≤ 100 := fun q => c (nI_le (b := 100) q (by decide))
        rw [eh2, show min 100 (h - D + gr) = 100 by omega]; rfl
    have k194 : ∀ a b, a = nI (D - h) → b = M 0 10 → P (K194 S1 (nI u) (nI D) (nI m) a b) := by
      intro a b ha hb'
      subst e194
      refine p_ltv (fun S2 e2 => ?_)
      have s2k : ∀ j, j ≠ 0 → S2 j = Y j := fun j hj => by rw [e2, pu_un _ _ _ hj, e1, pu_un _ _ _ hj]
      have s2 : ∀ j, S2 0 j = if j = 10 then M 0 10 + nI (D - h) else if j = 9 then M 0 9 + nI D else Y 0 j := fun j => by rw [e2, pu_up, if_pos rfl, ha, hb', e1, pu_up, if_pos rfl, y3 9 (fun i _ => by omega)]
      have s27 : S2 0 7 = nI h := by rw [e2, pu_up, if_pos rfl, if_neg (by decide), s17]
      rw [s27]
      refine p_ite (fun c => k226 S2 s2k s2 _ ?_) (fun c => k226 S2 s2k s2 _ ?_)
      · exact nI_sub ((nI_leI (by omega) (by omega)).mp c)
      · have : ¬ D ≤ h := fun q => c (nI_le q (by omega))
        rw [show h - D = 0 by omega]; rfl
    have s110 : S1 0 10 = M 0 10 := by rw [e1, pu_up, if_pos rfl, if_neg (by decide), y3 10 (fun i _ => by omega)]
    rw [s17]
    refine p_ite (fun c => k194 _ _ ?_ s110) (fun c => k194 _ _ ?_ s110)
    · have := (nI_leI (by omega) (by omega)).mp c
      rw [show D - h = 0 by omega]; rfl
    · exact nI_sub (by
        have : ¬ D ≤ h := fun q => c (nI_le q (by omega))
        omega)
  have mid : ∀ Z : Cst, (∀ j, j ≠ 7 → Z j = M j) → (∀ i, i < n → Z 7 i = pu_cg (M 0 0) (fun k => M 0 (13 + 8 * k + 1)) n t i) → P (K57 Z (nI u) (nI D) (nI m)) := by
    intro Z z1 z2
    subst e57
    refine pl5 h60 (fun q Y x1 x2 x3 i4 => i4 = q ∧ x1 = nI u ∧ x2 = nI D ∧ x3 = nI m ∧ (∀ j, j ≠ 0 → Y j = Z j) ∧ (∀ i, i < n → if i < q then Y 0 (13 + 8 * i + 1) = 0 ∧ Y 0 (13 + 8 * i + 2) = M 0 (13 + 8 * i + 2) + pu_cg (M 0 0) (fun k => M 0 (13 + 8 * k + 1)) n t i ∧ Y 0 (13 + 8 * i + 4) = M 0 (13 + 8 * i + 4) + M 0 (13 + 8 * i + 1) ∧ Y 0 (13 + 8 * i + 5) = M 0 (13 + 8 * i + 5) + M 0 (13 + 8 * i + 1) else Y 0 (13 + 8 * i + 1) = M 0 (13 + 8 * i + 1) ∧ Y 0 (13 + 8 * i + 2) = M 0 (13 + 8 * i + 2) ∧ Y 0 (13 + 8 * i + 4) = M 0 (13 + 8 * i + 4) ∧ Y 0 (13 + 8 * i + 5) = M 0 (13 + 8 * i + 5)) ∧ (∀ j, (∀ i, i < n → j ≠ 13 + 8 * i + 1 ∧ j ≠ 13 + 8 * i + 2 ∧ j ≠ 13 + 8 * i + 4 ∧ j ≠ 13 + 8 * i + 5) → Y 0 j = M 0 j)) n ?_ ?_ 9 0 _ _ _ _ _ (by omega) (by omega) ⟨rfl, rfl, rfl, rfl, fun _ _ => rfl, fun i hi => by rw [if_neg (by omega), z1 0 (by decide)]; exact ⟨rfl, rfl, rfl, rfl⟩, fun j _ => by rw [z1 0 (by decide)]⟩
    · rintro R q Y x1 x2 x3 i4 hk ⟨rfl, rfl, rfl, rfl, g1, g2, g3⟩ hR
      rw [b60]
      have o := g2 i4 hk
      rw [if_neg (by omega)] at o
      obtain ⟨o1, o2, o4, o5⟩ := o
      refine p_ite (fun c => absurd c (by rw [g3 5 (fun i _ => by omega), h5]; exact pu_5n hk hn)) (fun _ => p_ltv (fun v1 f1 => p_ltv (fun T1 t1 => p_ltv (fun v2 f2 => p_ltv (fun v3 f3 => p_ltv (fun T2 t2 => p_ltv (fun v4 f4 => p_ltv (fun v5 f5 => p_ltv (fun T3 t3 => p_ltv (fun T4 t4 => ?_))))))))))
      have t1' : T1 = up Y 0 (13 + 8 * i4 + 2) (M 0 (13 + 8 * i4 + 2) + pu_cg (M 0 0) (fun k => M 0 (13 + 8 * k + 1)) n t i4) := by
        rw [t1, f1, g1 7 (by decide), z2 i4 hk]; show up Y 0 (13 + 8 * i4 + 2) (Y 0 (13 + 8 * i4 + 2) + _) = _; rw [o2]
      have f2' : v2 = M 0 (13 + 8 * i4 + 4) := by rw [f2]; show T1 0 _ = _; rw [t1', pu_up, if_pos rfl, if_neg (by omega), o4]
      have f3' : v3 = M 0 (13 + 8 * i4 + 1) := by rw [f3]; show T1 0 _ = _; rw [t1', pu_up, if_pos rfl, if_neg (by omega), o1]
      have t2' : T2 = up T1 0 (13 + 8 * i4 + 4) (v2 + v3) := t2
      have f4' : v4 = M 0 (13 + 8 * i4 + 5) := by rw [f4]; show T2 0 _ = _; rw [t2', pu_up, if_pos rfl, if_neg (by omega), t1', pu_up, if_pos rfl, if_neg (by omega), o5]
      have f5' : v5 = M 0 (13 + 8 * i4 + 1) := by rw [f5]; show T2 0 _ = _; rw [t2', pu_up, if_pos rfl, if_neg (by omega), t1', pu_up, if_pos rfl, if_neg (by omega), o1]
      have t3' : T3 = up T2 0 (13 + 8 * i4 + 5) (v4 + v5) := t3
      have t4' : T4 = up T3 0 (13 + 8 * i4 + 1) 0 := t4
      have tt : ∀ j, T4 0 j = if j = 13 + 8 * i4 + 1 then 0 else if j = 13 + 8 * i4 + 5 then M 0 (13 + 8 * i4 + 5) + M 0 (13 + 8 * i4 + 1) else if j = 13 + 8 * i4 + 4 then M 0 (13 + 8 * i4 + 4) + M 0 (13 + 8 * i4 + 1) else if j = 13 + 8 * i4 + 2 then M 0 (13 + 8 * i4 + 2) + pu_cg (M 0 0) (fun k => M 0 (13 + 8 * k + 1)) n t i4 else Y 0 j := fun j => by rw [t4', pu_up, if_pos rfl, t3', pu_up, if_pos rfl, f4', f5', t2', pu_up, if_pos rfl, f2', f3', t1', pu_up, if_pos rfl]
      have tk : ∀ j, j ≠ 0 → T4 j = Z j := fun j hj => by rw [t4', pu_un _ _ _ hj, t3', pu_un _ _ _ hj, t2', pu_un _ _ _ hj, t1', pu_un _ _ _ hj, g1 j hj]
      clear t1 t2 t3 t4 t1' t2' t3' t4' f1 f2 f3 f4 f5
      refine hR _ _ _ _ _ ⟨rfl, rfl, rfl, rfl, tk, fun i hi => ?_, fun j hj => ?_⟩
      · by_cases e : i = i4
        · subst e
          rw [if_pos (by omega)]
          refine ⟨?_, ?_, ?_, ?_⟩
          · rw [tt, if_pos rfl]
          · rw [tt, if_neg (by omega), if_neg (by omega), if_neg (by omega), if_pos rfl]
          · rw [tt, if_neg (by omega), if_neg (by omega), if_pos rfl]
          · rw [tt, if_neg (by omega), if_pos rfl]
        · have u1 : T4 0 (13 + 8 * i + 1) = Y 0 (13 + 8 * i + 1) := by rw [tt, if_neg (by omega), if_neg (by omega), if_neg (by omega), if_neg (by omega)]
          have u2 : T4 0 (13 + 8 * i + 2) = Y 0 (13 + 8 * i + 2) := by rw [tt, if_neg (by omega), if_neg (by omega), if_neg (by omega), if_neg (by omega)]
          have u4 : T4 0 (13 + 8 * i + 4) = Y 0 (13 + 8 * i + 4) := by rw [tt, if_neg (by omega), if_neg (by omega), if_neg (by omega), if_neg (by omega)]
          have u5 : T4 0 (13 + 8 * i + 5) = Y 0 (13 + 8 * i + 5) := by rw [tt, if_neg (by omega), if_neg (by omega), if_neg (by omega), if_neg (by omega)]
          rw [u1, u2, u4, u5]
          have := g2 i hi
          by_cases e2 : i < i4
          · rw [if_pos e2] at this; rw [if_pos (by omega)]; exact this
          · rw [if_neg e2] at this; rw [if_neg (by omega)]; exact this
      · obtain ⟨w1, w2, w4, w5⟩ := hj i4 hk
        rw [tt, if_neg w1, if_neg w5, if_neg w4, if_neg w2]; exact g3 j hj
    · rintro R Y x1 x2 x3 i4 ⟨rfl, rfl, rfl, rfl, g1, g2, g3⟩
      rw [b60]
      refine p_ite (fun _ => fin Y (fun j q0 q7 => by rw [g1 j q0, z1 j q7]) (fun i hi => ?_) g3) (fun c => absurd (show Y 0 5 ≤ nI i4 by rw [g3 5 (fun i _ => by omega), h5]; exact nI_le (Nat.le_refl _) (by omega)) c)
      have := g2 i hi
      rw [if_pos hi] at this; exact this
  refine pl5 h20 (fun q Z x1 x2 x3 i4 => i4 = q ∧ x1 = nI u ∧ x2 = nI D ∧ x3 = nI m ∧ (∀ j, j ≠ 7 → Z j = M j) ∧ (∀ i, i < q → Z 7 i = pu_cg (M 0 0) (fun k => M 0 (13 + 8 * k + 1)) n t i)) n ?_ ?_ 9 0 _ _ _ _ _ (by omega) (by omega) ⟨rfl, rfl, rfl, rfl, fun _ _ => rfl, fun i hi => absurd hi (Nat.not_lt_zero i)⟩
  · rintro R q Z x1 x2 x3 i4 hk ⟨rfl, rfl, rfl, rfl, g1, g2⟩ hR
    rw [b20]
    have z0 := g1 0 (by decide)
    refine p_ite (fun c => absurd c (by rw [z0, h5]; exact pu_5n hk hn)) (fun _ => p_ltv (fun v f => p_ltv (fun w f2 => p_ltv (fun S eS => ?_))))
    have fv : v = M 0 (13 + 8 * i4 + 1) := by rw [f]; show Z 0 _ = _; rw [z0]
    rw [pu_chargeR (by rw [z0, h5]) (by rw [z0, h6]) hn ht hk, fv, z0] at f2
    refine hR _ _ _ _ _ ⟨rfl, rfl, rfl, rfl, fun j hj => by rw [eS, pu_un _ _ _ hj, g1 j hj], fun i hi => ?_⟩
    rw [eS, pu_up, if_pos rfl]
    by_cases e : i = i4
    · rw [if_pos e, f2, e]; rfl
    · rw [if_neg e]; exact g2 i (by omega)
  · rintro R Z x1 x2 x3 i4 ⟨rfl, rfl, rfl, rfl, g1, g2⟩
    rw [b20]
    exact p_ite (fun _ => mid Z g1 g2) (fun c => absurd (show Z 0 5 ≤ nI i4 by rw [g1 0 (by decide), h5]; exact nI_le (Nat.le_refl _) (by omega)) c)
end
section
/-! a season's end alike -/
def ENDQ (n t g : Nat) (M : Cst) (a b : Int32 × Cst) : Prop := a.1 = b.1 ∧ ¬ a.1 < 0 ∧ (∃ h2 m', RC n (t + 1) h2 m' g a.2 (b.2 0)) ∧ ∀ j, j ≠ 0 → j ≠ 7 → b.2 j = M j
theorem pu_cg_eq {C M : Cst} {n t i : Nat} (hi : i < n) (hd : M 0 0 = C 0 0) (h : ∀ k, k < n → M 0 (13 + 8 * k + 1) = C 2 k) : pu_cg (M 0 0) (fun k => M 0 (13 + 8 * k + 1)) n t i = pu_cg (C 0 0) (C 2) n t i := by
  unfold pu_cg
  rw [hd, pu_ah_congr h]; exact congrArg _ (h i hi)
theorem pu_ENDrel {n t h m g : Nat} {C M : Cst} (h0 : 0 < n) (h999 : t ≤ 999) (hR : RC n t h m g C (M 0)) : ENDQ n t g M (sX0_endSeason C) (sX5_ends M) := by
  obtain ⟨⟨hn, ht, hh, hm⟩, ⟨h9, r5, h10, r6, h11, r7, h12, r8, h13, r9, r10, r11⟩, ⟨hs1, hs2⟩, hrr, hd, hz, hk1, hk2⟩ := hR
  obtain ⟨d, d0, d200, ed, e1d⟩ := pu_k0 hs2
  obtain ⟨l, hl, el⟩ := pu_kn (b := 100) (B := 100) rfl (hs2 1 (by decide)) (by decide) rfl
  obtain ⟨gr, hgr, egr⟩ := pu_kn (b := 50) (B := 50) rfl (hs2 2 (by decide)) (by decide) rfl
  obtain ⟨u, hu, eu⟩ := pu_sm_bd (f := C 2) (b := 20) (n := 8) (fun i hi => (hd i hi).2.1)
  have hD : pu_dm (C 0 0) (nI u) = nI (u * u / d) := by rw [ed]; exact pu_dmN d0 d200 (by omega)
  have hD4 : u * u / d ≤ 40000 := pu_dmB (by omega)
  generalize u * u / d = D at hD hD4
  have hm8 := pu_m8 hn hm
  have h2eq : ∀ i, i < n → M 0 (13 + 8 * i + 1) = C 2 i := fun i hi => (hrr i hi).2.1
  have h6eq : ∀ i, i < n → M 0 (13 + 8 * i + 5) = C 6 i := fun i hi => (hrr i hi).2.2.2.2.2.1
  have m00 : M 0 0 = C 0 0 := hs1 0 (by decide)
  have m03 : M 0 3 = C 0 3 := hs1 3 (by decide)
  have c62 : ∀ i, i < 8 → ∃ a, a ≤ 20 * (t + 1) ∧ C 6 i + C 2 i = nI a := by
    intro i hi
    obtain ⟨_, ⟨a2, ha2, e2⟩, _, ⟨a6, ha6, e6⟩⟩ := hd i hi
    exact ⟨a6 + a2, by omega, by rw [e2, e6, nI_add]⟩
  refine pu_endC (P := fun a => ENDQ n t g M a (sX5_ends M)) (h2 := min 100 (h - D + gr)) (X := pu_ex (fun i => C 6 i + C 2 i) m n (pu_tn l (min 100 (h - D + gr)) n)) (m' := pu_db (fun i => decide (C 0 3 < pu_nd C n t i)) (pu_ex (fun i => C 6 i + C 2 i) m n (pu_tn l (min 100 (h - D + gr)) n)) 8) h9 h10 h11 h13 e1d hn ht hh hm8 eu hD hD4 egr hgr el hl (fun i hi => by
    obtain ⟨a, ha, e⟩ := c62 i (by omega)
    exact ⟨a, by omega, e⟩) rfl rfl rfl (fun C' cs c10 c11 c13 c14 c15 cr c8 => ?_)
  refine pu_endR (P := fun b => ENDQ n t g M (nI D, C') b) (h2 := min 100 (h - D + gr)) (X := pu_ex (fun i => C 6 i + C 2 i) m n (pu_tn l (min 100 (h - D + gr)) n)) r5 r6 r7 h0 hn ht hh hm (fun i hi => (hrr i hi).2.2.2.2.2.2.1) (by rw [pu_sm_congr (g := C 2) h2eq, ← pu_sm_zero hn (fun i h1 h2 => (hz i h1 h2).2.1)]; exact eu) (by rw [m00]; exact hD) hD4 (by rw [hs1 2 (by decide)]; exact egr) hgr (by rw [hs1 1 (by decide)]; exact el) hl rfl (pu_ex_congr (fun i hi => by rw [h6eq i hi, h2eq i hi]) _) (fun M' mk ms m6 m7 m9 m10 m12 mr m77 m78 m79 m80 m81 m82 => ?_)
  generalize hX : pu_ex (fun i => C 6 i + C 2 i) m n (pu_tn l (min 100 (h - D + gr)) n) = X at *
  have hX8 : X < 256 := by rw [← hX]; exact pu_ex_lt hn _
  have hXhi : ∀ i, n ≤ i → X.testBit i = false := fun i hi => by rw [← hX]; exact pu_ex_hi hi _
  generalize hm' : pu_db (fun i => decide (C 0 3 < pu_nd C n t i)) X 8 = m' at *
  generalize hh2 : min 100 (h - D + gr) = h2 at *
  have h03 : (0 : Int32) ≤ C 0 3 := (hs2 3 (by decide)).1
  have bits : ∀ i, i < n → m'.testBit i = (X.testBit i || decide (M 0 3 < M 0 (13 + 8 * i + 2) + pu_cg (M 0 0) (fun k => M 0 (13 + 8 * k + 1)) n t i)) := by
    intro i hi
    rw [← hm', pu_db_bit, decide_eq_true (show i < 8 by omega), Bool.true_and, m03, (hrr i hi).2.2.1, pu_cg_eq hi m00 h2eq]
    unfold pu_nd; rw [if_pos hi]
  have m'n : m' < 2 ^ n := by
    refine Nat.lt_pow_two_of_testBit _ (fun i hi => ?_)
    rw [← hm', pu_db_bit, hXhi i hi, Bool.false_or]
    by_cases c : i < 8
    · have : ¬ C 0 3 < pu_nd C n t i := by
        unfold pu_nd; rw [if_neg (by omega), (hz i hi c).2.2.1]; exact Int32.not_lt.mpr h03
      rw [decide_eq_false this, Bool.and_false]
    · rw [decide_eq_false c, Bool.false_and]
  have cj : ∀ j, (j = 0 ∨ j = 1 ∨ j = 4 ∨ j = 9 ∨ j = 12 ∨ j = 16) → C' j = C j := cs
  refine ⟨rfl, nI_pos (by omega), ⟨h2, m', ⟨hn, by omega, by omega, m'n⟩, ?_, ⟨fun k hk => ?_, fun k hk => ?_⟩, fun j hj => ?_, fun j hj => ?_, fun j hj h8 => ?_, ?_, fun k w hk hw => ?_⟩, mk⟩
  · show C' 9 0 = _ ∧ M' 0 5 = _ ∧ C' 10 0 = _ ∧ M' 0 6 = _ ∧ C' 11 0 = _ ∧ M' 0 7 = _ ∧ C' 12 0 = _ ∧ M' 0 8 = _ ∧ C' 13 0 = _ ∧ M' 0 9 = C' 14 0 ∧ M' 0 10 = C' 15 0 ∧ M' 0 11 = C' 16 0
    rw [cj 9 (by decide), cj 12 (by decide), cj 16 (by decide), c10, c11, c13, c14, c15, m6, m7, m9, m10, ms 5 (by decide) (by decide) (by decide) (by decide) (by decide) (by decide), ms 8 (by decide) (by decide) (by decide) (by decide) (by decide) (by decide), ms 11 (by decide) (by decide) (by decide) (by decide) (by decide) (by decide), r9, r10]
    exact ⟨h9, r5, rfl, rfl, rfl, rfl, h12, r8, rfl, rfl, rfl, r11⟩
  · show M' 0 k = C' 0 k
    rw [ms k (by omega) (by omega) (by omega) (by omega) (by omega) (by omega), cj 0 (by decide)]; exact hs1 k hk
  · show sL k ≤ C' 0 k ∧ C' 0 k ≤ sM k
    rw [cj 0 (by decide)]; exact hs2 k hk
  · obtain ⟨q0, q1, q2, q3, q4, q5, q6, q7⟩ := mr j hj
    obtain ⟨p0, p1, p2, p3, p4, p5, p6, p7⟩ := hrr j hj
    obtain ⟨z2, z3, z5, z6, z7⟩ := cr j (by omega)
    show M' 0 _ = C' 1 j ∧ M' 0 _ = C' 2 j ∧ M' 0 _ = C' 3 j ∧ M' 0 _ = C' 4 j ∧ M' 0 _ = C' 5 j ∧ M' 0 _ = C' 6 j ∧ M' 0 _ = _ ∧ M' 0 _ = C' 7 j
    refine ⟨by rw [q0, cj 1 (by decide), p0], by rw [q1, z2], ?_, by rw [q3, cj 4 (by decide), p3], by rw [q4, z5, p4, p1], by rw [q5, z6, p5, p1], by rw [q6, ← bits j hj], by rw [q7, z7, ← bits j hj, p7]⟩
    rw [q2, z3, p2, pu_cg_eq hj m00 h2eq]; unfold pu_nd; rw [if_pos hj]
  · obtain ⟨z2, z3, z5, z6, z7⟩ := cr j hj
    obtain ⟨b1, ⟨a2, ha2, e2⟩, ⟨a5, ha5, e5⟩, _⟩ := hd j hj
    show (∃ a, a ≤ 30 ∧ C' 1 j = nI a) ∧ (∃ a, a ≤ 20 ∧ C' 2 j = nI a) ∧ (∃ a, a ≤ 20 * (t + 1) ∧ C' 5 j = nI a) ∧ (∃ a, a ≤ 20 * (t + 1) ∧ C' 6 j = nI a)
    refine ⟨by rw [cj 1 (by decide)]; exact b1, ⟨0, by omega, by rw [z2]; rfl⟩, ⟨a5 + a2, by omega, by rw [z5, e5, e2, nI_add]⟩, ?_⟩
    rw [z6]
    by_cases c : X.testBit j = true
    · rw [if_pos c]; exact ⟨0, by omega, rfl⟩
    · rw [if_neg c]; exact c62 j hj
  · obtain ⟨y1, y2, y3, y4, y5, y6, y7⟩ := hz j hj h8
    obtain ⟨z2, z3, z5, z6, z7⟩ := cr j h8
    show C' 1 j = 0 ∧ C' 2 j = 0 ∧ C' 3 j = 0 ∧ C' 4 j = 0 ∧ C' 5 j = 0 ∧ C' 6 j = 0 ∧ C' 7 j = 0
    have mb : m'.testBit j = false := Nat.testBit_lt_two_pow (Nat.lt_of_lt_of_le m'n (Nat.pow_le_pow_right (by decide) hj))
    refine ⟨by rw [cj 1 (by decide), y1], z2, ?_, by rw [cj 4 (by decide), y4], by rw [z5, y5, y2]; rfl, ?_, by rw [z7, y7, mb]; rfl⟩
    · rw [z3]; unfold pu_nd; rw [if_neg (by omega), y3]
    · rw [z6, hXhi j hj, y6, y2]; rfl
  · show M' 0 12 = _
    rw [m12, hk1]
    by_cases c : 6 ≤ t
    · rw [show min t 6 = 6 by omega, show min (t + 1) 6 = 6 by omega]; rfl
    · rw [show min t 6 = t by omega, show min (t + 1) 6 = t + 1 by omega, if_neg (fun q => by have := (nI_eq (b := 6) (by omega) (by decide)).mp q; omega), nI_1]
  · show M' 0 _ = C' 8 _
    have tm := Nat.mod_lt t (show 0 < 6 by decide)
    rcases Nat.eq_zero_or_pos k with hk0 | hk0
    · subst hk0
      rw [c8, show t + 1 - 1 - 0 = t by omega]
      have hw5 : w = 0 ∨ w = 1 ∨ w = 2 ∨ w = 3 ∨ w = 4 := by omega
      rcases hw5 with rfl | rfl | rfl | rfl | rfl
      · rw [if_neg (by omega), if_neg (by omega), if_neg (by omega), if_neg (by omega), if_pos (by omega)]; exact m77
      · rw [if_neg (by omega), if_neg (by omega), if_neg (by omega), if_pos rfl]; exact m78
      · rw [if_neg (by omega), if_neg (by omega), if_pos rfl]; exact m79
      · rw [if_neg (by omega), if_pos rfl]; exact m80
      · rw [if_pos rfl]; exact m81
    · rw [m82 _ (by omega) (by omega), show 77 + 5 * k + w - 5 = 77 + 5 * (k - 1) + w by omega, hk2 (k - 1) w (by omega) hw, c8, if_neg (by omega), if_neg (by omega), if_neg (by omega), if_neg (by omega), if_neg (by omega), show t - 1 - (k - 1) = t + 1 - 1 - k by omega]
theorem pu_CMDclose {T f n t h m g : Nat} {C M : Cst} (hc : sX5_changes M 0 = M 0) (hT : t ≤ T) (hT2 : 999 ≤ T) (h999 : t ≤ 999) (hf : g ≤ f) (hR : RC n t h m g C (M 0)) : CMD T f M (sX0_closeSeason C) (sX5_close M) := by
  have hn : n ≤ 8 := hR.1.1
  have h9 : C 9 0 = nI n := hR.2.1.1
  have r5 : M 0 5 = nI n := hR.2.1.2.1
  have h10 : C 10 0 = nI t := hR.2.1.2.2.1
  have r6 : M 0 6 = nI t := hR.2.1.2.2.2.1
  dsimp only [sX0_closeSeason, sX5_close, ltv, bnd]
  rw [h9, r5, h10, r6]
  rcases Nat.eq_zero_or_pos n with h0 | h0
  · subst h0
    rw [if_neg (show ¬ ¬ nI 0 = 0 by decide), if_neg (show ¬ ¬ nI 0 = 0 by decide)]; exact ⟨rfl, Or.inl ⟨pu_n2, rfl⟩⟩
  rw [if_pos (nI_ne0 h0 (by omega)), if_pos (nI_ne0 h0 (by omega))]
  by_cases c : t = 999
  · subst c
    rw [if_neg (show ¬ nI 999 < 999 by decide), if_neg (show ¬ ¬ nI 999 = 999 by decide)]; exact ⟨rfl, Or.inl ⟨pu_n3, rfl⟩⟩
  rw [if_pos (show nI t < (999 : Int32) from nI_lt (b := 999) (by omega) (by decide)), if_pos (show ¬ nI t = (999 : Int32) from fun q => c ((nI_eq (b := 999) (by omega) (by decide)).mp q))]
  obtain ⟨e1, e2, ⟨h2, m', hRC⟩, e4⟩ := pu_ENDrel (C := C) (M := sX5_changes M) h0 h999 (by rw [hc]; exact hR)
  refine ⟨e1, Or.inr ⟨e2, ⟨n, t + 1, h2, m', g, by omega, hf, hRC⟩, fun k h1 h7 => e4 k h1 h7⟩⟩
end
section
/-! the best for all -/
theorem pu_worth {C : Cst} {n m : Nat} {p : Nat → Bool} (h9 : C 9 0 = nI n) (hn : n ≤ 8) (h13 : C 13 0 = nI m) (hm : m < 256) (h1 : ∀ i, i < n → ∃ a, a < 2 ^ 31 ∧ C 1 i = nI a) (hp : ∀ i, i < n → p i = (decide (¬ 20 ≤ C 2 i) && !m.testBit i)) : sX0_worthiestWithRoom C = pu_oc (-1) nI (pu_am p (C 1) n) := by
  dsimp only [sX0_worthiestWithRoom, ltl3, ltv]
  refine pw3 (P := fun v => v = _) (fun k x1 x2 i3 => i3 = k ∧ x1 = pu_oc (-1) nI (pu_am p (C 1) k) ∧ x2 = pu_oc (-1) (C 1) (pu_am p (C 1) k)) n ?_ ?_ 9 0 _ _ 0 (by omega) (by omega) ⟨rfl, rfl, rfl⟩
  · rintro R k x1 x2 i3 hk ⟨rfl, rfl, rfl⟩ hR
    refine (if_neg (pu_8n (by omega))).trans ?_
    rw [if_neg (by rw [h9]; exact pu_5n hk hn), pu_isOut h13 hm (by omega)]
    have hp3 := hp i3 hk
    by_cases c : 20 ≤ C 2 i3
    · rw [if_pos c]
      refine hR _ _ _ ⟨rfl, ?_, ?_⟩ <;> rw [pu_am0 (by rw [hp3]; simp [c])]
    rw [if_neg c]
    by_cases c1 : m.testBit i3 = true
    · rw [if_pos c1, if_pos pu_10]
      refine hR _ _ _ ⟨rfl, ?_, ?_⟩ <;> rw [pu_am0 (by rw [hp3]; simp [c1])]
    rw [if_neg c1, if_neg pu_00]
    have cp : p i3 = true := by rw [hp3]; simp [c, c1]
    cases e : pu_am p (C 1) i3 with
    | none =>
      obtain ⟨a, ha, ea⟩ := h1 i3 hk
      refine (if_neg (show ¬ C 1 i3 ≤ (-1 : Int32) by rw [ea]; exact fun q => absurd (Int32.le_trans (nI_pos' ha) q) (by decide))).trans ?_
      refine hR _ _ _ ⟨rfl, ?_, ?_⟩ <;> rw [pu_am1 cp e] <;> rfl
    | some j =>
      by_cases c2 : C 1 j < C 1 i3
      · refine (if_neg (show ¬ C 1 i3 ≤ C 1 j from Int32.not_le.mpr c2)).trans ?_
        refine hR _ _ _ ⟨rfl, ?_, ?_⟩ <;> rw [pu_am2 cp e c2] <;> rfl
      · refine (if_pos (show C 1 i3 ≤ C 1 j from Int32.not_lt.mp c2)).trans ?_
        refine hR _ _ _ ⟨rfl, ?_, ?_⟩ <;> rw [pu_am3 cp e c2]
  · rintro R x1 x2 i3 ⟨rfl, rfl, rfl⟩
    by_cases c : i3 = 8
    · rw [c]; exact if_pos pu_8y
    · refine (if_neg (pu_8n (by omega))).trans (if_pos ?_)
      rw [h9]; exact nI_le (Nat.le_refl _) (by omega)
/-- the class's state: all as in C0 but the uses, un -/
def BST (C0 C : Cst) (un : Nat → Nat) (U : Nat) : Prop := (∀ j, j ≠ 2 → C j = C0 j) ∧ (∀ i, i < 8 → C 2 i = nI (un i) ∧ un i ≤ 20) ∧ U = un 0 + un 1 + un 2 + un 3 + un 4 + un 5 + un 6 + un 7
theorem BST_sum {C0 C : Cst} {un : Nat → Nat} {U : Nat} (h : BST C0 C un U) : pu_sm (C 2) 8 = nI U := by
  obtain ⟨_, h2, h3⟩ := h
  simp only [pu_sm]
  rw [(h2 0 (by decide)).1, (h2 1 (by decide)).1, (h2 2 (by decide)).1, (h2 3 (by decide)).1, (h2 4 (by decide)).1, (h2 5 (by decide)).1, (h2 6 (by decide)).1, (h2 7 (by decide)).1, show (0 : Int32) = nI 0 from rfl, nI_add, nI_add, nI_add, nI_add, nI_add, nI_add, nI_add, nI_add, h3, Nat.zero_add]
theorem BST_lt {C0 C : Cst} {un : Nat → Nat} {U j : Nat} (h : BST C0 C un U) (hj : j < 8) (hu : un j < 20) : U < 160 := by
  obtain ⟨_, h2, h3⟩ := h
  have b0 := (h2 0 (by decide)).2
  have b1 := (h2 1 (by decide)).2
  have b2 := (h2 2 (by decide)).2
  have b3 := (h2 3 (by decide)).2
  have b4 := (h2 4 (by decide)).2
  have b5 := (h2 5 (by decide)).2
  have b6 := (h2 6 (by decide)).2
  have b7 := (h2 7 (by decide)).2
  have hc : j = 0 ∨ j = 1 ∨ j = 2 ∨ j = 3 ∨ j = 4 ∨ j = 5 ∨ j = 6 ∨ j = 7 := by omega
  rcases hc with rfl | rfl | rfl | rfl | rfl | rfl | rfl | rfl <;> omega
theorem BST_le {C0 C : Cst} {un : Nat → Nat} {U : Nat} (h : BST C0 C un U) : U ≤ 160 := by
  obtain ⟨_, h2, h3⟩ := h
  have b0 := (h2 0 (by decide)).2
  have b1 := (h2 1 (by decide)).2
  have b2 := (h2 2 (by decide)).2
  have b3 := (h2 3 (by decide)).2
  have b4 := (h2 4 (by decide)).2
  have b5 := (h2 5 (by decide)).2
  have b6 := (h2 6 (by decide)).2
  have b7 := (h2 7 (by decide)).2
  omega
theorem BST_up {C0 C : Cst} {un : Nat → Nat} {U j : Nat} (h : BST C0 C un U) (hj : j < 8) (hu : un j < 20) : BST C0 (up C 2 j (C 2 j + 1)) (fun i => if i = j then un j + 1 else un i) (U + 1) := by
  obtain ⟨h1, h2, h3⟩ := h
  refine ⟨fun k hk => (pu_un _ _ _ hk).trans (h1 k hk), fun i hi => ?_, ?_⟩
  · rw [pu_up, if_pos rfl]
    by_cases e : i = j
    · simp only [if_pos e]; exact ⟨by rw [(h2 j hj).1, nI_1], by omega⟩
    · simp only [if_neg e]; exact h2 i hi
  · have hc : j = 0 ∨ j = 1 ∨ j = 2 ∨ j = 3 ∨ j = 4 ∨ j = 5 ∨ j = 6 ∨ j = 7 := by omega
    rw [h3]
    rcases hc with rfl | rfl | rfl | rfl | rfl | rfl | rfl | rfl <;> simp <;> omega
theorem pu_zero {P : Int32 × Cst → Prop} {C : Cst} {F : Cst → Int32 × Cst} {Z : Nat → Cst → Nat → Int32 × Cst} {B : (Cst → Nat → Int32 × Cst) → Cst → Nat → Int32 × Cst} (hB : B = fun R2 C i1 => if 8 ≤ (nI i1) then F C else ltv (up C 2 i1 0) (fun S_14 => R2 S_14 (i1 + 1))) (hZ : ∀ (n : Nat) x0 x1, Z (n + 1) x0 x1 = B (Z n) x0 x1) (k : ∀ C', BST C C' (fun _ => 0) 0 → P (F C')) : P (Z 9 C 0) := by
  refine pl2 hZ (fun q C' i1 => i1 = q ∧ (∀ j, j ≠ 2 → C' j = C j) ∧ (∀ i, i < q → C' 2 i = 0)) 8 ?_ ?_ 9 0 _ _ (by decide) (by decide) ⟨rfl, fun _ _ => rfl, fun i hi => absurd hi (Nat.not_lt_zero i)⟩
  · rintro R q C' i1 hk ⟨rfl, g1, g2⟩ hR
    rw [hB]
    refine p_ite (fun c => absurd c (pu_8n hk)) (fun _ => p_ltv (fun S eS => ?_))
    refine hR _ _ ⟨rfl, fun j hj => by rw [eS, pu_un _ _ _ hj, g1 j hj], fun i hi => ?_⟩
    rw [eS, pu_up, if_pos rfl]
    by_cases e : i = i1
    · rw [if_pos e]
    · rw [if_neg e]; exact g2 i (by omega)
  · rintro R C' i1 ⟨rfl, g1, g2⟩
    rw [hB]
    exact p_ite (fun _ => k C' ⟨g1, fun i hi => ⟨g2 i hi, Nat.zero_le _⟩, rfl⟩) (fun c => absurd pu_8y c)
theorem pu_bits2 : ∀ G, G < 256 → ∀ j, j < 8 → G.testBit j = false → G < G ||| 2 ^ j := by decide +kernel
def BQa (b x : Int32) (a : Int32 × Cst) : Prop := b = if ¬ x = 0 then a.1 else pu_sm (a.2 2) 8
def BQb (x : Int32) (a : Int32 × Cst) (b : Int32) : Prop := b = if ¬ x = 0 then a.1 else pu_sm (a.2 2) 8
def PEQ {α : Type} (c b : α) : Prop := b = c
theorem pu_bestAll {n t h m g : Nat} {C M : Cst} (x : Int32) (hx : ¬ (x < 0 ∨ 1 < x)) (hR : RC n t h m g C (M 0)) : sX5_bestForAll M x = if ¬ x = 0 then (sX0_useBestForAll C).1 else pu_sm ((sX0_useBestForAll C).2 2) 8 := by
  obtain ⟨⟨hn, ht, hh, hm⟩, ⟨h9, r5, h10, r6, h11, r7, h12, r8, h13, r9, r10, r11⟩, ⟨hs1, hs2⟩, hrr, hd, hz, hk1, hk2⟩ := hR
  obtain ⟨d, d0, d200, ed, e1d⟩ := pu_k0 hs2
  have hm8 := pu_m8 hn hm
  have m00 : M 0 0 = C 0 0 := hs1 0 (by decide)
  show BQa (sX5_bestForAll M x) x (sX0_useBestForAll C)
  unfold sX0_useBestForAll
  refine p_ltv (Q9 := BQa (sX5_bestForAll M x) x) (fun K93 e93 => p_ltv (fun K60 e60 => p_lz3 (fun B25 L25 b25 h25 => p_ltv (fun K21 e21 => p_lz2 (fun B2 L2 b2 h2 => ?_)))))
  refine pu_zero (P := BQa (sX5_bestForAll M x) x) b2 h2 (fun C1 hC1 => ?_)
  clear h2 b2
  subst e21
  show BQb x (L25 161 C1 0 0) (sX5_bestForAll M x)
  unfold sX5_bestForAll
  refine p_ltv (Q9 := BQb x (L25 161 C1 0 0)) (fun K244 e244 => p_lz5 (fun B23 L23 b23 h23 => p_ltv (fun r er => ?_)))
  rw [pu_in, if_neg hx] at er
  refine p_ite (fun _ => ?_) (fun c => absurd (show ¬ r = 0 by rw [er]; decide) c)
  have out60 : ∀ C' un U W, BST C C' un U → BQb x (K60 C' W (nI U)) (K244 x (nI U) W) := by
    intro C' un U W hB
    have c0 : C' 0 = C 0 := hB.1 0 (by decide)
    subst e244 e60
    show (if ¬ x = 0 then W - sX5_damage M (nI U) else nI U) = if ¬ x = 0 then W - sX0_damageOf C' (nI U) else pu_sm (C' 2) 8
    rw [BST_sum hB, pu_damage (by rw [c0]; exact e1d), c0, pu_damageR, m00]
  have out93 : ∀ C' un W, BST C C' un 160 → BQb x (K93 C' W) (K244 x (nI 160) W) := by
    intro C' un W hB
    have c0 : C' 0 = C 0 := hB.1 0 (by decide)
    subst e244 e93
    show (if ¬ x = 0 then W - sX5_damage M (nI 160) else nI 160) = if ¬ x = 0 then W - sX0_damageOf C' 160 else pu_sm (C' 2) 8
    rw [BST_sum hB, pu_damage (by rw [c0]; exact e1d), c0, pu_damageR, m00]; rfl
  have A : ∀ fr fc G un C' W U, BST C C' un U → (∀ i, i < 8 → un i = if G.testBit i then 20 else 0) → G < 256 → 258 ≤ fr + G → 161 ≤ fc + U → BQb x (L25 fc C' W U) (L23 fr x (nI G) (nI U) W 1) := by
    intro fr
    induction fr with
    | zero => intro fc G un C' W U _ _ h1 h2; omega
    | succ fr ih =>
      intro fc G un C' W U hB hun hG hfr hfc
      have stop : ∀ U' W' G', L23 fr x G' (nI U') W' 0 = K244 x (nI U') W' := by
        intro U' W' G'
        obtain ⟨q, rfl⟩ : ∃ q, fr = q + 1 := ⟨fr - 1, by omega⟩
        rw [h23, b23]
        exact p_ltv (Q9 := PEQ (K244 x (nI U') W')) (fun _ _ => p_ltv (fun _ _ => p_lz7 (fun _ _ _ _ => p_ltv (fun _ _ => p_ltv (fun _ _ => p_lz6 (fun _ _ _ _ => p_ite (fun _ => rfl) (fun c => absurd rfl c)))))))
      rw [h23, b23]
      refine p_ltv (Q9 := BQb x (L25 fc C' W U)) (fun K239 e239 => p_ltv (fun K225 e225 => p_lz7 (fun B131 L131 b131 h131 => p_ltv (fun K126 e126 => p_ltv (fun K116 e116 => p_lz6 (fun B36 L36 b36 h36 => p_ite (fun c => absurd c (by decide)) (fun _ => ?_)))))))
      have hbu := BST_le hB
      obtain ⟨fc, rfl⟩ : ∃ q, fc = q + 1 := ⟨fc - 1, by omega⟩
      have c1 : C' 1 = C 1 := hB.1 1 (by decide)
      have hwd : ∀ i, i < n → ∃ a, a < 2 ^ 31 ∧ C' 1 i = nI a := fun i hi => by
        obtain ⟨⟨a, ha, e⟩, _⟩ := hd i (by omega)
        exact ⟨a, by omega, by rw [c1]; exact e⟩
      refine pl6 h36 (fun q y1 y2 y3 y4 y6 i7 => i7 = q ∧ y1 = x ∧ y2 = nI G ∧ y3 = nI U ∧ y4 = W ∧ y6 = pu_oc (-10004) nI (pu_am (fun i => !m.testBit i && !G.testBit i) (C 1) q)) n ?_ ?_ 9 0 _ _ _ _ _ _ (by omega) (by omega) ⟨rfl, rfl, rfl, rfl, rfl, rfl⟩
      · rintro R q y1 y2 y3 y4 y6 i7 hk ⟨rfl, rfl, rfl, rfl, rfl, rfl⟩ hR
        rw [b36]
        refine p_ltv (fun K108 e108 => p_ltv (fun K106 e106 => p_ltv (fun K101 e101 => p_ltv (fun K84 e84 => p_ltv (fun K72 e72 => p_ltv (fun K71 e71 => p_ite (fun c => absurd c (by rw [r5]; exact pu_5n hk hn)) (fun _ => p_ltv (fun r52 er52 => ?_))))))))
        have k108 : ∀ v, v = pu_oc (-10004) nI (pu_am (fun i => !m.testBit i && !G.testBit i) (C 1) (i7 + 1)) → BQb y1 (L25 (fc + 1) C' y4 U) (K108 y1 (nI G) (nI U) y4 i7 v) := by
          intro v hv
          subst e108
          exact hR _ _ _ _ _ _ ⟨rfl, rfl, rfl, rfl, rfl, hv⟩
        have k106 : ∀ v, v = pu_oc (-10004) nI (pu_am (fun i => !m.testBit i && !G.testBit i) (C 1) (i7 + 1)) → BQb y1 (L25 (fc + 1) C' y4 U) (K106 y1 (nI G) (nI U) y4 v i7) := by
          intro v hv
          subst e106
          exact k108 v hv
        have k101 : nI i7 = pu_oc (-10004) nI (pu_am (fun i => !m.testBit i && !G.testBit i) (C 1) (i7 + 1)) → BQb y1 (L25 (fc + 1) C' y4 U) (K101 y1 (nI G) (nI U) y4 i7) := by
          intro hv
          subst e101
          exact k108 _ hv
        have k71 : ¬ (fun i => !m.testBit i && !G.testBit i) i7 = true → K71 y1 (nI G) (nI U) y4 (pu_oc (-10004) nI (pu_am (fun i => !m.testBit i && !G.testBit i) (C 1) i7)) i7 = if ¬ y1 = 0 then (L25 (fc + 1) C' y4 U).1 else pu_sm ((L25 (fc + 1) C' y4 U).2 2) 8 := by
          intro hq
          subst e71
          subst e72
          refine p_ite (Q9 := BQb y1 (L25 (fc + 1) C' y4 U)) (fun _ => k106 _ ?_) (fun c => absurd rfl c)
          rw [pu_am0 hq]
        have e52 : r52 = if m.testBit i7 then 1 else 0 := er52.trans (hrr i7 hk).2.2.2.2.2.2.1
        refine p_ite (fun c => k71 ?_) (fun c => ?_)
        · have hb : m.testBit i7 = true := Decidable.byContradiction (fun q => c (by rw [e52, if_neg q]))
          simp [hb]
        have hb : ¬ m.testBit i7 = true := fun q => c (by rw [e52, if_pos q]; decide)
        rw [pu_bits G hG i7 (by omega)]
        refine p_ite (fun c2 => k71 ?_) (fun c2 => ?_)
        · have hb2 : G.testBit i7 = true := Decidable.byContradiction (fun q => c2 (by rw [if_neg q]))
          simp [hb2]
        have hb2 : ¬ G.testBit i7 = true := fun q => c2 (by rw [if_pos q]; decide)
        have hp : (fun i => !m.testBit i && !G.testBit i) i7 = true := by simp [hb, hb2]
        subst e72
        refine p_ite (fun c => absurd c (by decide)) (fun _ => ?_)
        cases e : pu_am (fun i => !m.testBit i && !G.testBit i) (C 1) i7 with
        | none =>
          refine p_ite (fun _ => k101 ?_) (fun c => absurd (show (-10004 : Int32) < 0 from pu_n4) c)
          rw [pu_am1 hp e]; rfl
        | some j =>
          have hj := (pu_am_some e).1
          refine p_ite (fun c => absurd c (nI_pos (n := j) (by omega))) (fun _ => ?_)
          show BQb _ _ (K84 y1 (nI G) (nI U) y4 (nI j).toNatClampNeg i7)
          rw [nI_clamp (by omega)]
          subst e84
          have q1 := (hrr i7 hk).1
          have q2 := (hrr j (by omega)).1
          refine p_ltv (Q9 := BQb y1 (L25 (fc + 1) C' y4 U)) (fun r88 er88 => p_ltv (fun r95 er95 => p_ite (fun c => k106 _ ?_) (fun c => k101 ?_)))
          · rw [er88, er95] at c
            rw [pu_am3 hp e (Int32.not_lt.mpr (by rw [← q1, ← q2]; exact c))]; rfl
          · rw [er88, er95] at c
            rw [pu_am2 hp e (by rw [← q1, ← q2]; exact Int32.not_le.mp c)]; rfl
      · rintro R y1 y2 y3 y4 y6 i7 ⟨rfl, rfl, rfl, rfl, rfl, rfl⟩
        rw [b36]
        refine p_ltv (fun K108 e108 => p_ltv (fun K106 e106 => p_ltv (fun K101 e101 => p_ltv (fun K84 e84 => p_ltv (fun K72 e72 => p_ltv (fun K71 e71 => p_ite (fun _ => ?_) (fun c => absurd (show M 0 5 ≤ nI i7 by rw [r5]; exact nI_le (Nat.le_refl _) (by omega)) c)))))))
        clear e108 e106 e101 e84 e72 e71
        -- the class's step where the uses are like G but at one place
        have samep : ∀ (C2 : Cst) (un2 : Nat → Nat) (U2 j k : Nat), BST C C2 un2 U2 → (∀ i, i < 8 → (¬ un2 i = 20 ↔ ¬ G.testBit i = true)) → sX0_worthiestWithRoom C2 = pu_oc (-1) nI (pu_am (fun i => !m.testBit i && !G.testBit i) (C 1) i7) := by
          intro C2 un2 U2 j k hB2 hu2
          have z1 : C2 1 = C 1 := hB2.1 1 (by decide)
          rw [pu_worth (C := C2) (n := i7) (m := m) (p := fun i => !m.testBit i && !G.testBit i) (by rw [hB2.1 9 (by decide), h9]) hn (by rw [hB2.1 13 (by decide), h13]) hm8 (fun i hi => by rw [z1]; rw [c1] at hwd; exact hwd i hi) (fun i hi => ?_), z1]
          obtain ⟨w1, w2⟩ := hB2.2.1 i (by omega)
          have := hu2 i (by omega)
          have e20 : (20 : Int32) ≤ C2 2 i ↔ un2 i = 20 := by
            rw [w1, show (20 : Int32) = nI 20 from rfl, nI_leI (by decide) (by omega)]; omega
          show (!m.testBit i && !G.testBit i) = (decide (¬ 20 ≤ C2 2 i) && !m.testBit i)
          rw [Bool.and_comm]
          congr 1
          cases hg : G.testBit i with
          | true => rw [hg] at this; rw [decide_eq_false (fun q => q (e20.mpr (Decidable.byContradiction (fun z => this.mp z rfl))))]; rfl
          | false => rw [hg] at this; rw [decide_eq_true (show ¬ (20 : Int32) ≤ C2 2 i from fun q => this.mpr (by decide) (e20.mp q))]; rfl
        have hu0 : ∀ i, i < 8 → (¬ un i = 20 ↔ ¬ G.testBit i = true) := by
          intro i hi
          rw [hun i hi]
          by_cases c : G.testBit i = true
          · rw [if_pos c]; simp [c]
          · rw [if_neg c]; simp [c]
        cases e : pu_am (fun i => !m.testBit i && !G.testBit i) (C 1) i7 with
        | none =>
          subst e116
          refine p_ite (Q9 := BQb y1 (L25 (fc + 1) C' y4 U)) (fun _ => ?_) (fun c => absurd (show (-10004 : Int32) < 0 from pu_n4) c)
          subst e126
          show BQb _ _ (L131 22 y1 (nI G) (nI U) y4 0 (-10004) 0)
          rw [show (22 : Nat) = 21 + 1 from rfl, h131, b131]
          refine p_ltv (Q9 := BQb y1 (L25 (fc + 1) C' y4 U)) (fun _ _ => p_ltv (fun _ _ => p_ltv (fun _ _ => p_ltv (fun _ _ => p_ltv (fun _ _ => p_ite (fun _ => ?_) (fun c => absurd rfl c))))))
          subst e225
          refine p_ite (Q9 := BQb y1 (L25 (fc + 1) C' y4 U)) (fun _ => ?_) (fun c => absurd rfl c)
          subst e239
          refine p_ltv (Q9 := BQb y1 (L25 (fc + 1) C' y4 U)) (fun v _ => ?_)
          rw [stop, h25, b25]
          refine p_ite (Q9 := BQa (K244 y1 (nI U) y4) y1) (fun c => ?_) (fun c => p_ltv (fun r33 er33 => p_ltv (fun r39 er39 => ?_)))
          · have hU : U = 160 := by
              have := (nI_leI (a := 160) (b := U) (by decide) (by omega)).mp c
              omega
            subst hU
            exact out93 C' un y4 hB
          · rw [samep C' un U 0 0 hB hu0, e] at er33
            have : r39 = 0 := by rw [er39, er33]; rfl
            exact p_ite (fun _ => out60 C' un U y4 hB) (fun c => absurd this c)
        | some j =>
          obtain ⟨hj, hjp⟩ := pu_am_some e
          have hjG : G.testBit j = false := by
            have : (!m.testBit j && !G.testBit j) = true := hjp
            revert this; cases G.testBit j <;> cases m.testBit j <;> decide
          subst e116
          refine p_ite (Q9 := BQb y1 (L25 (fc + 1) C' y4 U)) (fun c => absurd c (nI_pos (n := j) (by omega))) (fun _ => ?_)
          subst e126
          show BQb _ _ (L131 22 y1 (nI G) (nI U) y4 1 (nI j) 0)
          have Bq : ∀ dq k, k + dq = 20 → ∀ C2 un2 W2 U2 fc2, BST C C2 un2 U2 → un2 j = k → (∀ i, i < 8 → i ≠ j → un2 i = if G.testBit i then 20 else 0) → 161 ≤ fc2 + U2 → BQb y1 (L25 fc2 C2 W2 U2) (L131 (dq + 2) y1 (nI G) (nI U2) W2 1 (nI j) (nI k)) := by
            intro dq
            induction dq with
            | zero =>
              intro k hk C2 un2 W2 U2 fc2 hB2 huj hui hfc2
              rw [h131, b131]
              have hk20 : k = 20 := by omega
              subst hk20
              refine p_ltv (Q9 := BQb y1 (L25 fc2 C2 W2 U2)) (fun _ _ => p_ltv (fun _ _ => p_ltv (fun _ _ => p_ltv (fun _ _ => p_ltv (fun _ _ => p_ite (fun c => absurd c (by decide)) (fun _ => p_ite (fun _ => ?_) (fun c => absurd (show (20 : Int32) ≤ nI 20 from by decide) c)))))))
              subst e225
              refine p_ite (Q9 := BQb y1 (L25 fc2 C2 W2 U2)) (fun c => absurd c (by decide)) (fun _ => ?_)
              subst e239
              refine p_ltv (Q9 := BQb y1 (L25 fc2 C2 W2 U2)) (fun v ev => ?_)
              have ho := pu_orb G hG j (by omega)
              rw [ev, ho.1]
              have hlt := pu_bits2 G hG j (by omega) hjG
              refine ih fc2 (G ||| 2 ^ j) un2 C2 W2 U2 hB2 (fun i hi => ?_) ho.2 (by omega) hfc2
              rw [pu_tor]
              by_cases c : i = j
              · rw [c, huj, decide_eq_true rfl, Bool.or_true]; rfl
              · rw [hui i hi c, decide_eq_false (fun q => c q.symm), Bool.or_false]
            | succ dq ihq =>
              intro k hk C2 un2 W2 U2 fc2 hB2 huj hui hfc2
              have hU2 : U2 < 160 := BST_lt hB2 (j := j) (by omega) (by omega)
              have hu2 : ∀ i, i < 8 → (¬ un2 i = 20 ↔ ¬ G.testBit i = true) := by
                intro i hi
                by_cases c : i = j
                · rw [c, huj, hjG]; simp; omega
                · rw [hui i hi c]
                  by_cases c3 : G.testBit i = true
                  · rw [if_pos c3]; simp [c3]
                  · rw [if_neg c3]; simp [c3]
              obtain ⟨fc2, rfl⟩ : ∃ q, fc2 = q + 1 := ⟨fc2 - 1, by omega⟩
              have w0 : C2 0 = C 0 := hB2.1 0 (by decide)
              have w1 : C2 1 = C 1 := hB2.1 1 (by decide)
              have ws := samep C2 un2 U2 0 0 hB2 hu2
              rw [e] at ws
              have ws' : sX0_worthiestWithRoom C2 = nI j := ws
              have hhas : sX0_has C2 (nI j) = 1 := pu_has1 (by rw [hB2.1 9 (by decide), h9]) hn hj
              have eL : L25 (fc2 + 1) C2 W2 U2 = if pu_ch (C 0 0) (nI U2) 1 < C 1 j then L25 fc2 (up C2 2 j (C2 2 j + 1)) (W2 + C 1 j) (U2 + 1) else K60 C2 W2 (nI U2) := by
                rw [h25, b25]
                refine p_ite (Q9 := PEQ (if pu_ch (C 0 0) (nI U2) 1 < C 1 j then L25 fc2 (up C2 2 j (C2 2 j + 1)) (W2 + C 1 j) (U2 + 1) else K60 C2 W2 (nI U2))) (fun c => absurd c (nI_ge (b := 160) hU2 (by decide))) (fun _ => p_ltv (fun r33 er33 => p_ltv (fun r39 er39 => ?_)))
                rw [ws'] at er33
                subst er33
                rw [hhas] at er39
                refine p_ite (fun c => absurd (er39.symm.trans c) (by decide)) (fun _ => p_ltv (fun r54 er54 => ?_))
                rw [pu_added (by rw [w0]; exact e1d), w0] at er54
                rw [er54, nI_clamp (by omega), w1]
                by_cases c : pu_ch (C 0 0) (nI U2) 1 < C 1 j
                · rw [if_pos c, if_pos c]
                  refine p_ltv (Q9 := PEQ (L25 fc2 (up C2 2 j (C2 2 j + 1)) (W2 + C 1 j) (U2 + 1))) (fun S eS => p_ltv (fun v ev => ?_))
                  rw [ev, eS, pu_un _ _ _ (by decide), w1]; exact rfl
                · rw [if_neg c, if_neg c]; exact rfl
              rw [eL, show dq + 1 + 2 = (dq + 2) + 1 by omega, h131, b131]
              generalize hT : (if pu_ch (C 0 0) (nI U2) 1 < C 1 j then L25 fc2 (up C2 2 j (C2 2 j + 1)) (W2 + C 1 j) (U2 + 1) else K60 C2 W2 (nI U2)) = TT9
              refine p_ltv (Q9 := BQb y1 TT9) (fun K219 e219 => p_ltv (fun K204 e204 => p_ltv (fun K184 e184 => p_ltv (fun K171 e171 => p_ltv (fun K143 e143 => p_ite (fun c => absurd c (by decide)) (fun _ => p_ite (fun c => absurd c (nI_ge (b := 20) (by omega) (by decide))) (fun _ => ?_)))))))
              have qw : sX5_of M j 0 = C 1 j := (hrr j hj).1
              rw [nI_clamp (by omega)]
              subst e143
              refine p_ltv (Q9 := BQb y1 TT9) (fun a1 ea1 => p_ltv (fun a2 ea2 => p_ltv (fun a3 ea3 => ?_)))
              rw [qw] at ea1
              have ech : a2 - a3 = pu_ch (C 0 0) (nI U2) 1 := by rw [ea2, ea3, pu_damageR, pu_damageR, m00]; rfl
              rw [ech, ea1]
              refine p_ite (fun c => ?_) (fun c => ?_)
              · rw [if_neg (Int32.not_lt.mpr c)] at hT
                subst e171
                refine p_ite (Q9 := BQb y1 TT9) (fun _ => ?_) (fun c => absurd rfl c)
                subst e184
                refine p_ltv (Q9 := BQb y1 TT9) (fun v1 ev1 => p_ite (fun _ => ?_) (fun c => absurd rfl c))
                subst e204
                refine p_ltv (Q9 := BQb y1 TT9) (fun v2 ev2 => p_ite (fun _ => ?_) (fun c => absurd rfl c))
                subst e219
                refine p_ltv (Q9 := BQb y1 TT9) (fun v3 ev3 => ?_)
                rw [Int32.add_zero] at ev1 ev2
                rw [h131, b131]
                refine p_ltv (Q9 := BQb y1 TT9) (fun _ _ => p_ltv (fun _ _ => p_ltv (fun _ _ => p_ltv (fun _ _ => p_ltv (fun _ _ => p_ite (fun _ => ?_) (fun c => absurd rfl c))))))
                subst e225
                refine p_ite (Q9 := BQb y1 TT9) (fun _ => ?_) (fun c => absurd rfl c)
                subst e239
                refine p_ltv (Q9 := BQb y1 TT9) (fun v _ => ?_)
                rw [ev1, ev2, stop, ← hT]
                exact out60 C2 un2 U2 W2 hB2
              · rw [if_pos (Int32.not_le.mp c)] at hT
                subst e171
                refine p_ite (Q9 := BQb y1 TT9) (fun c => absurd c (by decide)) (fun _ => ?_)
                subst e184
                refine p_ltv (Q9 := BQb y1 TT9) (fun v1 ev1 => p_ite (fun c => absurd c (by decide)) (fun _ => p_ltv (fun rw1 erw1 => ?_)))
                subst e204
                refine p_ltv (Q9 := BQb y1 TT9) (fun v2 ev2 => p_ite (fun c => absurd c (by decide)) (fun _ => ?_))
                subst e219
                refine p_ltv (Q9 := BQb y1 TT9) (fun v3 ev3 => ?_)
                rw [nI_1] at ev1 ev3
                rw [erw1, qw] at ev2
                rw [ev1, ev2, ev3, ← hT]
                refine ihq (k + 1) (by omega) _ _ _ _ _ (BST_up hB2 (by omega) (by omega)) (by simp only [if_pos]; rw [huj]) (fun i hi hne => by simp only [if_neg hne]; exact hui i hi hne) (by omega)
          refine Bq 20 0 rfl C' un y4 U (fc + 1) hB (by rw [hun j (by omega), hjG]; rfl) (fun i hi _ => hun i hi) hfc
  exact A 258 161 0 (fun _ => 0) C1 0 0 hC1 (fun i hi => by rw [Nat.zero_testBit]; rfl) (by decide) (by decide) (by decide)
end
section
theorem pu_cp_0_2 (C : Cst) : (∀ j, j ≠ 2 → sX5_copies_0_2 C j = C j) ∧ ∀ i, i < 107 → sX5_copies_0_2 C 2 i = C 0 i := by
  unfold sX5_copies_0_2
  refine p_lz2 (Q9 := fun Y : Cst => (∀ j, j ≠ 2 → Y j = C j) ∧ ∀ i, i < 107 → Y 2 i = C 0 i) (fun B Z hB hZ => ?_)
  refine pl2 (P := fun Y : Cst => (∀ j, j ≠ 2 → Y j = C j) ∧ ∀ i, i < 107 → Y 2 i = C 0 i) hZ (fun k C' i => i = k ∧ (∀ j, j ≠ 2 → C' j = C j) ∧ ∀ i, i < k → C' 2 i = C 0 i) 107 ?_ ?_ 108 0 _ 0 (by decide) (by decide) ⟨rfl, fun _ _ => rfl, fun i hi => absurd hi (Nat.not_lt_zero i)⟩
  · rintro R k C' i hk ⟨rfl, g1, g2⟩ hR
    rw [hB]
    dsimp only
    rw [if_neg (show ¬ (107 : Int32) ≤ nI i from nI_ge (b := 107) hk (by decide))]
    refine hR _ _ ⟨rfl, fun j hj => (pu_un _ _ _ hj).trans (g1 j hj), fun i' hi' => ?_⟩
    rw [pu_up, if_pos rfl]
    by_cases e : i' = i
    · rw [if_pos e, g1 0 (by decide), e]
    · rw [if_neg e]; exact g2 i' (by omega)
  · rintro R C' i ⟨rfl, g1, g2⟩
    rw [hB]
    dsimp only
    rw [if_pos (show (107 : Int32) ≤ nI 107 from by decide)]
    exact ⟨g1, g2⟩
theorem pu_cp_2_0 (C : Cst) : (∀ j, j ≠ 0 → sX5_copies_2_0 C j = C j) ∧ ∀ i, i < 107 → sX5_copies_2_0 C 0 i = C 2 i := by
  unfold sX5_copies_2_0
  refine p_lz2 (Q9 := fun Y : Cst => (∀ j, j ≠ 0 → Y j = C j) ∧ ∀ i, i < 107 → Y 0 i = C 2 i) (fun B Z hB hZ => ?_)
  refine pl2 (P := fun Y : Cst => (∀ j, j ≠ 0 → Y j = C j) ∧ ∀ i, i < 107 → Y 0 i = C 2 i) hZ (fun k C' i => i = k ∧ (∀ j, j ≠ 0 → C' j = C j) ∧ ∀ i, i < k → C' 0 i = C 2 i) 107 ?_ ?_ 108 0 _ 0 (by decide) (by decide) ⟨rfl, fun _ _ => rfl, fun i hi => absurd hi (Nat.not_lt_zero i)⟩
  · rintro R k C' i hk ⟨rfl, g1, g2⟩ hR
    rw [hB]
    dsimp only
    rw [if_neg (show ¬ (107 : Int32) ≤ nI i from nI_ge (b := 107) hk (by decide))]
    refine hR _ _ ⟨rfl, fun j hj => (pu_un _ _ _ hj).trans (g1 j hj), fun i' hi' => ?_⟩
    rw [pu_up, if_pos rfl]
    by_cases e : i' = i
    · rw [if_pos e, g1 2 (by decide), e]
    · rw [if_neg e]; exact g2 i' (by omega)
  · rintro R C' i ⟨rfl, g1, g2⟩
    rw [hB]
    dsimp only
    rw [if_pos (show (107 : Int32) ≤ nI 107 from by decide)]
    exact ⟨g1, g2⟩
theorem pu_cp_0_12 (C : Cst) : (∀ j, j ≠ 12 → sX5_copies_0_12 C j = C j) ∧ ∀ i, i < 107 → sX5_copies_0_12 C 12 i = C 0 i := by
  unfold sX5_copies_0_12
  refine p_lz2 (Q9 := fun Y : Cst => (∀ j, j ≠ 12 → Y j = C j) ∧ ∀ i, i < 107 → Y 12 i = C 0 i) (fun B Z hB hZ => ?_)
  refine pl2 (P := fun Y : Cst => (∀ j, j ≠ 12 → Y j = C j) ∧ ∀ i, i < 107 → Y 12 i = C 0 i) hZ (fun k C' i => i = k ∧ (∀ j, j ≠ 12 → C' j = C j) ∧ ∀ i, i < k → C' 12 i = C 0 i) 107 ?_ ?_ 108 0 _ 0 (by decide) (by decide) ⟨rfl, fun _ _ => rfl, fun i hi => absurd hi (Nat.not_lt_zero i)⟩
  · rintro R k C' i hk ⟨rfl, g1, g2⟩ hR
    rw [hB]
    dsimp only
    rw [if_neg (show ¬ (107 : Int32) ≤ nI i from nI_ge (b := 107) hk (by decide))]
    refine hR _ _ ⟨rfl, fun j hj => (pu_un _ _ _ hj).trans (g1 j hj), fun i' hi' => ?_⟩
    rw [pu_up, if_pos rfl]
    by_cases e : i' = i
    · rw [if_pos e, g1 0 (by decide), e]
    · rw [if_neg e]; exact g2 i' (by omega)
  · rintro R C' i ⟨rfl, g1, g2⟩
    rw [hB]
    dsimp only
    rw [if_pos (show (107 : Int32) ≤ nI 107 from by decide)]
    exact ⟨g1, g2⟩
theorem pu_cp_12_0 (C : Cst) : (∀ j, j ≠ 0 → sX5_copies_12_0 C j = C j) ∧ ∀ i, i < 107 → sX5_copies_12_0 C 0 i = C 12 i := by
  unfold sX5_copies_12_0
  refine p_lz2 (Q9 := fun Y : Cst => (∀ j, j ≠ 0 → Y j = C j) ∧ ∀ i, i < 107 → Y 0 i = C 12 i) (fun B Z hB hZ => ?_)
  refine pl2 (P := fun Y : Cst => (∀ j, j ≠ 0 → Y j = C j) ∧ ∀ i, i < 107 → Y 0 i = C 12 i) hZ (fun k C' i => i = k ∧ (∀ j, j ≠ 0 → C' j = C j) ∧ ∀ i, i < k → C' 0 i = C 12 i) 107 ?_ ?_ 108 0 _ 0 (by decide) (by decide) ⟨rfl, fun _ _ => rfl, fun i hi => absurd hi (Nat.not_lt_zero i)⟩
  · rintro R k C' i hk ⟨rfl, g1, g2⟩ hR
    rw [hB]
    dsimp only
    rw [if_neg (show ¬ (107 : Int32) ≤ nI i from nI_ge (b := 107) hk (by decide))]
    refine hR _ _ ⟨rfl, fun j hj => (pu_un _ _ _ hj).trans (g1 j hj), fun i' hi' => ?_⟩
    rw [pu_up, if_pos rfl]
    by_cases e : i' = i
    · rw [if_pos e, g1 12 (by decide), e]
    · rw [if_neg e]; exact g2 i' (by omega)
  · rintro R C' i ⟨rfl, g1, g2⟩
    rw [hB]
    dsimp only
    rw [if_pos (show (107 : Int32) ≤ nI 107 from by decide)]
    exact ⟨g1, g2⟩
theorem RC_congr {n t h m g : Nat} {C : Cst} {r r' : Nat → Int32} (hr : ∀ i, i < 107 → r' i = r i) (hR : RC n t h m g C r) : RC n t h m g C r' := by
  obtain ⟨⟨hn, ht, hh, hm⟩, ⟨h9, r5, h10, r6, h11, r7, h12, r8, h13, r9, r10, r11⟩, ⟨hs1, hs2⟩, hrr, hd, hz, hk1, hk2⟩ := hR
  refine ⟨⟨hn, ht, hh, hm⟩, ?_, ⟨fun k hk => ?_, hs2⟩, fun j hj => ?_, hd, hz, ?_, fun k w hk hw => ?_⟩
  · rw [RCs, hr 5 (by decide), hr 6 (by decide), hr 7 (by decide), hr 8 (by decide), hr 9 (by decide), hr 10 (by decide), hr 11 (by decide)]
    exact ⟨h9, r5, h10, r6, h11, r7, h12, r8, h13, r9, r10, r11⟩
  · rw [hr k (by omega)]; exact hs1 k hk
  · rw [hr _ (by omega), hr (13 + 8 * j + 1) (by omega), hr (13 + 8 * j + 2) (by omega), hr (13 + 8 * j + 3) (by omega), hr (13 + 8 * j + 4) (by omega), hr (13 + 8 * j + 5) (by omega), hr (13 + 8 * j + 6) (by omega), hr (13 + 8 * j + 7) (by omega)]
    exact hrr j hj
  · rw [hr 12 (by decide)]; exact hk1
  · rw [hr _ (by omega)]; exact hk2 k w hk hw
theorem pu_up_id {C : Cst} {k i : Nat} {x : Int32} (h : C k i = x) : up C k i x = C := by
  funext k' i'
  rw [pu_up]
  by_cases c : k' = k
  · rw [if_pos c]
    by_cases c2 : i' = i
    · rw [if_pos c2, c, c2, h]
    · rw [if_neg c2]
  · rw [if_neg c]
/-! rounds of best uses -/
def pu_tr (M : Cst) : Nat → Int32 × Cst
  | 0 => (0, M)
  | k + 1 => (if ¬ (pu_tr M k).1 = 0 then 1 else if sX5_best (pu_tr M k).2 k = sX5_of (pu_tr M k).2 k 1 then 0 else 1, sX5_puts (pu_tr M k).2 k 1 (sX5_best (pu_tr M k).2 k))
theorem pu_tr_01 (M : Cst) : ∀ k, (pu_tr M k).1 = 0 ∨ (pu_tr M k).1 = 1
  | 0 => Or.inl rfl
  | k + 1 => by
    show (if _ then _ else if _ then _ else _) = (0 : Int32) ∨ (if _ then _ else if _ then _ else _) = (1 : Int32)
    by_cases c : ¬ (pu_tr M k).1 = 0
    · rw [if_pos c]; exact Or.inr rfl
    · rw [if_neg c]
      by_cases c2 : sX5_best (pu_tr M k).2 k = sX5_of (pu_tr M k).2 k 1
      · rw [if_pos c2]; exact Or.inl rfl
      · rw [if_neg c2]; exact Or.inr rfl
theorem pu_tr_k (M : Cst) {j : Nat} (hj : j ≠ 0) : ∀ k, (pu_tr M k).2 j = M j
  | 0 => rfl
  | k + 1 => by
    show up (pu_tr M k).2 0 _ _ j = _
    rw [pu_un _ _ _ hj]; exact pu_tr_k M hj k
theorem pu_tr_5 (M : Cst) : ∀ k, (pu_tr M k).2 0 5 = M 0 5
  | 0 => rfl
  | k + 1 => by
    show up (pu_tr M k).2 0 (13 + 8 * k + 1) _ 0 5 = _
    rw [pu_up, if_pos rfl, if_neg (by omega)]; exact pu_tr_5 M k
theorem pu_turnsR {M : Cst} {n : Nat} (h5 : M 0 5 = nI n) (hn : n ≤ 8) : sX5_turns M = pu_tr M n := by
  show PEQ (pu_tr M n) (sX5_turns M)
  unfold sX5_turns
  refine p_lz3 (Q9 := PEQ (pu_tr M n)) (fun B Z hB hZ => ?_)
  refine pl3 (P := PEQ (pu_tr M n)) hZ (fun k C x1 i2 => i2 = k ∧ x1 = (pu_tr M k).1 ∧ C = (pu_tr M k).2) n ?_ ?_ 9 0 _ _ _ (by omega) (by omega) ⟨rfl, rfl, rfl⟩
  · rintro R k C x1 i2 hk ⟨rfl, rfl, rfl⟩ hR
    rw [hB]
    refine p_ltv (fun K39 e39 => p_ltv (fun K34 e34 => p_ite (fun c => absurd c (by rw [pu_tr_5, h5]; exact pu_5n hk hn)) (fun _ => p_ltv (fun r er => ?_))))
    have k39 : ∀ v, v = (pu_tr M (i2 + 1)).1 → PEQ (pu_tr M n) (K39 (pu_tr M i2).2 i2 (sX5_best (pu_tr M i2).2 i2) v) := by
      intro v hv
      subst e39
      exact p_ltv (fun S eS => hR _ _ _ ⟨rfl, hv, eS⟩)
    rw [er]
    refine p_ite (fun c => ?_) (fun c => p_ltv (fun r2 er2 => p_ite (fun c2 => k39 _ ?_) (fun c2 => ?_)))
    · subst e34
      exact k39 1 (by show _ = if _ then _ else _; rw [if_pos c])
    · show _ = if _ then _ else _
      rw [if_neg c, if_pos (by rw [← er2]; exact c2)]
    · subst e34
      refine k39 1 ?_
      show _ = if _ then _ else _
      rw [if_neg c, if_neg (by rw [← er2]; exact c2)]
  · rintro R C x1 i2 ⟨rfl, rfl, rfl⟩
    rw [hB]
    refine p_ltv (fun K39 e39 => p_ltv (fun K34 e34 => p_ite (fun _ => rfl) (fun c => absurd (show (pu_tr M i2).2 0 5 ≤ nI i2 by rw [pu_tr_5, h5]; exact nI_le (Nat.le_refl _) (by omega)) c)))
theorem pu_best_eq {n t h m g i : Nat} {C M : Cst} (hR : RC n t h m g C (M 0)) (hi : i < n) : sX0_bestUnits C i = sX5_best M i ∧ ∃ a, a ≤ 20 ∧ sX5_best M i = nI a := by
  obtain ⟨⟨hn, ht, hh, hm⟩, ⟨h9, r5, h10, r6, h11, r7, h12, r8, h13, r9, r10, r11⟩, ⟨hs1, hs2⟩, hrr, hd, hz, hk1, hk2⟩ := hR
  obtain ⟨d, d0, d200, ed, e1d⟩ := pu_k0 hs2
  rw [pu_bestUnits h9 h10 h13 (pu_m8 hn hm) e1d hn ht hi (fun k h1 h2 => (hz k h1 h2).2.1), pu_bestR r5 r6 hn ht hi, (hrr i hi).2.2.2.2.2.2.1, (hrr i hi).1, hs1 0 (by decide), pu_ah_congr (fun k hk => (hrr k hk).2.1)]
  by_cases c : m.testBit i = true
  · rw [if_pos c, if_pos c, if_neg pu_10]; exact ⟨rfl, 0, by omega, rfl⟩
  · rw [if_neg c, if_neg c, if_pos rfl]; exact ⟨rfl, _, pu_bst_le _ 20, rfl⟩
def RNQ (n t h m g : Nat) (M : Cst) (a : Int32 × Cst) : Prop := a.1 = (pu_tr M n).1 ∧ RC n t h m g a.2 ((pu_tr M n).2 0)
theorem pu_roundC {n t h m g : Nat} {C M : Cst} (hR : RC n t h m g C (M 0)) : RNQ n t h m g M (sX0_roundChanges C) := by
  have hn : n ≤ 8 := hR.1.1
  unfold sX0_roundChanges
  refine p_lz3 (Q9 := RNQ n t h m g M) (fun B Z hB hZ => ?_)
  refine pl3 (P := RNQ n t h m g M) hZ (fun k C x1 i2 => i2 = k ∧ x1 = (pu_tr M (min k n)).1 ∧ RC n t h m g C ((pu_tr M (min k n)).2 0)) 8 ?_ ?_ 9 0 _ _ _ (by decide) (by decide) ⟨rfl, by rw [Nat.zero_min]; rfl, by rw [Nat.zero_min]; exact hR⟩
  · rintro R k C x1 i2 hk ⟨rfl, rfl, g1⟩ hR'
    rw [hB]
    refine p_ltv (fun K35 e35 => p_ltv (fun K30 e30 => p_ite (fun c => absurd c (pu_8n hk)) (fun _ => p_ltv (fun r er => ?_))))
    by_cases hi : i2 < n
    · rw [show min i2 n = i2 by omega] at g1 ⊢
      obtain ⟨b1, a, ha, b2⟩ := pu_best_eq (M := (pu_tr M i2).2) g1 hi
      have er' : r = nI a := by rw [er, b1, b2]
      have q1 : sX5_of (pu_tr M i2).2 i2 1 = C 2 i2 := (g1.2.2.2.1 i2 hi).2.1
      have k35 : ∀ v, v = (pu_tr M (i2 + 1)).1 → RNQ n t h m g M (K35 C i2 r v) := by
        intro v hv
        subst e35
        refine p_ltv (fun S eS => hR' _ _ _ ⟨rfl, by rw [show min (i2 + 1) n = i2 + 1 by omega]; exact hv, ?_⟩)
        rw [show min (i2 + 1) n = i2 + 1 by omega]
        refine RC_use g1 hi ha (fun k hk => by rw [eS, pu_un _ _ _ hk]) (fun j => by rw [eS, pu_up, if_pos rfl, er']) ?_ (fun j hj => ?_)
        · show up (pu_tr M i2).2 0 (13 + 8 * i2 + 1) (sX5_best (pu_tr M i2).2 i2) 0 _ = _
          rw [pu_up, if_pos rfl, if_pos rfl, b2]
        · show up (pu_tr M i2).2 0 (13 + 8 * i2 + 1) (sX5_best (pu_tr M i2).2 i2) 0 _ = _
          rw [pu_up, if_pos rfl, if_neg hj]
      refine p_ite (fun c => ?_) (fun c => p_ite (fun c2 => k35 _ ?_) (fun c2 => ?_))
      · subst e30
        exact k35 1 (by show _ = if _ then _ else _; rw [if_pos c])
      · show _ = if _ then _ else _
        rw [if_neg c, if_pos (by rw [q1, ← c2, er, b1])]
      · subst e30
        refine k35 1 ?_
        show _ = if _ then _ else _
        rw [if_neg c, if_neg (by rw [q1, ← b1, ← er]; exact c2)]
    · have em : min i2 n = n := by omega
      have em2 : min (i2 + 1) n = n := by omega
      rw [em] at g1 ⊢
      have z2 : C 2 i2 = 0 := (g1.2.2.2.2.2.1 i2 (by omega) hk).2.1
      have r0 : r = 0 := by
        rw [er]
        dsimp only [sX0_bestUnits, ltl5, ltv]
        rw [pu_has0 g1.2.1.1 (by omega) (by omega), if_pos rfl]
      have k35 : ∀ v, v = (pu_tr M n).1 → RNQ n t h m g M (K35 C i2 r v) := by
        intro v hv
        subst e35
        refine p_ltv (fun S eS => hR' _ _ _ ⟨rfl, by rw [em2]; exact hv, ?_⟩)
        rw [em2, eS, r0, pu_up_id z2]; exact g1
      refine p_ite (fun c => ?_) (fun c => p_ite (fun c2 => k35 _ ?_) (fun c2 => ?_))
      · subst e30
        exact k35 1 ((pu_tr_01 M n).resolve_left c).symm
      · exact (Decidable.not_not.mp c).symm
      · exact absurd (by rw [r0, z2]) c2
  · rintro R C x1 i2 ⟨rfl, rfl, g1⟩
    rw [hB]
    have em : min 8 n = n := by omega
    rw [em] at g1 ⊢
    exact p_ltv (fun K35 e35 => p_ltv (fun K30 e30 => p_ite (fun _ => ⟨rfl, g1⟩) (fun c => absurd pu_8y c)))
def pu_rn (M : Cst) : Nat → Cst
  | 0 => M
  | k + 1 => (sX5_turns (pu_rn M k)).2
def pu_fl (M : Cst) (k : Nat) : Int32 := (sX5_turns (pu_rn M k)).1
theorem pu_round {n t h m g : Nat} {C M : Cst} (hR : RC n t h m g C (M 0)) : (sX0_roundChanges C).1 = (sX5_turns M).1 ∧ RC n t h m g (sX0_roundChanges C).2 ((sX5_turns M).2 0) ∧ ∀ j, j ≠ 0 → (sX5_turns M).2 j = M j := by
  obtain ⟨a, b⟩ := pu_roundC hR
  rw [pu_turnsR hR.2.1.2.1 hR.1.1]
  exact ⟨a, b, fun j hj => pu_tr_k M hj n⟩
theorem pu_calmC {P : Int32 × Cst → Prop} {n t h m g : Nat} {C M : Cst} (hR : RC n t h m g C (M 0)) (k1 : ∀ q C', q < 40 → (∀ j, j < q → ¬ pu_fl M j = 0) → pu_fl M q = 0 → RC n t h m g C' (pu_rn M (q + 1) 0) → P (nI (q + 1), C')) (k2 : ∀ C', (∀ j, j < 40 → ¬ pu_fl M j = 0) → P ((-10004), C')) : P (sX0_calmDown C) := by
  unfold sX0_calmDown
  refine p_lz2 (Q9 := P) (fun B Z hB hZ => ?_)
  refine pl2 hZ (fun k C i1 => i1 = k + 1 ∧ RC n t h m g C (pu_rn M k 0) ∧ ∀ j, j < k → ¬ pu_fl M j = 0) 40 ?_ ?_ 42 0 _ _ (by decide) (by decide) ⟨rfl, hR, fun j hj => absurd hj (Nat.not_lt_zero j)⟩
  · rintro R k C i1 hk ⟨rfl, g1, g2⟩ hR'
    rw [hB]
    obtain ⟨a1, a2, a3⟩ := pu_round g1
    refine p_ite (fun c => absurd c (nI_nlt (a := 40) (by omega) (by decide))) (fun _ => p_bnd (fun r S e => ?_))
    rw [e] at a1 a2
    refine p_ite (fun c => hR' _ _ ⟨rfl, a2, fun j hj => ?_⟩) (fun c => k1 k S hk g2 ?_ a2)
    · by_cases q : j = k
      · rw [q]; unfold pu_fl; rw [← a1]; exact c
      · exact g2 j (by omega)
    · unfold pu_fl; rw [← a1]; exact Decidable.not_not.mp c
  · rintro R C i1 ⟨rfl, g1, g2⟩
    rw [hB]
    exact p_ite (fun _ => k2 C g2) (fun c => absurd (show (40 : Int32) < nI 41 from by decide) c)
end
section
def pu_told (Y : Cst) (x : Int32) (r : Nat) : Int32 := if x = -1 then sX5_sum Y 1 else if x = -2 then nI r else sX5_of Y x.toNatClampNeg 1
theorem pu_calmR {P : Int32 × Cst → Prop} {M : Cst} {x : Int32} (k0 : sX5_isMember M x = 0 → sX5_in x (-2) (-1) = 0 → P ((-10001), M)) (k1 : (¬ sX5_isMember M x = 0 ∨ ¬ sX5_in x (-2) (-1) = 0) → ∀ q, q < 40 → (∀ j, j < q → ¬ pu_fl (sX5_copies_0_2 M) j = 0) → pu_fl (sX5_copies_0_2 M) q = 0 → P (pu_told (pu_rn (sX5_copies_0_2 M) (q + 1)) x (q + 1), sX5_copies_2_0 (pu_rn (sX5_copies_0_2 M) (q + 1)))) (k2 : (¬ sX5_isMember M x = 0 ∨ ¬ sX5_in x (-2) (-1) = 0) → ∀ T, T = 40 → (∀ j, j < 40 → ¬ pu_fl (sX5_copies_0_2 M) j = 0) → P ((-10004), sX5_copies_2_0 (pu_rn (sX5_copies_0_2 M) T))) : P (sX5_calm M x) := by
  unfold sX5_calm
  refine p_ltv (Q9 := P) (fun K87 e87 => p_ltv (fun K81 e81 => p_ltv (fun K58 e58 => p_lz4 (fun B37 L37 b37 h37 => p_ltv (fun K22 e22 => p_ltv (fun r er => ?_))))))
  generalize hN : sX5_copies_0_2 M = N at k1 k2
  have k87 : ∀ Y x3 v, (x3 = 0 → P (v, sX5_copies_2_0 Y)) → (¬ x3 = 0 → P ((-10004), sX5_copies_2_0 Y)) → P (K87 Y x3 v) := by
    intro Y x3 v a b
    subst e87
    exact p_ltv (fun S eS => p_ite (fun c => by rw [eS]; exact a c) (fun c => by rw [eS]; exact b c))
  have k58 : ∀ Y x3 q, (x3 = 0 → P (pu_told Y x q, sX5_copies_2_0 Y)) → (¬ x3 = 0 → P ((-10004), sX5_copies_2_0 Y)) → P (K58 Y x (nI q) x3) := by
    intro Y x3 q a b
    subst e58
    unfold pu_told at a
    refine p_ite (fun c => p_ite (fun c2 => ?_) (fun c2 => ?_)) (fun c => p_ltv (fun s es => ?_))
    · rw [if_neg c, if_neg c2] at a
      subst e81
      exact p_ltv (fun s es => k87 _ _ _ (by rw [es]; exact a) b)
    · rw [if_neg c, if_pos (Decidable.not_not.mp c2)] at a
      exact k87 _ _ _ a b
    · rw [if_pos (Decidable.not_not.mp c)] at a
      exact k87 _ _ _ (by rw [es]; exact a) b
  have main : (¬ sX5_isMember M x = 0 ∨ ¬ sX5_in x (-2) (-1) = 0) → P (K22 M x) := by
    intro ok
    subst e22
    refine p_ltv (fun S eS => ?_)
    rw [hN] at eS
    subst eS
    obtain ⟨T, hT⟩ : ∃ T : Nat, T = 40 := ⟨40, rfl⟩
    refine pl4 h37 (fun q Y x1 i2 x3 => i2 = q ∧ x1 = x ∧ Y = pu_rn S q ∧ ((q = 0 ∧ ¬ x3 = 0) ∨ (∃ p, q = p + 1 ∧ x3 = pu_fl S p ∧ ∀ j, j < p → ¬ pu_fl S j = 0))) T ?_ ?_ 41 0 _ _ _ _ (by omega) (by omega) ⟨rfl, rfl, rfl, Or.inl ⟨rfl, by decide⟩⟩
    · rintro R q Y x1 i2 x3 hk ⟨rfl, rfl, rfl, hx3⟩ hR
      rw [b37]
      refine p_ite (fun c => ?_) (fun c => ?_)
      · rcases hx3 with ⟨_, h⟩ | ⟨p, rfl, h, hp⟩
        · exact absurd c h
        · exact k58 _ _ _ (fun _ => k1 ok p (by omega) hp (by rw [← h]; exact c)) (fun h' => absurd c h')
      · refine p_ite (fun c2 => absurd c2 (nI_ge (b := 40) (by omega) (by decide))) (fun _ => p_bnd (fun r2 S2 e2 => ?_))
        refine hR _ _ _ _ ⟨rfl, rfl, by show S2 = (sX5_turns (pu_rn S i2)).2; rw [e2], Or.inr ⟨i2, rfl, by unfold pu_fl; rw [e2], fun j hj => ?_⟩⟩
        rcases hx3 with ⟨h, _⟩ | ⟨p, h, h2, hp⟩
        · omega
        · by_cases e : j = p
          · rw [e, ← h2]; exact c
          · exact hp j (by omega)
    · rintro R Y x1 i2 x3 ⟨rfl, rfl, rfl, hx3⟩
      rw [b37]
      rcases hx3 with ⟨h, _⟩ | ⟨p, h, h2, hp⟩
      · omega
      · subst h
        have fin : P (K58 (pu_rn S (p + 1)) x1 (nI (p + 1)) x3) := by
          refine k58 _ _ _ (fun c => k1 ok p (by omega) hp (by rw [← h2]; exact c)) (fun c => k2 ok (p + 1) hT (fun j hj => ?_))
          by_cases e : j = p
          · rw [e, ← h2]; exact c
          · exact hp j (by omega)
        exact p_ite (fun _ => fin) (fun _ => p_ite (fun _ => fin) (fun c => absurd (show (40 : Int32) ≤ nI (p + 1) from by rw [hT]; decide) c))
  refine p_ite (fun c => main (Or.inl (by rw [← er]; exact c))) (fun c => p_ltv (fun r2 er2 => p_ite (fun c2 => main (Or.inr (by rw [← er2]; exact c2))) (fun c2 => k0 (by rw [← er]; exact Decidable.not_not.mp c) (by rw [← er2]; exact Decidable.not_not.mp c2))))
theorem pu_rn_k (N : Cst) {n t h m g : Nat} {C : Cst} (hR : RC n t h m g C (N 0)) : ∀ q, (∃ C', RC n t h m g C' (pu_rn N q 0)) ∧ ∀ j, j ≠ 0 → pu_rn N q j = N j
  | 0 => ⟨⟨C, hR⟩, fun _ _ => rfl⟩
  | q + 1 => by
    obtain ⟨⟨C', h1⟩, h2⟩ := pu_rn_k N hR q
    obtain ⟨_, b, c⟩ := pu_round h1
    exact ⟨⟨_, b⟩, fun j hj => (c j hj).trans (h2 j hj)⟩
/-- what a look ahead of the reference leaves: its row as it was, aside from the held ones and charges -/
def SAME (M M' : Cst) : Prop := (∀ j, j ≠ 0 → j ≠ 2 → j ≠ 7 → M' j = M j) ∧ ∀ i, i < 107 → M' 0 i = M 0 i
theorem pu_back {M N : Cst} (h2 : ∀ i, i < 107 → N 2 i = M 0 i) (hk : ∀ j, j ≠ 0 → j ≠ 2 → j ≠ 7 → N j = M j) : SAME M (sX5_copies_2_0 N) := by
  obtain ⟨a, b⟩ := pu_cp_2_0 N
  exact ⟨fun j z0 z2 z7 => by rw [a j z0]; exact hk j z0 z2 z7, fun i hi => by rw [b i hi]; exact h2 i hi⟩
theorem pu_notm1 {C : Cst} : sX0_has C (-1) = 0 ∧ sX0_has C (-2) = 0 := by
  constructor <;> (dsimp only [sX0_has]; exact if_pos (by decide))
theorem pu_in21 (x : Int32) : ¬ sX5_in x (-2) (-1) = 0 ↔ x = -1 ∨ x = -2 := by
  rw [pu_in]
  constructor
  · intro h
    by_cases c : x < -2 ∨ -1 < x
    · rw [if_pos c] at h; exact absurd rfl h
    · have h1 : (-2 : Int32) ≤ x := Int32.not_lt.mp (fun q => c (Or.inl q))
      have h2 : x ≤ (-1 : Int32) := Int32.not_lt.mp (fun q => c (Or.inr q))
      rw [Int32.le_iff_toInt_le] at h1 h2
      have e1 : (-2 : Int32).toInt = -2 := by decide
      have e2 : (-1 : Int32).toInt = -1 := by decide
      rw [e1] at h1
      rw [e2] at h2
      by_cases q : x.toInt = -1
      · exact Or.inl (Int32.toInt_inj.mp (by rw [q, e2]))
      · exact Or.inr (Int32.toInt_inj.mp (by rw [e1]; omega))
  · rintro (rfl | rfl) <;> decide
theorem pu_upx1 (S : Xst) (Y : Cst) : upx S 1 Y 1 = Y := rfl
theorem pu_upxn (S : Xst) {j k : Nat} (Y : Cst) (h : k ≠ j) : upx S j Y k = S k := by unfold upx; rw [if_neg h]
def CQ (S : Xst) (b : Int32) (a : Int32 × Xst) : Prop := a.1 = b ∧ ∀ j, j ≠ 1 → a.2 j = S j
def CALQ (S : Xst) (M : Cst) (a : Int32 × Xst) (b : Int32 × Cst) : Prop := CQ S b.1 a ∧ SAME M b.2
theorem CALQ_mk {S : Xst} {M : Cst} {a : Int32 × Xst} {v : Int32} {Y : Cst} (h1 : CQ S v a) (h2 : SAME M Y) : CALQ S M a (v, Y) := ⟨h1, h2⟩
theorem pu_calm {n t h m g : Nat} {M : Cst} {S : Xst} (x : Int32) (hR : RC n t h m g (S 0) (M 0)) : CALQ S M (sX4_calm S x) (sX5_calm M x) := by
  have hn : n ≤ 8 := hR.1.1
  have mem := pu_has_mem hR.2.1.1 hR.2.1.2.1 hn x
  have cp := pu_cp_0_2 M
  have hRN : RC n t h m g (S 0) (sX5_copies_0_2 M 0) := by rw [cp.1 0 (by decide)]; exact hR
  have back : ∀ q, SAME M (sX5_copies_2_0 (pu_rn (sX5_copies_0_2 M) q)) := fun q => pu_back (fun i hi => by rw [(pu_rn_k _ hRN q).2 2 (by decide)]; exact cp.2 i hi) (fun j z0 z2 _ => by rw [(pu_rn_k _ hRN q).2 j z0]; exact cp.1 j z2)
  have cd : ∀ Y : Cst, Y = S 0 → (∃ q C', sX0_calmDown Y = (nI (q + 1), C') ∧ q < 40 ∧ (∀ j, j < q → ¬ pu_fl (sX5_copies_0_2 M) j = 0) ∧ pu_fl (sX5_copies_0_2 M) q = 0 ∧ RC n t h m g C' (pu_rn (sX5_copies_0_2 M) (q + 1) 0)) ∨ (∃ C', sX0_calmDown Y = ((-10004), C') ∧ ∀ j, j < 40 → ¬ pu_fl (sX5_copies_0_2 M) j = 0) := by
    rintro Y rfl
    exact pu_calmC (P := fun a => (∃ q C', a = (nI (q + 1), C') ∧ q < 40 ∧ (∀ j, j < q → ¬ pu_fl (sX5_copies_0_2 M) j = 0) ∧ pu_fl (sX5_copies_0_2 M) q = 0 ∧ RC n t h m g C' (pu_rn (sX5_copies_0_2 M) (q + 1) 0)) ∨ (∃ C', a = ((-10004), C') ∧ ∀ j, j < 40 → ¬ pu_fl (sX5_copies_0_2 M) j = 0)) hRN (fun q C' a b c d => Or.inl ⟨q, C', rfl, a, b, c, d⟩) (fun C' a => Or.inr ⟨C', rfl, a⟩)
  have walk : ∀ b, (sX0_has (S 0) x = 0 → ¬ x = -1 → ¬ x = -2 → CQ S b ((-10001), S)) → ((¬ sX0_has (S 0) x = 0 ∨ x = -1 ∨ x = -2) → ∀ a C' X, sX0_calmDown (S 0) = (a, C') → (∀ j, j ≠ 1 → X j = S j) → (a = -10004 → CQ S b (a, X)) ∧ (¬ a = -10004 → (x = -2 → CQ S b (a, X)) ∧ (¬ x = -2 → (sX0_has C' x = 0 → CQ S b (sX0_allUnits C', X)) ∧ (¬ sX0_has C' x = 0 → CQ S b (C' 2 x.toNatClampNeg, X))))) → CQ S b (sX4_calm S x) := by
    intro b w1 w2
    unfold sX4_calm
    refine p_ltv (Q9 := CQ S b) (fun K26 e26 => p_ltv (fun r er => ?_))
    have main : (¬ sX0_has (S 0) x = 0 ∨ x = -1 ∨ x = -2) → CQ S b (K26 S x) := by
      intro ok
      subst e26
      refine p_ltv (fun X1 eX1 => p_bnd (fun a C' e => p_ltv (fun X2 eX2 => ?_)))
      have x11 : X1 1 = S 0 := by rw [eX1]; rfl
      rw [x11] at e
      have x2 : ∀ j, j ≠ 1 → X2 j = S j := fun j hj => by rw [eX2, pu_upxn _ _ hj, eX1, pu_upxn _ _ hj]
      have x21 : X2 1 = C' := by rw [eX2]; rfl
      obtain ⟨z1, z2⟩ := w2 ok a C' X2 e x2
      refine p_ite z1 (fun c => p_ite (fun c2 => p_ltv (fun r2 er2 => ?_)) (fun c2 => (z2 c).1 (Decidable.not_not.mp c2)))
      rw [x21] at er2 ⊢
      refine p_ite (fun c3 => p_ltv (fun r3 er3 => ?_)) (fun c3 => ?_)
      · rw [er3]; exact ((z2 c).2 c2).1 (by rw [← er2]; exact c3)
      · exact ((z2 c).2 c2).2 (by rw [← er2]; exact c3)
    refine p_ite (fun c => main (Or.inl (by rw [← er]; exact c))) (fun c => p_ite (fun c1 => main (Or.inr (Or.inl c1))) (fun c1 => p_ite (fun c2 => main (Or.inr (Or.inr c2))) (fun c2 => w1 (by rw [← er]; exact Decidable.not_not.mp c) c1 c2)))
  have okeq : (¬ sX5_isMember M x = 0 ∨ ¬ sX5_in x (-2) (-1) = 0) → (¬ sX0_has (S 0) x = 0 ∨ x = -1 ∨ x = -2) := by
    rintro (h | h)
    · rcases mem with ⟨_, e, _⟩ | ⟨_, _, _, e, _⟩
      · exact absurd e h
      · exact Or.inl (by rw [e]; exact pu_10)
    · exact Or.inr ((pu_in21 x).mp h)
  refine pu_calmR (P := CALQ S M (sX4_calm S x)) (fun h1 h2 => CALQ_mk (walk _ (fun _ _ _ => ⟨rfl, fun _ _ => rfl⟩) (fun ok => ?_)) ⟨fun _ _ _ _ => rfl, fun _ _ => rfl⟩) (fun ok q hq hqf hq0 => CALQ_mk ?_ (back _)) (fun ok T hT hall => CALQ_mk ?_ (back _))
  · rcases ok with h | h | h
    · rcases mem with ⟨e, _, _⟩ | ⟨_, _, _, _, e⟩
      · exact absurd e h
      · rw [e] at h1; exact absurd h1 pu_10
    · exact absurd h2 ((pu_in21 x).mpr (Or.inl h))
    · exact absurd h2 ((pu_in21 x).mpr (Or.inr h))
  · refine walk _ (fun a b c => ?_) (fun _ a C' X e hX => ?_)
    · exact ((okeq ok).elim (fun h => absurd a h) (fun h => h.elim (fun h => absurd h b) (fun h => absurd h c)))
    rcases cd _ rfl with ⟨q', C2, e2, hq', hf', h0', hRC⟩ | ⟨C2, e2, hall⟩
    · have hqq : q' = q := by
        rcases Nat.lt_trichotomy q' q with h | h | h
        · exact absurd h0' (hqf q' h)
        · exact h
        · exact absurd hq0 (hf' q h)
      subst hqq
      rw [e2] at e
      obtain ⟨rfl, rfl⟩ := Prod.mk.inj e
      refine ⟨fun c => ?_, fun _ => ⟨fun c => ⟨?_, hX⟩, fun c => ⟨fun c2 => ⟨?_, hX⟩, fun c2 => ⟨?_, hX⟩⟩⟩⟩
      · exact absurd pu_n4 (by rw [← c]; exact nI_pos (by omega))
      · show nI (q' + 1) = pu_told _ x _
        unfold pu_told
        rw [if_neg (by rw [c]; decide), if_pos c]
      · have hx1 : x = -1 := by
          rcases mem with ⟨e, e', _⟩ | ⟨i, hi, rfl, _, _⟩
          · rcases okeq ok with h | h | h
            · exact absurd e h
            · exact h
            · exact absurd h c
          · rw [pu_has1 hRC.2.1.1 hn hi] at c2; exact absurd c2 pu_10
        show sX0_allUnits C2 = pu_told _ x _
        unfold pu_told
        rw [if_pos hx1]
        dsimp only [sX0_allUnits, ltv]
        rw [pu_sum2, pu_sum5r hn hRC.2.1.2.1, pu_sm_congr (fun i hi => (hRC.2.2.2.1 i hi).2.1), pu_sm_zero hn (fun i h1 h2 => (hRC.2.2.2.2.2.1 i h1 h2).2.1)]
      · show C2 2 x.toNatClampNeg = pu_told _ x _
        rcases mem with ⟨e, e', ne⟩ | ⟨i, hi, rfl, _, _⟩
        · rcases pu_has_mem (M := pu_rn (sX5_copies_0_2 M) (q' + 1)) hRC.2.1.1 hRC.2.1.2.1 hn x with ⟨e3, _, _⟩ | ⟨i, hi, hxi, _, _⟩
          · exact absurd e3 c2
          · exact absurd hxi (ne i hi)
        · unfold pu_told
          rw [if_neg (fun q => nI_pos (n := i) (by omega) (by rw [q]; decide)), if_neg (fun q => nI_pos (n := i) (by omega) (by rw [q]; decide)), nI_clamp (by omega)]
          exact ((hRC.2.2.2.1 i hi).2.1).symm
    · exact absurd hq0 (hall q hq)
  · refine walk _ (fun a b c => ?_) (fun _ a C' X e hX => ?_)
    · exact ((okeq ok).elim (fun h => absurd a h) (fun h => h.elim (fun h => absurd h b) (fun h => absurd h c)))
    rcases cd _ rfl with ⟨q', C2, e2, hq', hf', h0', hRC⟩ | ⟨C2, e2, _⟩
    · exact absurd h0' (hall q' hq')
    · rw [e2] at e
      obtain ⟨rfl, rfl⟩ := Prod.mk.inj e
      exact ⟨fun _ => ⟨rfl, hX⟩, fun c => absurd rfl c⟩
end
section
/-! the looks of what would be, and of what there is -/
theorem pu_out0 {t h m g : Nat} {C : Cst} {r : Nat → Int32} (hR : RC 0 t h m g C r) : (sX0_endSeason C).2 13 0 = 0 := by
  obtain ⟨⟨hn, ht, hh, hm⟩, ⟨h9, r5, h10, r6, h11, r7, h12, r8, h13, r9, r10, r11⟩, ⟨hs1, hs2⟩, hrr, hd, hz, hk1, hk2⟩ := hR
  obtain ⟨d, d0, d200, ed, e1d⟩ := pu_k0 hs2
  obtain ⟨l, hl, el⟩ := pu_kn (b := 100) (B := 100) rfl (hs2 1 (by decide)) (by decide) rfl
  obtain ⟨gr, hgr, egr⟩ := pu_kn (b := 50) (B := 50) rfl (hs2 2 (by decide)) (by decide) rfl
  obtain ⟨u, hu, eu⟩ := pu_sm_bd (f := C 2) (b := 20) (n := 8) (fun i hi => (hd i hi).2.1)
  have hD : pu_dm (C 0 0) (nI u) = nI (u * u / d) := by rw [ed]; exact pu_dmN d0 d200 (by omega)
  have h03 : (0 : Int32) ≤ C 0 3 := (hs2 3 (by decide)).1
  refine pu_endC (P := fun a => a.2 13 0 = 0) (n := 0) h9 h10 h11 h13 e1d hn ht hh (pu_m8 hn hm) eu hD (pu_dmB (by omega)) egr hgr el hl (fun i hi => absurd hi (Nat.not_lt_zero i)) rfl rfl rfl (fun C' cs c10 c11 c13 c14 c15 cr c8 => ?_)
  show C' 13 0 = 0
  rw [c13]
  have : pu_db (fun i => decide (C 0 3 < pu_nd C 0 t i)) (pu_ex (fun i => C 6 i + C 2 i) m 0 (pu_tn l (min 100 (h - u * u / d + gr)) 0)) 8 < 2 ^ 0 := by
    refine Nat.lt_pow_two_of_testBit _ (fun i _ => ?_)
    rw [pu_db_bit, pu_ex_hi (Nat.zero_le i), Bool.false_or]
    by_cases c : i < 8
    · have : ¬ C 0 3 < pu_nd C 0 t i := by
        unfold pu_nd; rw [if_neg (by omega), (hz i (Nat.zero_le i) c).2.2.1]; exact Int32.not_lt.mpr h03
      rw [decide_eq_false this, Bool.and_false]
    · rw [decide_eq_false c, Bool.false_and]
  rw [Nat.pow_zero] at this
  rw [Nat.lt_one_iff.mp this]; rfl
theorem pu_outSetRC {n t h m g : Nat} {C M : Cst} (hR : RC n t h m g C (M 0)) : sX5_outSet M = nI m :=
  pu_outSet hR.1.1 hR.2.1.2.1 hR.1.2.2.2 (fun i hi => (hR.2.2.2.1 i hi).2.2.2.2.2.2.1)
theorem pu_would {n t h m g : Nat} {M : Cst} {S : Xst} (h999 : t ≤ 999) (hR : RC n t h m g (S 0) (M 0)) : CALQ S M (sX4_wouldExclude S) (sX5_wouldExclude M) := by
  have hn : n ≤ 8 := hR.1.1
  have cls : sX4_wouldExclude S = ((sX0_endSeason (S 0)).2 13 0, upx (upx S 1 (S 0)) 1 (sX0_endSeason (S 0)).2) := rfl
  have hx : ∀ j, j ≠ 1 → upx (upx S 1 (S 0)) 1 (sX0_endSeason (S 0)).2 j = S j := fun j hj => by rw [pu_upxn _ _ hj, pu_upxn _ _ hj]
  rw [cls]
  generalize upx (upx S 1 (S 0)) 1 (sX0_endSeason (S 0)).2 = X at hx
  unfold sX5_wouldExclude
  rcases Nat.eq_zero_or_pos n with h0 | h0
  · subst h0
    refine p_ite (Q9 := CALQ S M _) (fun c => absurd hR.2.1.2.1 c) (fun _ => CALQ_mk ⟨pu_out0 hR, hx⟩ ⟨fun _ _ _ _ => rfl, fun _ _ => rfl⟩)
  · refine p_ite (Q9 := CALQ S M _) (fun _ => p_ltv (fun N eN => p_bnd (fun r M2 e => p_ltv (fun s es => p_ltv (fun M3 eM3 => ?_))))) (fun c => absurd (show ¬ M 0 5 = 0 by rw [hR.2.1.2.1]; exact nI_ne0 h0 (by omega)) c)
    have cp := pu_cp_0_2 M
    rw [← eN] at cp
    obtain ⟨e1, e2, ⟨h2, m', hRC⟩, e4⟩ := pu_ENDrel (C := S 0) (M := N) h0 h999 (by rw [cp.1 0 (by decide)]; exact hR)
    rw [e] at e1 hRC e4
    rw [es, pu_outSetRC hRC, eM3]
    refine CALQ_mk ⟨hRC.2.1.2.2.2.2.2.2.2.2.1, hx⟩ (pu_back (fun i hi => ?_) (fun j z0 z2 z7 => ?_))
    · exact (congrFun (e4 2 (by decide) (by decide)) i).trans (cp.2 i hi)
    · exact (e4 j z0 z7).trans (cp.1 j z2)
theorem pu_gainE {n t h m g : Nat} {C M : Cst} (x y : Int32) (hR : RC n t h m g C (M 0)) : sX0_liftedGain C x y = sX5_gain M x y := by
  obtain ⟨⟨hn, ht, hh, hm⟩, ⟨h9, r5, h10, r6, h11, r7, h12, r8, h13, r9, r10, r11⟩, ⟨hs1, hs2⟩, hrr, hd, hz, hk1, hk2⟩ := hR
  obtain ⟨d, d0, d200, ed, e1d⟩ := pu_k0 hs2
  dsimp only [sX0_liftedGain, sX5_gain, ltv]
  rw [pu_units]
  rcases pu_has_mem h9 r5 hn x with ⟨e1, e2, _⟩ | ⟨i, hi, rfl, e1, e2⟩
  · rw [e1, e2, if_pos rfl, if_pos rfl]
  rw [e1, e2, if_neg pu_10, if_neg pu_10]
  rcases pu_inN (x := y) (b := 20) (B := 20) rfl with e3 | ⟨e3, a, ha, rfl⟩
  · rw [e3, if_neg pu_00, if_neg pu_00]
  rw [e3, if_pos pu_10, if_pos pu_10, nI_clamp (by omega), pu_isOut h13 (pu_m8 hn hm) (by omega)]
  have e6 : sX5_of M i 6 = if m.testBit i then 1 else 0 := (hrr i hi).2.2.2.2.2.2.1
  have eg : sX0_gainBehind C (sX0_unitsAhead C (nI i)) (C 1 i) (nI a) = sX5_gainFor M i (nI a) := by
    rw [pu_gain e1d, pu_ahead h9 h10 (by omega) hn ht (by omega) (fun k h1 h2 => (hz k h1 h2).2.1), pu_gainR r5 r6 hn ht hi, (hrr i hi).1, hs1 0 (by decide), pu_ah_congr (fun k hk => (hrr k hk).2.1)]
  rw [e6, eg]
  by_cases ho : m.testBit i = true
  · rw [if_pos ho, if_neg pu_10, if_neg (show ¬ ¬ (1 : Int32) = 1 from fun q => q rfl)]
    rcases Nat.eq_zero_or_pos a with ha0 | ha0
    · subst ha0; rw [if_pos (show nI 0 = (0 : Int32) from rfl), if_pos (show nI 0 ≤ (0 : Int32) from by decide)]
    · rw [if_neg (nI_ne0 ha0 (by omega)), if_neg (nI_nle ha0 (by omega))]
  · rw [if_neg ho, if_pos rfl, if_pos (show ¬ (0 : Int32) = 1 by decide)]
theorem pu_repE {n t h m g : Nat} {C M : Cst} (hR : RC n t h m g C (M 0)) : sX0_pointsFromFund C = sX5_canRepair M := by
  obtain ⟨⟨hn, ht, hh, hm⟩, ⟨h9, r5, h10, r6, h11, r7, h12, r8, h13, r9, r10, r11⟩, ⟨hs1, hs2⟩, hrr, hd, hz, hk1, hk2⟩ := hR
  dsimp only [sX0_pointsFromFund, sX5_canRepair, ltv]
  rw [pu_quot (show (1 : Int32) ≤ C 0 4 from (hs2 4 (by decide)).1), h12, r8, hs1 4 (by decide), h11, r7]
  generalize nI g / C 0 4 = q
  generalize (100 : Int32) - nI h = e
  by_cases c : q < e
  · rw [if_pos c, if_pos (Int32.le_of_lt c)]
  · rw [if_neg c]
    by_cases c2 : q ≤ e
    · rw [if_pos c2]; exact Int32.le_antisymm (Int32.not_lt.mp c) c2
    · rw [if_neg c2]
theorem pu_seasE {n t h m g : Nat} {C M : Cst} (x y : Int32) (hR : RC n t h m g C (M 0)) : sX0_numberOfSeason C x y = sX5_seasonOf M x y := by
  obtain ⟨⟨hn, ht, hh, hm⟩, ⟨h9, r5, h10, r6, h11, r7, h12, r8, h13, r9, r10, r11⟩, ⟨hs1, hs2⟩, hrr, hd, hz, hk1, hk2⟩ := hR
  dsimp only [sX0_numberOfSeason, sX5_seasonOf, ltv]
  by_cases hx : x < 0
  · rw [if_pos hx, if_pos hx]
  rw [if_neg hx, if_neg hx, pu_in]
  by_cases hy : y < 0
  · rw [if_pos hy, if_pos (Or.inl hy), if_neg pu_00]
  rw [if_neg hy]
  obtain ⟨i, hi, rfl⟩ := nI_of hx
  obtain ⟨w, hw, rfl⟩ := nI_of hy
  by_cases hw5 : w < 5
  · rw [if_pos (show nI w < (5 : Int32) from nI_lt (b := 5) hw5 (by decide)), if_neg (show ¬ (nI w < 0 ∨ (4 : Int32) < nI w) from fun q => q.elim hy (fun q => nI_nlt (a := 4) (by omega) (by decide) q)), if_pos pu_10, h10, hk1]
    by_cases ht' : i < t
    · rw [if_neg (nI_ge ht' (by omega))]
      by_cases h6 : i < 6
      · rw [if_pos (show nI i < (6 : Int32) from nI_lt (b := 6) h6 (by decide)), if_pos (nI_lt (show i < min t 6 by omega) (by omega)), nI_clamp hi, nI_clamp hw, hk2 i w (by omega) hw5]
        have e1 : nI t - 1 - nI i = nI (t - 1 - i) := by rw [show (1 : Int32) = nI 1 from rfl, nI_sub (by omega), nI_sub (by omega)]
        have tm := Nat.mod_lt (t - 1 - i) (show 0 < 6 by decide)
        rw [e1, show (6 : Int32) = nI 6 from rfl, pu_mod (by omega) (by decide), show (5 : Int32) = nI 5 from rfl, nI_mul, nI_add, nI_clamp (by omega)]
      · rw [if_neg (show ¬ nI i < (6 : Int32) from nI_nlt (b := 6) (by omega) hi), if_neg (nI_nlt (show min t 6 ≤ i by omega) hi)]
    · rw [if_pos (nI_le (by omega) hi), if_neg (nI_nlt (show min t 6 ≤ i by omega) hi)]
  · rw [if_neg (show ¬ nI w < (5 : Int32) from nI_nlt (b := 5) (by omega) hw), if_pos (show nI w < 0 ∨ (4 : Int32) < nI w from Or.inr (nI_lt (a := 4) (by omega) hw)), if_neg pu_00]
theorem pu_memE {n t h m g : Nat} {C M : Cst} (x y : Int32) (hR : RC n t h m g C (M 0)) : sX0_numberOfMember C x y = sX5_memberOf M x y := by
  obtain ⟨⟨hn, ht, hh, hm⟩, ⟨h9, r5, h10, r6, h11, r7, h12, r8, h13, r9, r10, r11⟩, ⟨hs1, hs2⟩, hrr, hd, hz, hk1, hk2⟩ := hR
  obtain ⟨d, d0, d200, ed, e1d⟩ := pu_k0 hs2
  dsimp only [sX0_numberOfMember, sX5_memberOf, ltv]
  rcases pu_has_mem h9 r5 hn x with ⟨e1, e2, _⟩ | ⟨i, hi, rfl, e1, e2⟩
  · rw [e1, e2, if_neg pu_00, if_pos rfl]
  rw [e1, e2, if_pos pu_10, if_neg pu_10, nI_clamp (by omega)]
  rcases pu_inN (x := y) (b := 9) (B := 9) rfl with e3 | ⟨e3, a, ha, rfl⟩
  · rw [e3, if_neg pu_00]
    have ne : ∀ k, k ≤ 9 → ¬ y = nI k := by
      intro k hk q
      rw [q, pu_in, if_neg (fun z => z.elim (nI_pos (by omega)) (fun z => nI_nlt (a := 9) hk (by decide) z))] at e3
      exact pu_10 e3
    rw [if_neg (show ¬ y = 0 from ne 0 (by decide)), if_neg (show ¬ y = 1 from ne 1 (by decide)), if_neg (show ¬ y = 2 from ne 2 (by decide)), if_neg (show ¬ y = 3 from ne 3 (by decide)), if_neg (show ¬ y = 4 from ne 4 (by decide)), if_neg (show ¬ y = 5 from ne 5 (by decide)), if_neg (show ¬ y = 6 from ne 6 (by decide)), if_neg (show ¬ y = 7 from ne 7 (by decide)), if_neg (show ¬ y = 8 from ne 8 (by decide)), if_neg (show ¬ y = 9 from ne 9 (by decide))]
  rw [e3, if_pos pu_10, nI_clamp (by omega)]
  obtain ⟨q0, q1, q2, q3, q4, q5, q6, q7⟩ := hrr i hi
  have hc : a = 0 ∨ a = 1 ∨ a = 2 ∨ a = 3 ∨ a = 4 ∨ a = 5 ∨ a = 6 ∨ a = 7 ∨ a = 8 ∨ a = 9 := by omega
  rcases hc with rfl | rfl | rfl | rfl | rfl | rfl | rfl | rfl | rfl | rfl
  · rw [if_pos (show nI 0 = 0 by decide), if_neg (show ¬ (2 : Int32) ≤ nI 0 by decide)]; exact q0.symm
  · rw [if_neg (show ¬ nI 1 = 0 by decide), if_pos (show nI 1 = 1 by decide), if_neg (show ¬ (2 : Int32) ≤ nI 1 by decide)]; exact q1.symm
  · rw [if_neg (show ¬ nI 2 = 0 by decide), if_neg (show ¬ nI 2 = 1 by decide), if_pos (show nI 2 = 2 by decide), if_pos (show (2 : Int32) ≤ nI 2 by decide), if_neg (show ¬ ¬ nI 2 = 2 by decide), pu_chargeOf h9 h10 e1d hn ht hi (fun k h1 h2 => (hz k h1 h2).2.1), show sX5_of M i 1 = C 2 i from q1, pu_chargeR r5 r6 hn ht hi, hs1 0 (by decide), pu_ah_congr (fun k hk => (hrr k hk).2.1)]
  · rw [if_neg (show ¬ nI 3 = 0 by decide), if_neg (show ¬ nI 3 = 1 by decide), if_neg (show ¬ nI 3 = 2 by decide), if_pos (show nI 3 = 3 by decide), if_pos (show (2 : Int32) ≤ nI 3 by decide), if_pos (show ¬ nI 3 = 2 by decide), if_neg (show ¬ (9 : Int32) ≤ nI 3 by decide)]; exact q2.symm
  · rw [if_neg (show ¬ nI 4 = 0 by decide), if_neg (show ¬ nI 4 = 1 by decide), if_neg (show ¬ nI 4 = 2 by decide), if_neg (show ¬ nI 4 = 3 by decide), if_pos (show nI 4 = 4 by decide), if_pos (show (2 : Int32) ≤ nI 4 by decide), if_pos (show ¬ nI 4 = 2 by decide), if_neg (show ¬ (9 : Int32) ≤ nI 4 by decide)]; exact q3.symm
  · rw [if_neg (show ¬ nI 5 = 0 by decide), if_neg (show ¬ nI 5 = 1 by decide), if_neg (show ¬ nI 5 = 2 by decide), if_neg (show ¬ nI 5 = 3 by decide), if_neg (show ¬ nI 5 = 4 by decide), if_pos (show nI 5 = 5 by decide), if_pos (show (2 : Int32) ≤ nI 5 by decide), if_pos (show ¬ nI 5 = 2 by decide), if_neg (show ¬ (9 : Int32) ≤ nI 5 by decide)]; exact q4.symm
  · rw [if_neg (show ¬ nI 6 = 0 by decide), if_neg (show ¬ nI 6 = 1 by decide), if_neg (show ¬ nI 6 = 2 by decide), if_neg (show ¬ nI 6 = 3 by decide), if_neg (show ¬ nI 6 = 4 by decide), if_neg (show ¬ nI 6 = 5 by decide), if_pos (show nI 6 = 6 by decide), if_pos (show (2 : Int32) ≤ nI 6 by decide), if_pos (show ¬ nI 6 = 2 by decide), if_neg (show ¬ (9 : Int32) ≤ nI 6 by decide)]; exact q5.symm
  · rw [if_neg (show ¬ nI 7 = 0 by decide), if_neg (show ¬ nI 7 = 1 by decide), if_neg (show ¬ nI 7 = 2 by decide), if_neg (show ¬ nI 7 = 3 by decide), if_neg (show ¬ nI 7 = 4 by decide), if_neg (show ¬ nI 7 = 5 by decide), if_neg (show ¬ nI 7 = 6 by decide), if_pos (show nI 7 = 7 by decide), if_pos (show (2 : Int32) ≤ nI 7 by decide), if_pos (show ¬ nI 7 = 2 by decide), if_neg (show ¬ (9 : Int32) ≤ nI 7 by decide), pu_isOut h13 (pu_m8 hn hm) (by omega), show sX5_of M i (7 - 1) = _ from q6]
    by_cases c : m.testBit i = true
    · rw [if_pos c, if_neg pu_10]
    · rw [if_neg c, if_pos rfl]
  · rw [if_neg (show ¬ nI 8 = 0 by decide), if_neg (show ¬ nI 8 = 1 by decide), if_neg (show ¬ nI 8 = 2 by decide), if_neg (show ¬ nI 8 = 3 by decide), if_neg (show ¬ nI 8 = 4 by decide), if_neg (show ¬ nI 8 = 5 by decide), if_neg (show ¬ nI 8 = 6 by decide), if_neg (show ¬ nI 8 = 7 by decide), if_pos (show nI 8 = 8 by decide), if_pos (show (2 : Int32) ≤ nI 8 by decide), if_pos (show ¬ nI 8 = 2 by decide), if_neg (show ¬ (9 : Int32) ≤ nI 8 by decide)]; exact q7.symm
  · rw [if_neg (show ¬ nI 9 = 0 by decide), if_neg (show ¬ nI 9 = 1 by decide), if_neg (show ¬ nI 9 = 2 by decide), if_neg (show ¬ nI 9 = 3 by decide), if_neg (show ¬ nI 9 = 4 by decide), if_neg (show ¬ nI 9 = 5 by decide), if_neg (show ¬ nI 9 = 6 by decide), if_neg (show ¬ nI 9 = 7 by decide), if_neg (show ¬ nI 9 = 8 by decide), if_pos (show nI 9 = 9 by decide), if_pos (show (2 : Int32) ≤ nI 9 by decide), if_pos (show ¬ nI 9 = 2 by decide), if_pos (show (9 : Int32) ≤ nI 9 by decide), pu_place h9 h10 (by omega) hn ht (by omega), pu_placeR r5 r6 hn ht hi]
theorem PEQ_rfl {α : Type} (a : α) : PEQ a a := rfl
theorem pu_nA0 (C : Cst) : PEQ (C 9 0) (sX0_numberOfAll C 0) := by
  unfold sX0_numberOfAll
  exact p_ite (fun _ => PEQ_rfl _) (fun c => absurd rfl c)
theorem pu_cR0 (M : Cst) : PEQ (M 0 ((5 : Int32) + 0).toNatClampNeg) (sX5_count M 0) := by
  unfold sX5_count
  exact p_ite (fun _ => PEQ_rfl _) (fun c => absurd rfl c)
theorem pu_nA1 (C : Cst) : PEQ (C 10 0) (sX0_numberOfAll C 1) := by
  unfold sX0_numberOfAll
  exact p_ite (fun c => absurd c (by decide)) (fun _ => p_ite (fun _ => PEQ_rfl _) (fun c => absurd rfl c))
theorem pu_cR1 (M : Cst) : PEQ (M 0 ((5 : Int32) + 1).toNatClampNeg) (sX5_count M 1) := by
  unfold sX5_count
  exact p_ite (fun c => absurd c (by decide)) (fun _ => p_ite (fun _ => PEQ_rfl _) (fun c => absurd rfl c))
theorem pu_nA2 (C : Cst) : PEQ (C 11 0) (sX0_numberOfAll C 2) := by
  unfold sX0_numberOfAll
  exact p_ite (fun c => absurd c (by decide)) (fun _ => p_ite (fun c => absurd c (by decide)) (fun _ => p_ite (fun _ => PEQ_rfl _) (fun c => absurd rfl c)))
theorem pu_cR2 (M : Cst) : PEQ (M 0 ((5 : Int32) + 2).toNatClampNeg) (sX5_count M 2) := by
  unfold sX5_count
  exact p_ite (fun c => absurd c (by decide)) (fun _ => p_ite (fun c => absurd c (by decide)) (fun _ => p_ite (fun _ => PEQ_rfl _) (fun c => absurd rfl c)))
theorem pu_nA3 (C : Cst) : PEQ (sX0_allUnits C) (sX0_numberOfAll C 3) := by
  unfold sX0_numberOfAll
  exact p_ite (fun c => absurd c (by decide)) (fun _ => p_ite (fun c => absurd c (by decide)) (fun _ => p_ite (fun c => absurd c (by decide)) (fun _ => p_ite (fun _ => p_ltv (fun r er => er)) (fun c => absurd rfl c))))
theorem pu_cR3 (M : Cst) : PEQ (sX5_sum M 1) (sX5_count M 3) := by
  unfold sX5_count
  exact p_ite (fun c => absurd c (by decide)) (fun _ => p_ite (fun c => absurd c (by decide)) (fun _ => p_ite (fun c => absurd c (by decide)) (fun _ => p_ite (fun _ => p_ltv (fun r er => er)) (fun c => absurd rfl c))))
theorem pu_nA4 (C : Cst) : PEQ (sX0_damageOf C (sX0_allUnits C)) (sX0_numberOfAll C 4) := by
  unfold sX0_numberOfAll
  exact p_ite (fun c => absurd c (by decide)) (fun _ => p_ite (fun c => absurd c (by decide)) (fun _ => p_ite (fun c => absurd c (by decide)) (fun _ => p_ite (fun c => absurd c (by decide)) (fun _ => p_ite (fun _ => p_ltv (fun r er => p_ltv (fun r2 er2 => by rw [er2, er]; exact rfl))) (fun c => absurd rfl c)))))
theorem pu_cR4 (M : Cst) : PEQ (sX5_damage M (sX5_sum M 1)) (sX5_count M 4) := by
  unfold sX5_count
  exact p_ite (fun c => absurd c (by decide)) (fun _ => p_ite (fun c => absurd c (by decide)) (fun _ => p_ite (fun c => absurd c (by decide)) (fun _ => p_ite (fun c => absurd c (by decide)) (fun _ => p_ite (fun _ => p_ltv (fun r er => p_ltv (fun r2 er2 => by rw [er2, er]; exact rfl))) (fun c => absurd rfl c)))))
theorem pu_nA5 (C : Cst) : PEQ (C 12 0) (sX0_numberOfAll C 5) := by
  unfold sX0_numberOfAll
  exact p_ite (fun c => absurd c (by decide)) (fun _ => p_ite (fun c => absurd c (by decide)) (fun _ => p_ite (fun c => absurd c (by decide)) (fun _ => p_ite (fun c => absurd c (by decide)) (fun _ => p_ite (fun c => absurd c (by decide)) (fun _ => p_ite (fun _ => PEQ_rfl _) (fun c => absurd rfl c))))))
theorem pu_cR5 (M : Cst) : PEQ (M 0 8) (sX5_count M 5) := by
  unfold sX5_count
  exact p_ite (fun c => absurd c (by decide)) (fun _ => p_ite (fun c => absurd c (by decide)) (fun _ => p_ite (fun c => absurd c (by decide)) (fun _ => p_ite (fun c => absurd c (by decide)) (fun _ => p_ite (fun c => absurd c (by decide)) (fun _ => p_ite (fun _ => PEQ_rfl _) (fun c => absurd rfl c))))))
theorem pu_nA6 (C : Cst) : PEQ (sX4_sumOf_3 C) (sX0_numberOfAll C 6) := by
  unfold sX0_numberOfAll
  exact p_ite (fun c => absurd c (by decide)) (fun _ => p_ite (fun c => absurd c (by decide)) (fun _ => p_ite (fun c => absurd c (by decide)) (fun _ => p_ite (fun c => absurd c (by decide)) (fun _ => p_ite (fun c => absurd c (by decide)) (fun _ => p_ite (fun c => absurd c (by decide)) (fun _ => p_ite (fun _ => p_ltv (fun r er => er)) (fun c => absurd rfl c)))))))
theorem pu_cR6 (M : Cst) : PEQ (sX5_sum M 2) (sX5_count M 6) := by
  unfold sX5_count
  exact p_ite (fun c => absurd c (by decide)) (fun _ => p_ite (fun c => absurd c (by decide)) (fun _ => p_ite (fun c => absurd c (by decide)) (fun _ => p_ite (fun c => absurd c (by decide)) (fun _ => p_ite (fun c => absurd c (by decide)) (fun _ => p_ite (fun c => absurd c (by decide)) (fun _ => p_ite (fun _ => p_ltv (fun r er => er)) (fun c => absurd rfl c)))))))
theorem pu_nA7 (C : Cst) : PEQ (C 13 0) (sX0_numberOfAll C 7) := by
  unfold sX0_numberOfAll
  exact p_ite (fun c => absurd c (by decide)) (fun _ => p_ite (fun c => absurd c (by decide)) (fun _ => p_ite (fun c => absurd c (by decide)) (fun _ => p_ite (fun c => absurd c (by decide)) (fun _ => p_ite (fun c => absurd c (by decide)) (fun _ => p_ite (fun c => absurd c (by decide)) (fun _ => p_ite (fun c => absurd c (by decide)) (fun _ => p_ite (fun _ => PEQ_rfl _) (fun c => absurd rfl c))))))))
theorem pu_cR7 (M : Cst) : PEQ (sX5_outSet M) (sX5_count M 7) := by
  unfold sX5_count
  exact p_ite (fun c => absurd c (by decide)) (fun _ => p_ite (fun c => absurd c (by decide)) (fun _ => p_ite (fun c => absurd c (by decide)) (fun _ => p_ite (fun c => absurd c (by decide)) (fun _ => p_ite (fun c => absurd c (by decide)) (fun _ => p_ite (fun c => absurd c (by decide)) (fun _ => p_ite (fun c => absurd c (by decide)) (fun _ => p_ite (fun _ => p_ltv (fun r er => er)) (fun c => absurd rfl c))))))))
theorem pu_nA8 (C : Cst) : PEQ (C 14 0) (sX0_numberOfAll C 8) := by
  unfold sX0_numberOfAll
  exact p_ite (fun c => absurd c (by decide)) (fun _ => p_ite (fun c => absurd c (by decide)) (fun _ => p_ite (fun c => absurd c (by decide)) (fun _ => p_ite (fun c => absurd c (by decide)) (fun _ => p_ite (fun c => absurd c (by decide)) (fun _ => p_ite (fun c => absurd c (by decide)) (fun _ => p_ite (fun c => absurd c (by decide)) (fun _ => p_ite (fun c => absurd c (by decide)) (fun _ => p_ite (fun _ => PEQ_rfl _) (fun c => absurd rfl c)))))))))
theorem pu_cR8 (M : Cst) : PEQ (M 0 ((9 : Int32) + 8 - 8).toNatClampNeg) (sX5_count M 8) := by
  unfold sX5_count
  exact p_ite (fun c => absurd c (by decide)) (fun _ => p_ite (fun c => absurd c (by decide)) (fun _ => p_ite (fun c => absurd c (by decide)) (fun _ => p_ite (fun c => absurd c (by decide)) (fun _ => p_ite (fun c => absurd c (by decide)) (fun _ => p_ite (fun c => absurd c (by decide)) (fun _ => p_ite (fun c => absurd c (by decide)) (fun _ => p_ite (fun c => absurd c (by decide)) (fun _ => p_ite (fun _ => PEQ_rfl _) (fun c => absurd rfl c)))))))))
theorem pu_nA9 (C : Cst) : PEQ (C 15 0) (sX0_numberOfAll C 9) := by
  unfold sX0_numberOfAll
  exact p_ite (fun c => absurd c (by decide)) (fun _ => p_ite (fun c => absurd c (by decide)) (fun _ => p_ite (fun c => absurd c (by decide)) (fun _ => p_ite (fun c => absurd c (by decide)) (fun _ => p_ite (fun c => absurd c (by decide)) (fun _ => p_ite (fun c => absurd c (by decide)) (fun _ => p_ite (fun c => absurd c (by decide)) (fun _ => p_ite (fun c => absurd c (by decide)) (fun _ => p_ite (fun c => absurd c (by decide)) (fun _ => p_ite (fun _ => PEQ_rfl _) (fun c => absurd rfl c))))))))))
theorem pu_cR9 (M : Cst) : PEQ (M 0 ((9 : Int32) + 9 - 8).toNatClampNeg) (sX5_count M 9) := by
  unfold sX5_count
  exact p_ite (fun c => absurd c (by decide)) (fun _ => p_ite (fun c => absurd c (by decide)) (fun _ => p_ite (fun c => absurd c (by decide)) (fun _ => p_ite (fun c => absurd c (by decide)) (fun _ => p_ite (fun c => absurd c (by decide)) (fun _ => p_ite (fun c => absurd c (by decide)) (fun _ => p_ite (fun c => absurd c (by decide)) (fun _ => p_ite (fun c => absurd c (by decide)) (fun _ => p_ite (fun c => absurd c (by decide)) (fun _ => p_ite (fun _ => PEQ_rfl _) (fun c => absurd rfl c))))))))))
theorem pu_nA10 (C : Cst) : PEQ (C 16 0) (sX0_numberOfAll C 10) := by
  unfold sX0_numberOfAll
  exact p_ite (fun c => absurd c (by decide)) (fun _ => p_ite (fun c => absurd c (by decide)) (fun _ => p_ite (fun c => absurd c (by decide)) (fun _ => p_ite (fun c => absurd c (by decide)) (fun _ => p_ite (fun c => absurd c (by decide)) (fun _ => p_ite (fun c => absurd c (by decide)) (fun _ => p_ite (fun c => absurd c (by decide)) (fun _ => p_ite (fun c => absurd c (by decide)) (fun _ => p_ite (fun c => absurd c (by decide)) (fun _ => p_ite (fun c => absurd c (by decide)) (fun _ => p_ite (fun _ => PEQ_rfl _) (fun c => absurd rfl c)))))))))))
theorem pu_cR10 (M : Cst) : PEQ (M 0 ((9 : Int32) + 10 - 8).toNatClampNeg) (sX5_count M 10) := by
  unfold sX5_count
  exact p_ite (fun c => absurd c (by decide)) (fun _ => p_ite (fun c => absurd c (by decide)) (fun _ => p_ite (fun c => absurd c (by decide)) (fun _ => p_ite (fun c => absurd c (by decide)) (fun _ => p_ite (fun c => absurd c (by decide)) (fun _ => p_ite (fun c => absurd c (by decide)) (fun _ => p_ite (fun c => absurd c (by decide)) (fun _ => p_ite (fun c => absurd c (by decide)) (fun _ => p_ite (fun c => absurd c (by decide)) (fun _ => p_ite (fun c => absurd c (by decide)) (fun _ => p_ite (fun _ => PEQ_rfl _) (fun c => absurd rfl c)))))))))))
theorem pu_nAd (C : Cst) (x : Int32) (c0 : ¬ x = 0) (c1 : ¬ x = 1) (c2 : ¬ x = 2) (c3 : ¬ x = 3) (c4 : ¬ x = 4) (c5 : ¬ x = 5) (c6 : ¬ x = 6) (c7 : ¬ x = 7) (c8 : ¬ x = 8) (c9 : ¬ x = 9) (c10 : ¬ x = 10) : PEQ (if x < 20 then (-10001) else if 25 ≤ x then (-10001) else C 0 (x - 20).toNatClampNeg) (sX0_numberOfAll C x) := by
  unfold sX0_numberOfAll
  exact p_ite (fun c => absurd c c0) (fun _ => p_ite (fun c => absurd c c1) (fun _ => p_ite (fun c => absurd c c2) (fun _ => p_ite (fun c => absurd c c3) (fun _ => p_ite (fun c => absurd c c4) (fun _ => p_ite (fun c => absurd c c5) (fun _ => p_ite (fun c => absurd c c6) (fun _ => p_ite (fun c => absurd c c7) (fun _ => p_ite (fun c => absurd c c8) (fun _ => p_ite (fun c => absurd c c9) (fun _ => p_ite (fun c => absurd c c10) (fun _ => PEQ_rfl _)))))))))))
theorem pu_cRd (M : Cst) (x : Int32) (c0 : ¬ x = 0) (c1 : ¬ x = 1) (c2 : ¬ x = 2) (c3 : ¬ x = 3) (c4 : ¬ x = 4) (c5 : ¬ x = 5) (c6 : ¬ x = 6) (c7 : ¬ x = 7) (c8 : ¬ x = 8) (c9 : ¬ x = 9) (c10 : ¬ x = 10) (c11 : ¬ x = 11) (c12 : ¬ x = 12) : PEQ (if sX5_in x 20 24 = 0 then (-10001) else M 0 (x - 20).toNatClampNeg) (sX5_count M x) := by
  unfold sX5_count
  exact p_ite (fun c => absurd c c0) (fun _ => p_ite (fun c => absurd c c1) (fun _ => p_ite (fun c => absurd c c2) (fun _ => p_ite (fun c => absurd c c3) (fun _ => p_ite (fun c => absurd c c4) (fun _ => p_ite (fun c => absurd c c5) (fun _ => p_ite (fun c => absurd c c6) (fun _ => p_ite (fun c => absurd c c7) (fun _ => p_ite (fun c => absurd c c8) (fun _ => p_ite (fun c => absurd c c9) (fun _ => p_ite (fun c => absurd c c10) (fun _ => p_ite (fun c => absurd c c11) (fun _ => p_ite (fun c => absurd c c12) (fun _ => p_ltv (fun r er => by rw [er]; exact PEQ_rfl _))))))))))))))
theorem pu_cntE {n t h m g : Nat} {C M : Cst} (x : Int32) (n11 : ¬ x = 11) (n12 : ¬ x = 12) (hR : RC n t h m g C (M 0)) : sX0_numberOfAll C x = sX5_count M x := by
  have out := pu_outSetRC hR
  obtain ⟨⟨hn, ht, hh, hm⟩, ⟨h9, r5, h10, r6, h11, r7, h12, r8, h13, r9, r10, r11⟩, ⟨hs1, hs2⟩, hrr, hd, hz, hk1, hk2⟩ := hR
  obtain ⟨d, d0, d200, ed, e1d⟩ := pu_k0 hs2
  have eu : sX0_allUnits C = sX4_sumOf_2 C := rfl
  have su : sX4_sumOf_2 C = sX5_sum M 1 := by
    rw [pu_sum2, pu_sum5r hn r5, pu_sm_congr (f := fun i => M 0 (13 + 8 * i + 1)) (g := C 2) (fun i hi => (hrr i hi).2.1), pu_sm_zero hn (fun i h1 h2 => (hz i h1 h2).2.1)]
  have so : sX4_sumOf_3 C = sX5_sum M 2 := by
    rw [pu_sum3, pu_sum5r hn r5, pu_sm_congr (f := fun i => M 0 (13 + 8 * i + 2)) (g := C 3) (fun i hi => (hrr i hi).2.2.1), pu_sm_zero hn (fun i h1 h2 => (hz i h1 h2).2.2.1)]
  by_cases c0 : x = 0
  · subst c0
    have a : sX0_numberOfAll C 0 = _ := pu_nA0 C
    have b : sX5_count M 0 = _ := pu_cR0 M
    rw [a, b, show ((5 : Int32) + 0).toNatClampNeg = 5 by decide, h9, r5]
  by_cases c1 : x = 1
  · subst c1
    have a : sX0_numberOfAll C 1 = _ := pu_nA1 C
    have b : sX5_count M 1 = _ := pu_cR1 M
    rw [a, b, show ((5 : Int32) + 1).toNatClampNeg = 6 by decide, h10, r6]
  by_cases c2 : x = 2
  · subst c2
    have a : sX0_numberOfAll C 2 = _ := pu_nA2 C
    have b : sX5_count M 2 = _ := pu_cR2 M
    rw [a, b, show ((5 : Int32) + 2).toNatClampNeg = 7 by decide, h11, r7]
  by_cases c3 : x = 3
  · subst c3
    have a : sX0_numberOfAll C 3 = _ := pu_nA3 C
    have b : sX5_count M 3 = _ := pu_cR3 M
    rw [a, b, eu, su]
  by_cases c4 : x = 4
  · subst c4
    have a : sX0_numberOfAll C 4 = _ := pu_nA4 C
    have b : sX5_count M 4 = _ := pu_cR4 M
    rw [a, b, eu, su, pu_damage e1d, pu_damageR, hs1 0 (by decide)]
  by_cases c5 : x = 5
  · subst c5
    have a : sX0_numberOfAll C 5 = _ := pu_nA5 C
    have b : sX5_count M 5 = _ := pu_cR5 M
    rw [a, b, h12, r8]
  by_cases c6 : x = 6
  · subst c6
    have a : sX0_numberOfAll C 6 = _ := pu_nA6 C
    have b : sX5_count M 6 = _ := pu_cR6 M
    rw [a, b, so]
  by_cases c7 : x = 7
  · subst c7
    have a : sX0_numberOfAll C 7 = _ := pu_nA7 C
    have b : sX5_count M 7 = _ := pu_cR7 M
    rw [a, b, out, h13]
  by_cases c8 : x = 8
  · subst c8
    have a : sX0_numberOfAll C 8 = _ := pu_nA8 C
    have b : sX5_count M 8 = _ := pu_cR8 M
    rw [a, b, show ((9 : Int32) + 8 - 8).toNatClampNeg = 9 by decide, r9]
  by_cases c9 : x = 9
  · subst c9
    have a : sX0_numberOfAll C 9 = _ := pu_nA9 C
    have b : sX5_count M 9 = _ := pu_cR9 M
    rw [a, b, show ((9 : Int32) + 9 - 8).toNatClampNeg = 10 by decide, r10]
  by_cases c10 : x = 10
  · subst c10
    have a : sX0_numberOfAll C 10 = _ := pu_nA10 C
    have b : sX5_count M 10 = _ := pu_cR10 M
    rw [a, b, show ((9 : Int32) + 10 - 8).toNatClampNeg = 11 by decide, r11]
  have a : sX0_numberOfAll C x = _ := pu_nAd C x c0 c1 c2 c3 c4 c5 c6 c7 c8 c9 c10
  have b : sX5_count M x = _ := pu_cRd M x c0 c1 c2 c3 c4 c5 c6 c7 c8 c9 c10 n11 n12
  rw [a, b, pu_in]
  by_cases d1 : x < 20
  · rw [if_pos d1, if_pos (Or.inl d1), if_pos rfl]
  obtain ⟨i, hi, rfl⟩ := nI_of (x := x) (fun q => d1 (Int32.lt_of_lt_of_le q (by decide)))
  have h20 : 20 ≤ i := Nat.not_lt.mp (fun q => d1 (nI_lt (b := 20) q (by decide)))
  rw [if_neg d1]
  by_cases d2 : i < 25
  · rw [if_neg (show ¬ (25 : Int32) ≤ nI i from nI_ge (b := 25) d2 (by decide)), if_neg (show ¬ (nI i < 20 ∨ (24 : Int32) < nI i) from fun q => q.elim d1 (fun q => nI_nlt (a := 24) (by omega) (by decide) q)), if_neg pu_10, show (20 : Int32) = nI 20 from rfl, nI_sub h20, nI_clamp (by omega)]
    exact (hs1 _ (by omega)).symm
  · rw [if_pos (show (25 : Int32) ≤ nI i from nI_le (a := 25) (by omega) hi), if_pos (show nI i < 20 ∨ (24 : Int32) < nI i from Or.inr (nI_lt (a := 24) (by omega) hi)), if_pos rfl]
end
section
/-! the relation of both whole states; what is kept of the past -/
def RHi (f : Nat) (S : Xst) (M : Cst) : Prop := ∃ o p, o ≤ 3 ∧ p ≤ 4 ∧ S 2 1 0 = nI o ∧ S 2 2 0 = nI p ∧ M 3 0 = nI p ∧ ∀ j, j < p → RF 999 f (S (3 + (o + j) % 4)) (fun i => M 1 (107 * j + i))
def RTx (S : Xst) (M : Cst) : Prop := ∃ L, L ≤ 60 ∧ S 7 1 0 = nI L ∧ M 6 0 = nI L ∧ ∀ k, k < L → S 7 0 k = M 5 k ∧ ∃ a, 32 ≤ a ∧ a ≤ 126 ∧ M 5 k = nI a
def RelS (f : Nat) (S : Xst) (M : Cst) : Prop := RF 999 f (S 0) (M 0) ∧ M 4 0 = 0 ∧ RHi f S M ∧ RTx S M
theorem RF_mono {T f f' : Nat} {C : Cst} {r : Nat → Int32} (hf : f ≤ f') (h : RF T f C r) : RF T f' C r := by
  obtain ⟨n, t, hl, m, g, h1, h2, h3⟩ := h
  exact ⟨n, t, hl, m, g, h1, Nat.le_trans h2 hf, h3⟩
theorem RF_congr {T f : Nat} {C : Cst} {r r' : Nat → Int32} (hr : ∀ i, i < 107 → r' i = r i) (h : RF T f C r) : RF T f C r' := by
  obtain ⟨n, t, hl, m, g, h1, h2, h3⟩ := h
  exact ⟨n, t, hl, m, g, h1, h2, RC_congr hr h3⟩
theorem RHi_mono {f f' : Nat} {S : Xst} {M : Cst} (hf : f ≤ f') (h : RHi f S M) : RHi f' S M := by
  obtain ⟨o, p, h1, h2, h3, h4, h5, h6⟩ := h
  exact ⟨o, p, h1, h2, h3, h4, h5, fun j hj => RF_mono hf (h6 j hj)⟩
theorem RelS_mono {f f' : Nat} {S : Xst} {M : Cst} (hf : f ≤ f') (h : RelS f S M) : RelS f' S M := ⟨RF_mono hf h.1, h.2.1, RHi_mono hf h.2.2.1, h.2.2.2⟩
theorem RelS_same {f : Nat} {S X : Xst} {M M' : Cst} (h : RelS f S M) (hX : ∀ j, j ≠ 1 → X j = S j) (hM : SAME M M') : RelS f X M' := by
  obtain ⟨h1, h2, ⟨o, p, a1, a2, a3, a4, a5, a6⟩, ⟨L, b1, b2, b3, b4⟩⟩ := h
  refine ⟨?_, ?_, ⟨o, p, a1, a2, by rw [hX 2 (by decide)]; exact a3, by rw [hX 2 (by decide)]; exact a4, ?_, fun j hj => ?_⟩, ⟨L, b1, by rw [hX 7 (by decide)]; exact b2, ?_, ?_⟩⟩
  · rw [hX 0 (by decide)]; exact RF_congr hM.2 h1
  · rw [hM.1 4 (by decide) (by decide) (by decide)]; exact h2
  · rw [hM.1 3 (by decide) (by decide) (by decide)]; exact a5
  · rw [hX _ (by omega), hM.1 1 (by decide) (by decide) (by decide)]; exact a6 j hj
  · rw [hM.1 6 (by decide) (by decide) (by decide)]; exact b3
  · rw [hX 7 (by decide), hM.1 5 (by decide) (by decide) (by decide)]; exact b4
theorem upx_self (S : Xst) (j : Nat) (C : Cst) : upx S j C j = C := by unfold upx; rw [if_pos rfl]
theorem pu_mod4 {o : Nat} (ho : o ≤ 10) : nI o % 4 = nI (o % 4) := by rw [show (4 : Int32) = nI 4 from rfl, pu_mod (by omega) (by decide)]
/-- the class's record -/
theorem pu_record {P : Xst → Prop} {S : Xst} {o p : Nat} (ho : o ≤ 3) (hp : p ≤ 4) (h1 : S 2 1 0 = nI o) (h2 : S 2 2 0 = nI p) (k : ∀ (X : Xst) (o' : Nat), o' ≤ 3 → (∀ j, j < min p 3 → (o' + j) % 4 = (o + (j + (p - min p 3))) % 4) → X 2 1 0 = nI o' → X 2 2 0 = nI (min p 3 + 1) → X (3 + (o' + min p 3) % 4) = S 0 → (∀ j, j ≠ 2 → j ≠ 3 + (o' + min p 3) % 4 → X j = S j) → P X) : P (sX1_record S) := by
  unfold sX1_record
  refine p_ltv (Q9 := P) (fun K30 e30 => ?_)
  have tail : ∀ (Y : Xst) (o' : Nat), o' ≤ 3 → (∀ j, j < min p 3 → (o' + j) % 4 = (o + (j + (p - min p 3))) % 4) → Y 2 1 0 = nI o' → Y 2 2 0 = nI (min p 3) → (∀ j, j ≠ 2 → Y j = S j) → P (K30 Y) := by
    intro Y o' ho' hj y1 y2 y3
    subst e30
    have ev : (Y 2 1 0 + Y 2 2 0) % 4 = nI ((o' + min p 3) % 4) := by rw [y1, y2, nI_add, pu_mod4 (by omega)]
    have hm := Nat.mod_lt (o' + min p 3) (show 0 < 4 by decide)
    have put : ∀ z, (o' + min p 3) % 4 = z → P (ltv (upx Y (3 + z) (sX0_takeOver (Y (3 + z)) (Y 0))) (fun (S_53 : Xst) => ltv (upx S_53 2 (up (S_53 2) 2 0 (((S_53 2) 2 0) + 1))) (fun (S_63 : Xst) => S_63))) := by
      intro z hz
      refine p_ltv (fun S1 e1 => p_ltv (fun S2 e2 => ?_))
      have q2 : S1 2 = Y 2 := by rw [e1, pu_upxn _ _ (by omega)]
      refine k S2 o' ho' hj ?_ ?_ ?_ (fun j hj2 hj3 => ?_)
      · rw [e2, upx_self, pu_un _ _ _ (by decide), q2, y1]
      · rw [e2, upx_self, pu_up, if_pos rfl, if_pos rfl, q2, y2, nI_1]
      · rw [e2, hz, pu_upxn _ _ (by omega), e1, upx_self]
        show Y 0 = S 0
        exact y3 0 (by decide)
      · rw [e2, pu_upxn _ _ hj2, e1, pu_upxn _ _ (by omega), y3 j hj2]
    have hc : (o' + min p 3) % 4 = 0 ∨ (o' + min p 3) % 4 = 1 ∨ (o' + min p 3) % 4 = 2 ∨ (o' + min p 3) % 4 = 3 := by omega
    dsimp only
    rw [ev]
    rcases hc with hz | hz | hz | hz <;> rw [hz]
    · exact put 0 hz
    · exact put 1 hz
    · exact put 2 hz
    · exact put 3 hz
  by_cases h4 : p = 4
  · subst h4
    refine p_ite (fun c => absurd h2 c) (fun _ => p_ltv (fun S1 e1 => p_ltv (fun S2 e2 => ?_)))
    have q1 : S1 2 = up (S 2) 1 0 (nI ((o + 1) % 4)) := by rw [e1, upx_self, h1, nI_1, pu_mod4 (by omega)]
    refine tail S2 ((o + 1) % 4) (by omega) (fun j hj => by omega) ?_ ?_ (fun j hj => ?_)
    · rw [e2, upx_self, pu_un _ _ _ (by decide), q1, pu_up, if_pos rfl, if_pos rfl]
    · rw [e2, upx_self, pu_up, if_pos rfl, if_pos rfl, q1, pu_un _ _ _ (by decide), h2]; decide
    · rw [e2, pu_upxn _ _ hj, e1, pu_upxn _ _ hj]
  · refine p_ite (fun _ => tail S o ho (fun j hj => by omega) h1 (by rw [h2, show min p 3 = p by omega]) (fun _ _ => rfl)) (fun c => absurd (fun q => h4 ((nI_eq (b := 4) (by omega) (by decide)).mp (h2.symm.trans q))) c)
/-- what the reference's state shows after a call that is kept -/
def KEPT (M M2 : Cst) : Prop := ∀ p, M 3 0 = nI p → p ≤ 4 → M2 4 0 = 0 ∧ M2 5 = M 5 ∧ M2 6 = M 6 ∧ M2 3 0 = nI (min p 3 + 1) ∧ (∀ j i, j < min p 3 → i < 107 → M2 1 (107 * j + i) = M 1 (107 * (j + (p - min p 3)) + i)) ∧ (∀ i, i < 107 → M2 1 (107 * min p 3 + i) = M 0 i)
theorem pu_keptQ {f f' : Nat} {S S' : Xst} {M M2 : Cst} {a : Int32} (hR : RelS f S M) (hS : ∀ j, j ≠ 1 → j ≠ 8 → j ≠ 7 → S' j = S j) (h70 : S' 7 0 = S 7 0) (h71 : S' 7 1 = S 7 1) (hf : f ≤ f') (ha : ¬ a < 0) (hK : KEPT M M2) (hRF : RF 999 f' (S' 1) (M2 0)) : (sX4_keptIfDone S' a).1 = a ∧ RelS f' (sX4_keptIfDone S' a).2 M2 := by
  obtain ⟨h1, h2, ⟨o, p, a1, a2, a3, a4, a5, a6⟩, ⟨L, b1, b2, b3, b4⟩⟩ := hR
  obtain ⟨m4, m5, m6, m3, mj, mp⟩ := hK p a5 a2
  unfold sX4_keptIfDone
  refine p_ite (Q9 := fun v : Int32 × Xst => v.1 = a ∧ RelS f' v.2 M2) (fun c => absurd c ha) (fun _ => p_ltv (Q9 := fun v : Int32 × Xst => v.1 = a ∧ RelS f' v.2 M2) (fun X eX => ?_))
  have rcd := pu_record (S := S') (P := fun X => ∃ o', o' ≤ 3 ∧ (∀ j, j < min p 3 → (o' + j) % 4 = (o + (j + (p - min p 3))) % 4) ∧ X 2 1 0 = nI o' ∧ X 2 2 0 = nI (min p 3 + 1) ∧ X (3 + (o' + min p 3) % 4) = S' 0 ∧ (∀ j, j ≠ 2 → j ≠ 3 + (o' + min p 3) % 4 → X j = S' j)) a1 a2 (by rw [hS 2 (by decide) (by decide) (by decide)]; exact a3) (by rw [hS 2 (by decide) (by decide) (by decide)]; exact a4) (fun X o' z1 z2 z3 z4 z5 z6 => ⟨o', z1, z2, z3, z4, z5, z6⟩)
  rw [← eX] at rcd
  obtain ⟨o', z1, z2, z3, z4, z5, z6⟩ := rcd
  have e1 : X 1 = S' 1 := z6 1 (by decide) (by omega)
  have e7 : X 7 = S' 7 := z6 7 (by decide) (by omega)
  have hm := Nat.mod_lt (o' + min p 3) (show 0 < 4 by decide)
  dsimp only [ltv]
  generalize hY : upx X 0 (sX0_takeOver (X 0) (X 1)) = Y
  have y0 : Y 0 = S' 1 := by rw [← hY, upx_self]; exact e1
  have yj : ∀ j, j ≠ 0 → Y j = X j := fun j hj => by rw [← hY, pu_upxn _ _ hj]
  refine ⟨rfl, ?_, m4, ⟨o', min p 3 + 1, z1, by omega, by rw [yj 2 (by decide)]; exact z3, by rw [yj 2 (by decide)]; exact z4, m3, fun j hj => ?_⟩, ⟨L, b1, ?_, by rw [m6]; exact b3, ?_⟩⟩
  · show RF 999 f' (Y 0) (M2 0)
    rw [y0]; exact hRF
  · show RF 999 f' (Y (3 + (o' + j) % 4)) _
    rw [yj _ (by omega)]
    by_cases e : j = min p 3
    · subst e
      rw [z5, hS 0 (by decide) (by decide) (by decide)]
      exact RF_congr (fun i hi => mp i hi) (RF_mono hf h1)
    · have hj' : j < min p 3 := by omega
      have := z2 j hj'
      rw [z6 _ (by omega) (by omega), hS _ (by omega) (by omega) (by omega), this]
      exact RF_congr (fun i hi => mj j i hj' hi) (RF_mono hf (a6 (j + (p - min p 3)) (by omega)))
  · show Y 7 1 0 = _
    rw [yj 7 (by decide), e7, h71]; exact b2
  · intro q hq
    show Y 7 0 q = _ ∧ _
    rw [yj 7 (by decide), e7, h70, m5]; exact b4 q hq
theorem KEPT_of {M M2 : Cst} (h4 : M 4 0 = 0) (hk : ∀ k, k ≠ 0 → k ≠ 7 → M2 k = sX5_changes M k) : KEPT M M2 := by
  intro p h3 hp
  rw [hk 4 (by decide) (by decide), hk 5 (by decide) (by decide), hk 6 (by decide) (by decide), hk 3 (by decide) (by decide), hk 1 (by decide) (by decide)]
  exact pu_ch2 (P := fun Y => Y 4 0 = 0 ∧ Y 5 = M 5 ∧ Y 6 = M 6 ∧ Y 3 0 = nI (min p 3 + 1) ∧ (∀ j i, j < min p 3 → i < 107 → Y 1 (107 * j + i) = M 1 (107 * (j + (p - min p 3)) + i)) ∧ (∀ i, i < 107 → Y 1 (107 * min p 3 + i) = M 0 i)) h4 hp h3 (fun Y z0 z1 z2 z3 z4 => ⟨by rw [z1 4 (by decide) (by decide)]; exact h4, z1 5 (by decide) (by decide), z1 6 (by decide) (by decide), z2, z3, z4⟩)
theorem pu_hc {f : Nat} {S : Xst} {M : Cst} (hR : RelS f S M) : sX5_changes M 0 = M 0 := by
  obtain ⟨_, h4, ⟨o, p, _, hp, _, _, h3, _⟩, _⟩ := hR
  exact pu_ch2 (P := fun Y => Y 0 = M 0) h4 hp h3 (fun Y z0 _ _ _ _ => z0)
theorem pu_doneQ {f f' : Nat} {S : Xst} {M : Cst} {q : Int32 × Cst} {b : Int32 × Cst} (hR : RelS f S M) (hf : f ≤ f') (hC : CMD 999 f' M q b) : (sX4_keptIfDone (upx (upx S 1 (S 0)) 1 q.2) q.1).1 = b.1 ∧ RelS f' (sX4_keptIfDone (upx (upx S 1 (S 0)) 1 q.2) q.1).2 b.2 := by
  obtain ⟨e, h⟩ := hC
  have hX : ∀ j, j ≠ 1 → upx (upx S 1 (S 0)) 1 q.2 j = S j := fun j hj => by rw [pu_upxn _ _ hj, pu_upxn _ _ hj]
  have h11 : upx (upx S 1 (S 0)) 1 q.2 1 = q.2 := rfl
  generalize upx (upx S 1 (S 0)) 1 q.2 = X at hX h11
  rcases h with ⟨h1, h2⟩ | ⟨h1, h2, h3⟩
  · unfold sX4_keptIfDone
    refine p_ite (Q9 := fun v : Int32 × Xst => v.1 = b.1 ∧ RelS f' v.2 b.2) (fun _ => ⟨e, ?_⟩) (fun c => absurd h1 c)
    rw [h2]
    exact RelS_same (RelS_mono hf hR) hX ⟨fun _ _ _ _ => rfl, fun _ _ => rfl⟩
  · obtain ⟨z1, z2⟩ := pu_keptQ (S' := X) hR (fun j hj _ _ => hX j hj) (by rw [hX 7 (by decide)]) (by rw [hX 7 (by decide)]) hf h1 (KEPT_of hR.2.1 h3) (by rw [h11]; exact h2)
    exact ⟨z1.trans e, z2⟩
end
section
/-! the calls that change, undo, the text's length -/
theorem pu_Gmember {f : Nat} {S : Xst} {M : Cst} (x : Int32) (hR : RelS f S M) : (sX4_member S x).1 = (sX5_member M x).1 ∧ RelS (f + 60000) (sX4_member S x).2 (sX5_member M x).2 := by
  have hc := pu_hc hR
  obtain ⟨n, t, hl, m, g, h1, h2, h3⟩ := RF_mono (show f ≤ f + 60000 by omega) hR.1
  exact pu_doneQ hR (by omega) (pu_CMDmember x hc h1 h2 h3)
theorem pu_Guse {f : Nat} {S : Xst} {M : Cst} (x y : Int32) (hR : RelS f S M) : (sX4_use S x y).1 = (sX5_use M x y).1 ∧ RelS (f + 60000) (sX4_use S x y).2 (sX5_use M x y).2 := by
  have hc := pu_hc hR
  obtain ⟨n, t, hl, m, g, h1, h2, h3⟩ := RF_mono (show f ≤ f + 60000 by omega) hR.1
  exact pu_doneQ hR (by omega) (pu_CMDuse x y hc h1 h2 h3)
theorem pu_Gclose {f : Nat} {S : Xst} {M : Cst} (hR : RelS f S M) : (sX4_close S).1 = (sX5_close M).1 ∧ RelS (f + 60000) (sX4_close S).2 (sX5_close M).2 := by
  have hc := pu_hc hR
  obtain ⟨n, t, hl, m, g, h1, h2, h3⟩ := RF_mono (show f ≤ f + 60000 by omega) hR.1
  exact pu_doneQ hR (by omega) (pu_CMDclose hc h1 (by decide) h1 h2 h3)
theorem pu_Gpay {f : Nat} {S : Xst} {M : Cst} (x y : Int32) (hR : RelS f S M) : (sX4_pay S x y).1 = (sX5_pay M x y).1 ∧ RelS (f + 60000) (sX4_pay S x y).2 (sX5_pay M x y).2 := by
  have hc := pu_hc hR
  obtain ⟨n, t, hl, m, g, h1, h2, h3⟩ := hR.1
  obtain ⟨z1, z2⟩ := pu_doneQ hR (by omega) (pu_CMDpay x y hc h1 h2 h3)
  exact ⟨z1, RelS_mono (by omega) z2⟩
theorem pu_Grepair {f : Nat} {S : Xst} {M : Cst} (x : Int32) (hf : f + 60000 < 2 ^ 30) (hR : RelS f S M) : (sX4_repair S x).1 = (sX5_repair M x).1 ∧ RelS (f + 60000) (sX4_repair S x).2 (sX5_repair M x).2 := by
  have hc := pu_hc hR
  obtain ⟨n, t, hl, m, g, h1, h2, h3⟩ := RF_mono (show f ≤ f + 60000 by omega) hR.1
  exact pu_doneQ hR (by omega) (pu_CMDrepair x hc h1 h2 hf h3)
theorem pu_Gset {f : Nat} {S : Xst} {M : Cst} (x y : Int32) (hR : RelS f S M) : (sX4_set S x y).1 = (sX5_set M x y).1 ∧ RelS (f + 60000) (sX4_set S x y).2 (sX5_set M x y).2 := by
  have hc := pu_hc hR
  obtain ⟨n, t, hl, m, g, h1, h2, h3⟩ := RF_mono (show f ≤ f + 60000 by omega) hR.1
  exact pu_doneQ hR (by omega) (pu_CMDset x y hc h1 h2 h3)
theorem pu_undoR {P : Int32 × Cst → Prop} {M : Cst} {p : Nat} (hp : p ≤ 4) (h3 : M 3 0 = nI p) (k0 : p = 0 → P ((-10002), M)) (k1 : 0 < p → ∀ M' : Cst, (∀ j, j ≠ 0 → j ≠ 3 → M' j = M j) → M' 3 0 = nI (p - 1) → (∀ i, i < 107 → M' 0 i = M 1 (107 * (p - 1) + i)) → P (nI (p - 1), M')) : P (sX5_undo M) := by
  unfold sX5_undo
  refine p_lz2 (Q9 := P) (fun B Z hB hZ => p_ite (fun c => p_ltv (fun S eS => ?_)) (fun c => ?_))
  · have hp0 : 0 < p := by
      rcases Nat.eq_zero_or_pos p with h | h
      · exact absurd (by rw [h3, h]; rfl) c
      · exact h
    have s3 : S 3 0 = nI (p - 1) := by rw [eS, pu_up, if_pos rfl, if_pos rfl, h3, show p = (p - 1) + 1 by omega, nI_pred]; rfl
    have sj : ∀ j, j ≠ 3 → S j = M j := fun j hj => by rw [eS, pu_un _ _ _ hj]
    refine pl2 hZ (fun q C i => i = q ∧ (∀ j, j ≠ 0 → C j = S j) ∧ ∀ i, i < q → C 0 i = M 1 (107 * (p - 1) + i)) 107 ?_ ?_ 108 0 _ _ (by decide) (by decide) ⟨rfl, fun _ _ => rfl, fun i hi => absurd hi (Nat.not_lt_zero i)⟩
    · rintro R q C i hq ⟨rfl, g1, g2⟩ hR
      rw [hB]
      refine p_ite (fun c => absurd c (nI_ge (b := 107) hq (by decide))) (fun _ => p_ltv (fun T eT => ?_))
      have e : (107 * C 3 0 + nI i).toNatClampNeg = 107 * (p - 1) + i := by
        rw [g1 3 (by decide), s3, show (107 : Int32) = nI 107 from rfl, nI_mul, nI_add, nI_clamp (by omega)]
      rw [e, g1 1 (by decide), sj 1 (by decide)] at eT
      refine hR _ _ ⟨rfl, fun j hj => by rw [eT, pu_un _ _ _ hj, g1 j hj], fun i' hi' => ?_⟩
      rw [eT, pu_up, if_pos rfl]
      by_cases e2 : i' = i
      · rw [if_pos e2, e2]
      · rw [if_neg e2]; exact g2 i' (by omega)
    · rintro R C i ⟨rfl, g1, g2⟩
      rw [hB]
      refine p_ite (fun _ => ?_) (fun c => absurd (show (107 : Int32) ≤ nI 107 from by decide) c)
      rw [g1 3 (by decide), s3]
      exact k1 hp0 C (fun j h0 h3' => by rw [g1 j h0, sj j h3']) (by rw [g1 3 (by decide), s3]) g2
  · refine k0 ?_
    rcases Nat.eq_zero_or_pos p with h | h
    · exact h
    · exact absurd (show ¬ M 3 0 = 0 by rw [h3]; exact nI_ne0 h (by omega)) c
theorem pu_undoC {P : Int32 × Xst → Prop} {S : Xst} {o p : Nat} (ho : o ≤ 3) (hp : p ≤ 4) (h1 : S 2 1 0 = nI o) (h2 : S 2 2 0 = nI p) (k0 : p = 0 → P ((-10002), S)) (k1 : 0 < p → ∀ X : Xst, (∀ j, j ≠ 0 → j ≠ 2 → X j = S j) → X 2 1 0 = nI o → X 2 2 0 = nI (p - 1) → X 0 = S (3 + (o + (p - 1)) % 4) → P (nI (p - 1), X)) : P (sX4_undo S) := by
  unfold sX4_undo
  refine p_ite (Q9 := P) (fun c => p_ltv (fun X eX => ?_)) (fun c => ?_)
  · have hp0 : 0 < p := by
      rcases Nat.eq_zero_or_pos p with h | h
      · exact absurd (by rw [h2, h]; rfl) c
      · exact h
    have key : (∀ j, j ≠ 0 → j ≠ 2 → X j = S j) ∧ X 2 1 0 = nI o ∧ X 2 2 0 = nI (p - 1) ∧ X 0 = S (3 + (o + (p - 1)) % 4) := by
      rw [eX]
      unfold sX1_restoreLatest
      have fin : ∀ Q9 : Xst → Prop, (∀ Y : Xst, (∀ j, j ≠ 0 → j ≠ 2 → Y j = S j) → Y 2 1 0 = nI o → Y 2 2 0 = nI (p - 1) → Y 0 = S (3 + (o + (p - 1)) % 4) → Q9 Y) → Q9 (sX1_restoreLatest S) := by
        intro Q9 kk
        unfold sX1_restoreLatest
        refine p_ite (fun _ => p_ltv (fun S1 e1 => ?_)) (fun c => absurd (show (1 : Int32) ≤ S 2 2 0 by rw [h2]; exact nI_le (a := 1) hp0 (by omega)) c)
        have q2 : S1 2 1 0 = nI o := by rw [e1, upx_self, pu_un _ _ _ (by decide), h1]
        have q3 : S1 2 2 0 = nI (p - 1) := by rw [e1, upx_self, pu_up, if_pos rfl, if_pos rfl, h2, show p = (p - 1) + 1 by omega, nI_pred]; rfl
        have qj : ∀ j, j ≠ 2 → S1 j = S j := fun j hj => by rw [e1, pu_upxn _ _ hj]
        have ev : (S1 2 1 0 + S1 2 2 0) % 4 = nI ((o + (p - 1)) % 4) := by rw [q2, q3, nI_add, pu_mod4 (by omega)]
        have hm := Nat.mod_lt (o + (p - 1)) (show 0 < 4 by decide)
        have put : ∀ z, (o + (p - 1)) % 4 = z → Q9 (ltv (upx S1 0 (sX0_takeOver (S1 0) (S1 (3 + z)))) (fun (S_42 : Xst) => S_42)) := by
          intro z hz
          refine p_ltv (fun T eT => kk T (fun j z0 z2 => ?_) ?_ ?_ ?_)
          · rw [eT, pu_upxn _ _ z0, qj j z2]
          · rw [eT, pu_upxn _ _ (by decide), q2]
          · rw [eT, pu_upxn _ _ (by decide), q3]
          · rw [eT, upx_self, hz]
            show S1 (3 + z) = _
            exact qj _ (by omega)
        have hc : (o + (p - 1)) % 4 = 0 ∨ (o + (p - 1)) % 4 = 1 ∨ (o + (p - 1)) % 4 = 2 ∨ (o + (p - 1)) % 4 = 3 := by omega
        rw [ev]
        rcases hc with hz | hz | hz | hz <;> rw [hz]
        · exact put 0 hz
        · exact put 1 hz
        · exact put 2 hz
        · exact put 3 hz
      exact fin (fun X => (∀ j, j ≠ 0 → j ≠ 2 → X j = S j) ∧ X 2 1 0 = nI o ∧ X 2 2 0 = nI (p - 1) ∧ X 0 = S (3 + (o + (p - 1)) % 4)) (fun Y a b c d => ⟨a, b, c, d⟩)
    obtain ⟨x1, x2, x3, x4⟩ := key
    rw [x3]
    exact k1 hp0 X x1 x2 x3 x4
  · refine k0 ?_
    rcases Nat.eq_zero_or_pos p with h | h
    · exact h
    · exact absurd (show ¬ S 2 2 0 = 0 by rw [h2]; exact nI_ne0 h (by omega)) c
def ALK (f : Nat) (a : Int32 × Xst) (b : Int32 × Cst) : Prop := a.1 = b.1 ∧ RelS f a.2 b.2
theorem pu_Gundo {f : Nat} {S : Xst} {M : Cst} (hR : RelS f S M) : ALK f (sX4_undo S) (sX5_undo M) := by
  have hR' := hR
  obtain ⟨h1, h2, ⟨o, p, a1, a2, a3, a4, a5, a6⟩, ⟨L, b1, b2, b3, b4⟩⟩ := hR
  refine pu_undoC (P := fun a => ALK f a (sX5_undo M)) a1 a2 a3 a4 (fun h0 => ?_) (fun h0 X x1 x2 x3 x4 => ?_)
  · exact pu_undoR (P := ALK f ((-10002), S)) a2 a5 (fun _ => ⟨rfl, hR'⟩) (fun h => by omega)
  · refine pu_undoR (P := ALK f (nI (p - 1), X)) a2 a5 (fun h => by omega) (fun _ M' m1 m3 m0 => ⟨rfl, ?_, ?_, ⟨o, p - 1, a1, by omega, x2, x3, m3, fun j hj => ?_⟩, ⟨L, b1, ?_, ?_, ?_⟩⟩)
    · show RF 999 f (X 0) (M' 0)
      rw [x4]; exact RF_congr m0 (a6 (p - 1) (by omega))
    · show M' 4 0 = 0
      rw [m1 4 (by decide) (by decide)]; exact h2
    · show RF 999 f (X _) (fun i => M' 1 _)
      rw [x1 _ (by omega) (by omega), m1 1 (by decide) (by decide)]; exact a6 j (by omega)
    · show X 7 1 0 = _
      rw [x1 7 (by decide) (by decide)]; exact b2
    · show M' 6 0 = _
      rw [m1 6 (by decide) (by decide)]; exact b3
    · show ∀ k, k < L → X 7 0 k = M' 5 k ∧ ∃ a, 32 ≤ a ∧ a ≤ 126 ∧ M' 5 k = nI a
      rw [x1 7 (by decide) (by decide), m1 5 (by decide) (by decide)]; exact b4
theorem pu_nar : ∀ a, a < 127 → vp_nar .char (((nI a).toUInt32 % 65536).toInt32) = nI a := by decide +kernel
theorem pu_Gtype {f : Nat} {S : Xst} {M : Cst} (x : Int32) (hR : RelS f S M) : ALK f (sX4_type S x) (sX5_type M x) := by
  have hR' := hR
  obtain ⟨h1, h2, ⟨o, p, a1, a2, a3, a4, a5, a6⟩, ⟨L, b1, b2, b3, b4⟩⟩ := hR
  have e : sX4_type S x = sX3_append S x := rfl
  rw [e]
  unfold sX5_type
  refine p_ltv (Q9 := ALK f (sX3_append S x)) (fun r er => ?_)
  rw [pu_in] at er
  by_cases c1 : x < 32 ∨ 126 < x
  · rw [if_pos c1] at er
    refine p_ite (fun c => absurd er c) (fun _ => ?_)
    unfold sX3_append
    refine p_ite (Q9 := fun a => ALK f a ((-10001), M)) (fun _ => ⟨rfl, hR'⟩) (fun c => p_ite (Q9 := fun a => ALK f a ((-10001), M)) (fun c2 => ?_) (fun _ => ⟨rfl, hR'⟩))
    exact absurd c2 (Int32.not_le.mpr (c1.resolve_left c))
  · rw [if_neg c1] at er
    obtain ⟨a, ha, rfl⟩ := nI_of2 (M := 126) (n := 126) rfl (x := x) (fun q => c1 (Or.inl (Int32.lt_of_lt_of_le q (by decide)))) (Int32.not_lt.mp (fun q => c1 (Or.inr q)))
    have ha32 : 32 ≤ a := Nat.not_lt.mp (fun q => c1 (Or.inl (nI_lt (b := 32) q (by decide))))
    refine p_ite (fun _ => ?_) (fun c => absurd (show ¬ r = 0 by rw [er]; decide) c)
    unfold sX3_append
    by_cases hL : L = 60
    · refine p_ite (fun c => absurd (by rw [b3, hL]; rfl) c) (fun _ => ?_)
      refine p_ite (Q9 := fun a => ALK f a ((-10003), M)) (fun c => absurd (Or.inl c) c1) (fun _ => p_ite (Q9 := fun a => ALK f a ((-10003), M)) (fun _ => p_ite (Q9 := fun a => ALK f a ((-10003), M)) (fun c => ?_) (fun _ => ⟨rfl, hR'⟩)) (fun c => absurd (Int32.not_lt.mp (fun q => c1 (Or.inr q))) c))
      rw [b2, hL] at c; exact absurd c (by decide)
    · refine p_ite (fun _ => p_ltv (fun M1 e1 => p_ltv (fun M2 e2 => ?_))) (fun c => absurd (fun q => hL ((nI_eq (b := 60) (by omega) (by decide)).mp (b3.symm.trans q))) c)
      rw [b3, nI_clamp (by omega)] at e1
      have m26 : M2 6 0 = nI (L + 1) := by rw [e2, pu_up, if_pos rfl, if_pos rfl, e1, pu_un _ _ _ (by decide), b3, nI_1]
      have m25 : ∀ k, M2 5 k = if k = L then nI a else M 5 k := fun k => by rw [e2, pu_un _ _ _ (by decide), e1, pu_up, if_pos rfl]
      have m2k : ∀ j, j ≠ 5 → j ≠ 6 → M2 j = M j := fun j z5 z6 => by rw [e2, pu_un _ _ _ z6, e1, pu_un _ _ _ z5]
      refine p_ite (Q9 := fun a => ALK f a (M2 6 0, M2)) (fun c => absurd (Or.inl c) c1) (fun _ => p_ite (Q9 := fun a => ALK f a (M2 6 0, M2)) (fun _ => p_ite (Q9 := fun a => ALK f a (M2 6 0, M2)) (fun c => ?_) (fun c => absurd (show S 7 1 0 < 60 by rw [b2]; exact nI_lt (b := 60) (by omega) (by decide)) c)) (fun c => absurd (Int32.not_lt.mp (fun q => c1 (Or.inr q))) c))
      refine p_ltv (Q9 := fun a => ALK f a (M2 6 0, M2)) (fun S1 f1 => p_ltv (Q9 := fun a => ALK f a (M2 6 0, M2)) (fun S2 f2 => ?_))
      rw [b2, nI_clamp (by omega), pu_nar a (by omega)] at f1
      have s17 : S1 7 = up (S 7) 0 L (nI a) := by rw [f1, upx_self]
      have s27 : S2 7 = up (up (S 7) 0 L (nI a)) 1 0 (nI (L + 1)) := by rw [f2, upx_self, s17, pu_un _ _ _ (by decide), b2, nI_1]
      have s2j : ∀ j, j ≠ 7 → S2 j = S j := fun j hj => by rw [f2, pu_upxn _ _ hj, f1, pu_upxn _ _ hj]
      have s71 : S2 7 1 0 = nI (L + 1) := by rw [s27, pu_up, if_pos rfl, if_pos rfl]
      refine ⟨by show S2 7 1 0 = M2 6 0; rw [s71, m26], ?_, ?_, ⟨o, p, a1, a2, ?_, ?_, ?_, fun j hj => ?_⟩, ⟨L + 1, by omega, s71, m26, fun k hk => ?_⟩⟩
      · show RF 999 f (S2 0) (M2 0)
        rw [s2j 0 (by decide), m2k 0 (by decide) (by decide)]; exact h1
      · show M2 4 0 = 0
        rw [m2k 4 (by decide) (by decide)]; exact h2
      · show S2 2 1 0 = _
        rw [s2j 2 (by decide)]; exact a3
      · show S2 2 2 0 = _
        rw [s2j 2 (by decide)]; exact a4
      · show M2 3 0 = _
        rw [m2k 3 (by decide) (by decide)]; exact a5
      · show RF 999 f (S2 _) (fun i => M2 1 _)
        rw [s2j _ (by omega), m2k 1 (by decide) (by decide)]; exact a6 j hj
      · show S2 7 0 k = M2 5 k ∧ ∃ a, 32 ≤ a ∧ a ≤ 126 ∧ M2 5 k = nI a
        rw [s27, pu_un _ _ _ (by decide), pu_up, if_pos rfl, m25]
        by_cases e : k = L
        · rw [if_pos e, if_pos e]; exact ⟨rfl, a, ha32, ha, rfl⟩
        · rw [if_neg e, if_neg e]; exact b4 k (by omega)
theorem pu_Gclear {f : Nat} {S : Xst} {M : Cst} (hR : RelS f S M) : ALK f (sX4_clearText S) (sX5_clearText M) := by
  obtain ⟨h1, h2, ⟨o, p, a1, a2, a3, a4, a5, a6⟩, ⟨L, b1, b2, b3, b4⟩⟩ := hR
  have e1 : sX4_clearText S = (S 7 1 0, upx S 7 (up (S 7) 1 0 0)) := rfl
  have e2 : sX5_clearText M = (M 6 0, up M 6 0 0) := rfl
  rw [e1, e2]
  have s7 : upx S 7 (up (S 7) 1 0 0) 7 = up (S 7) 1 0 0 := upx_self _ _ _
  have sj : ∀ j, j ≠ 7 → upx S 7 (up (S 7) 1 0 0) j = S j := fun j hj => pu_upxn _ _ hj
  generalize upx S 7 (up (S 7) 1 0 0) = X at s7 sj
  have mk : ∀ j, j ≠ 6 → up M 6 0 0 j = M j := fun j hj => pu_un _ _ _ hj
  have m6 : up M 6 0 0 6 0 = 0 := by rw [pu_up, if_pos rfl, if_pos rfl]
  generalize up M 6 0 0 = Y at mk m6
  refine ⟨b2.trans b3.symm, ?_, ?_, ⟨o, p, a1, a2, ?_, ?_, ?_, fun j hj => ?_⟩, ⟨0, by omega, ?_, ?_, fun k hk => absurd hk (Nat.not_lt_zero k)⟩⟩
  · show RF 999 f (X 0) (Y 0)
    rw [sj 0 (by decide), mk 0 (by decide)]; exact h1
  · show Y 4 0 = 0
    rw [mk 4 (by decide)]; exact h2
  · show X 2 1 0 = _
    rw [sj 2 (by decide)]; exact a3
  · show X 2 2 0 = _
    rw [sj 2 (by decide)]; exact a4
  · show Y 3 0 = _
    rw [mk 3 (by decide)]; exact a5
  · show RF 999 f (X _) (fun i => Y 1 _)
    rw [sj _ (by omega), mk 1 (by decide)]; exact a6 j hj
  · show X 7 1 0 = nI 0
    rw [s7, pu_up, if_pos rfl, if_pos rfl]; rfl
  · exact m6
end
section
/-! reading commands -/
abbrev pu_D (T : Nat → Nat) (L s : Nat) : Prop := s < L ∧ 48 ≤ T s ∧ T s ≤ 57
def pu_dn (T : Nat → Nat) (L s : Nat) : Nat := if pu_D T L (s + 0) then (if pu_D T L (s + 1) then (if pu_D T L (s + 2) then 3 else 2) else 1) else 0
def pu_nv (T : Nat → Nat) (s : Nat) : Nat → Nat
  | 0 => 0
  | d + 1 => 10 * pu_nv T s d + (T (s + d) - 48)
theorem pu_dn_of {T : Nat → Nat} {L s d : Nat} (hd : d ≤ 3) (h1 : ∀ j, j < d → pu_D T L (s + j)) (h2 : d < 3 → ¬ pu_D T L (s + d)) : pu_dn T L s = d := by
  unfold pu_dn
  have hc : d = 0 ∨ d = 1 ∨ d = 2 ∨ d = 3 := by omega
  rcases hc with rfl | rfl | rfl | rfl
  · rw [if_neg (h2 (by decide))]
  · rw [if_pos (h1 0 (by decide)), if_neg (h2 (by decide))]
  · rw [if_pos (h1 0 (by decide)), if_pos (h1 1 (by decide)), if_neg (h2 (by decide))]
  · rw [if_pos (h1 0 (by decide)), if_pos (h1 1 (by decide)), if_pos (h1 2 (by decide))]
theorem pu_dn_le (T : Nat → Nat) (L s : Nat) : pu_dn T L s ≤ 3 := by
  unfold pu_dn; repeat' split
  all_goals omega
theorem pu_nv_lt {T : Nat → Nat} {L s : Nat} : ∀ d, (∀ j, j < d → pu_D T L (s + j)) → pu_nv T s d < 10 ^ d
  | 0, _ => (by decide : 0 < 10 ^ 0)
  | d + 1, h => by
    have h1 := pu_nv_lt d (fun j hj => h j (by omega))
    have h2 := h d (by omega)
    simp only [pu_nv]
    rw [Nat.pow_succ]; omega
def TXC (T : Nat → Nat) (L s : Nat) (X : Xst) : Prop := X 7 1 0 = nI L ∧ X 7 2 0 = nI s ∧ ∀ k, k < L → X 7 0 k = nI (T k)
def TXR (T : Nat → Nat) (L s : Nat) (M : Cst) : Prop := M 6 0 = nI L ∧ M 8 0 = nI s ∧ ∀ k, k < L → M 5 k = nI (T k)
theorem pu_sign {T : Nat → Nat} {L s : Nat} {X : Xst} (hL : L ≤ 60) (hs : s < 1000) (h : TXC T L s X) : sX3_signAhead X = if s < L then nI (T s) else -1 := by
  obtain ⟨h1, h2, h3⟩ := h
  dsimp only [sX3_signAhead]
  rw [h1, h2, if_neg (nI_pos (by omega))]
  by_cases c : s < L
  · rw [if_neg (nI_ge c (by omega)), if_neg (show ¬ (60 : Int32) ≤ nI s from nI_ge (b := 60) (by omega) (by decide)), if_pos c, nI_clamp (by omega)]; exact h3 s c
  · rw [if_pos (nI_le (by omega) (by omega)), if_neg c]
theorem pu_pass {P : Int32 × Xst → Prop} {T : Nat → Nat} {L s c : Nat} {X : Xst} (hL : L ≤ 60) (hs : s < 1000) (hT : ∀ k, k < L → T k ≤ 126) (hc : c ≤ 126) (h : TXC T L s X) (k0 : ¬ (s < L ∧ T s = c) → P (0, X)) (k1 : (s < L ∧ T s = c) → ∀ X' : Xst, (∀ j, j ≠ 7 → X' j = X j) → (∀ j, j ≠ 2 → X' 7 j = X 7 j) → X' 7 2 0 = nI (s + 1) → P (1, X')) : P (sX3_passes X (nI c)) := by
  unfold sX3_passes
  refine p_ltv (Q9 := P) (fun r er => ?_)
  rw [pu_sign hL hs h] at er
  have iff : r = nI c ↔ (s < L ∧ T s = c) := by
    rw [er]
    by_cases q : s < L
    · rw [if_pos q, nI_eq (by have := hT s q; omega) (by omega)]
      exact ⟨fun z => ⟨q, z⟩, fun z => z.2⟩
    · rw [if_neg q]
      exact ⟨fun z => absurd (show (-1 : Int32) < 0 from by decide) (by rw [z]; exact nI_pos (by omega)), fun z => absurd z.1 q⟩
  refine p_ite (fun q => p_ltv (fun Y eY => k1 (iff.mp q) Y (fun j hj => by rw [eY, pu_upxn _ _ hj]) (fun j hj => by rw [eY, upx_self, pu_un _ _ _ hj]) (by rw [eY, upx_self, pu_up, if_pos rfl, if_pos rfl, h.2.1, nI_1]))) (fun q => k0 (fun z => q (iff.mpr z)))
theorem pu_rdN {P : Int32 × Xst → Prop} {T : Nat → Nat} {L s : Nat} {X : Xst} (hL : L ≤ 60) (hs : s < 900) (hT : ∀ k, k < L → 32 ≤ T k ∧ T k ≤ 126) (h : TXC T L s X) (kk : ∀ X' : Xst, (∀ j, j ≠ 7 → X' j = X j) → (∀ j, j ≠ 2 → X' 7 j = X 7 j) → X' 7 2 0 = nI (s + pu_dn T L s) → P ((if pu_dn T L s = 0 then -1 else nI (pu_nv T s (pu_dn T L s))), X')) : P (sX3_readNumber X) := by
  unfold sX3_readNumber
  refine p_lz3 (Q9 := P) (fun B Z hB hZ => ?_)
  refine pl3 hZ (fun k Y x1 i2 => i2 = k ∧ (∀ j, j < k → pu_D T L (s + j)) ∧ x1 = (if k = 0 then -1 else nI (pu_nv T s k)) ∧ (∀ j, j ≠ 7 → Y j = X j) ∧ (∀ j, j ≠ 2 → Y 7 j = X 7 j) ∧ Y 7 2 0 = nI (s + k)) 3 ?_ ?_ 4 0 _ _ _ (by decide) (by decide) ⟨rfl, fun j hj => absurd hj (Nat.not_lt_zero j), rfl, fun _ _ => rfl, fun _ _ => rfl, h.2.1⟩
  · rintro R k Y x1 i2 hk ⟨rfl, g1, rfl, g2, g3, g4⟩ hR
    rw [hB]
    have hY : TXC T L (s + i2) Y := ⟨by rw [g3 1 (by decide)]; exact h.1, g4, by rw [g3 0 (by decide)]; exact h.2.2⟩
    have out : ¬ pu_D T L (s + i2) → P ((if i2 = 0 then -1 else nI (pu_nv T s i2)), Y) := by
      intro hn
      have e := pu_dn_of (by omega) g1 (fun _ => hn)
      have := kk Y g2 g3 (by rw [e]; exact g4)
      rw [e] at this; exact this
    refine p_ite (fun c => absurd c (nI_ge (b := 3) hk (by decide))) (fun _ => p_ltv (fun r er => ?_))
    rw [pu_sign hL (by omega) hY] at er
    by_cases q : s + i2 < L
    · rw [if_pos q] at er
      obtain ⟨t1, t2⟩ := hT _ q
      rw [er]
      refine p_ite (fun c => out (fun d => absurd c (nI_nlt (b := 48) d.2.1 (by omega)))) (fun c => p_ite (fun c2 => p_ltv (fun v ev => p_ltv (fun W eW => ?_))) (fun c2 => out (fun d => c2 (nI_le (b := 57) d.2.2 (by decide)))))
      have d1 : 48 ≤ T (s + i2) := Nat.not_lt.mp (fun z => c (nI_lt (b := 48) z (by decide)))
      have d2 : T (s + i2) ≤ 57 := (nI_leI (b := 57) (by omega) (by decide)).mp c2
      have hlt := pu_nv_lt i2 g1
      have hp : 10 ^ i2 ≤ 100 := by
        have : i2 = 0 ∨ i2 = 1 ∨ i2 = 2 := by omega
        rcases this with rfl | rfl | rfl <;> decide
      have ex : (if (if i2 = 0 then (-1 : Int32) else nI (pu_nv T s i2)) < 0 then (0 : Int32) else (if i2 = 0 then (-1 : Int32) else nI (pu_nv T s i2))) = nI (pu_nv T s i2) := by
        by_cases z : i2 = 0
        · subst z; rfl
        · rw [if_neg z, if_neg (nI_pos (by omega))]
      have ev' : v = nI (pu_nv T s (i2 + 1)) := by
        rw [ev, ex, show (10 : Int32) = nI 10 from rfl, nI_mul, show (48 : Int32) = nI 48 from rfl, nI_sub d1, nI_add]
        simp only [pu_nv]; rw [Nat.mul_comm]
      refine hR _ _ _ ⟨rfl, fun j hj => ?_, by rw [if_neg (by omega)]; exact ev', fun j hj => by rw [eW, pu_upxn _ _ hj, g2 j hj], fun j hj => by rw [eW, upx_self, pu_un _ _ _ hj, g3 j hj], by rw [eW, upx_self, pu_up, if_pos rfl, if_pos rfl, g4, nI_1]; rfl⟩
      by_cases z : j = i2
      · rw [z]; exact ⟨q, d1, d2⟩
      · exact g1 j (by omega)
    · rw [if_neg q] at er
      rw [er]
      exact p_ite (fun _ => out (fun d => q d.1)) (fun c => absurd (show (-1 : Int32) < 48 from by decide) c)
  · rintro R Y x1 i2 ⟨rfl, g1, rfl, g2, g3, g4⟩
    rw [hB]
    refine p_ite (fun _ => ?_) (fun c => absurd (show (3 : Int32) ≤ nI 3 from by decide) c)
    have e := pu_dn_of (T := T) (L := L) (s := s) (d := 3) (by decide) g1 (fun c => absurd c (by decide))
    have := kk Y g2 g3 (by rw [e]; exact g4)
    rw [e] at this; exact this
theorem pu_isAt {T : Nat → Nat} {L s lo hi : Nat} {M : Cst} (hL : L ≤ 60) (hs : s < 1000) (hT : ∀ k, k < L → T k ≤ 126) (hlo : lo ≤ 126) (hhi : hi ≤ 126) (h : TXR T L s M) : sX5_isAt M (nI lo) (nI hi) = if s < L ∧ lo ≤ T s ∧ T s ≤ hi then 1 else 0 := by
  obtain ⟨h1, h2, h3⟩ := h
  dsimp only [sX5_isAt, ltv]
  rw [h1, h2]
  by_cases c : s < L
  · have := hT s c
    rw [if_neg (nI_ge c (by omega)), nI_clamp (by omega), h3 s c, pu_in]
    by_cases c2 : lo ≤ T s ∧ T s ≤ hi
    · rw [if_neg (show ¬ (nI (T s) < nI lo ∨ nI hi < nI (T s)) from fun q => q.elim (nI_nlt c2.1 (by omega)) (nI_nlt c2.2 (by omega))), if_neg pu_10, if_pos ⟨c, c2⟩]
    · have : nI (T s) < nI lo ∨ nI hi < nI (T s) := by
        by_cases c3 : lo ≤ T s
        · exact Or.inr (nI_lt (by omega) (by omega))
        · exact Or.inl (nI_lt (by omega) (by omega))
      rw [if_pos this, if_pos rfl, if_neg (fun q => c2 q.2)]
  · rw [if_pos (nI_le (by omega) (by omega)), if_neg (fun q => c q.1)]
theorem pu_numR {P : Int32 × Cst → Prop} {T : Nat → Nat} {L s b i : Nat} {M : Cst} (hL : L ≤ 60) (hs : s < 900) (hT : ∀ k, k < L → 32 ≤ T k ∧ T k ≤ 126) (hb : b ≤ 126) (h : TXR T L s M) (kk : ∀ M' : Cst, (∀ j, j ≠ 8 → j ≠ 11 → M' j = M j) → (∀ j, j ≠ i → M' 11 j = M 11 j) → M' 11 i = nI (pu_nv T s (pu_dn T L s)) → M' 8 0 = nI (s + pu_dn T L s + 1) → P ((if 0 < pu_dn T L s ∧ s + pu_dn T L s < L ∧ T (s + pu_dn T L s) = b then 1 else 0), M')) : P (sX5_number M i (nI b)) := by
  have hT2 : ∀ k, k < L → T k ≤ 126 := fun k hk => (hT k hk).2
  unfold sX5_number
  refine p_ltv (Q9 := P) (fun K96 e96 => p_ltv (fun K95 e95 => p_ltv (fun K74 e74 => p_lz4 (fun B Z hB hZ => p_ltv (fun v3 ev3 => p_ltv (fun S eS => ?_))))))
  rw [h.2.1] at ev3
  subst ev3
  have k74 : ∀ Y, (∀ j, j ≠ 8 → j ≠ 11 → Y j = M j) → (∀ j, j ≠ i → Y 11 j = M 11 j) → ∀ d, d ≤ 3 → (∀ j, j < d → pu_D T L (s + j)) → (d < 3 → ¬ pu_D T L (s + d)) → Y 11 i = nI (pu_nv T s d) → Y 8 0 = nI (s + d) → P (K74 Y (nI b) (nI s)) := by
    intro Y y1 y2 d hd d1 d2 y3 y4
    have e := pu_dn_of hd d1 d2
    have k96 : ∀ v, v = (if 0 < d ∧ s + d < L ∧ T (s + d) = b then (1 : Int32) else 0) → P (K96 Y v) := by
      intro v hv
      subst e96
      refine p_ltv (fun W eW => ?_)
      have := kk W (fun j h8 h11 => by rw [eW, pu_un _ _ _ h8, y1 j h8 h11]) (fun j hj => by rw [eW, pu_un _ _ _ (by decide), y2 j hj]) (by rw [eW, pu_un _ _ _ (by decide), y3, e]) (by rw [eW, pu_up, if_pos rfl, if_pos rfl, y4, nI_1, e])
      rw [e] at this; rw [hv]; exact this
    have k95 : ¬ (0 < d ∧ s + d < L ∧ T (s + d) = b) → P (K95 Y) := by
      intro hn
      subst e95
      exact k96 0 (by rw [if_neg hn])
    subst e74
    have hY : TXR T L (s + d) Y := ⟨by rw [y1 6 (by decide) (by decide)]; exact h.1, y4, by rw [y1 5 (by decide) (by decide)]; exact h.2.2⟩
    refine p_ite (fun c => k95 (fun q => ?_)) (fun c => p_ltv (fun r er => ?_))
    · rw [y4] at c; exact absurd c (nI_ge (by omega) (by omega))
    have d0 : 0 < d := by
      rcases Nat.eq_zero_or_pos d with z | z
      · exact absurd (by rw [y4, z]; exact nI_le (Nat.le_refl _) (by omega)) c
      · exact z
    rw [pu_isAt hL (by omega) hT2 hb hb hY] at er
    refine p_ite (fun c2 => k95 (fun q => ?_)) (fun c2 => k96 1 ?_)
    · rw [er, if_pos ⟨q.2.1, Nat.le_of_eq q.2.2.symm, Nat.le_of_eq q.2.2⟩] at c2; exact pu_10 c2
    · have : s + d < L ∧ b ≤ T (s + d) ∧ T (s + d) ≤ b := Decidable.byContradiction (fun q => c2 (by rw [er, if_neg q]))
      rw [if_pos ⟨d0, this.1, by omega⟩]
  refine pl4 hZ (fun q Y i1 x2 x3 => i1 = i ∧ x2 = nI b ∧ x3 = nI s ∧ (∀ j, j < q → pu_D T L (s + j)) ∧ (∀ j, j ≠ 8 → j ≠ 11 → Y j = M j) ∧ (∀ j, j ≠ i → Y 11 j = M 11 j) ∧ Y 11 i = nI (pu_nv T s q) ∧ Y 8 0 = nI (s + q)) 3 ?_ ?_ 4 0 _ _ _ _ (by decide) (by decide) ⟨rfl, rfl, rfl, fun j hj => absurd hj (Nat.not_lt_zero j), fun j _ h11 => by rw [eS, pu_un _ _ _ h11], fun j hj => by rw [eS, pu_up, if_pos rfl, if_neg hj], by rw [eS, pu_up, if_pos rfl, if_pos rfl]; rfl, by rw [eS, pu_un _ _ _ (by decide), h.2.1]; rfl⟩
  · rintro R q Y i1 x2 x3 hq ⟨rfl, rfl, rfl, g1, y1, y2, y3, y4⟩ hR
    rw [hB]
    have hY : TXR T L (s + q) Y := ⟨by rw [y1 6 (by decide) (by decide)]; exact h.1, y4, by rw [y1 5 (by decide) (by decide)]; exact h.2.2⟩
    refine p_ltv (fun r er => ?_)
    have er' : r = if s + q < L ∧ 48 ≤ T (s + q) ∧ T (s + q) ≤ 57 then 1 else 0 := er.trans (pu_isAt (lo := 48) (hi := 57) hL (by omega) hT2 (by decide) (by decide) hY)
    by_cases hd : pu_D T L (s + q)
    · have hd' := hd
      rw [if_pos hd] at er'
      refine p_ite (fun c => absurd c (by rw [er']; decide)) (fun _ => ?_)
      have e3 : Y 8 0 - nI s = nI q := by rw [y4, nI_sub (by omega), show s + q - s = q by omega]
      rw [e3]
      refine p_ite (fun c => absurd c (nI_ge (b := 3) hq (by decide))) (fun _ => p_ltv (fun W eW => p_ltv (fun V eV => ?_)))
      have hlt := pu_nv_lt q g1
      have hp : 10 ^ q ≤ 100 := by
        have : q = 0 ∨ q = 1 ∨ q = 2 := by omega
        rcases this with rfl | rfl | rfl <;> decide
      have e5 : Y 5 (Y 8 0).toNatClampNeg = nI (T (s + q)) := by rw [y4, nI_clamp (by omega)]; exact hY.2.2 _ hd.1
      have ew : ((10 * Y 11 i1) + Y 5 (Y 8 0).toNatClampNeg) - 48 = nI (pu_nv T s (q + 1)) := by
        rw [e5, y3, show (10 : Int32) = nI 10 from rfl, nI_mul, nI_add, show (48 : Int32) = nI 48 from rfl, nI_sub (by omega)]
        simp only [pu_nv]; rw [show 10 * pu_nv T s q + T (s + q) - 48 = 10 * pu_nv T s q + (T (s + q) - 48) by omega]
      rw [ew] at eW
      refine hR _ _ _ _ ⟨rfl, rfl, rfl, fun j hj => ?_, fun j h8 h11 => by rw [eV, pu_un _ _ _ h8, eW, pu_un _ _ _ h11, y1 j h8 h11], fun j hj => by rw [eV, pu_un _ _ _ (by decide), eW, pu_up, if_pos rfl, if_neg hj, y2 j hj], by rw [eV, pu_un _ _ _ (by decide), eW, pu_up, if_pos rfl, if_pos rfl], by rw [eV, pu_up, if_pos rfl, if_pos rfl, eW, pu_un _ _ _ (by decide), y4, nI_1]; rfl⟩
      by_cases z : j = q
      · rw [z]; exact hd'
      · exact g1 j (by omega)
    · rw [if_neg hd] at er'
      exact p_ite (fun _ => k74 Y y1 y2 q (by omega) g1 (fun _ => hd) y3 y4) (fun c => absurd er' c)
  · rintro R Y i1 x2 x3 ⟨rfl, rfl, rfl, g1, y1, y2, y3, y4⟩
    rw [hB]
    have out : P (K74 Y (nI b) (nI s)) := k74 Y y1 y2 3 (by decide) g1 (fun c => absurd c (by decide)) y3 y4
    refine p_ltv (fun r er => p_ite (fun _ => out) (fun _ => p_ite (fun _ => out) (fun c => absurd ?_ c)))
    rw [y4, nI_sub (by omega), show s + 3 - s = 3 by omega]; decide
end
