section
-- ===== PART A: goes FIRST, ahead of the names: the tables' words, and 'selects' of the private methods out of them =====
/-- a private method of a class that the tables say can be made, by its rows of tables_1 -/
def lw_okq (q : MethodName × Nat) : Prop := (q.1.cls ≠ "java/lang/invoke/MethodHandle" ∧ q.1.cls ≠ "java/lang/invoke/VarHandle") ∧ Cond.instantiable q.1.cls q.2 ∈ tables_1 ∧ Cond.privateMethod q.1 ∈ tables_1 ∧ Cond.instanceMethod q.1 ∈ tables_1
theorem lw_p0 : lw_okq (⟨"CrewShares$Rules", "forget", "()V"⟩, 4) := ⟨⟨by decide +kernel, by decide +kernel⟩, List.mem_of_getElem? (i := 145) (by decide +kernel), List.mem_of_getElem? (i := 151) (by decide +kernel), List.mem_of_getElem? (i := 152) (by decide +kernel)⟩
theorem lw_p1 : lw_okq (⟨"CrewShares$Rules", "takeSentence", "(LCrewShares$RulesText;)Z"⟩, 4) := ⟨⟨by decide +kernel, by decide +kernel⟩, List.mem_of_getElem? (i := 145) (by decide +kernel), List.mem_of_getElem? (i := 229) (by decide +kernel), List.mem_of_getElem? (i := 230) (by decide +kernel)⟩
theorem lw_p2 : lw_okq (⟨"CrewShares$Rules", "takePercent", "(LCrewShares$RulesText;II)Z"⟩, 4) := ⟨⟨by decide +kernel, by decide +kernel⟩, List.mem_of_getElem? (i := 145) (by decide +kernel), List.mem_of_getElem? (i := 286) (by decide +kernel), List.mem_of_getElem? (i := 287) (by decide +kernel)⟩
theorem lw_p3 : lw_okq (⟨"CrewShares", "tripToSettle", "(I)LCrewShares$Trip;"⟩, 9) := ⟨⟨by decide +kernel, by decide +kernel⟩, List.mem_of_getElem? (i := 17) (by decide +kernel), List.mem_of_getElem? (i := 378) (by decide +kernel), List.mem_of_getElem? (i := 379) (by decide +kernel)⟩
theorem lw_p4 : lw_okq (⟨"CrewShares", "tripAt", "(I)LCrewShares$Trip;"⟩, 9) := ⟨⟨by decide +kernel, by decide +kernel⟩, List.mem_of_getElem? (i := 17) (by decide +kernel), List.mem_of_getElem? (i := 382) (by decide +kernel), List.mem_of_getElem? (i := 383) (by decide +kernel)⟩
theorem lw_p5 : lw_okq (⟨"CrewShares$Trip", "bearLoss", "(LCrewShares$Rules;[J)V"⟩, 7) := ⟨⟨by decide +kernel, by decide +kernel⟩, List.mem_of_getElem? (i := 339) (by decide +kernel), List.mem_of_getElem? (i := 398) (by decide +kernel), List.mem_of_getElem? (i := 399) (by decide +kernel)⟩
theorem lw_p6 : lw_okq (⟨"CrewShares$Trip", "costsOff", "(LCrewShares$Rules;I)J"⟩, 7) := ⟨⟨by decide +kernel, by decide +kernel⟩, List.mem_of_getElem? (i := 339) (by decide +kernel), List.mem_of_getElem? (i := 402) (by decide +kernel), List.mem_of_getElem? (i := 403) (by decide +kernel)⟩
theorem lw_p7 : lw_okq (⟨"CrewShares$Trip", "partLeft", "(LCrewShares$Rules;LCrewShares$Parting;)V"⟩, 7) := ⟨⟨by decide +kernel, by decide +kernel⟩, List.mem_of_getElem? (i := 339) (by decide +kernel), List.mem_of_getElem? (i := 409) (by decide +kernel), List.mem_of_getElem? (i := 410) (by decide +kernel)⟩
theorem lw_p8 : lw_okq (⟨"CrewShares$Parting", "wholeWeight", "()J"⟩, 4) := ⟨⟨by decide +kernel, by decide +kernel⟩, List.mem_of_getElem? (i := 73) (by decide +kernel), List.mem_of_getElem? (i := 429) (by decide +kernel), List.mem_of_getElem? (i := 430) (by decide +kernel)⟩
theorem lw_p9 : lw_okq (⟨"CrewShares$Parting", "giveCents", "(J)V"⟩, 4) := ⟨⟨by decide +kernel, by decide +kernel⟩, List.mem_of_getElem? (i := 73) (by decide +kernel), List.mem_of_getElem? (i := 433) (by decide +kernel), List.mem_of_getElem? (i := 434) (by decide +kernel)⟩
theorem lw_p10 : lw_okq (⟨"CrewShares$Parting", "mostCut", "()I"⟩, 4) := ⟨⟨by decide +kernel, by decide +kernel⟩, List.mem_of_getElem? (i := 73) (by decide +kernel), List.mem_of_getElem? (i := 437) (by decide +kernel), List.mem_of_getElem? (i := 438) (by decide +kernel)⟩
theorem lw_p11 : lw_okq (⟨"CrewShares$Trip", "bearCosts", "(LCrewShares$Rules;)V"⟩, 7) := ⟨⟨by decide +kernel, by decide +kernel⟩, List.mem_of_getElem? (i := 339) (by decide +kernel), List.mem_of_getElem? (i := 442) (by decide +kernel), List.mem_of_getElem? (i := 443) (by decide +kernel)⟩
theorem lw_p12 : lw_okq (⟨"CrewShares$Trip", "shareCrewsPart", "(LCrewShares$Rules;LCrewShares$Crew;LCrewShares$Parting;)V"⟩, 7) := ⟨⟨by decide +kernel, by decide +kernel⟩, List.mem_of_getElem? (i := 339) (by decide +kernel), List.mem_of_getElem? (i := 449) (by decide +kernel), List.mem_of_getElem? (i := 450) (by decide +kernel)⟩
theorem lw_p13 : lw_okq (⟨"CrewShares$Trip", "topUp", "(II)V"⟩, 7) := ⟨⟨by decide +kernel, by decide +kernel⟩, List.mem_of_getElem? (i := 339) (by decide +kernel), List.mem_of_getElem? (i := 453) (by decide +kernel), List.mem_of_getElem? (i := 454) (by decide +kernel)⟩
theorem lw_p14 : lw_okq (⟨"CrewShares$Trip", "pay", "(ILCrewShares$Crew;)V"⟩, 7) := ⟨⟨by decide +kernel, by decide +kernel⟩, List.mem_of_getElem? (i := 339) (by decide +kernel), List.mem_of_getElem? (i := 457) (by decide +kernel), List.mem_of_getElem? (i := 458) (by decide +kernel)⟩
theorem lw_p15 : lw_okq (⟨"CrewShares$Trip", "hasOf", "(I)J"⟩, 7) := ⟨⟨by decide +kernel, by decide +kernel⟩, List.mem_of_getElem? (i := 339) (by decide +kernel), List.mem_of_getElem? (i := 461) (by decide +kernel), List.mem_of_getElem? (i := 462) (by decide +kernel)⟩
def lw_privs_1 : List (MethodName × Nat) := [(⟨"CrewShares$Rules", "forget", "()V"⟩, 4), (⟨"CrewShares$Rules", "takeSentence", "(LCrewShares$RulesText;)Z"⟩, 4), (⟨"CrewShares$Rules", "takePercent", "(LCrewShares$RulesText;II)Z"⟩, 4), (⟨"CrewShares", "tripToSettle", "(I)LCrewShares$Trip;"⟩, 9), (⟨"CrewShares", "tripAt", "(I)LCrewShares$Trip;"⟩, 9), (⟨"CrewShares$Trip", "bearLoss", "(LCrewShares$Rules;[J)V"⟩, 7), (⟨"CrewShares$Trip", "costsOff", "(LCrewShares$Rules;I)J"⟩, 7), (⟨"CrewShares$Trip", "partLeft", "(LCrewShares$Rules;LCrewShares$Parting;)V"⟩, 7), (⟨"CrewShares$Parting", "wholeWeight", "()J"⟩, 4), (⟨"CrewShares$Parting", "giveCents", "(J)V"⟩, 4), (⟨"CrewShares$Parting", "mostCut", "()I"⟩, 4), (⟨"CrewShares$Trip", "bearCosts", "(LCrewShares$Rules;)V"⟩, 7), (⟨"CrewShares$Trip", "shareCrewsPart", "(LCrewShares$Rules;LCrewShares$Crew;LCrewShares$Parting;)V"⟩, 7), (⟨"CrewShares$Trip", "topUp", "(II)V"⟩, 7), (⟨"CrewShares$Trip", "pay", "(ILCrewShares$Crew;)V"⟩, 7), (⟨"CrewShares$Trip", "hasOf", "(I)J"⟩, 7)]
theorem lw_r1 : ∀ q ∈ lw_privs_1, lw_okq q := List.forall_mem_cons.mpr ⟨lw_p0, List.forall_mem_cons.mpr ⟨lw_p1, List.forall_mem_cons.mpr ⟨lw_p2, List.forall_mem_cons.mpr ⟨lw_p3, List.forall_mem_cons.mpr ⟨lw_p4, List.forall_mem_cons.mpr ⟨lw_p5, List.forall_mem_cons.mpr ⟨lw_p6, List.forall_mem_cons.mpr ⟨lw_p7, List.forall_mem_cons.mpr ⟨lw_p8, List.forall_mem_cons.mpr ⟨lw_p9, List.forall_mem_cons.mpr ⟨lw_p10, List.forall_mem_cons.mpr ⟨lw_p11, List.forall_mem_cons.mpr ⟨lw_p12, List.forall_mem_cons.mpr ⟨lw_p13, List.forall_mem_cons.mpr ⟨lw_p14, List.forall_mem_cons.mpr ⟨lw_p15, fun _ h => absurd h List.not_mem_nil⟩⟩⟩⟩⟩⟩⟩⟩⟩⟩⟩⟩⟩⟩⟩⟩
theorem lw_p16 : lw_okq (⟨"CrewShares", "settledTrip", "(I)LCrewShares$Trip;"⟩, 9) := ⟨⟨by decide +kernel, by decide +kernel⟩, List.mem_of_getElem? (i := 17) (by decide +kernel), List.mem_of_getElem? (i := 473) (by decide +kernel), List.mem_of_getElem? (i := 474) (by decide +kernel)⟩
theorem lw_p17 : lw_okq (⟨"CrewShares$Book", "takesDay", "(I)Z"⟩, 5) := ⟨⟨by decide +kernel, by decide +kernel⟩, List.mem_of_getElem? (i := 93) (by decide +kernel), List.mem_of_getElem? (i := 503) (by decide +kernel), List.mem_of_getElem? (i := 504) (by decide +kernel)⟩
theorem lw_p18 : lw_okq (⟨"CrewShares$Book", "isClosed", "(I)Z"⟩, 5) := ⟨⟨by decide +kernel, by decide +kernel⟩, List.mem_of_getElem? (i := 93) (by decide +kernel), List.mem_of_getElem? (i := 507) (by decide +kernel), List.mem_of_getElem? (i := 508) (by decide +kernel)⟩
theorem lw_p19 : lw_okq (⟨"CrewShares$Book", "isFull", "()Z"⟩, 5) := ⟨⟨by decide +kernel, by decide +kernel⟩, List.mem_of_getElem? (i := 93) (by decide +kernel), List.mem_of_getElem? (i := 514) (by decide +kernel), List.mem_of_getElem? (i := 515) (by decide +kernel)⟩
theorem lw_p20 : lw_okq (⟨"CrewShares$Book", "putIn", "(LCrewShares$Entry;)I"⟩, 5) := ⟨⟨by decide +kernel, by decide +kernel⟩, List.mem_of_getElem? (i := 93) (by decide +kernel), List.mem_of_getElem? (i := 556) (by decide +kernel), List.mem_of_getElem? (i := 557) (by decide +kernel)⟩
theorem lw_p21 : lw_okq (⟨"CrewShares$Book", "entryAt", "(I)LCrewShares$Entry;"⟩, 5) := ⟨⟨by decide +kernel, by decide +kernel⟩, List.mem_of_getElem? (i := 93) (by decide +kernel), List.mem_of_getElem? (i := 588) (by decide +kernel), List.mem_of_getElem? (i := 589) (by decide +kernel)⟩
theorem lw_p22 : lw_okq (⟨"CrewSharesModel", "isNext", "()Z"⟩, 31) := ⟨⟨by decide +kernel, by decide +kernel⟩, List.mem_of_getElem? (i := 635) (by decide +kernel), List.mem_of_getElem? (i := 748) (by decide +kernel), List.mem_of_getElem? (i := 749) (by decide +kernel)⟩
theorem lw_p23 : lw_okq (⟨"CrewSharesModel", "isSentence", "()Z"⟩, 31) := ⟨⟨by decide +kernel, by decide +kernel⟩, List.mem_of_getElem? (i := 635) (by decide +kernel), List.mem_of_getElem? (i := 752) (by decide +kernel), List.mem_of_getElem? (i := 753) (by decide +kernel)⟩
theorem lw_p24 : lw_okq (⟨"CrewSharesModel", "isWord", "(JI)Z"⟩, 31) := ⟨⟨by decide +kernel, by decide +kernel⟩, List.mem_of_getElem? (i := 635) (by decide +kernel), List.mem_of_getElem? (i := 757) (by decide +kernel), List.mem_of_getElem? (i := 758) (by decide +kernel)⟩
theorem lw_p25 : lw_okq (⟨"CrewSharesModel", "number", "(I)I"⟩, 31) := ⟨⟨by decide +kernel, by decide +kernel⟩, List.mem_of_getElem? (i := 635) (by decide +kernel), List.mem_of_getElem? (i := 762) (by decide +kernel), List.mem_of_getElem? (i := 763) (by decide +kernel)⟩
theorem lw_p26 : lw_okq (⟨"CrewSharesModel", "isPerson", "(I)Z"⟩, 31) := ⟨⟨by decide +kernel, by decide +kernel⟩, List.mem_of_getElem? (i := 635) (by decide +kernel), List.mem_of_getElem? (i := 779) (by decide +kernel), List.mem_of_getElem? (i := 780) (by decide +kernel)⟩
theorem lw_p27 : lw_okq (⟨"CrewSharesModel", "isTrip", "(I)Z"⟩, 31) := ⟨⟨by decide +kernel, by decide +kernel⟩, List.mem_of_getElem? (i := 635) (by decide +kernel), List.mem_of_getElem? (i := 794) (by decide +kernel), List.mem_of_getElem? (i := 795) (by decide +kernel)⟩
theorem lw_p28 : lw_okq (⟨"CrewSharesModel", "costsOf", "(II)J"⟩, 31) := ⟨⟨by decide +kernel, by decide +kernel⟩, List.mem_of_getElem? (i := 635) (by decide +kernel), List.mem_of_getElem? (i := 807) (by decide +kernel), List.mem_of_getElem? (i := 808) (by decide +kernel)⟩
theorem lw_p29 : lw_okq (⟨"CrewSharesModel", "partByCents", "(JI)V"⟩, 31) := ⟨⟨by decide +kernel, by decide +kernel⟩, List.mem_of_getElem? (i := 635) (by decide +kernel), List.mem_of_getElem? (i := 811) (by decide +kernel), List.mem_of_getElem? (i := 812) (by decide +kernel)⟩
theorem lw_p30 : lw_okq (⟨"CrewSharesModel", "put", "(IIJ)V"⟩, 31) := ⟨⟨by decide +kernel, by decide +kernel⟩, List.mem_of_getElem? (i := 635) (by decide +kernel), List.mem_of_getElem? (i := 849) (by decide +kernel), List.mem_of_getElem? (i := 850) (by decide +kernel)⟩
def lw_privs_2 : List (MethodName × Nat) := [(⟨"CrewShares", "settledTrip", "(I)LCrewShares$Trip;"⟩, 9), (⟨"CrewShares$Book", "takesDay", "(I)Z"⟩, 5), (⟨"CrewShares$Book", "isClosed", "(I)Z"⟩, 5), (⟨"CrewShares$Book", "isFull", "()Z"⟩, 5), (⟨"CrewShares$Book", "putIn", "(LCrewShares$Entry;)I"⟩, 5), (⟨"CrewShares$Book", "entryAt", "(I)LCrewShares$Entry;"⟩, 5), (⟨"CrewSharesModel", "isNext", "()Z"⟩, 31), (⟨"CrewSharesModel", "isSentence", "()Z"⟩, 31), (⟨"CrewSharesModel", "isWord", "(JI)Z"⟩, 31), (⟨"CrewSharesModel", "number", "(I)I"⟩, 31), (⟨"CrewSharesModel", "isPerson", "(I)Z"⟩, 31), (⟨"CrewSharesModel", "isTrip", "(I)Z"⟩, 31), (⟨"CrewSharesModel", "costsOf", "(II)J"⟩, 31), (⟨"CrewSharesModel", "partByCents", "(JI)V"⟩, 31), (⟨"CrewSharesModel", "put", "(IIJ)V"⟩, 31)]
theorem lw_r2 : ∀ q ∈ lw_privs_2, lw_okq q := List.forall_mem_cons.mpr ⟨lw_p16, List.forall_mem_cons.mpr ⟨lw_p17, List.forall_mem_cons.mpr ⟨lw_p18, List.forall_mem_cons.mpr ⟨lw_p19, List.forall_mem_cons.mpr ⟨lw_p20, List.forall_mem_cons.mpr ⟨lw_p21, List.forall_mem_cons.mpr ⟨lw_p22, List.forall_mem_cons.mpr ⟨lw_p23, List.forall_mem_cons.mpr ⟨lw_p24, List.forall_mem_cons.mpr ⟨lw_p25, List.forall_mem_cons.mpr ⟨lw_p26, List.forall_mem_cons.mpr ⟨lw_p27, List.forall_mem_cons.mpr ⟨lw_p28, List.forall_mem_cons.mpr ⟨lw_p29, List.forall_mem_cons.mpr ⟨lw_p30, fun _ h => absurd h List.not_mem_nil⟩⟩⟩⟩⟩⟩⟩⟩⟩⟩⟩⟩⟩⟩⟩
def lw_privs : List (MethodName × Nat) := lw_privs_1 ++ (lw_privs_2)
def lw_tbl : List Cond := k2_sels lw_privs ++ tables_1
theorem lw_privs_ok : ∀ q ∈ lw_privs, lw_okq q := by
  show ∀ q ∈ lw_privs_1 ++ (lw_privs_2), lw_okq q
  exact List.forall_mem_append.mpr ⟨lw_r1, lw_r2⟩
def RX0 : String := "CrewShares$Book"
def TX0 : u_T := fun k => match k with
  | 0 => ("CrewShares$Book", "entries", "[LCrewShares$Entry;", true)
  | 1 => ("CrewShares$Book", "size", "I", false)
  | 2 => ("CrewShares$Book", "draft", "LCrewShares$Entry;", false)
  | 3 => ("CrewShares$Book", "isOpen", "Z", false)
  | _ => ("CrewShares$Book", "closedMonths", "I", false)
def tyX0 : Nat → FieldType := fun k => match k with
  | 0 => .array (.object "CrewShares$Entry")
  | 1 => .int
  | 2 => .object "CrewShares$Entry"
  | 3 => .boolean
  | _ => .int
theorem nmX0 : ∀ a, a < 5 → ∀ b, b < 5 → a ≠ b → (TX0 a).2.1 ≠ (TX0 b).2.1 := by decide +kernel
theorem tyX0_ok : ∀ k, k < 5 → parseFieldDescriptor (TX0 k).2.2.1 = some (tyX0 k) := by decide +kernel
abbrev cX0_init : ByteArray := prog_2_method_1_code
def yX0_init : MethodName := ⟨RX0, "<init>", "()V"⟩
abbrev cX0_begin : ByteArray := prog_2_method_2_code
def yX0_begin : MethodName := ⟨RX0, "begin", "(I)Z"⟩
abbrev cX0_addRow : ByteArray := prog_2_method_3_code
def yX0_addRow : MethodName := ⟨RX0, "addRow", "(IJ)I"⟩
abbrev cX0_takeIn : ByteArray := prog_2_method_4_code
def yX0_takeIn : MethodName := ⟨RX0, "takeIn", "()I"⟩
abbrev cX0_giveUp : ByteArray := prog_2_method_5_code
def yX0_giveUp : MethodName := ⟨RX0, "giveUp", "()I"⟩
abbrev cX0_closeUpTo : ByteArray := prog_2_method_6_code
def yX0_closeUpTo : MethodName := ⟨RX0, "closeUpTo", "(I)I"⟩
abbrev cX0_takeBack : ByteArray := prog_2_method_7_code
def yX0_takeBack : MethodName := ⟨RX0, "takeBack", "(II)I"⟩
abbrev cX0_totalOf : ByteArray := prog_2_method_8_code
def yX0_totalOf : MethodName := ⟨RX0, "totalOf", "(II)J"⟩
abbrev cX0_tell : ByteArray := prog_2_method_9_code
def yX0_tell : MethodName := ⟨RX0, "tell", "(III)J"⟩
abbrev cX0_putIn : ByteArray := prog_2_method_10_code
def yX0_putIn : MethodName := ⟨RX0, "putIn", "(LCrewShares$Entry;)I"⟩
abbrev cX0_entryAt : ByteArray := prog_2_method_11_code
def yX0_entryAt : MethodName := ⟨RX0, "entryAt", "(I)LCrewShares$Entry;"⟩
abbrev cX0_isFull : ByteArray := prog_2_method_12_code
def yX0_isFull : MethodName := ⟨RX0, "isFull", "()Z"⟩
abbrev cX0_takesDay : ByteArray := prog_2_method_13_code
def yX0_takesDay : MethodName := ⟨RX0, "takesDay", "(I)Z"⟩
abbrev cX0_isClosed : ByteArray := prog_2_method_14_code
def yX0_isClosed : MethodName := ⟨RX0, "isClosed", "(I)Z"⟩
abbrev cX0_monthOf : ByteArray := prog_2_method_15_code
def yX0_monthOf : MethodName := ⟨RX0, "monthOf", "(I)I"⟩
abbrev cX0_isMonth : ByteArray := prog_2_method_16_code
def yX0_isMonth : MethodName := ⟨RX0, "isMonth", "(I)Z"⟩
abbrev cX0_isAccount : ByteArray := prog_2_method_17_code
def yX0_isAccount : MethodName := ⟨RX0, "isAccount", "(I)Z"⟩
def RX1 : String := "CrewShares$Crew"
def TX1 : u_T := fun k => match k with
  | 0 => ("CrewShares$Crew", "roles", "[I", true)
  | 1 => ("CrewShares$Crew", "advances", "[J", true)
  | _ => ("CrewShares$Crew", "size", "I", false)
def tyX1 : Nat → FieldType := fun k => match k with
  | 0 => .array .int
  | 1 => .array .long
  | _ => .int
theorem nmX1 : ∀ a, a < 3 → ∀ b, b < 3 → a ≠ b → (TX1 a).2.1 ≠ (TX1 b).2.1 := by decide +kernel
theorem tyX1_ok : ∀ k, k < 3 → parseFieldDescriptor (TX1 k).2.2.1 = some (tyX1 k) := by decide +kernel
abbrev cX1_init : ByteArray := prog_3_method_1_code
def yX1_init : MethodName := ⟨RX1, "<init>", "()V"⟩
abbrev cX1_join : ByteArray := prog_3_method_2_code
def yX1_join : MethodName := ⟨RX1, "join", "(I)I"⟩
abbrev cX1_has : ByteArray := prog_3_method_3_code
def yX1_has : MethodName := ⟨RX1, "has", "(I)Z"⟩
def RX2 : String := "CrewShares$Entry"
def TX2 : u_T := fun k => match k with
  | 0 => ("CrewShares$Entry", "accounts", "[I", true)
  | 1 => ("CrewShares$Entry", "amounts", "[J", true)
  | 2 => ("CrewShares$Entry", "size", "I", false)
  | 3 => ("CrewShares$Entry", "day", "I", false)
  | 4 => ("CrewShares$Entry", "takesBack", "I", false)
  | _ => ("CrewShares$Entry", "takenBackBy", "I", false)
def tyX2 : Nat → FieldType := fun k => match k with
  | 0 => .array .int
  | 1 => .array .long
  | 2 => .int
  | 3 => .int
  | 4 => .int
  | _ => .int
theorem nmX2 : ∀ a, a < 6 → ∀ b, b < 6 → a ≠ b → (TX2 a).2.1 ≠ (TX2 b).2.1 := by decide +kernel
theorem tyX2_ok : ∀ k, k < 6 → parseFieldDescriptor (TX2 k).2.2.1 = some (tyX2 k) := by decide +kernel
abbrev cX2_init : ByteArray := prog_4_method_1_code
def yX2_init : MethodName := ⟨RX2, "<init>", "()V"⟩
abbrev cX2_startOn : ByteArray := prog_4_method_2_code
def yX2_startOn : MethodName := ⟨RX2, "startOn", "(I)V"⟩
abbrev cX2_isFull : ByteArray := prog_4_method_3_code
def yX2_isFull : MethodName := ⟨RX2, "isFull", "()Z"⟩
abbrev cX2_add : ByteArray := prog_4_method_4_code
def yX2_add : MethodName := ⟨RX2, "add", "(IJ)V"⟩
abbrev cX2_addReversed : ByteArray := prog_4_method_5_code
def yX2_addReversed : MethodName := ⟨RX2, "addReversed", "(LCrewShares$Entry;)V"⟩
abbrev cX2_isTakenBack : ByteArray := prog_4_method_6_code
def yX2_isTakenBack : MethodName := ⟨RX2, "isTakenBack", "()Z"⟩
abbrev cX2_takesOneBack : ByteArray := prog_4_method_7_code
def yX2_takesOneBack : MethodName := ⟨RX2, "takesOneBack", "()Z"⟩
abbrev cX2_total : ByteArray := prog_4_method_8_code
def yX2_total : MethodName := ⟨RX2, "total", "()J"⟩
abbrev cX2_totalOf : ByteArray := prog_4_method_9_code
def yX2_totalOf : MethodName := ⟨RX2, "totalOf", "(I)J"⟩
abbrev cX2_tellHead : ByteArray := prog_4_method_10_code
def yX2_tellHead : MethodName := ⟨RX2, "tellHead", "(I)J"⟩
abbrev cX2_tellRow : ByteArray := prog_4_method_11_code
def yX2_tellRow : MethodName := ⟨RX2, "tellRow", "(II)J"⟩
def RX3 : String := "CrewShares$Parting"
def TX3 : u_T := fun k => match k with
  | 0 => ("CrewShares$Parting", "weights", "[J", true)
  | 1 => ("CrewShares$Parting", "shares", "[J", true)
  | 2 => ("CrewShares$Parting", "cuts", "[J", true)
  | _ => ("CrewShares$Parting", "size", "I", false)
def tyX3 : Nat → FieldType := fun k => match k with
  | 0 => .array .long
  | 1 => .array .long
  | 2 => .array .long
  | _ => .int
theorem nmX3 : ∀ a, a < 4 → ∀ b, b < 4 → a ≠ b → (TX3 a).2.1 ≠ (TX3 b).2.1 := by decide +kernel
theorem tyX3_ok : ∀ k, k < 4 → parseFieldDescriptor (TX3 k).2.2.1 = some (tyX3 k) := by decide +kernel
abbrev cX3_init : ByteArray := prog_5_method_1_code
def yX3_init : MethodName := ⟨RX3, "<init>", "()V"⟩
abbrev cX3_clear : ByteArray := prog_5_method_2_code
def yX3_clear : MethodName := ⟨RX3, "clear", "()V"⟩
abbrev cX3_add : ByteArray := prog_5_method_3_code
def yX3_add : MethodName := ⟨RX3, "add", "(J)V"⟩
abbrev cX3_divide : ByteArray := prog_5_method_4_code
def yX3_divide : MethodName := ⟨RX3, "divide", "(J)Z"⟩
abbrev cX3_wholeWeight : ByteArray := prog_5_method_5_code
def yX3_wholeWeight : MethodName := ⟨RX3, "wholeWeight", "()J"⟩
abbrev cX3_giveCents : ByteArray := prog_5_method_6_code
def yX3_giveCents : MethodName := ⟨RX3, "giveCents", "(J)V"⟩
abbrev cX3_mostCut : ByteArray := prog_5_method_7_code
def yX3_mostCut : MethodName := ⟨RX3, "mostCut", "()I"⟩
def RX4 : String := "CrewShares$Rules"
def TX4 : u_T := fun k => match k with
  | 0 => ("CrewShares$Rules", "percents", "[I", true)
  | 1 => ("CrewShares$Rules", "places", "[I", true)
  | 2 => ("CrewShares$Rules", "weights", "[I", true)
  | _ => ("CrewShares$Rules", "leasts", "[I", true)
def tyX4 : Nat → FieldType := fun k => match k with
  | 0 => .array .int
  | 1 => .array .int
  | 2 => .array .int
  | _ => .array .int
theorem nmX4 : ∀ a, a < 4 → ∀ b, b < 4 → a ≠ b → (TX4 a).2.1 ≠ (TX4 b).2.1 := by decide +kernel
theorem tyX4_ok : ∀ k, k < 4 → parseFieldDescriptor (TX4 k).2.2.1 = some (tyX4 k) := by decide +kernel
abbrev cX4_init : ByteArray := prog_6_method_1_code
def yX4_init : MethodName := ⟨RX4, "<init>", "()V"⟩
abbrev cX4_forget : ByteArray := prog_6_method_2_code
def yX4_forget : MethodName := ⟨RX4, "forget", "()V"⟩
abbrev cX4_takeText : ByteArray := prog_6_method_3_code
def yX4_takeText : MethodName := ⟨RX4, "takeText", "(LCrewShares$RulesText;)I"⟩
abbrev cX4_takeSentence : ByteArray := prog_6_method_4_code
def yX4_takeSentence : MethodName := ⟨RX4, "takeSentence", "(LCrewShares$RulesText;)Z"⟩
abbrev cX4_takePercent : ByteArray := prog_6_method_5_code
def yX4_takePercent : MethodName := ⟨RX4, "takePercent", "(LCrewShares$RulesText;II)Z"⟩
abbrev cX4_takeValue : ByteArray := prog_6_method_6_code
def yX4_takeValue : MethodName := ⟨RX4, "takeValue", "(LCrewShares$RulesText;[II)Z"⟩
abbrev cX4_percentOf : ByteArray := prog_6_method_7_code
def yX4_percentOf : MethodName := ⟨RX4, "percentOf", "(I)I"⟩
def RX5 : String := "CrewShares$RulesText"
def TX5 : u_T := fun k => match k with
  | 0 => ("CrewShares$RulesText", "bytes", "[C", true)
  | 1 => ("CrewShares$RulesText", "length", "I", false)
  | 2 => ("CrewShares$RulesText", "wordStart", "I", false)
  | 3 => ("CrewShares$RulesText", "wordEnd", "I", false)
  | _ => ("CrewShares$RulesText", "wordNumber", "I", false)
def tyX5 : Nat → FieldType := fun k => match k with
  | 0 => .array .char
  | 1 => .int
  | 2 => .int
  | 3 => .int
  | _ => .int
theorem nmX5 : ∀ a, a < 5 → ∀ b, b < 5 → a ≠ b → (TX5 a).2.1 ≠ (TX5 b).2.1 := by decide +kernel
theorem tyX5_ok : ∀ k, k < 5 → parseFieldDescriptor (TX5 k).2.2.1 = some (tyX5 k) := by decide +kernel
abbrev cX5_init : ByteArray := prog_7_method_1_code
def yX5_init : MethodName := ⟨RX5, "<init>", "()V"⟩
abbrev cX5_append : ByteArray := prog_7_method_2_code
def yX5_append : MethodName := ⟨RX5, "append", "(I)Z"⟩
abbrev cX5_empty : ByteArray := prog_7_method_3_code
def yX5_empty : MethodName := ⟨RX5, "empty", "()V"⟩
abbrev cX5_rewind : ByteArray := prog_7_method_4_code
def yX5_rewind : MethodName := ⟨RX5, "rewind", "()V"⟩
abbrev cX5_nextWord : ByteArray := prog_7_method_5_code
def yX5_nextWord : MethodName := ⟨RX5, "nextWord", "()Z"⟩
abbrev cX5_wordIs : ByteArray := prog_7_method_6_code
def yX5_wordIs : MethodName := ⟨RX5, "wordIs", "(Ljava/lang/String;)Z"⟩
abbrev cX5_nextNumber : ByteArray := prog_7_method_7_code
def yX5_nextNumber : MethodName := ⟨RX5, "nextNumber", "(I)I"⟩
abbrev cX5_isGap : ByteArray := prog_7_method_8_code
def yX5_isGap : MethodName := ⟨RX5, "isGap", "(C)Z"⟩
def RX6 : String := "CrewShares$Trip"
def TX6 : u_T := fun k => match k with
  | 0 => ("CrewShares$Trip", "ship", "I", true)
  | 1 => ("CrewShares$Trip", "sales", "J", true)
  | 2 => ("CrewShares$Trip", "costs", "[J", true)
  | 3 => ("CrewShares$Trip", "daysOf", "[I", true)
  | 4 => ("CrewShares$Trip", "parts", "[J", true)
  | 5 => ("CrewShares$Trip", "shares", "[[J", true)
  | _ => ("CrewShares$Trip", "settled", "Z", false)
def tyX6 : Nat → FieldType := fun k => match k with
  | 0 => .int
  | 1 => .long
  | 2 => .array .long
  | 3 => .array .int
  | 4 => .array .long
  | 5 => .array (.array .long)
  | _ => .boolean
theorem nmX6 : ∀ a, a < 7 → ∀ b, b < 7 → a ≠ b → (TX6 a).2.1 ≠ (TX6 b).2.1 := by decide +kernel
theorem tyX6_ok : ∀ k, k < 7 → parseFieldDescriptor (TX6 k).2.2.1 = some (tyX6 k) := by decide +kernel
abbrev cX6_init : ByteArray := prog_8_method_1_code
def yX6_init : MethodName := ⟨RX6, "<init>", "(IJ)V"⟩
abbrev cX6_shareOut : ByteArray := prog_8_method_2_code
def yX6_shareOut : MethodName := ⟨RX6, "shareOut", "(LCrewShares$Rules;LCrewShares$Crew;[JLCrewShares$Parting;)V"⟩
abbrev cX6_bearLoss : ByteArray := prog_8_method_3_code
def yX6_bearLoss : MethodName := ⟨RX6, "bearLoss", "(LCrewShares$Rules;[J)V"⟩
abbrev cX6_partLeft : ByteArray := prog_8_method_4_code
def yX6_partLeft : MethodName := ⟨RX6, "partLeft", "(LCrewShares$Rules;LCrewShares$Parting;)V"⟩
abbrev cX6_bearCosts : ByteArray := prog_8_method_5_code
def yX6_bearCosts : MethodName := ⟨RX6, "bearCosts", "(LCrewShares$Rules;)V"⟩
abbrev cX6_shareCrewsPart : ByteArray := prog_8_method_6_code
def yX6_shareCrewsPart : MethodName := ⟨RX6, "shareCrewsPart", "(LCrewShares$Rules;LCrewShares$Crew;LCrewShares$Parting;)V"⟩
abbrev cX6_topUp : ByteArray := prog_8_method_7_code
def yX6_topUp : MethodName := ⟨RX6, "topUp", "(II)V"⟩
abbrev cX6_pay : ByteArray := prog_8_method_8_code
def yX6_pay : MethodName := ⟨RX6, "pay", "(ILCrewShares$Crew;)V"⟩
abbrev cX6_hasOf : ByteArray := prog_8_method_9_code
def yX6_hasOf : MethodName := ⟨RX6, "hasOf", "(I)J"⟩
abbrev cX6_costsOff : ByteArray := prog_8_method_10_code
def yX6_costsOff : MethodName := ⟨RX6, "costsOff", "(LCrewShares$Rules;I)J"⟩
abbrev cX6_countAboard : ByteArray := prog_8_method_11_code
def yX6_countAboard : MethodName := ⟨RX6, "countAboard", "()I"⟩
abbrev cX6_isEven : ByteArray := prog_8_method_12_code
def yX6_isEven : MethodName := ⟨RX6, "isEven", "()Z"⟩
def RX7 : String := "CrewShares"
def TX7 : u_T := fun k => match k with
  | 0 => ("CrewShares", "text", "LCrewShares$RulesText;", true)
  | 1 => ("CrewShares", "crew", "LCrewShares$Crew;", true)
  | 2 => ("CrewShares", "losses", "[J", true)
  | 3 => ("CrewShares", "trips", "[LCrewShares$Trip;", true)
  | 4 => ("CrewShares", "parting", "LCrewShares$Parting;", true)
  | 5 => ("CrewShares", "book", "LCrewShares$Book;", true)
  | 6 => ("CrewShares", "rules", "LCrewShares$Rules;", false)
  | 7 => ("CrewShares", "draft", "LCrewShares$Rules;", false)
  | _ => ("CrewShares", "tripCount", "I", false)
def tyX7 : Nat → FieldType := fun k => match k with
  | 0 => .object "CrewShares$RulesText"
  | 1 => .object "CrewShares$Crew"
  | 2 => .array .long
  | 3 => .array (.object "CrewShares$Trip")
  | 4 => .object "CrewShares$Parting"
  | 5 => .object "CrewShares$Book"
  | 6 => .object "CrewShares$Rules"
  | 7 => .object "CrewShares$Rules"
  | _ => .int
theorem nmX7 : ∀ a, a < 9 → ∀ b, b < 9 → a ≠ b → (TX7 a).2.1 ≠ (TX7 b).2.1 := by decide +kernel
theorem tyX7_ok : ∀ k, k < 9 → parseFieldDescriptor (TX7 k).2.2.1 = some (tyX7 k) := by decide +kernel
abbrev cX7_init : ByteArray := prog_1_method_1_code
def yX7_init : MethodName := ⟨RX7, "<init>", "()V"⟩
abbrev cX7_unit : ByteArray := prog_1_method_2_code
def yX7_unit : MethodName := ⟨RX7, "unit", "(I)Z"⟩
abbrev cX7_read : ByteArray := prog_1_method_3_code
def yX7_read : MethodName := ⟨RX7, "read", "()I"⟩
abbrev cX7_person : ByteArray := prog_1_method_4_code
def yX7_person : MethodName := ⟨RX7, "person", "(I)I"⟩
abbrev cX7_advance : ByteArray := prog_1_method_5_code
def yX7_advance : MethodName := ⟨RX7, "advance", "(IJ)Z"⟩
abbrev cX7_trip : ByteArray := prog_1_method_6_code
def yX7_trip : MethodName := ⟨RX7, "trip", "(IJ)I"⟩
abbrev cX7_cost : ByteArray := prog_1_method_7_code
def yX7_cost : MethodName := ⟨RX7, "cost", "(IIJ)Z"⟩
abbrev cX7_days : ByteArray := prog_1_method_8_code
def yX7_days : MethodName := ⟨RX7, "days", "(III)I"⟩
abbrev cX7_settle : ByteArray := prog_1_method_9_code
def yX7_settle : MethodName := ⟨RX7, "settle", "(I)I"⟩
abbrev cX7_part : ByteArray := prog_1_method_10_code
def yX7_part : MethodName := ⟨RX7, "part", "(II)J"⟩
abbrev cX7_share : ByteArray := prog_1_method_11_code
def yX7_share : MethodName := ⟨RX7, "share", "(III)J"⟩
abbrev cX7_carried : ByteArray := prog_1_method_12_code
def yX7_carried : MethodName := ⟨RX7, "carried", "(I)J"⟩
abbrev cX7_sums : ByteArray := prog_1_method_13_code
def yX7_sums : MethodName := ⟨RX7, "sums", "(I)Z"⟩
abbrev cX7_open : ByteArray := prog_1_method_14_code
def yX7_open : MethodName := ⟨RX7, "open", "(I)Z"⟩
abbrev cX7_row : ByteArray := prog_1_method_15_code
def yX7_row : MethodName := ⟨RX7, "row", "(IJ)I"⟩
abbrev cX7_enter : ByteArray := prog_1_method_16_code
def yX7_enter : MethodName := ⟨RX7, "enter", "()I"⟩
abbrev cX7_drop : ByteArray := prog_1_method_17_code
def yX7_drop : MethodName := ⟨RX7, "drop", "()I"⟩
abbrev cX7_closeMonth : ByteArray := prog_1_method_18_code
def yX7_closeMonth : MethodName := ⟨RX7, "closeMonth", "(I)I"⟩
abbrev cX7_correct : ByteArray := prog_1_method_19_code
def yX7_correct : MethodName := ⟨RX7, "correct", "(II)I"⟩
abbrev cX7_balance : ByteArray := prog_1_method_20_code
def yX7_balance : MethodName := ⟨RX7, "balance", "(II)J"⟩
abbrev cX7_entry : ByteArray := prog_1_method_21_code
def yX7_entry : MethodName := ⟨RX7, "entry", "(III)J"⟩
abbrev cX7_areCents : ByteArray := prog_1_method_22_code
def yX7_areCents : MethodName := ⟨RX7, "areCents", "(J)Z"⟩
abbrev cX7_tripAt : ByteArray := prog_1_method_23_code
def yX7_tripAt : MethodName := ⟨RX7, "tripAt", "(I)LCrewShares$Trip;"⟩
abbrev cX7_tripToSettle : ByteArray := prog_1_method_24_code
def yX7_tripToSettle : MethodName := ⟨RX7, "tripToSettle", "(I)LCrewShares$Trip;"⟩
abbrev cX7_settledTrip : ByteArray := prog_1_method_25_code
def yX7_settledTrip : MethodName := ⟨RX7, "settledTrip", "(I)LCrewShares$Trip;"⟩
def RX8 : String := "CrewSharesModel"
def TX8 : u_T := fun k => match k with
  | 0 => ("CrewSharesModel", "text", "[I", true)
  | 1 => ("CrewSharesModel", "size", "I", false)
  | 2 => ("CrewSharesModel", "rules", "[I", true)
  | 3 => ("CrewSharesModel", "fresh", "[I", true)
  | 4 => ("CrewSharesModel", "at", "I", false)
  | 5 => ("CrewSharesModel", "from", "I", false)
  | 6 => ("CrewSharesModel", "words", "I", false)
  | 7 => ("CrewSharesModel", "losses", "[J", true)
  | 8 => ("CrewSharesModel", "persons", "I", false)
  | 9 => ("CrewSharesModel", "roles", "[I", true)
  | 10 => ("CrewSharesModel", "advances", "[J", true)
  | 11 => ("CrewSharesModel", "trips", "I", false)
  | 12 => ("CrewSharesModel", "ships", "[I", true)
  | 13 => ("CrewSharesModel", "sales", "[J", true)
  | 14 => ("CrewSharesModel", "costs", "[J", true)
  | 15 => ("CrewSharesModel", "days", "[I", true)
  | 16 => ("CrewSharesModel", "settled", "[Z", true)
  | 17 => ("CrewSharesModel", "parts", "[J", true)
  | 18 => ("CrewSharesModel", "shares", "[J", true)
  | 19 => ("CrewSharesModel", "weights", "[J", true)
  | 20 => ("CrewSharesModel", "gets", "[J", true)
  | 21 => ("CrewSharesModel", "rests", "[J", true)
  | 22 => ("CrewSharesModel", "entries", "I", false)
  | 23 => ("CrewSharesModel", "isOpen", "Z", false)
  | 24 => ("CrewSharesModel", "entryDay", "[I", true)
  | 25 => ("CrewSharesModel", "entryRows", "[I", true)
  | 26 => ("CrewSharesModel", "takes", "[I", true)
  | 27 => ("CrewSharesModel", "takenBy", "[I", true)
  | 28 => ("CrewSharesModel", "accounts", "[I", true)
  | 29 => ("CrewSharesModel", "amounts", "[J", true)
  | _ => ("CrewSharesModel", "closed", "I", false)
def tyX8 : Nat → FieldType := fun k => match k with
  | 0 => .array .int
  | 1 => .int
  | 2 => .array .int
  | 3 => .array .int
  | 4 => .int
  | 5 => .int
  | 6 => .int
  | 7 => .array .long
  | 8 => .int
  | 9 => .array .int
  | 10 => .array .long
  | 11 => .int
  | 12 => .array .int
  | 13 => .array .long
  | 14 => .array .long
  | 15 => .array .int
  | 16 => .array .boolean
  | 17 => .array .long
  | 18 => .array .long
  | 19 => .array .long
  | 20 => .array .long
  | 21 => .array .long
  | 22 => .int
  | 23 => .boolean
  | 24 => .array .int
  | 25 => .array .int
  | 26 => .array .int
  | 27 => .array .int
  | 28 => .array .int
  | 29 => .array .long
  | _ => .int
theorem nmX8 : ∀ a, a < 31 → ∀ b, b < 31 → a ≠ b → (TX8 a).2.1 ≠ (TX8 b).2.1 := by decide +kernel
theorem tyX8_ok : ∀ k, k < 31 → parseFieldDescriptor (TX8 k).2.2.1 = some (tyX8 k) := by decide +kernel
abbrev cX8_init : ByteArray := prog_10_method_1_code
def yX8_init : MethodName := ⟨RX8, "<init>", "()V"⟩
abbrev cX8_within : ByteArray := prog_10_method_2_code
def yX8_within : MethodName := ⟨RX8, "within", "(JJJ)Z"⟩
abbrev cX8_unit : ByteArray := prog_10_method_3_code
def yX8_unit : MethodName := ⟨RX8, "unit", "(I)Z"⟩
abbrev cX8_isNext : ByteArray := prog_10_method_4_code
def yX8_isNext : MethodName := ⟨RX8, "isNext", "()Z"⟩
abbrev cX8_isWord : ByteArray := prog_10_method_5_code
def yX8_isWord : MethodName := ⟨RX8, "isWord", "(JI)Z"⟩
abbrev cX8_number : ByteArray := prog_10_method_6_code
def yX8_number : MethodName := ⟨RX8, "number", "(I)I"⟩
abbrev cX8_isSentence : ByteArray := prog_10_method_7_code
def yX8_isSentence : MethodName := ⟨RX8, "isSentence", "()Z"⟩
abbrev cX8_read : ByteArray := prog_10_method_8_code
def yX8_read : MethodName := ⟨RX8, "read", "()I"⟩
abbrev cX8_isPerson : ByteArray := prog_10_method_9_code
def yX8_isPerson : MethodName := ⟨RX8, "isPerson", "(I)Z"⟩
abbrev cX8_isTrip : ByteArray := prog_10_method_10_code
def yX8_isTrip : MethodName := ⟨RX8, "isTrip", "(I)Z"⟩
abbrev cX8_person : ByteArray := prog_10_method_11_code
def yX8_person : MethodName := ⟨RX8, "person", "(I)I"⟩
abbrev cX8_advance : ByteArray := prog_10_method_12_code
def yX8_advance : MethodName := ⟨RX8, "advance", "(IJ)Z"⟩
abbrev cX8_trip : ByteArray := prog_10_method_13_code
def yX8_trip : MethodName := ⟨RX8, "trip", "(IJ)I"⟩
abbrev cX8_cost : ByteArray := prog_10_method_14_code
def yX8_cost : MethodName := ⟨RX8, "cost", "(IIJ)Z"⟩
abbrev cX8_days : ByteArray := prog_10_method_15_code
def yX8_days : MethodName := ⟨RX8, "days", "(III)I"⟩
abbrev cX8_costsOf : ByteArray := prog_10_method_16_code
def yX8_costsOf : MethodName := ⟨RX8, "costsOf", "(II)J"⟩
abbrev cX8_partByCents : ByteArray := prog_10_method_17_code
def yX8_partByCents : MethodName := ⟨RX8, "partByCents", "(JI)V"⟩
abbrev cX8_settle : ByteArray := prog_10_method_18_code
def yX8_settle : MethodName := ⟨RX8, "settle", "(I)I"⟩
abbrev cX8_part : ByteArray := prog_10_method_19_code
def yX8_part : MethodName := ⟨RX8, "part", "(II)J"⟩
abbrev cX8_share : ByteArray := prog_10_method_20_code
def yX8_share : MethodName := ⟨RX8, "share", "(III)J"⟩
abbrev cX8_carried : ByteArray := prog_10_method_21_code
def yX8_carried : MethodName := ⟨RX8, "carried", "(I)J"⟩
abbrev cX8_sums : ByteArray := prog_10_method_22_code
def yX8_sums : MethodName := ⟨RX8, "sums", "(I)Z"⟩
abbrev cX8_open : ByteArray := prog_10_method_23_code
def yX8_open : MethodName := ⟨RX8, "open", "(I)Z"⟩
abbrev cX8_row : ByteArray := prog_10_method_24_code
def yX8_row : MethodName := ⟨RX8, "row", "(IJ)I"⟩
abbrev cX8_enter : ByteArray := prog_10_method_25_code
def yX8_enter : MethodName := ⟨RX8, "enter", "()I"⟩
abbrev cX8_put : ByteArray := prog_10_method_26_code
def yX8_put : MethodName := ⟨RX8, "put", "(IIJ)V"⟩
abbrev cX8_drop : ByteArray := prog_10_method_27_code
def yX8_drop : MethodName := ⟨RX8, "drop", "()I"⟩
abbrev cX8_closeMonth : ByteArray := prog_10_method_28_code
def yX8_closeMonth : MethodName := ⟨RX8, "closeMonth", "(I)I"⟩
abbrev cX8_correct : ByteArray := prog_10_method_29_code
def yX8_correct : MethodName := ⟨RX8, "correct", "(II)I"⟩
abbrev cX8_balance : ByteArray := prog_10_method_30_code
def yX8_balance : MethodName := ⟨RX8, "balance", "(II)J"⟩
abbrev cX8_entry : ByteArray := prog_10_method_31_code
def yX8_entry : MethodName := ⟨RX8, "entry", "(III)J"⟩
def RJ9 : String := "java/lang/Math"
def TJ9 : u_T := fun k => match k with
  | _ => ("", "", "", false)
def tyJ9 : Nat → FieldType := fun k => match k with
  | _ => .int
theorem nmJ9 : ∀ a, a < 0 → ∀ b, b < 0 → a ≠ b → (TJ9 a).2.1 ≠ (TJ9 b).2.1 := by decide +kernel
theorem tyJ9_ok : ∀ k, k < 0 → parseFieldDescriptor (TJ9 k).2.2.1 = some (tyJ9 k) := by decide +kernel
abbrev cJ9_max_7cf53 : ByteArray := prog_11_method_65_code
def yJ9_max_7cf53 : MethodName := ⟨RJ9, "max", "(II)I"⟩
abbrev cJ9_max_f86c9 : ByteArray := prog_11_method_66_code
def yJ9_max_f86c9 : MethodName := ⟨RJ9, "max", "(JJ)J"⟩
abbrev cJ9_min_f86c9 : ByteArray := prog_11_method_70_code
def yJ9_min_f86c9 : MethodName := ⟨RJ9, "min", "(JJ)J"⟩
def RJ0 : String := "java/lang/String"
def TJ0 : u_T := fun k => match k with
  | _ => ("", "", "", false)
def tyJ0 : Nat → FieldType := fun k => match k with
  | _ => .int
theorem nmJ0 : ∀ a, a < 0 → ∀ b, b < 0 → a ≠ b → (TJ0 a).2.1 ≠ (TJ0 b).2.1 := by decide +kernel
theorem tyJ0_ok : ∀ k, k < 0 → parseFieldDescriptor (TJ0 k).2.2.1 = some (tyJ0 k) := by decide +kernel
abbrev cJ0_length_8abf5 : ByteArray := prog_12_method_54_code
def yJ0_length_8abf5 : MethodName := ⟨RJ0, "length", "()I"⟩
abbrev cJ0_charAt_5068e : ByteArray := prog_12_method_56_code
def yJ0_charAt_5068e : MethodName := ⟨RJ0, "charAt", "(I)C"⟩
abbrev cJ0_coder_7d493 : ByteArray := prog_12_method_152_code
def yJ0_coder_7d493 : MethodName := ⟨RJ0, "coder", "()B"⟩
abbrev cJ0_isLatin1_aae02 : ByteArray := prog_12_method_154_code
def yJ0_isLatin1_aae02 : MethodName := ⟨RJ0, "isLatin1", "()Z"⟩
abbrev cJ0_checkIndex_df160 : ByteArray := prog_12_method_155_code
def yJ0_checkIndex_df160 : MethodName := ⟨RJ0, "checkIndex", "(II)V"⟩
def RJ1 : String := "java/lang/StringLatin1"
def TJ1 : u_T := fun k => match k with
  | _ => ("", "", "", false)
def tyJ1 : Nat → FieldType := fun k => match k with
  | _ => .int
theorem nmJ1 : ∀ a, a < 0 → ∀ b, b < 0 → a ≠ b → (TJ1 a).2.1 ≠ (TJ1 b).2.1 := by decide +kernel
theorem tyJ1_ok : ∀ k, k < 0 → parseFieldDescriptor (TJ1 k).2.2.1 = some (tyJ1 k) := by decide +kernel
abbrev cJ1_charAt_3b067 : ByteArray := prog_13_method_2_code
def yJ1_charAt_3b067 : MethodName := ⟨RJ1, "charAt", "([BI)C"⟩
def RJ2 : String := "java/lang/StringUTF16"
def TJ2 : u_T := fun k => match k with
  | _ => ("", "", "", false)
def tyJ2 : Nat → FieldType := fun k => match k with
  | _ => .int
theorem nmJ2 : ∀ a, a < 0 → ∀ b, b < 0 → a ≠ b → (TJ2 a).2.1 ≠ (TJ2 b).2.1 := by decide +kernel
theorem tyJ2_ok : ∀ k, k < 0 → parseFieldDescriptor (TJ2 k).2.2.1 = some (tyJ2 k) := by decide +kernel
abbrev cJ2_getChar_3b067 : ByteArray := prog_14_method_5_code
def yJ2_getChar_3b067 : MethodName := ⟨RJ2, "getChar", "([BI)C"⟩
abbrev cJ2_length_9d52b : ByteArray := prog_14_method_6_code
def yJ2_length_9d52b : MethodName := ⟨RJ2, "length", "([B)I"⟩
abbrev cJ2_charAt_3b067 : ByteArray := prog_14_method_83_code
def yJ2_charAt_3b067 : MethodName := ⟨RJ2, "charAt", "([BI)C"⟩
abbrev cJ2_checkIndex_2214a : ByteArray := prog_14_method_91_code
def yJ2_checkIndex_2214a : MethodName := ⟨RJ2, "checkIndex", "(I[B)V"⟩
def RJ7 : String := "java/util/Arrays"
def TJ7 : u_T := fun k => match k with
  | _ => ("", "", "", false)
def tyJ7 : Nat → FieldType := fun k => match k with
  | _ => .int
theorem nmJ7 : ∀ a, a < 0 → ∀ b, b < 0 → a ≠ b → (TJ7 a).2.1 ≠ (TJ7 b).2.1 := by decide +kernel
theorem tyJ7_ok : ∀ k, k < 0 → parseFieldDescriptor (TJ7 k).2.2.1 = some (tyJ7 k) := by decide +kernel
abbrev cJ7_fill_d0a16 : ByteArray := prog_15_method_101_code
def yJ7_fill_d0a16 : MethodName := ⟨RJ7, "fill", "([JJ)V"⟩
abbrev cJ7_fill_53178 : ByteArray := prog_15_method_103_code
def yJ7_fill_53178 : MethodName := ⟨RJ7, "fill", "([II)V"⟩
def RJ3 : String := "jdk/internal/util/Preconditions"
def TJ3 : u_T := fun k => match k with
  | _ => ("", "", "", false)
def tyJ3 : Nat → FieldType := fun k => match k with
  | _ => .int
theorem nmJ3 : ∀ a, a < 0 → ∀ b, b < 0 → a ≠ b → (TJ3 a).2.1 ≠ (TJ3 b).2.1 := by decide +kernel
theorem tyJ3_ok : ∀ k, k < 0 → parseFieldDescriptor (TJ3 k).2.2.1 = some (tyJ3 k) := by decide +kernel
abbrev cJ3_checkIndex_8e157 : ByteArray := prog_16_method_11_code
def yJ3_checkIndex_8e157 : MethodName := ⟨RJ3, "checkIndex", "(IILjava/util/function/BiFunction;)I"⟩
def RL : String := "CrewSharesLaw"
abbrev cL_law : ByteArray := code
def yL_law : MethodName := ⟨RL, "law", "([I)Z"⟩
abbrev vwCl : List vw_C := [(RX0, TX0, 5), (RX1, TX1, 3), (RX2, TX2, 6), (RX3, TX3, 4), (RX4, TX4, 4), (RX5, TX5, 5), (RX6, TX6, 7), (RX7, TX7, 9), (RX8, TX8, 31)]
end
section
theorem dX0_init_0 : decode cX0_init 0 = .ok (.aload_n 0, 1) := by decide +kernel
theorem dX0_init_1 : decode cX0_init 1 = .ok (.invokespecial 3, 3) := by decide +kernel
theorem dX0_init_4 : decode cX0_init 4 = .ok (.aload_n 0, 1) := by decide +kernel
theorem dX0_init_5 : decode cX0_init 5 = .ok (.bipush 60, 2) := by decide +kernel
theorem dX0_init_7 : decode cX0_init 7 = .ok (.anewarray 11, 3) := by decide +kernel
theorem dX0_init_10 : decode cX0_init 10 = .ok (.putfield 13, 3) := by decide +kernel
theorem dX0_init_13 : decode cX0_init 13 = .ok (.aload_n 0, 1) := by decide +kernel
theorem dX0_init_14 : decode cX0_init 14 = .ok (.new 11, 3) := by decide +kernel
theorem dX0_init_17 : decode cX0_init 17 = .ok (.dup, 1) := by decide +kernel
theorem dX0_init_18 : decode cX0_init 18 = .ok (.invokespecial 17, 3) := by decide +kernel
theorem dX0_init_21 : decode cX0_init 21 = .ok (.putfield 18, 3) := by decide +kernel
theorem dX0_init_24 : decode cX0_init 24 = .ok (.return_, 1) := by decide +kernel
theorem dX0_begin_0 : decode cX0_begin 0 = .ok (.aload_n 0, 1) := by decide +kernel
theorem dX0_begin_1 : decode cX0_begin 1 = .ok (.getfield 22, 3) := by decide +kernel
theorem dX0_begin_4 : decode cX0_begin 4 = .ok (.ifCond .ne 18, 3) := by decide +kernel
theorem dX0_begin_7 : decode cX0_begin 7 = .ok (.aload_n 0, 1) := by decide +kernel
theorem dX0_begin_8 : decode cX0_begin 8 = .ok (.iload_n 1, 1) := by decide +kernel
theorem dX0_begin_9 : decode cX0_begin 9 = .ok (.invokevirtual 26, 3) := by decide +kernel
theorem dX0_begin_12 : decode cX0_begin 12 = .ok (.ifCond .eq 10, 3) := by decide +kernel
theorem dX0_begin_15 : decode cX0_begin 15 = .ok (.aload_n 0, 1) := by decide +kernel
theorem dX0_begin_16 : decode cX0_begin 16 = .ok (.invokevirtual 30, 3) := by decide +kernel
theorem dX0_begin_19 : decode cX0_begin 19 = .ok (.ifCond .eq 5, 3) := by decide +kernel
theorem dX0_begin_22 : decode cX0_begin 22 = .ok (.iconst 0, 1) := by decide +kernel
theorem dX0_begin_23 : decode cX0_begin 23 = .ok (.ireturn, 1) := by decide +kernel
theorem dX0_begin_24 : decode cX0_begin 24 = .ok (.aload_n 0, 1) := by decide +kernel
theorem dX0_begin_25 : decode cX0_begin 25 = .ok (.getfield 18, 3) := by decide +kernel
theorem dX0_begin_28 : decode cX0_begin 28 = .ok (.iload_n 1, 1) := by decide +kernel
theorem dX0_begin_29 : decode cX0_begin 29 = .ok (.invokevirtual 34, 3) := by decide +kernel
theorem dX0_begin_32 : decode cX0_begin 32 = .ok (.aload_n 0, 1) := by decide +kernel
theorem dX0_begin_33 : decode cX0_begin 33 = .ok (.iconst 1, 1) := by decide +kernel
theorem dX0_begin_34 : decode cX0_begin 34 = .ok (.putfield 22, 3) := by decide +kernel
theorem dX0_begin_37 : decode cX0_begin 37 = .ok (.iconst 1, 1) := by decide +kernel
theorem dX0_begin_38 : decode cX0_begin 38 = .ok (.ireturn, 1) := by decide +kernel
theorem dX0_addRow_0 : decode cX0_addRow 0 = .ok (.aload_n 0, 1) := by decide +kernel
theorem dX0_addRow_1 : decode cX0_addRow 1 = .ok (.getfield 22, 3) := by decide +kernel
theorem dX0_addRow_4 : decode cX0_addRow 4 = .ok (.ifCond .eq 16, 3) := by decide +kernel
theorem dX0_addRow_7 : decode cX0_addRow 7 = .ok (.iload_n 1, 1) := by decide +kernel
theorem dX0_addRow_8 : decode cX0_addRow 8 = .ok (.invokestatic 38, 3) := by decide +kernel
theorem dX0_addRow_11 : decode cX0_addRow 11 = .ok (.ifCond .eq 9, 3) := by decide +kernel
theorem dX0_addRow_14 : decode cX0_addRow 14 = .ok (.lload_n 2, 1) := by decide +kernel
theorem dX0_addRow_15 : decode cX0_addRow 15 = .ok (.lconst 0, 1) := by decide +kernel
theorem dX0_addRow_16 : decode cX0_addRow 16 = .ok (.lcmp, 1) := by decide +kernel
theorem dX0_addRow_17 : decode cX0_addRow 17 = .ok (.ifCond .ne 5, 3) := by decide +kernel
theorem dX0_addRow_20 : decode cX0_addRow 20 = .ok (.iconst (-1), 1) := by decide +kernel
theorem dX0_addRow_21 : decode cX0_addRow 21 = .ok (.ireturn, 1) := by decide +kernel
theorem dX0_addRow_22 : decode cX0_addRow 22 = .ok (.lload_n 2, 1) := by decide +kernel
theorem dX0_addRow_23 : decode cX0_addRow 23 = .ok (.ldc2_w 41, 3) := by decide +kernel
theorem dX0_addRow_26 : decode cX0_addRow 26 = .ok (.lcmp, 1) := by decide +kernel
theorem dX0_addRow_27 : decode cX0_addRow 27 = .ok (.ifCond .lt 21, 3) := by decide +kernel
theorem dX0_addRow_30 : decode cX0_addRow 30 = .ok (.lload_n 2, 1) := by decide +kernel
theorem dX0_addRow_31 : decode cX0_addRow 31 = .ok (.ldc2_w 43, 3) := by decide +kernel
theorem dX0_addRow_34 : decode cX0_addRow 34 = .ok (.lcmp, 1) := by decide +kernel
theorem dX0_addRow_35 : decode cX0_addRow 35 = .ok (.ifCond .gt 13, 3) := by decide +kernel
theorem dX0_addRow_38 : decode cX0_addRow 38 = .ok (.aload_n 0, 1) := by decide +kernel
theorem dX0_addRow_39 : decode cX0_addRow 39 = .ok (.getfield 18, 3) := by decide +kernel
theorem dX0_addRow_42 : decode cX0_addRow 42 = .ok (.invokevirtual 45, 3) := by decide +kernel
theorem dX0_addRow_45 : decode cX0_addRow 45 = .ok (.ifCond .eq 5, 3) := by decide +kernel
theorem dX0_addRow_48 : decode cX0_addRow 48 = .ok (.iconst (-1), 1) := by decide +kernel
theorem dX0_addRow_49 : decode cX0_addRow 49 = .ok (.ireturn, 1) := by decide +kernel
theorem dX0_addRow_50 : decode cX0_addRow 50 = .ok (.aload_n 0, 1) := by decide +kernel
theorem dX0_addRow_51 : decode cX0_addRow 51 = .ok (.getfield 18, 3) := by decide +kernel
theorem dX0_addRow_54 : decode cX0_addRow 54 = .ok (.iload_n 1, 1) := by decide +kernel
theorem dX0_addRow_55 : decode cX0_addRow 55 = .ok (.lload_n 2, 1) := by decide +kernel
theorem dX0_addRow_56 : decode cX0_addRow 56 = .ok (.invokevirtual 46, 3) := by decide +kernel
theorem dX0_addRow_59 : decode cX0_addRow 59 = .ok (.aload_n 0, 1) := by decide +kernel
theorem dX0_addRow_60 : decode cX0_addRow 60 = .ok (.getfield 18, 3) := by decide +kernel
theorem dX0_addRow_63 : decode cX0_addRow 63 = .ok (.getfield 50, 3) := by decide +kernel
theorem dX0_addRow_66 : decode cX0_addRow 66 = .ok (.ireturn, 1) := by decide +kernel
theorem dX0_takeIn_0 : decode cX0_takeIn 0 = .ok (.aload_n 0, 1) := by decide +kernel
theorem dX0_takeIn_1 : decode cX0_takeIn 1 = .ok (.getfield 22, 3) := by decide +kernel
theorem dX0_takeIn_4 : decode cX0_takeIn 4 = .ok (.ifCond .ne 5, 3) := by decide +kernel
theorem dX0_takeIn_7 : decode cX0_takeIn 7 = .ok (.iconst (-1), 1) := by decide +kernel
theorem dX0_takeIn_8 : decode cX0_takeIn 8 = .ok (.ireturn, 1) := by decide +kernel
theorem dX0_takeIn_9 : decode cX0_takeIn 9 = .ok (.aload_n 0, 1) := by decide +kernel
theorem dX0_takeIn_10 : decode cX0_takeIn 10 = .ok (.getfield 18, 3) := by decide +kernel
theorem dX0_takeIn_13 : decode cX0_takeIn 13 = .ok (.getfield 50, 3) := by decide +kernel
theorem dX0_takeIn_16 : decode cX0_takeIn 16 = .ok (.ifCond .eq 22, 3) := by decide +kernel
theorem dX0_takeIn_19 : decode cX0_takeIn 19 = .ok (.aload_n 0, 1) := by decide +kernel
theorem dX0_takeIn_20 : decode cX0_takeIn 20 = .ok (.getfield 18, 3) := by decide +kernel
theorem dX0_takeIn_23 : decode cX0_takeIn 23 = .ok (.invokevirtual 54, 3) := by decide +kernel
theorem dX0_takeIn_26 : decode cX0_takeIn 26 = .ok (.lconst 0, 1) := by decide +kernel
theorem dX0_takeIn_27 : decode cX0_takeIn 27 = .ok (.lcmp, 1) := by decide +kernel
theorem dX0_takeIn_28 : decode cX0_takeIn 28 = .ok (.ifCond .ne 10, 3) := by decide +kernel
theorem dX0_takeIn_31 : decode cX0_takeIn 31 = .ok (.aload_n 0, 1) := by decide +kernel
theorem dX0_takeIn_32 : decode cX0_takeIn 32 = .ok (.invokevirtual 30, 3) := by decide +kernel
theorem dX0_takeIn_35 : decode cX0_takeIn 35 = .ok (.ifCond .eq 5, 3) := by decide +kernel
theorem dX0_takeIn_38 : decode cX0_takeIn 38 = .ok (.iconst 0, 1) := by decide +kernel
theorem dX0_takeIn_39 : decode cX0_takeIn 39 = .ok (.ireturn, 1) := by decide +kernel
theorem dX0_takeIn_40 : decode cX0_takeIn 40 = .ok (.aload_n 0, 1) := by decide +kernel
theorem dX0_takeIn_41 : decode cX0_takeIn 41 = .ok (.aload_n 0, 1) := by decide +kernel
theorem dX0_takeIn_42 : decode cX0_takeIn 42 = .ok (.getfield 18, 3) := by decide +kernel
theorem dX0_takeIn_45 : decode cX0_takeIn 45 = .ok (.invokevirtual 58, 3) := by decide +kernel
theorem dX0_takeIn_48 : decode cX0_takeIn 48 = .ok (.istore_n 1, 1) := by decide +kernel
theorem dX0_takeIn_49 : decode cX0_takeIn 49 = .ok (.aload_n 0, 1) := by decide +kernel
theorem dX0_takeIn_50 : decode cX0_takeIn 50 = .ok (.new 11, 3) := by decide +kernel
theorem dX0_takeIn_53 : decode cX0_takeIn 53 = .ok (.dup, 1) := by decide +kernel
theorem dX0_takeIn_54 : decode cX0_takeIn 54 = .ok (.invokespecial 17, 3) := by decide +kernel
theorem dX0_takeIn_57 : decode cX0_takeIn 57 = .ok (.putfield 18, 3) := by decide +kernel
theorem dX0_takeIn_60 : decode cX0_takeIn 60 = .ok (.aload_n 0, 1) := by decide +kernel
theorem dX0_takeIn_61 : decode cX0_takeIn 61 = .ok (.iconst 0, 1) := by decide +kernel
theorem dX0_takeIn_62 : decode cX0_takeIn 62 = .ok (.putfield 22, 3) := by decide +kernel
theorem dX0_takeIn_65 : decode cX0_takeIn 65 = .ok (.iload_n 1, 1) := by decide +kernel
theorem dX0_takeIn_66 : decode cX0_takeIn 66 = .ok (.ireturn, 1) := by decide +kernel
theorem dX0_giveUp_0 : decode cX0_giveUp 0 = .ok (.aload_n 0, 1) := by decide +kernel
theorem dX0_giveUp_1 : decode cX0_giveUp 1 = .ok (.getfield 22, 3) := by decide +kernel
theorem dX0_giveUp_4 : decode cX0_giveUp 4 = .ok (.ifCond .ne 5, 3) := by decide +kernel
theorem dX0_giveUp_7 : decode cX0_giveUp 7 = .ok (.iconst (-1), 1) := by decide +kernel
theorem dX0_giveUp_8 : decode cX0_giveUp 8 = .ok (.ireturn, 1) := by decide +kernel
theorem dX0_giveUp_9 : decode cX0_giveUp 9 = .ok (.aload_n 0, 1) := by decide +kernel
theorem dX0_giveUp_10 : decode cX0_giveUp 10 = .ok (.iconst 0, 1) := by decide +kernel
theorem dX0_giveUp_11 : decode cX0_giveUp 11 = .ok (.putfield 22, 3) := by decide +kernel
theorem dX0_giveUp_14 : decode cX0_giveUp 14 = .ok (.aload_n 0, 1) := by decide +kernel
theorem dX0_giveUp_15 : decode cX0_giveUp 15 = .ok (.getfield 18, 3) := by decide +kernel
theorem dX0_giveUp_18 : decode cX0_giveUp 18 = .ok (.getfield 50, 3) := by decide +kernel
theorem dX0_giveUp_21 : decode cX0_giveUp 21 = .ok (.ireturn, 1) := by decide +kernel
theorem dX0_closeUpTo_0 : decode cX0_closeUpTo 0 = .ok (.iload_n 1, 1) := by decide +kernel
theorem dX0_closeUpTo_1 : decode cX0_closeUpTo 1 = .ok (.invokestatic 62, 3) := by decide +kernel
theorem dX0_closeUpTo_4 : decode cX0_closeUpTo 4 = .ok (.ifCond .eq 24, 3) := by decide +kernel
theorem dX0_closeUpTo_7 : decode cX0_closeUpTo 7 = .ok (.aload_n 0, 1) := by decide +kernel
theorem dX0_closeUpTo_8 : decode cX0_closeUpTo 8 = .ok (.getfield 22, 3) := by decide +kernel
theorem dX0_closeUpTo_11 : decode cX0_closeUpTo 11 = .ok (.ifCond .eq 19, 3) := by decide +kernel
theorem dX0_closeUpTo_14 : decode cX0_closeUpTo 14 = .ok (.aload_n 0, 1) := by decide +kernel
theorem dX0_closeUpTo_15 : decode cX0_closeUpTo 15 = .ok (.getfield 18, 3) := by decide +kernel
theorem dX0_closeUpTo_18 : decode cX0_closeUpTo 18 = .ok (.getfield 65, 3) := by decide +kernel
theorem dX0_closeUpTo_21 : decode cX0_closeUpTo 21 = .ok (.invokestatic 68, 3) := by decide +kernel
theorem dX0_closeUpTo_24 : decode cX0_closeUpTo 24 = .ok (.iload_n 1, 1) := by decide +kernel
theorem dX0_closeUpTo_25 : decode cX0_closeUpTo 25 = .ok (.if_icmp .gt 5, 3) := by decide +kernel
theorem dX0_closeUpTo_28 : decode cX0_closeUpTo 28 = .ok (.iconst (-1), 1) := by decide +kernel
theorem dX0_closeUpTo_29 : decode cX0_closeUpTo 29 = .ok (.ireturn, 1) := by decide +kernel
theorem dX0_closeUpTo_30 : decode cX0_closeUpTo 30 = .ok (.aload_n 0, 1) := by decide +kernel
theorem dX0_closeUpTo_31 : decode cX0_closeUpTo 31 = .ok (.getfield 72, 3) := by decide +kernel
theorem dX0_closeUpTo_34 : decode cX0_closeUpTo 34 = .ok (.istore_n 2, 1) := by decide +kernel
theorem dX0_closeUpTo_35 : decode cX0_closeUpTo 35 = .ok (.aload_n 0, 1) := by decide +kernel
theorem dX0_closeUpTo_36 : decode cX0_closeUpTo 36 = .ok (.iload_n 2, 1) := by decide +kernel
theorem dX0_closeUpTo_37 : decode cX0_closeUpTo 37 = .ok (.iload_n 1, 1) := by decide +kernel
theorem dX0_closeUpTo_38 : decode cX0_closeUpTo 38 = .ok (.iconst 1, 1) := by decide +kernel
theorem dX0_closeUpTo_39 : decode cX0_closeUpTo 39 = .ok (.iadd, 1) := by decide +kernel
theorem dX0_closeUpTo_40 : decode cX0_closeUpTo 40 = .ok (.invokestatic 75, 3) := by decide +kernel
theorem dX0_closeUpTo_43 : decode cX0_closeUpTo 43 = .ok (.putfield 72, 3) := by decide +kernel
theorem dX0_closeUpTo_46 : decode cX0_closeUpTo 46 = .ok (.aload_n 0, 1) := by decide +kernel
theorem dX0_closeUpTo_47 : decode cX0_closeUpTo 47 = .ok (.getfield 72, 3) := by decide +kernel
theorem dX0_closeUpTo_50 : decode cX0_closeUpTo 50 = .ok (.iload_n 2, 1) := by decide +kernel
theorem dX0_closeUpTo_51 : decode cX0_closeUpTo 51 = .ok (.isub, 1) := by decide +kernel
theorem dX0_closeUpTo_52 : decode cX0_closeUpTo 52 = .ok (.ireturn, 1) := by decide +kernel
theorem dX0_takeBack_0 : decode cX0_takeBack 0 = .ok (.aload_n 0, 1) := by decide +kernel
theorem dX0_takeBack_1 : decode cX0_takeBack 1 = .ok (.iload_n 1, 1) := by decide +kernel
theorem dX0_takeBack_2 : decode cX0_takeBack 2 = .ok (.invokevirtual 81, 3) := by decide +kernel
theorem dX0_takeBack_5 : decode cX0_takeBack 5 = .ok (.astore_n 3, 1) := by decide +kernel
theorem dX0_takeBack_6 : decode cX0_takeBack 6 = .ok (.aload_n 3, 1) := by decide +kernel
theorem dX0_takeBack_7 : decode cX0_takeBack 7 = .ok (.ifnull 28, 3) := by decide +kernel
theorem dX0_takeBack_10 : decode cX0_takeBack 10 = .ok (.aload_n 0, 1) := by decide +kernel
theorem dX0_takeBack_11 : decode cX0_takeBack 11 = .ok (.aload_n 3, 1) := by decide +kernel
theorem dX0_takeBack_12 : decode cX0_takeBack 12 = .ok (.getfield 65, 3) := by decide +kernel
theorem dX0_takeBack_15 : decode cX0_takeBack 15 = .ok (.invokevirtual 85, 3) := by decide +kernel
theorem dX0_takeBack_18 : decode cX0_takeBack 18 = .ok (.ifCond .eq 17, 3) := by decide +kernel
theorem dX0_takeBack_21 : decode cX0_takeBack 21 = .ok (.aload_n 3, 1) := by decide +kernel
theorem dX0_takeBack_22 : decode cX0_takeBack 22 = .ok (.invokevirtual 88, 3) := by decide +kernel
theorem dX0_takeBack_25 : decode cX0_takeBack 25 = .ok (.ifCond .ne 10, 3) := by decide +kernel
theorem dX0_takeBack_28 : decode cX0_takeBack 28 = .ok (.aload_n 3, 1) := by decide +kernel
theorem dX0_takeBack_29 : decode cX0_takeBack 29 = .ok (.invokevirtual 91, 3) := by decide +kernel
theorem dX0_takeBack_32 : decode cX0_takeBack 32 = .ok (.ifCond .eq 5, 3) := by decide +kernel
theorem dX0_takeBack_35 : decode cX0_takeBack 35 = .ok (.iconst (-1), 1) := by decide +kernel
theorem dX0_takeBack_36 : decode cX0_takeBack 36 = .ok (.ireturn, 1) := by decide +kernel
theorem dX0_takeBack_37 : decode cX0_takeBack 37 = .ok (.aload_n 0, 1) := by decide +kernel
theorem dX0_takeBack_38 : decode cX0_takeBack 38 = .ok (.iload_n 2, 1) := by decide +kernel
theorem dX0_takeBack_39 : decode cX0_takeBack 39 = .ok (.invokevirtual 26, 3) := by decide +kernel
theorem dX0_takeBack_42 : decode cX0_takeBack 42 = .ok (.ifCond .eq 10, 3) := by decide +kernel
theorem dX0_takeBack_45 : decode cX0_takeBack 45 = .ok (.aload_n 0, 1) := by decide +kernel
theorem dX0_takeBack_46 : decode cX0_takeBack 46 = .ok (.invokevirtual 30, 3) := by decide +kernel
theorem dX0_takeBack_49 : decode cX0_takeBack 49 = .ok (.ifCond .eq 5, 3) := by decide +kernel
theorem dX0_takeBack_52 : decode cX0_takeBack 52 = .ok (.iconst (-1), 1) := by decide +kernel
theorem dX0_takeBack_53 : decode cX0_takeBack 53 = .ok (.ireturn, 1) := by decide +kernel
theorem dX0_takeBack_54 : decode cX0_takeBack 54 = .ok (.new 11, 3) := by decide +kernel
theorem dX0_takeBack_57 : decode cX0_takeBack 57 = .ok (.dup, 1) := by decide +kernel
theorem dX0_takeBack_58 : decode cX0_takeBack 58 = .ok (.invokespecial 17, 3) := by decide +kernel
theorem dX0_takeBack_61 : decode cX0_takeBack 61 = .ok (.astore 4, 2) := by decide +kernel
theorem dX0_takeBack_63 : decode cX0_takeBack 63 = .ok (.aload 4, 2) := by decide +kernel
theorem dX0_takeBack_65 : decode cX0_takeBack 65 = .ok (.iload_n 2, 1) := by decide +kernel
theorem dX0_takeBack_66 : decode cX0_takeBack 66 = .ok (.invokevirtual 34, 3) := by decide +kernel
theorem dX0_takeBack_69 : decode cX0_takeBack 69 = .ok (.aload 4, 2) := by decide +kernel
theorem dX0_takeBack_71 : decode cX0_takeBack 71 = .ok (.aload_n 3, 1) := by decide +kernel
theorem dX0_takeBack_72 : decode cX0_takeBack 72 = .ok (.invokevirtual 94, 3) := by decide +kernel
theorem dX0_takeBack_75 : decode cX0_takeBack 75 = .ok (.aload 4, 2) := by decide +kernel
theorem dX0_takeBack_77 : decode cX0_takeBack 77 = .ok (.iload_n 1, 1) := by decide +kernel
theorem dX0_takeBack_78 : decode cX0_takeBack 78 = .ok (.putfield 98, 3) := by decide +kernel
theorem dX0_takeBack_81 : decode cX0_takeBack 81 = .ok (.aload_n 3, 1) := by decide +kernel
theorem dX0_takeBack_82 : decode cX0_takeBack 82 = .ok (.aload_n 0, 1) := by decide +kernel
theorem dX0_takeBack_83 : decode cX0_takeBack 83 = .ok (.aload 4, 2) := by decide +kernel
theorem dX0_takeBack_85 : decode cX0_takeBack 85 = .ok (.invokevirtual 58, 3) := by decide +kernel
theorem dX0_takeBack_88 : decode cX0_takeBack 88 = .ok (.putfield 101, 3) := by decide +kernel
theorem dX0_takeBack_91 : decode cX0_takeBack 91 = .ok (.aload_n 3, 1) := by decide +kernel
theorem dX0_takeBack_92 : decode cX0_takeBack 92 = .ok (.getfield 101, 3) := by decide +kernel
theorem dX0_takeBack_95 : decode cX0_takeBack 95 = .ok (.ireturn, 1) := by decide +kernel
theorem dX0_totalOf_0 : decode cX0_totalOf 0 = .ok (.iload_n 1, 1) := by decide +kernel
theorem dX0_totalOf_1 : decode cX0_totalOf 1 = .ok (.invokestatic 38, 3) := by decide +kernel
theorem dX0_totalOf_4 : decode cX0_totalOf 4 = .ok (.ifCond .eq 10, 3) := by decide +kernel
theorem dX0_totalOf_7 : decode cX0_totalOf 7 = .ok (.iload_n 2, 1) := by decide +kernel
theorem dX0_totalOf_8 : decode cX0_totalOf 8 = .ok (.invokestatic 62, 3) := by decide +kernel
theorem dX0_totalOf_11 : decode cX0_totalOf 11 = .ok (.ifCond .ne 7, 3) := by decide +kernel
theorem dX0_totalOf_14 : decode cX0_totalOf 14 = .ok (.ldc2_w 104, 3) := by decide +kernel
theorem dX0_totalOf_17 : decode cX0_totalOf 17 = .ok (.lreturn, 1) := by decide +kernel
theorem dX0_totalOf_18 : decode cX0_totalOf 18 = .ok (.lconst 0, 1) := by decide +kernel
theorem dX0_totalOf_19 : decode cX0_totalOf 19 = .ok (.lstore_n 3, 1) := by decide +kernel
theorem dX0_totalOf_20 : decode cX0_totalOf 20 = .ok (.iconst 0, 1) := by decide +kernel
theorem dX0_totalOf_21 : decode cX0_totalOf 21 = .ok (.istore 5, 2) := by decide +kernel
theorem dX0_totalOf_23 : decode cX0_totalOf 23 = .ok (.iload 5, 2) := by decide +kernel
theorem dX0_totalOf_25 : decode cX0_totalOf 25 = .ok (.aload_n 0, 1) := by decide +kernel
theorem dX0_totalOf_26 : decode cX0_totalOf 26 = .ok (.getfield 106, 3) := by decide +kernel
theorem dX0_totalOf_29 : decode cX0_totalOf 29 = .ok (.if_icmp .ge 44, 3) := by decide +kernel
theorem dX0_totalOf_32 : decode cX0_totalOf 32 = .ok (.aload_n 0, 1) := by decide +kernel
theorem dX0_totalOf_33 : decode cX0_totalOf 33 = .ok (.getfield 13, 3) := by decide +kernel
theorem dX0_totalOf_36 : decode cX0_totalOf 36 = .ok (.iload 5, 2) := by decide +kernel
theorem dX0_totalOf_38 : decode cX0_totalOf 38 = .ok (.aaload, 1) := by decide +kernel
theorem dX0_totalOf_39 : decode cX0_totalOf 39 = .ok (.astore 6, 2) := by decide +kernel
theorem dX0_totalOf_41 : decode cX0_totalOf 41 = .ok (.aload 6, 2) := by decide +kernel
theorem dX0_totalOf_43 : decode cX0_totalOf 43 = .ok (.ifnull 24, 3) := by decide +kernel
theorem dX0_totalOf_46 : decode cX0_totalOf 46 = .ok (.aload 6, 2) := by decide +kernel
theorem dX0_totalOf_48 : decode cX0_totalOf 48 = .ok (.getfield 65, 3) := by decide +kernel
theorem dX0_totalOf_51 : decode cX0_totalOf 51 = .ok (.invokestatic 68, 3) := by decide +kernel
theorem dX0_totalOf_54 : decode cX0_totalOf 54 = .ok (.iload_n 2, 1) := by decide +kernel
theorem dX0_totalOf_55 : decode cX0_totalOf 55 = .ok (.if_icmp .gt 12, 3) := by decide +kernel
theorem dX0_totalOf_58 : decode cX0_totalOf 58 = .ok (.lload_n 3, 1) := by decide +kernel
theorem dX0_totalOf_59 : decode cX0_totalOf 59 = .ok (.aload 6, 2) := by decide +kernel
theorem dX0_totalOf_61 : decode cX0_totalOf 61 = .ok (.iload_n 1, 1) := by decide +kernel
theorem dX0_totalOf_62 : decode cX0_totalOf 62 = .ok (.invokevirtual 107, 3) := by decide +kernel
theorem dX0_totalOf_65 : decode cX0_totalOf 65 = .ok (.ladd, 1) := by decide +kernel
theorem dX0_totalOf_66 : decode cX0_totalOf 66 = .ok (.lstore_n 3, 1) := by decide +kernel
theorem dX0_totalOf_67 : decode cX0_totalOf 67 = .ok (.iinc 5 1, 3) := by decide +kernel
theorem dX0_totalOf_70 : decode cX0_totalOf 70 = .ok (.goto (-47), 3) := by decide +kernel
theorem dX0_totalOf_73 : decode cX0_totalOf 73 = .ok (.lload_n 3, 1) := by decide +kernel
theorem dX0_totalOf_74 : decode cX0_totalOf 74 = .ok (.lreturn, 1) := by decide +kernel
theorem dX0_tell_0 : decode cX0_tell 0 = .ok (.aload_n 0, 1) := by decide +kernel
theorem dX0_tell_1 : decode cX0_tell 1 = .ok (.iload_n 1, 1) := by decide +kernel
theorem dX0_tell_2 : decode cX0_tell 2 = .ok (.invokevirtual 81, 3) := by decide +kernel
theorem dX0_tell_5 : decode cX0_tell 5 = .ok (.astore 4, 2) := by decide +kernel
theorem dX0_tell_7 : decode cX0_tell 7 = .ok (.aload 4, 2) := by decide +kernel
theorem dX0_tell_9 : decode cX0_tell 9 = .ok (.ifnonnull 7, 3) := by decide +kernel
theorem dX0_tell_12 : decode cX0_tell 12 = .ok (.ldc2_w 104, 3) := by decide +kernel
theorem dX0_tell_15 : decode cX0_tell 15 = .ok (.lreturn, 1) := by decide +kernel
theorem dX0_tell_16 : decode cX0_tell 16 = .ok (.iload_n 2, 1) := by decide +kernel
theorem dX0_tell_17 : decode cX0_tell 17 = .ok (.iconst (-1), 1) := by decide +kernel
theorem dX0_tell_18 : decode cX0_tell 18 = .ok (.if_icmp .ne 12, 3) := by decide +kernel
theorem dX0_tell_21 : decode cX0_tell 21 = .ok (.aload 4, 2) := by decide +kernel
theorem dX0_tell_23 : decode cX0_tell 23 = .ok (.iload_n 3, 1) := by decide +kernel
theorem dX0_tell_24 : decode cX0_tell 24 = .ok (.invokevirtual 111, 3) := by decide +kernel
theorem dX0_tell_27 : decode cX0_tell 27 = .ok (.goto 10, 3) := by decide +kernel
theorem dX0_tell_30 : decode cX0_tell 30 = .ok (.aload 4, 2) := by decide +kernel
theorem dX0_tell_32 : decode cX0_tell 32 = .ok (.iload_n 2, 1) := by decide +kernel
theorem dX0_tell_33 : decode cX0_tell 33 = .ok (.iload_n 3, 1) := by decide +kernel
theorem dX0_tell_34 : decode cX0_tell 34 = .ok (.invokevirtual 114, 3) := by decide +kernel
theorem dX0_tell_37 : decode cX0_tell 37 = .ok (.lreturn, 1) := by decide +kernel
theorem dX0_putIn_0 : decode cX0_putIn 0 = .ok (.aload_n 0, 1) := by decide +kernel
theorem dX0_putIn_1 : decode cX0_putIn 1 = .ok (.getfield 106, 3) := by decide +kernel
theorem dX0_putIn_4 : decode cX0_putIn 4 = .ok (.bipush 60, 2) := by decide +kernel
theorem dX0_putIn_6 : decode cX0_putIn 6 = .ok (.if_icmp .ge 23, 3) := by decide +kernel
theorem dX0_putIn_9 : decode cX0_putIn 9 = .ok (.aload_n 0, 1) := by decide +kernel
theorem dX0_putIn_10 : decode cX0_putIn 10 = .ok (.getfield 13, 3) := by decide +kernel
theorem dX0_putIn_13 : decode cX0_putIn 13 = .ok (.aload_n 0, 1) := by decide +kernel
theorem dX0_putIn_14 : decode cX0_putIn 14 = .ok (.getfield 106, 3) := by decide +kernel
theorem dX0_putIn_17 : decode cX0_putIn 17 = .ok (.aload_n 1, 1) := by decide +kernel
theorem dX0_putIn_18 : decode cX0_putIn 18 = .ok (.aastore, 1) := by decide +kernel
theorem dX0_putIn_19 : decode cX0_putIn 19 = .ok (.aload_n 0, 1) := by decide +kernel
theorem dX0_putIn_20 : decode cX0_putIn 20 = .ok (.dup, 1) := by decide +kernel
theorem dX0_putIn_21 : decode cX0_putIn 21 = .ok (.getfield 106, 3) := by decide +kernel
theorem dX0_putIn_24 : decode cX0_putIn 24 = .ok (.iconst 1, 1) := by decide +kernel
theorem dX0_putIn_25 : decode cX0_putIn 25 = .ok (.iadd, 1) := by decide +kernel
theorem dX0_putIn_26 : decode cX0_putIn 26 = .ok (.putfield 106, 3) := by decide +kernel
theorem dX0_putIn_29 : decode cX0_putIn 29 = .ok (.aload_n 0, 1) := by decide +kernel
theorem dX0_putIn_30 : decode cX0_putIn 30 = .ok (.getfield 106, 3) := by decide +kernel
theorem dX0_putIn_33 : decode cX0_putIn 33 = .ok (.ireturn, 1) := by decide +kernel
theorem dX0_entryAt_0 : decode cX0_entryAt 0 = .ok (.iload_n 1, 1) := by decide +kernel
theorem dX0_entryAt_1 : decode cX0_entryAt 1 = .ok (.iconst 1, 1) := by decide +kernel
theorem dX0_entryAt_2 : decode cX0_entryAt 2 = .ok (.if_icmp .lt 22, 3) := by decide +kernel
theorem dX0_entryAt_5 : decode cX0_entryAt 5 = .ok (.iload_n 1, 1) := by decide +kernel
theorem dX0_entryAt_6 : decode cX0_entryAt 6 = .ok (.aload_n 0, 1) := by decide +kernel
theorem dX0_entryAt_7 : decode cX0_entryAt 7 = .ok (.getfield 106, 3) := by decide +kernel
theorem dX0_entryAt_10 : decode cX0_entryAt 10 = .ok (.if_icmp .gt 14, 3) := by decide +kernel
theorem dX0_entryAt_13 : decode cX0_entryAt 13 = .ok (.aload_n 0, 1) := by decide +kernel
theorem dX0_entryAt_14 : decode cX0_entryAt 14 = .ok (.getfield 13, 3) := by decide +kernel
theorem dX0_entryAt_17 : decode cX0_entryAt 17 = .ok (.iload_n 1, 1) := by decide +kernel
theorem dX0_entryAt_18 : decode cX0_entryAt 18 = .ok (.iconst 1, 1) := by decide +kernel
theorem dX0_entryAt_19 : decode cX0_entryAt 19 = .ok (.isub, 1) := by decide +kernel
theorem dX0_entryAt_20 : decode cX0_entryAt 20 = .ok (.aaload, 1) := by decide +kernel
theorem dX0_entryAt_21 : decode cX0_entryAt 21 = .ok (.goto 4, 3) := by decide +kernel
theorem dX0_entryAt_24 : decode cX0_entryAt 24 = .ok (.aconst_null, 1) := by decide +kernel
theorem dX0_entryAt_25 : decode cX0_entryAt 25 = .ok (.areturn, 1) := by decide +kernel
theorem dX0_isFull_0 : decode cX0_isFull 0 = .ok (.aload_n 0, 1) := by decide +kernel
theorem dX0_isFull_1 : decode cX0_isFull 1 = .ok (.getfield 106, 3) := by decide +kernel
theorem dX0_isFull_4 : decode cX0_isFull 4 = .ok (.bipush 60, 2) := by decide +kernel
theorem dX0_isFull_6 : decode cX0_isFull 6 = .ok (.if_icmp .lt 7, 3) := by decide +kernel
theorem dX0_isFull_9 : decode cX0_isFull 9 = .ok (.iconst 1, 1) := by decide +kernel
theorem dX0_isFull_10 : decode cX0_isFull 10 = .ok (.goto 4, 3) := by decide +kernel
theorem dX0_isFull_13 : decode cX0_isFull 13 = .ok (.iconst 0, 1) := by decide +kernel
theorem dX0_isFull_14 : decode cX0_isFull 14 = .ok (.ireturn, 1) := by decide +kernel
theorem dX0_takesDay_0 : decode cX0_takesDay 0 = .ok (.iload_n 1, 1) := by decide +kernel
theorem dX0_takesDay_1 : decode cX0_takesDay 1 = .ok (.ifCond .lt 22, 3) := by decide +kernel
theorem dX0_takesDay_4 : decode cX0_takesDay 4 = .ok (.iload_n 1, 1) := by decide +kernel
theorem dX0_takesDay_5 : decode cX0_takesDay 5 = .ok (.sipush 3600, 3) := by decide +kernel
theorem dX0_takesDay_8 : decode cX0_takesDay 8 = .ok (.if_icmp .ge 15, 3) := by decide +kernel
theorem dX0_takesDay_11 : decode cX0_takesDay 11 = .ok (.aload_n 0, 1) := by decide +kernel
theorem dX0_takesDay_12 : decode cX0_takesDay 12 = .ok (.iload_n 1, 1) := by decide +kernel
theorem dX0_takesDay_13 : decode cX0_takesDay 13 = .ok (.invokevirtual 85, 3) := by decide +kernel
theorem dX0_takesDay_16 : decode cX0_takesDay 16 = .ok (.ifCond .ne 7, 3) := by decide +kernel
theorem dX0_takesDay_19 : decode cX0_takesDay 19 = .ok (.iconst 1, 1) := by decide +kernel
theorem dX0_takesDay_20 : decode cX0_takesDay 20 = .ok (.goto 4, 3) := by decide +kernel
theorem dX0_takesDay_23 : decode cX0_takesDay 23 = .ok (.iconst 0, 1) := by decide +kernel
theorem dX0_takesDay_24 : decode cX0_takesDay 24 = .ok (.ireturn, 1) := by decide +kernel
theorem dX0_isClosed_0 : decode cX0_isClosed 0 = .ok (.iload_n 1, 1) := by decide +kernel
theorem dX0_isClosed_1 : decode cX0_isClosed 1 = .ok (.invokestatic 68, 3) := by decide +kernel
theorem dX0_isClosed_4 : decode cX0_isClosed 4 = .ok (.aload_n 0, 1) := by decide +kernel
theorem dX0_isClosed_5 : decode cX0_isClosed 5 = .ok (.getfield 72, 3) := by decide +kernel
theorem dX0_isClosed_8 : decode cX0_isClosed 8 = .ok (.if_icmp .ge 7, 3) := by decide +kernel
theorem dX0_isClosed_11 : decode cX0_isClosed 11 = .ok (.iconst 1, 1) := by decide +kernel
theorem dX0_isClosed_12 : decode cX0_isClosed 12 = .ok (.goto 4, 3) := by decide +kernel
theorem dX0_isClosed_15 : decode cX0_isClosed 15 = .ok (.iconst 0, 1) := by decide +kernel
theorem dX0_isClosed_16 : decode cX0_isClosed 16 = .ok (.ireturn, 1) := by decide +kernel
theorem dX0_monthOf_0 : decode cX0_monthOf 0 = .ok (.iload_n 0, 1) := by decide +kernel
theorem dX0_monthOf_1 : decode cX0_monthOf 1 = .ok (.bipush 30, 2) := by decide +kernel
theorem dX0_monthOf_3 : decode cX0_monthOf 3 = .ok (.idiv, 1) := by decide +kernel
theorem dX0_monthOf_4 : decode cX0_monthOf 4 = .ok (.ireturn, 1) := by decide +kernel
theorem dX0_isMonth_0 : decode cX0_isMonth 0 = .ok (.iload_n 0, 1) := by decide +kernel
theorem dX0_isMonth_1 : decode cX0_isMonth 1 = .ok (.ifCond .lt 13, 3) := by decide +kernel
theorem dX0_isMonth_4 : decode cX0_isMonth 4 = .ok (.iload_n 0, 1) := by decide +kernel
theorem dX0_isMonth_5 : decode cX0_isMonth 5 = .ok (.bipush 120, 2) := by decide +kernel
theorem dX0_isMonth_7 : decode cX0_isMonth 7 = .ok (.if_icmp .ge 7, 3) := by decide +kernel
theorem dX0_isMonth_10 : decode cX0_isMonth 10 = .ok (.iconst 1, 1) := by decide +kernel
theorem dX0_isMonth_11 : decode cX0_isMonth 11 = .ok (.goto 4, 3) := by decide +kernel
theorem dX0_isMonth_14 : decode cX0_isMonth 14 = .ok (.iconst 0, 1) := by decide +kernel
theorem dX0_isMonth_15 : decode cX0_isMonth 15 = .ok (.ireturn, 1) := by decide +kernel
theorem dX0_isAccount_0 : decode cX0_isAccount 0 = .ok (.iload_n 0, 1) := by decide +kernel
theorem dX0_isAccount_1 : decode cX0_isAccount 1 = .ok (.ifCond .lt 13, 3) := by decide +kernel
theorem dX0_isAccount_4 : decode cX0_isAccount 4 = .ok (.iload_n 0, 1) := by decide +kernel
theorem dX0_isAccount_5 : decode cX0_isAccount 5 = .ok (.bipush 20, 2) := by decide +kernel
theorem dX0_isAccount_7 : decode cX0_isAccount 7 = .ok (.if_icmp .ge 7, 3) := by decide +kernel
theorem dX0_isAccount_10 : decode cX0_isAccount 10 = .ok (.iconst 1, 1) := by decide +kernel
theorem dX0_isAccount_11 : decode cX0_isAccount 11 = .ok (.goto 4, 3) := by decide +kernel
theorem dX0_isAccount_14 : decode cX0_isAccount 14 = .ok (.iconst 0, 1) := by decide +kernel
theorem dX0_isAccount_15 : decode cX0_isAccount 15 = .ok (.ireturn, 1) := by decide +kernel
theorem dX1_init_0 : decode cX1_init 0 = .ok (.aload_n 0, 1) := by decide +kernel
theorem dX1_init_1 : decode cX1_init 1 = .ok (.invokespecial 3, 3) := by decide +kernel
theorem dX1_init_4 : decode cX1_init 4 = .ok (.aload_n 0, 1) := by decide +kernel
theorem dX1_init_5 : decode cX1_init 5 = .ok (.bipush 12, 2) := by decide +kernel
theorem dX1_init_7 : decode cX1_init 7 = .ok (.newarray .int, 2) := by decide +kernel
theorem dX1_init_9 : decode cX1_init 9 = .ok (.putfield 9, 3) := by decide +kernel
theorem dX1_init_12 : decode cX1_init 12 = .ok (.aload_n 0, 1) := by decide +kernel
theorem dX1_init_13 : decode cX1_init 13 = .ok (.bipush 12, 2) := by decide +kernel
theorem dX1_init_15 : decode cX1_init 15 = .ok (.newarray .long, 2) := by decide +kernel
theorem dX1_init_17 : decode cX1_init 17 = .ok (.putfield 15, 3) := by decide +kernel
theorem dX1_init_20 : decode cX1_init 20 = .ok (.return_, 1) := by decide +kernel
theorem dX1_join_0 : decode cX1_join 0 = .ok (.iload_n 1, 1) := by decide +kernel
theorem dX1_join_1 : decode cX1_join 1 = .ok (.ifCond .lt 18, 3) := by decide +kernel
theorem dX1_join_4 : decode cX1_join 4 = .ok (.iload_n 1, 1) := by decide +kernel
theorem dX1_join_5 : decode cX1_join 5 = .ok (.bipush 10, 2) := by decide +kernel
theorem dX1_join_7 : decode cX1_join 7 = .ok (.if_icmp .ge 12, 3) := by decide +kernel
theorem dX1_join_10 : decode cX1_join 10 = .ok (.aload_n 0, 1) := by decide +kernel
theorem dX1_join_11 : decode cX1_join 11 = .ok (.getfield 19, 3) := by decide +kernel
theorem dX1_join_14 : decode cX1_join 14 = .ok (.bipush 12, 2) := by decide +kernel
theorem dX1_join_16 : decode cX1_join 16 = .ok (.if_icmp .lt 5, 3) := by decide +kernel
theorem dX1_join_19 : decode cX1_join 19 = .ok (.iconst (-1), 1) := by decide +kernel
theorem dX1_join_20 : decode cX1_join 20 = .ok (.ireturn, 1) := by decide +kernel
theorem dX1_join_21 : decode cX1_join 21 = .ok (.aload_n 0, 1) := by decide +kernel
theorem dX1_join_22 : decode cX1_join 22 = .ok (.getfield 9, 3) := by decide +kernel
theorem dX1_join_25 : decode cX1_join 25 = .ok (.aload_n 0, 1) := by decide +kernel
theorem dX1_join_26 : decode cX1_join 26 = .ok (.getfield 19, 3) := by decide +kernel
theorem dX1_join_29 : decode cX1_join 29 = .ok (.iload_n 1, 1) := by decide +kernel
theorem dX1_join_30 : decode cX1_join 30 = .ok (.iastore, 1) := by decide +kernel
theorem dX1_join_31 : decode cX1_join 31 = .ok (.aload_n 0, 1) := by decide +kernel
theorem dX1_join_32 : decode cX1_join 32 = .ok (.dup, 1) := by decide +kernel
theorem dX1_join_33 : decode cX1_join 33 = .ok (.getfield 19, 3) := by decide +kernel
theorem dX1_join_36 : decode cX1_join 36 = .ok (.iconst 1, 1) := by decide +kernel
theorem dX1_join_37 : decode cX1_join 37 = .ok (.iadd, 1) := by decide +kernel
theorem dX1_join_38 : decode cX1_join 38 = .ok (.putfield 19, 3) := by decide +kernel
theorem dX1_join_41 : decode cX1_join 41 = .ok (.aload_n 0, 1) := by decide +kernel
theorem dX1_join_42 : decode cX1_join 42 = .ok (.getfield 19, 3) := by decide +kernel
theorem dX1_join_45 : decode cX1_join 45 = .ok (.iconst 1, 1) := by decide +kernel
theorem dX1_join_46 : decode cX1_join 46 = .ok (.isub, 1) := by decide +kernel
theorem dX1_join_47 : decode cX1_join 47 = .ok (.ireturn, 1) := by decide +kernel
theorem dX1_has_0 : decode cX1_has 0 = .ok (.iload_n 1, 1) := by decide +kernel
theorem dX1_has_1 : decode cX1_has 1 = .ok (.ifCond .lt 15, 3) := by decide +kernel
theorem dX1_has_4 : decode cX1_has 4 = .ok (.iload_n 1, 1) := by decide +kernel
theorem dX1_has_5 : decode cX1_has 5 = .ok (.aload_n 0, 1) := by decide +kernel
theorem dX1_has_6 : decode cX1_has 6 = .ok (.getfield 19, 3) := by decide +kernel
theorem dX1_has_9 : decode cX1_has 9 = .ok (.if_icmp .ge 7, 3) := by decide +kernel
theorem dX1_has_12 : decode cX1_has 12 = .ok (.iconst 1, 1) := by decide +kernel
theorem dX1_has_13 : decode cX1_has 13 = .ok (.goto 4, 3) := by decide +kernel
theorem dX1_has_16 : decode cX1_has 16 = .ok (.iconst 0, 1) := by decide +kernel
theorem dX1_has_17 : decode cX1_has 17 = .ok (.ireturn, 1) := by decide +kernel
theorem dX2_init_0 : decode cX2_init 0 = .ok (.aload_n 0, 1) := by decide +kernel
theorem dX2_init_1 : decode cX2_init 1 = .ok (.invokespecial 3, 3) := by decide +kernel
theorem dX2_init_4 : decode cX2_init 4 = .ok (.aload_n 0, 1) := by decide +kernel
theorem dX2_init_5 : decode cX2_init 5 = .ok (.bipush 8, 2) := by decide +kernel
theorem dX2_init_7 : decode cX2_init 7 = .ok (.newarray .int, 2) := by decide +kernel
theorem dX2_init_9 : decode cX2_init 9 = .ok (.putfield 11, 3) := by decide +kernel
theorem dX2_init_12 : decode cX2_init 12 = .ok (.aload_n 0, 1) := by decide +kernel
theorem dX2_init_13 : decode cX2_init 13 = .ok (.bipush 8, 2) := by decide +kernel
theorem dX2_init_15 : decode cX2_init 15 = .ok (.newarray .long, 2) := by decide +kernel
theorem dX2_init_17 : decode cX2_init 17 = .ok (.putfield 15, 3) := by decide +kernel
theorem dX2_init_20 : decode cX2_init 20 = .ok (.return_, 1) := by decide +kernel
theorem dX2_startOn_0 : decode cX2_startOn 0 = .ok (.aload_n 0, 1) := by decide +kernel
theorem dX2_startOn_1 : decode cX2_startOn 1 = .ok (.iload_n 1, 1) := by decide +kernel
theorem dX2_startOn_2 : decode cX2_startOn 2 = .ok (.putfield 19, 3) := by decide +kernel
theorem dX2_startOn_5 : decode cX2_startOn 5 = .ok (.aload_n 0, 1) := by decide +kernel
theorem dX2_startOn_6 : decode cX2_startOn 6 = .ok (.iconst 0, 1) := by decide +kernel
theorem dX2_startOn_7 : decode cX2_startOn 7 = .ok (.putfield 23, 3) := by decide +kernel
theorem dX2_startOn_10 : decode cX2_startOn 10 = .ok (.return_, 1) := by decide +kernel
theorem dX2_isFull_0 : decode cX2_isFull 0 = .ok (.aload_n 0, 1) := by decide +kernel
theorem dX2_isFull_1 : decode cX2_isFull 1 = .ok (.getfield 23, 3) := by decide +kernel
theorem dX2_isFull_4 : decode cX2_isFull 4 = .ok (.bipush 8, 2) := by decide +kernel
theorem dX2_isFull_6 : decode cX2_isFull 6 = .ok (.if_icmp .lt 7, 3) := by decide +kernel
theorem dX2_isFull_9 : decode cX2_isFull 9 = .ok (.iconst 1, 1) := by decide +kernel
theorem dX2_isFull_10 : decode cX2_isFull 10 = .ok (.goto 4, 3) := by decide +kernel
theorem dX2_isFull_13 : decode cX2_isFull 13 = .ok (.iconst 0, 1) := by decide +kernel
theorem dX2_isFull_14 : decode cX2_isFull 14 = .ok (.ireturn, 1) := by decide +kernel
theorem dX2_add_0 : decode cX2_add 0 = .ok (.aload_n 0, 1) := by decide +kernel
theorem dX2_add_1 : decode cX2_add 1 = .ok (.invokevirtual 26, 3) := by decide +kernel
theorem dX2_add_4 : decode cX2_add 4 = .ok (.ifCond .ne 33, 3) := by decide +kernel
theorem dX2_add_7 : decode cX2_add 7 = .ok (.aload_n 0, 1) := by decide +kernel
theorem dX2_add_8 : decode cX2_add 8 = .ok (.getfield 11, 3) := by decide +kernel
theorem dX2_add_11 : decode cX2_add 11 = .ok (.aload_n 0, 1) := by decide +kernel
theorem dX2_add_12 : decode cX2_add 12 = .ok (.getfield 23, 3) := by decide +kernel
theorem dX2_add_15 : decode cX2_add 15 = .ok (.iload_n 1, 1) := by decide +kernel
theorem dX2_add_16 : decode cX2_add 16 = .ok (.iastore, 1) := by decide +kernel
theorem dX2_add_17 : decode cX2_add 17 = .ok (.aload_n 0, 1) := by decide +kernel
theorem dX2_add_18 : decode cX2_add 18 = .ok (.getfield 15, 3) := by decide +kernel
theorem dX2_add_21 : decode cX2_add 21 = .ok (.aload_n 0, 1) := by decide +kernel
theorem dX2_add_22 : decode cX2_add 22 = .ok (.getfield 23, 3) := by decide +kernel
theorem dX2_add_25 : decode cX2_add 25 = .ok (.lload_n 2, 1) := by decide +kernel
theorem dX2_add_26 : decode cX2_add 26 = .ok (.lastore, 1) := by decide +kernel
theorem dX2_add_27 : decode cX2_add 27 = .ok (.aload_n 0, 1) := by decide +kernel
theorem dX2_add_28 : decode cX2_add 28 = .ok (.dup, 1) := by decide +kernel
theorem dX2_add_29 : decode cX2_add 29 = .ok (.getfield 23, 3) := by decide +kernel
theorem dX2_add_32 : decode cX2_add 32 = .ok (.iconst 1, 1) := by decide +kernel
theorem dX2_add_33 : decode cX2_add 33 = .ok (.iadd, 1) := by decide +kernel
theorem dX2_add_34 : decode cX2_add 34 = .ok (.putfield 23, 3) := by decide +kernel
theorem dX2_add_37 : decode cX2_add 37 = .ok (.return_, 1) := by decide +kernel
theorem dX2_addReversed_0 : decode cX2_addReversed 0 = .ok (.iconst 0, 1) := by decide +kernel
theorem dX2_addReversed_1 : decode cX2_addReversed 1 = .ok (.istore_n 2, 1) := by decide +kernel
theorem dX2_addReversed_2 : decode cX2_addReversed 2 = .ok (.iload_n 2, 1) := by decide +kernel
theorem dX2_addReversed_3 : decode cX2_addReversed 3 = .ok (.aload_n 1, 1) := by decide +kernel
theorem dX2_addReversed_4 : decode cX2_addReversed 4 = .ok (.getfield 23, 3) := by decide +kernel
theorem dX2_addReversed_7 : decode cX2_addReversed 7 = .ok (.if_icmp .ge 26, 3) := by decide +kernel
theorem dX2_addReversed_10 : decode cX2_addReversed 10 = .ok (.aload_n 0, 1) := by decide +kernel
theorem dX2_addReversed_11 : decode cX2_addReversed 11 = .ok (.aload_n 1, 1) := by decide +kernel
theorem dX2_addReversed_12 : decode cX2_addReversed 12 = .ok (.getfield 11, 3) := by decide +kernel
theorem dX2_addReversed_15 : decode cX2_addReversed 15 = .ok (.iload_n 2, 1) := by decide +kernel
theorem dX2_addReversed_16 : decode cX2_addReversed 16 = .ok (.iaload, 1) := by decide +kernel
theorem dX2_addReversed_17 : decode cX2_addReversed 17 = .ok (.aload_n 1, 1) := by decide +kernel
theorem dX2_addReversed_18 : decode cX2_addReversed 18 = .ok (.getfield 15, 3) := by decide +kernel
theorem dX2_addReversed_21 : decode cX2_addReversed 21 = .ok (.iload_n 2, 1) := by decide +kernel
theorem dX2_addReversed_22 : decode cX2_addReversed 22 = .ok (.laload, 1) := by decide +kernel
theorem dX2_addReversed_23 : decode cX2_addReversed 23 = .ok (.lneg, 1) := by decide +kernel
theorem dX2_addReversed_24 : decode cX2_addReversed 24 = .ok (.invokevirtual 30, 3) := by decide +kernel
theorem dX2_addReversed_27 : decode cX2_addReversed 27 = .ok (.iinc 2 1, 3) := by decide +kernel
theorem dX2_addReversed_30 : decode cX2_addReversed 30 = .ok (.goto (-28), 3) := by decide +kernel
theorem dX2_addReversed_33 : decode cX2_addReversed 33 = .ok (.return_, 1) := by decide +kernel
theorem dX2_isTakenBack_0 : decode cX2_isTakenBack 0 = .ok (.aload_n 0, 1) := by decide +kernel
theorem dX2_isTakenBack_1 : decode cX2_isTakenBack 1 = .ok (.getfield 34, 3) := by decide +kernel
theorem dX2_isTakenBack_4 : decode cX2_isTakenBack 4 = .ok (.ifCond .eq 7, 3) := by decide +kernel
theorem dX2_isTakenBack_7 : decode cX2_isTakenBack 7 = .ok (.iconst 1, 1) := by decide +kernel
theorem dX2_isTakenBack_8 : decode cX2_isTakenBack 8 = .ok (.goto 4, 3) := by decide +kernel
theorem dX2_isTakenBack_11 : decode cX2_isTakenBack 11 = .ok (.iconst 0, 1) := by decide +kernel
theorem dX2_isTakenBack_12 : decode cX2_isTakenBack 12 = .ok (.ireturn, 1) := by decide +kernel
theorem dX2_takesOneBack_0 : decode cX2_takesOneBack 0 = .ok (.aload_n 0, 1) := by decide +kernel
theorem dX2_takesOneBack_1 : decode cX2_takesOneBack 1 = .ok (.getfield 37, 3) := by decide +kernel
theorem dX2_takesOneBack_4 : decode cX2_takesOneBack 4 = .ok (.ifCond .eq 7, 3) := by decide +kernel
theorem dX2_takesOneBack_7 : decode cX2_takesOneBack 7 = .ok (.iconst 1, 1) := by decide +kernel
theorem dX2_takesOneBack_8 : decode cX2_takesOneBack 8 = .ok (.goto 4, 3) := by decide +kernel
theorem dX2_takesOneBack_11 : decode cX2_takesOneBack 11 = .ok (.iconst 0, 1) := by decide +kernel
theorem dX2_takesOneBack_12 : decode cX2_takesOneBack 12 = .ok (.ireturn, 1) := by decide +kernel
theorem dX2_total_0 : decode cX2_total 0 = .ok (.lconst 0, 1) := by decide +kernel
theorem dX2_total_1 : decode cX2_total 1 = .ok (.lstore_n 1, 1) := by decide +kernel
theorem dX2_total_2 : decode cX2_total 2 = .ok (.iconst 0, 1) := by decide +kernel
theorem dX2_total_3 : decode cX2_total 3 = .ok (.istore_n 3, 1) := by decide +kernel
theorem dX2_total_4 : decode cX2_total 4 = .ok (.iload_n 3, 1) := by decide +kernel
theorem dX2_total_5 : decode cX2_total 5 = .ok (.aload_n 0, 1) := by decide +kernel
theorem dX2_total_6 : decode cX2_total 6 = .ok (.getfield 23, 3) := by decide +kernel
theorem dX2_total_9 : decode cX2_total 9 = .ok (.if_icmp .ge 18, 3) := by decide +kernel
theorem dX2_total_12 : decode cX2_total 12 = .ok (.lload_n 1, 1) := by decide +kernel
theorem dX2_total_13 : decode cX2_total 13 = .ok (.aload_n 0, 1) := by decide +kernel
theorem dX2_total_14 : decode cX2_total 14 = .ok (.getfield 15, 3) := by decide +kernel
theorem dX2_total_17 : decode cX2_total 17 = .ok (.iload_n 3, 1) := by decide +kernel
theorem dX2_total_18 : decode cX2_total 18 = .ok (.laload, 1) := by decide +kernel
theorem dX2_total_19 : decode cX2_total 19 = .ok (.ladd, 1) := by decide +kernel
theorem dX2_total_20 : decode cX2_total 20 = .ok (.lstore_n 1, 1) := by decide +kernel
theorem dX2_total_21 : decode cX2_total 21 = .ok (.iinc 3 1, 3) := by decide +kernel
theorem dX2_total_24 : decode cX2_total 24 = .ok (.goto (-20), 3) := by decide +kernel
theorem dX2_total_27 : decode cX2_total 27 = .ok (.lload_n 1, 1) := by decide +kernel
theorem dX2_total_28 : decode cX2_total 28 = .ok (.lreturn, 1) := by decide +kernel
theorem dX2_totalOf_0 : decode cX2_totalOf 0 = .ok (.lconst 0, 1) := by decide +kernel
theorem dX2_totalOf_1 : decode cX2_totalOf 1 = .ok (.lstore_n 2, 1) := by decide +kernel
theorem dX2_totalOf_2 : decode cX2_totalOf 2 = .ok (.iconst 0, 1) := by decide +kernel
theorem dX2_totalOf_3 : decode cX2_totalOf 3 = .ok (.istore 4, 2) := by decide +kernel
theorem dX2_totalOf_5 : decode cX2_totalOf 5 = .ok (.iload 4, 2) := by decide +kernel
theorem dX2_totalOf_7 : decode cX2_totalOf 7 = .ok (.aload_n 0, 1) := by decide +kernel
theorem dX2_totalOf_8 : decode cX2_totalOf 8 = .ok (.getfield 23, 3) := by decide +kernel
theorem dX2_totalOf_11 : decode cX2_totalOf 11 = .ok (.if_icmp .ge 30, 3) := by decide +kernel
theorem dX2_totalOf_14 : decode cX2_totalOf 14 = .ok (.aload_n 0, 1) := by decide +kernel
theorem dX2_totalOf_15 : decode cX2_totalOf 15 = .ok (.getfield 11, 3) := by decide +kernel
theorem dX2_totalOf_18 : decode cX2_totalOf 18 = .ok (.iload 4, 2) := by decide +kernel
theorem dX2_totalOf_20 : decode cX2_totalOf 20 = .ok (.iaload, 1) := by decide +kernel
theorem dX2_totalOf_21 : decode cX2_totalOf 21 = .ok (.iload_n 1, 1) := by decide +kernel
theorem dX2_totalOf_22 : decode cX2_totalOf 22 = .ok (.if_icmp .ne 13, 3) := by decide +kernel
theorem dX2_totalOf_25 : decode cX2_totalOf 25 = .ok (.lload_n 2, 1) := by decide +kernel
theorem dX2_totalOf_26 : decode cX2_totalOf 26 = .ok (.aload_n 0, 1) := by decide +kernel
theorem dX2_totalOf_27 : decode cX2_totalOf 27 = .ok (.getfield 15, 3) := by decide +kernel
theorem dX2_totalOf_30 : decode cX2_totalOf 30 = .ok (.iload 4, 2) := by decide +kernel
theorem dX2_totalOf_32 : decode cX2_totalOf 32 = .ok (.laload, 1) := by decide +kernel
theorem dX2_totalOf_33 : decode cX2_totalOf 33 = .ok (.ladd, 1) := by decide +kernel
theorem dX2_totalOf_34 : decode cX2_totalOf 34 = .ok (.lstore_n 2, 1) := by decide +kernel
theorem dX2_totalOf_35 : decode cX2_totalOf 35 = .ok (.iinc 4 1, 3) := by decide +kernel
theorem dX2_totalOf_38 : decode cX2_totalOf 38 = .ok (.goto (-33), 3) := by decide +kernel
theorem dX2_totalOf_41 : decode cX2_totalOf 41 = .ok (.lload_n 2, 1) := by decide +kernel
theorem dX2_totalOf_42 : decode cX2_totalOf 42 = .ok (.lreturn, 1) := by decide +kernel
theorem dX2_tellHead_0 : decode cX2_tellHead 0 = .ok (.iload_n 1, 1) := by decide +kernel
theorem dX2_tellHead_1 : decode cX2_tellHead 1 = .ok (.tableswitch 55 0 3 #[31, 37, 43, 49], 31) := by decide +kernel
theorem dX2_tellHead_32 : decode cX2_tellHead 32 = .ok (.aload_n 0, 1) := by decide +kernel
theorem dX2_tellHead_33 : decode cX2_tellHead 33 = .ok (.getfield 19, 3) := by decide +kernel
theorem dX2_tellHead_36 : decode cX2_tellHead 36 = .ok (.i2l, 1) := by decide +kernel
theorem dX2_tellHead_37 : decode cX2_tellHead 37 = .ok (.lreturn, 1) := by decide +kernel
theorem dX2_tellHead_38 : decode cX2_tellHead 38 = .ok (.aload_n 0, 1) := by decide +kernel
theorem dX2_tellHead_39 : decode cX2_tellHead 39 = .ok (.getfield 23, 3) := by decide +kernel
theorem dX2_tellHead_42 : decode cX2_tellHead 42 = .ok (.i2l, 1) := by decide +kernel
theorem dX2_tellHead_43 : decode cX2_tellHead 43 = .ok (.lreturn, 1) := by decide +kernel
theorem dX2_tellHead_44 : decode cX2_tellHead 44 = .ok (.aload_n 0, 1) := by decide +kernel
theorem dX2_tellHead_45 : decode cX2_tellHead 45 = .ok (.getfield 37, 3) := by decide +kernel
theorem dX2_tellHead_48 : decode cX2_tellHead 48 = .ok (.i2l, 1) := by decide +kernel
theorem dX2_tellHead_49 : decode cX2_tellHead 49 = .ok (.lreturn, 1) := by decide +kernel
theorem dX2_tellHead_50 : decode cX2_tellHead 50 = .ok (.aload_n 0, 1) := by decide +kernel
theorem dX2_tellHead_51 : decode cX2_tellHead 51 = .ok (.getfield 34, 3) := by decide +kernel
theorem dX2_tellHead_54 : decode cX2_tellHead 54 = .ok (.i2l, 1) := by decide +kernel
theorem dX2_tellHead_55 : decode cX2_tellHead 55 = .ok (.lreturn, 1) := by decide +kernel
theorem dX2_tellHead_56 : decode cX2_tellHead 56 = .ok (.ldc2_w 40, 3) := by decide +kernel
theorem dX2_tellHead_59 : decode cX2_tellHead 59 = .ok (.lreturn, 1) := by decide +kernel
theorem dX2_tellRow_0 : decode cX2_tellRow 0 = .ok (.iload_n 1, 1) := by decide +kernel
theorem dX2_tellRow_1 : decode cX2_tellRow 1 = .ok (.ifCond .lt 20, 3) := by decide +kernel
theorem dX2_tellRow_4 : decode cX2_tellRow 4 = .ok (.iload_n 1, 1) := by decide +kernel
theorem dX2_tellRow_5 : decode cX2_tellRow 5 = .ok (.aload_n 0, 1) := by decide +kernel
theorem dX2_tellRow_6 : decode cX2_tellRow 6 = .ok (.getfield 23, 3) := by decide +kernel
theorem dX2_tellRow_9 : decode cX2_tellRow 9 = .ok (.if_icmp .ge 12, 3) := by decide +kernel
theorem dX2_tellRow_12 : decode cX2_tellRow 12 = .ok (.iload_n 2, 1) := by decide +kernel
theorem dX2_tellRow_13 : decode cX2_tellRow 13 = .ok (.ifCond .lt 8, 3) := by decide +kernel
theorem dX2_tellRow_16 : decode cX2_tellRow 16 = .ok (.iload_n 2, 1) := by decide +kernel
theorem dX2_tellRow_17 : decode cX2_tellRow 17 = .ok (.iconst 1, 1) := by decide +kernel
theorem dX2_tellRow_18 : decode cX2_tellRow 18 = .ok (.if_icmp .le 7, 3) := by decide +kernel
theorem dX2_tellRow_21 : decode cX2_tellRow 21 = .ok (.ldc2_w 40, 3) := by decide +kernel
theorem dX2_tellRow_24 : decode cX2_tellRow 24 = .ok (.lreturn, 1) := by decide +kernel
theorem dX2_tellRow_25 : decode cX2_tellRow 25 = .ok (.iload_n 2, 1) := by decide +kernel
theorem dX2_tellRow_26 : decode cX2_tellRow 26 = .ok (.ifCond .ne 13, 3) := by decide +kernel
theorem dX2_tellRow_29 : decode cX2_tellRow 29 = .ok (.aload_n 0, 1) := by decide +kernel
theorem dX2_tellRow_30 : decode cX2_tellRow 30 = .ok (.getfield 11, 3) := by decide +kernel
theorem dX2_tellRow_33 : decode cX2_tellRow 33 = .ok (.iload_n 1, 1) := by decide +kernel
theorem dX2_tellRow_34 : decode cX2_tellRow 34 = .ok (.iaload, 1) := by decide +kernel
theorem dX2_tellRow_35 : decode cX2_tellRow 35 = .ok (.i2l, 1) := by decide +kernel
theorem dX2_tellRow_36 : decode cX2_tellRow 36 = .ok (.goto 9, 3) := by decide +kernel
theorem dX2_tellRow_39 : decode cX2_tellRow 39 = .ok (.aload_n 0, 1) := by decide +kernel
theorem dX2_tellRow_40 : decode cX2_tellRow 40 = .ok (.getfield 15, 3) := by decide +kernel
theorem dX2_tellRow_43 : decode cX2_tellRow 43 = .ok (.iload_n 1, 1) := by decide +kernel
theorem dX2_tellRow_44 : decode cX2_tellRow 44 = .ok (.laload, 1) := by decide +kernel
theorem dX2_tellRow_45 : decode cX2_tellRow 45 = .ok (.lreturn, 1) := by decide +kernel
theorem dX3_init_0 : decode cX3_init 0 = .ok (.aload_n 0, 1) := by decide +kernel
theorem dX3_init_1 : decode cX3_init 1 = .ok (.invokespecial 3, 3) := by decide +kernel
theorem dX3_init_4 : decode cX3_init 4 = .ok (.aload_n 0, 1) := by decide +kernel
theorem dX3_init_5 : decode cX3_init 5 = .ok (.bipush 12, 2) := by decide +kernel
theorem dX3_init_7 : decode cX3_init 7 = .ok (.newarray .long, 2) := by decide +kernel
theorem dX3_init_9 : decode cX3_init 9 = .ok (.putfield 9, 3) := by decide +kernel
theorem dX3_init_12 : decode cX3_init 12 = .ok (.aload_n 0, 1) := by decide +kernel
theorem dX3_init_13 : decode cX3_init 13 = .ok (.bipush 12, 2) := by decide +kernel
theorem dX3_init_15 : decode cX3_init 15 = .ok (.newarray .long, 2) := by decide +kernel
theorem dX3_init_17 : decode cX3_init 17 = .ok (.putfield 15, 3) := by decide +kernel
theorem dX3_init_20 : decode cX3_init 20 = .ok (.aload_n 0, 1) := by decide +kernel
theorem dX3_init_21 : decode cX3_init 21 = .ok (.bipush 12, 2) := by decide +kernel
theorem dX3_init_23 : decode cX3_init 23 = .ok (.newarray .long, 2) := by decide +kernel
theorem dX3_init_25 : decode cX3_init 25 = .ok (.putfield 18, 3) := by decide +kernel
theorem dX3_init_28 : decode cX3_init 28 = .ok (.return_, 1) := by decide +kernel
theorem dX3_clear_0 : decode cX3_clear 0 = .ok (.aload_n 0, 1) := by decide +kernel
theorem dX3_clear_1 : decode cX3_clear 1 = .ok (.iconst 0, 1) := by decide +kernel
theorem dX3_clear_2 : decode cX3_clear 2 = .ok (.putfield 21, 3) := by decide +kernel
theorem dX3_clear_5 : decode cX3_clear 5 = .ok (.return_, 1) := by decide +kernel
theorem dX3_add_0 : decode cX3_add 0 = .ok (.aload_n 0, 1) := by decide +kernel
theorem dX3_add_1 : decode cX3_add 1 = .ok (.getfield 21, 3) := by decide +kernel
theorem dX3_add_4 : decode cX3_add 4 = .ok (.bipush 12, 2) := by decide +kernel
theorem dX3_add_6 : decode cX3_add 6 = .ok (.if_icmp .ge 23, 3) := by decide +kernel
theorem dX3_add_9 : decode cX3_add 9 = .ok (.aload_n 0, 1) := by decide +kernel
theorem dX3_add_10 : decode cX3_add 10 = .ok (.getfield 9, 3) := by decide +kernel
theorem dX3_add_13 : decode cX3_add 13 = .ok (.aload_n 0, 1) := by decide +kernel
theorem dX3_add_14 : decode cX3_add 14 = .ok (.getfield 21, 3) := by decide +kernel
theorem dX3_add_17 : decode cX3_add 17 = .ok (.lload_n 1, 1) := by decide +kernel
theorem dX3_add_18 : decode cX3_add 18 = .ok (.lastore, 1) := by decide +kernel
theorem dX3_add_19 : decode cX3_add 19 = .ok (.aload_n 0, 1) := by decide +kernel
theorem dX3_add_20 : decode cX3_add 20 = .ok (.dup, 1) := by decide +kernel
theorem dX3_add_21 : decode cX3_add 21 = .ok (.getfield 21, 3) := by decide +kernel
theorem dX3_add_24 : decode cX3_add 24 = .ok (.iconst 1, 1) := by decide +kernel
theorem dX3_add_25 : decode cX3_add 25 = .ok (.iadd, 1) := by decide +kernel
theorem dX3_add_26 : decode cX3_add 26 = .ok (.putfield 21, 3) := by decide +kernel
theorem dX3_add_29 : decode cX3_add 29 = .ok (.return_, 1) := by decide +kernel
theorem dX3_divide_0 : decode cX3_divide 0 = .ok (.aload_n 0, 1) := by decide +kernel
theorem dX3_divide_1 : decode cX3_divide 1 = .ok (.getfield 15, 3) := by decide +kernel
theorem dX3_divide_4 : decode cX3_divide 4 = .ok (.lconst 0, 1) := by decide +kernel
theorem dX3_divide_5 : decode cX3_divide 5 = .ok (.invokestatic 25, 3) := by decide +kernel
theorem dX3_divide_8 : decode cX3_divide 8 = .ok (.aload_n 0, 1) := by decide +kernel
theorem dX3_divide_9 : decode cX3_divide 9 = .ok (.invokevirtual 31, 3) := by decide +kernel
theorem dX3_divide_12 : decode cX3_divide 12 = .ok (.lstore_n 3, 1) := by decide +kernel
theorem dX3_divide_13 : decode cX3_divide 13 = .ok (.lload_n 3, 1) := by decide +kernel
theorem dX3_divide_14 : decode cX3_divide 14 = .ok (.lconst 0, 1) := by decide +kernel
theorem dX3_divide_15 : decode cX3_divide 15 = .ok (.lcmp, 1) := by decide +kernel
theorem dX3_divide_16 : decode cX3_divide 16 = .ok (.ifCond .gt 5, 3) := by decide +kernel
theorem dX3_divide_19 : decode cX3_divide 19 = .ok (.iconst 0, 1) := by decide +kernel
theorem dX3_divide_20 : decode cX3_divide 20 = .ok (.ireturn, 1) := by decide +kernel
theorem dX3_divide_21 : decode cX3_divide 21 = .ok (.lload_n 1, 1) := by decide +kernel
theorem dX3_divide_22 : decode cX3_divide 22 = .ok (.lstore 5, 2) := by decide +kernel
theorem dX3_divide_24 : decode cX3_divide 24 = .ok (.iconst 0, 1) := by decide +kernel
theorem dX3_divide_25 : decode cX3_divide 25 = .ok (.istore 7, 2) := by decide +kernel
theorem dX3_divide_27 : decode cX3_divide 27 = .ok (.iload 7, 2) := by decide +kernel
theorem dX3_divide_29 : decode cX3_divide 29 = .ok (.aload_n 0, 1) := by decide +kernel
theorem dX3_divide_30 : decode cX3_divide 30 = .ok (.getfield 21, 3) := by decide +kernel
theorem dX3_divide_33 : decode cX3_divide 33 = .ok (.if_icmp .ge 54, 3) := by decide +kernel
theorem dX3_divide_36 : decode cX3_divide 36 = .ok (.lload_n 1, 1) := by decide +kernel
theorem dX3_divide_37 : decode cX3_divide 37 = .ok (.aload_n 0, 1) := by decide +kernel
theorem dX3_divide_38 : decode cX3_divide 38 = .ok (.getfield 9, 3) := by decide +kernel
theorem dX3_divide_41 : decode cX3_divide 41 = .ok (.iload 7, 2) := by decide +kernel
theorem dX3_divide_43 : decode cX3_divide 43 = .ok (.laload, 1) := by decide +kernel
theorem dX3_divide_44 : decode cX3_divide 44 = .ok (.lmul, 1) := by decide +kernel
theorem dX3_divide_45 : decode cX3_divide 45 = .ok (.lstore 8, 2) := by decide +kernel
theorem dX3_divide_47 : decode cX3_divide 47 = .ok (.aload_n 0, 1) := by decide +kernel
theorem dX3_divide_48 : decode cX3_divide 48 = .ok (.getfield 15, 3) := by decide +kernel
theorem dX3_divide_51 : decode cX3_divide 51 = .ok (.iload 7, 2) := by decide +kernel
theorem dX3_divide_53 : decode cX3_divide 53 = .ok (.lload 8, 2) := by decide +kernel
theorem dX3_divide_55 : decode cX3_divide 55 = .ok (.lload_n 3, 1) := by decide +kernel
theorem dX3_divide_56 : decode cX3_divide 56 = .ok (.ldiv, 1) := by decide +kernel
theorem dX3_divide_57 : decode cX3_divide 57 = .ok (.lastore, 1) := by decide +kernel
theorem dX3_divide_58 : decode cX3_divide 58 = .ok (.aload_n 0, 1) := by decide +kernel
theorem dX3_divide_59 : decode cX3_divide 59 = .ok (.getfield 18, 3) := by decide +kernel
theorem dX3_divide_62 : decode cX3_divide 62 = .ok (.iload 7, 2) := by decide +kernel
theorem dX3_divide_64 : decode cX3_divide 64 = .ok (.lload 8, 2) := by decide +kernel
theorem dX3_divide_66 : decode cX3_divide 66 = .ok (.lload_n 3, 1) := by decide +kernel
theorem dX3_divide_67 : decode cX3_divide 67 = .ok (.lrem, 1) := by decide +kernel
theorem dX3_divide_68 : decode cX3_divide 68 = .ok (.lastore, 1) := by decide +kernel
theorem dX3_divide_69 : decode cX3_divide 69 = .ok (.lload 5, 2) := by decide +kernel
theorem dX3_divide_71 : decode cX3_divide 71 = .ok (.aload_n 0, 1) := by decide +kernel
theorem dX3_divide_72 : decode cX3_divide 72 = .ok (.getfield 15, 3) := by decide +kernel
theorem dX3_divide_75 : decode cX3_divide 75 = .ok (.iload 7, 2) := by decide +kernel
theorem dX3_divide_77 : decode cX3_divide 77 = .ok (.laload, 1) := by decide +kernel
theorem dX3_divide_78 : decode cX3_divide 78 = .ok (.lsub, 1) := by decide +kernel
theorem dX3_divide_79 : decode cX3_divide 79 = .ok (.lstore 5, 2) := by decide +kernel
theorem dX3_divide_81 : decode cX3_divide 81 = .ok (.iinc 7 1, 3) := by decide +kernel
theorem dX3_divide_84 : decode cX3_divide 84 = .ok (.goto (-57), 3) := by decide +kernel
theorem dX3_divide_87 : decode cX3_divide 87 = .ok (.aload_n 0, 1) := by decide +kernel
theorem dX3_divide_88 : decode cX3_divide 88 = .ok (.lload 5, 2) := by decide +kernel
theorem dX3_divide_90 : decode cX3_divide 90 = .ok (.invokevirtual 35, 3) := by decide +kernel
theorem dX3_divide_93 : decode cX3_divide 93 = .ok (.iconst 1, 1) := by decide +kernel
theorem dX3_divide_94 : decode cX3_divide 94 = .ok (.ireturn, 1) := by decide +kernel
theorem dX3_wholeWeight_0 : decode cX3_wholeWeight 0 = .ok (.lconst 0, 1) := by decide +kernel
theorem dX3_wholeWeight_1 : decode cX3_wholeWeight 1 = .ok (.lstore_n 1, 1) := by decide +kernel
theorem dX3_wholeWeight_2 : decode cX3_wholeWeight 2 = .ok (.iconst 0, 1) := by decide +kernel
theorem dX3_wholeWeight_3 : decode cX3_wholeWeight 3 = .ok (.istore_n 3, 1) := by decide +kernel
theorem dX3_wholeWeight_4 : decode cX3_wholeWeight 4 = .ok (.iload_n 3, 1) := by decide +kernel
theorem dX3_wholeWeight_5 : decode cX3_wholeWeight 5 = .ok (.aload_n 0, 1) := by decide +kernel
theorem dX3_wholeWeight_6 : decode cX3_wholeWeight 6 = .ok (.getfield 21, 3) := by decide +kernel
theorem dX3_wholeWeight_9 : decode cX3_wholeWeight 9 = .ok (.if_icmp .ge 18, 3) := by decide +kernel
theorem dX3_wholeWeight_12 : decode cX3_wholeWeight 12 = .ok (.lload_n 1, 1) := by decide +kernel
theorem dX3_wholeWeight_13 : decode cX3_wholeWeight 13 = .ok (.aload_n 0, 1) := by decide +kernel
theorem dX3_wholeWeight_14 : decode cX3_wholeWeight 14 = .ok (.getfield 9, 3) := by decide +kernel
theorem dX3_wholeWeight_17 : decode cX3_wholeWeight 17 = .ok (.iload_n 3, 1) := by decide +kernel
theorem dX3_wholeWeight_18 : decode cX3_wholeWeight 18 = .ok (.laload, 1) := by decide +kernel
theorem dX3_wholeWeight_19 : decode cX3_wholeWeight 19 = .ok (.ladd, 1) := by decide +kernel
theorem dX3_wholeWeight_20 : decode cX3_wholeWeight 20 = .ok (.lstore_n 1, 1) := by decide +kernel
theorem dX3_wholeWeight_21 : decode cX3_wholeWeight 21 = .ok (.iinc 3 1, 3) := by decide +kernel
theorem dX3_wholeWeight_24 : decode cX3_wholeWeight 24 = .ok (.goto (-20), 3) := by decide +kernel
theorem dX3_wholeWeight_27 : decode cX3_wholeWeight 27 = .ok (.lload_n 1, 1) := by decide +kernel
theorem dX3_wholeWeight_28 : decode cX3_wholeWeight 28 = .ok (.lreturn, 1) := by decide +kernel
theorem dX3_giveCents_0 : decode cX3_giveCents 0 = .ok (.iconst 0, 1) := by decide +kernel
theorem dX3_giveCents_1 : decode cX3_giveCents 1 = .ok (.istore_n 3, 1) := by decide +kernel
theorem dX3_giveCents_2 : decode cX3_giveCents 2 = .ok (.iload_n 3, 1) := by decide +kernel
theorem dX3_giveCents_3 : decode cX3_giveCents 3 = .ok (.aload_n 0, 1) := by decide +kernel
theorem dX3_giveCents_4 : decode cX3_giveCents 4 = .ok (.getfield 21, 3) := by decide +kernel
theorem dX3_giveCents_7 : decode cX3_giveCents 7 = .ok (.if_icmp .ge 43, 3) := by decide +kernel
theorem dX3_giveCents_10 : decode cX3_giveCents 10 = .ok (.iload_n 3, 1) := by decide +kernel
theorem dX3_giveCents_11 : decode cX3_giveCents 11 = .ok (.i2l, 1) := by decide +kernel
theorem dX3_giveCents_12 : decode cX3_giveCents 12 = .ok (.lload_n 1, 1) := by decide +kernel
theorem dX3_giveCents_13 : decode cX3_giveCents 13 = .ok (.lcmp, 1) := by decide +kernel
theorem dX3_giveCents_14 : decode cX3_giveCents 14 = .ok (.ifCond .ge 36, 3) := by decide +kernel
theorem dX3_giveCents_17 : decode cX3_giveCents 17 = .ok (.aload_n 0, 1) := by decide +kernel
theorem dX3_giveCents_18 : decode cX3_giveCents 18 = .ok (.invokevirtual 39, 3) := by decide +kernel
theorem dX3_giveCents_21 : decode cX3_giveCents 21 = .ok (.istore 4, 2) := by decide +kernel
theorem dX3_giveCents_23 : decode cX3_giveCents 23 = .ok (.aload_n 0, 1) := by decide +kernel
theorem dX3_giveCents_24 : decode cX3_giveCents 24 = .ok (.getfield 15, 3) := by decide +kernel
theorem dX3_giveCents_27 : decode cX3_giveCents 27 = .ok (.iload 4, 2) := by decide +kernel
theorem dX3_giveCents_29 : decode cX3_giveCents 29 = .ok (.dup2, 1) := by decide +kernel
theorem dX3_giveCents_30 : decode cX3_giveCents 30 = .ok (.laload, 1) := by decide +kernel
theorem dX3_giveCents_31 : decode cX3_giveCents 31 = .ok (.lconst 1, 1) := by decide +kernel
theorem dX3_giveCents_32 : decode cX3_giveCents 32 = .ok (.ladd, 1) := by decide +kernel
theorem dX3_giveCents_33 : decode cX3_giveCents 33 = .ok (.lastore, 1) := by decide +kernel
theorem dX3_giveCents_34 : decode cX3_giveCents 34 = .ok (.aload_n 0, 1) := by decide +kernel
theorem dX3_giveCents_35 : decode cX3_giveCents 35 = .ok (.getfield 18, 3) := by decide +kernel
theorem dX3_giveCents_38 : decode cX3_giveCents 38 = .ok (.iload 4, 2) := by decide +kernel
theorem dX3_giveCents_40 : decode cX3_giveCents 40 = .ok (.ldc2_w 43, 3) := by decide +kernel
theorem dX3_giveCents_43 : decode cX3_giveCents 43 = .ok (.lastore, 1) := by decide +kernel
theorem dX3_giveCents_44 : decode cX3_giveCents 44 = .ok (.iinc 3 1, 3) := by decide +kernel
theorem dX3_giveCents_47 : decode cX3_giveCents 47 = .ok (.goto (-45), 3) := by decide +kernel
theorem dX3_giveCents_50 : decode cX3_giveCents 50 = .ok (.return_, 1) := by decide +kernel
theorem dX3_mostCut_0 : decode cX3_mostCut 0 = .ok (.iconst 0, 1) := by decide +kernel
theorem dX3_mostCut_1 : decode cX3_mostCut 1 = .ok (.istore_n 1, 1) := by decide +kernel
theorem dX3_mostCut_2 : decode cX3_mostCut 2 = .ok (.iconst 1, 1) := by decide +kernel
theorem dX3_mostCut_3 : decode cX3_mostCut 3 = .ok (.istore_n 2, 1) := by decide +kernel
theorem dX3_mostCut_4 : decode cX3_mostCut 4 = .ok (.iload_n 2, 1) := by decide +kernel
theorem dX3_mostCut_5 : decode cX3_mostCut 5 = .ok (.aload_n 0, 1) := by decide +kernel
theorem dX3_mostCut_6 : decode cX3_mostCut 6 = .ok (.getfield 21, 3) := by decide +kernel
theorem dX3_mostCut_9 : decode cX3_mostCut 9 = .ok (.if_icmp .ge 27, 3) := by decide +kernel
theorem dX3_mostCut_12 : decode cX3_mostCut 12 = .ok (.aload_n 0, 1) := by decide +kernel
theorem dX3_mostCut_13 : decode cX3_mostCut 13 = .ok (.getfield 18, 3) := by decide +kernel
theorem dX3_mostCut_16 : decode cX3_mostCut 16 = .ok (.iload_n 2, 1) := by decide +kernel
theorem dX3_mostCut_17 : decode cX3_mostCut 17 = .ok (.laload, 1) := by decide +kernel
theorem dX3_mostCut_18 : decode cX3_mostCut 18 = .ok (.aload_n 0, 1) := by decide +kernel
theorem dX3_mostCut_19 : decode cX3_mostCut 19 = .ok (.getfield 18, 3) := by decide +kernel
theorem dX3_mostCut_22 : decode cX3_mostCut 22 = .ok (.iload_n 1, 1) := by decide +kernel
theorem dX3_mostCut_23 : decode cX3_mostCut 23 = .ok (.laload, 1) := by decide +kernel
theorem dX3_mostCut_24 : decode cX3_mostCut 24 = .ok (.lcmp, 1) := by decide +kernel
theorem dX3_mostCut_25 : decode cX3_mostCut 25 = .ok (.ifCond .le 5, 3) := by decide +kernel
theorem dX3_mostCut_28 : decode cX3_mostCut 28 = .ok (.iload_n 2, 1) := by decide +kernel
theorem dX3_mostCut_29 : decode cX3_mostCut 29 = .ok (.istore_n 1, 1) := by decide +kernel
theorem dX3_mostCut_30 : decode cX3_mostCut 30 = .ok (.iinc 2 1, 3) := by decide +kernel
theorem dX3_mostCut_33 : decode cX3_mostCut 33 = .ok (.goto (-29), 3) := by decide +kernel
theorem dX3_mostCut_36 : decode cX3_mostCut 36 = .ok (.iload_n 1, 1) := by decide +kernel
theorem dX3_mostCut_37 : decode cX3_mostCut 37 = .ok (.ireturn, 1) := by decide +kernel
theorem dX4_init_0 : decode cX4_init 0 = .ok (.aload_n 0, 1) := by decide +kernel
theorem dX4_init_1 : decode cX4_init 1 = .ok (.invokespecial 3, 3) := by decide +kernel
theorem dX4_init_4 : decode cX4_init 4 = .ok (.aload_n 0, 1) := by decide +kernel
theorem dX4_init_5 : decode cX4_init 5 = .ok (.iconst 2, 1) := by decide +kernel
theorem dX4_init_6 : decode cX4_init 6 = .ok (.newarray .int, 2) := by decide +kernel
theorem dX4_init_8 : decode cX4_init 8 = .ok (.putfield 9, 3) := by decide +kernel
theorem dX4_init_11 : decode cX4_init 11 = .ok (.aload_n 0, 1) := by decide +kernel
theorem dX4_init_12 : decode cX4_init 12 = .ok (.bipush 10, 2) := by decide +kernel
theorem dX4_init_14 : decode cX4_init 14 = .ok (.newarray .int, 2) := by decide +kernel
theorem dX4_init_16 : decode cX4_init 16 = .ok (.putfield 15, 3) := by decide +kernel
theorem dX4_init_19 : decode cX4_init 19 = .ok (.aload_n 0, 1) := by decide +kernel
theorem dX4_init_20 : decode cX4_init 20 = .ok (.bipush 10, 2) := by decide +kernel
theorem dX4_init_22 : decode cX4_init 22 = .ok (.newarray .int, 2) := by decide +kernel
theorem dX4_init_24 : decode cX4_init 24 = .ok (.putfield 18, 3) := by decide +kernel
theorem dX4_init_27 : decode cX4_init 27 = .ok (.aload_n 0, 1) := by decide +kernel
theorem dX4_init_28 : decode cX4_init 28 = .ok (.bipush 10, 2) := by decide +kernel
theorem dX4_init_30 : decode cX4_init 30 = .ok (.newarray .int, 2) := by decide +kernel
theorem dX4_init_32 : decode cX4_init 32 = .ok (.putfield 21, 3) := by decide +kernel
theorem dX4_init_35 : decode cX4_init 35 = .ok (.aload_n 0, 1) := by decide +kernel
theorem dX4_init_36 : decode cX4_init 36 = .ok (.invokevirtual 24, 3) := by decide +kernel
theorem dX4_init_39 : decode cX4_init 39 = .ok (.return_, 1) := by decide +kernel
theorem dX4_forget_0 : decode cX4_forget 0 = .ok (.aload_n 0, 1) := by decide +kernel
theorem dX4_forget_1 : decode cX4_forget 1 = .ok (.getfield 9, 3) := by decide +kernel
theorem dX4_forget_4 : decode cX4_forget 4 = .ok (.iconst (-1), 1) := by decide +kernel
theorem dX4_forget_5 : decode cX4_forget 5 = .ok (.invokestatic 27, 3) := by decide +kernel
theorem dX4_forget_8 : decode cX4_forget 8 = .ok (.aload_n 0, 1) := by decide +kernel
theorem dX4_forget_9 : decode cX4_forget 9 = .ok (.getfield 15, 3) := by decide +kernel
theorem dX4_forget_12 : decode cX4_forget 12 = .ok (.iconst 0, 1) := by decide +kernel
theorem dX4_forget_13 : decode cX4_forget 13 = .ok (.invokestatic 27, 3) := by decide +kernel
theorem dX4_forget_16 : decode cX4_forget 16 = .ok (.aload_n 0, 1) := by decide +kernel
theorem dX4_forget_17 : decode cX4_forget 17 = .ok (.getfield 18, 3) := by decide +kernel
theorem dX4_forget_20 : decode cX4_forget 20 = .ok (.iconst 1, 1) := by decide +kernel
theorem dX4_forget_21 : decode cX4_forget 21 = .ok (.invokestatic 27, 3) := by decide +kernel
theorem dX4_forget_24 : decode cX4_forget 24 = .ok (.aload_n 0, 1) := by decide +kernel
theorem dX4_forget_25 : decode cX4_forget 25 = .ok (.getfield 21, 3) := by decide +kernel
theorem dX4_forget_28 : decode cX4_forget 28 = .ok (.iconst 0, 1) := by decide +kernel
theorem dX4_forget_29 : decode cX4_forget 29 = .ok (.invokestatic 27, 3) := by decide +kernel
theorem dX4_forget_32 : decode cX4_forget 32 = .ok (.return_, 1) := by decide +kernel
theorem dX4_takeText_0 : decode cX4_takeText 0 = .ok (.aload_n 0, 1) := by decide +kernel
theorem dX4_takeText_1 : decode cX4_takeText 1 = .ok (.invokevirtual 24, 3) := by decide +kernel
theorem dX4_takeText_4 : decode cX4_takeText 4 = .ok (.aload_n 1, 1) := by decide +kernel
theorem dX4_takeText_5 : decode cX4_takeText 5 = .ok (.invokevirtual 33, 3) := by decide +kernel
theorem dX4_takeText_8 : decode cX4_takeText 8 = .ok (.iconst 0, 1) := by decide +kernel
theorem dX4_takeText_9 : decode cX4_takeText 9 = .ok (.istore_n 2, 1) := by decide +kernel
theorem dX4_takeText_10 : decode cX4_takeText 10 = .ok (.iload_n 2, 1) := by decide +kernel
theorem dX4_takeText_11 : decode cX4_takeText 11 = .ok (.sipush 600, 3) := by decide +kernel
theorem dX4_takeText_14 : decode cX4_takeText 14 = .ok (.if_icmp .ge 31, 3) := by decide +kernel
theorem dX4_takeText_17 : decode cX4_takeText 17 = .ok (.aload_n 1, 1) := by decide +kernel
theorem dX4_takeText_18 : decode cX4_takeText 18 = .ok (.invokevirtual 38, 3) := by decide +kernel
theorem dX4_takeText_21 : decode cX4_takeText 21 = .ok (.ifCond .eq 24, 3) := by decide +kernel
theorem dX4_takeText_24 : decode cX4_takeText 24 = .ok (.aload_n 0, 1) := by decide +kernel
theorem dX4_takeText_25 : decode cX4_takeText 25 = .ok (.aload_n 1, 1) := by decide +kernel
theorem dX4_takeText_26 : decode cX4_takeText 26 = .ok (.invokevirtual 42, 3) := by decide +kernel
theorem dX4_takeText_29 : decode cX4_takeText 29 = .ok (.ifCond .ne 10, 3) := by decide +kernel
theorem dX4_takeText_32 : decode cX4_takeText 32 = .ok (.iconst (-1), 1) := by decide +kernel
theorem dX4_takeText_33 : decode cX4_takeText 33 = .ok (.aload_n 1, 1) := by decide +kernel
theorem dX4_takeText_34 : decode cX4_takeText 34 = .ok (.getfield 46, 3) := by decide +kernel
theorem dX4_takeText_37 : decode cX4_takeText 37 = .ok (.isub, 1) := by decide +kernel
theorem dX4_takeText_38 : decode cX4_takeText 38 = .ok (.ireturn, 1) := by decide +kernel
theorem dX4_takeText_39 : decode cX4_takeText 39 = .ok (.iinc 2 1, 3) := by decide +kernel
theorem dX4_takeText_42 : decode cX4_takeText 42 = .ok (.goto (-32), 3) := by decide +kernel
theorem dX4_takeText_45 : decode cX4_takeText 45 = .ok (.iload_n 2, 1) := by decide +kernel
theorem dX4_takeText_46 : decode cX4_takeText 46 = .ok (.ireturn, 1) := by decide +kernel
theorem dX4_takeSentence_0 : decode cX4_takeSentence 0 = .ok (.aload_n 1, 1) := by decide +kernel
theorem dX4_takeSentence_1 : decode cX4_takeSentence 1 = .ok (.ldc 50, 2) := by decide +kernel
theorem dX4_takeSentence_3 : decode cX4_takeSentence 3 = .ok (.invokevirtual 52, 3) := by decide +kernel
theorem dX4_takeSentence_6 : decode cX4_takeSentence 6 = .ok (.ifCond .eq 11, 3) := by decide +kernel
theorem dX4_takeSentence_9 : decode cX4_takeSentence 9 = .ok (.aload_n 0, 1) := by decide +kernel
theorem dX4_takeSentence_10 : decode cX4_takeSentence 10 = .ok (.aload_n 1, 1) := by decide +kernel
theorem dX4_takeSentence_11 : decode cX4_takeSentence 11 = .ok (.iconst 0, 1) := by decide +kernel
theorem dX4_takeSentence_12 : decode cX4_takeSentence 12 = .ok (.iconst 1, 1) := by decide +kernel
theorem dX4_takeSentence_13 : decode cX4_takeSentence 13 = .ok (.invokevirtual 56, 3) := by decide +kernel
theorem dX4_takeSentence_16 : decode cX4_takeSentence 16 = .ok (.ireturn, 1) := by decide +kernel
theorem dX4_takeSentence_17 : decode cX4_takeSentence 17 = .ok (.aload_n 1, 1) := by decide +kernel
theorem dX4_takeSentence_18 : decode cX4_takeSentence 18 = .ok (.ldc 60, 2) := by decide +kernel
theorem dX4_takeSentence_20 : decode cX4_takeSentence 20 = .ok (.invokevirtual 52, 3) := by decide +kernel
theorem dX4_takeSentence_23 : decode cX4_takeSentence 23 = .ok (.ifCond .eq 11, 3) := by decide +kernel
theorem dX4_takeSentence_26 : decode cX4_takeSentence 26 = .ok (.aload_n 0, 1) := by decide +kernel
theorem dX4_takeSentence_27 : decode cX4_takeSentence 27 = .ok (.aload_n 1, 1) := by decide +kernel
theorem dX4_takeSentence_28 : decode cX4_takeSentence 28 = .ok (.iconst 1, 1) := by decide +kernel
theorem dX4_takeSentence_29 : decode cX4_takeSentence 29 = .ok (.iconst 0, 1) := by decide +kernel
theorem dX4_takeSentence_30 : decode cX4_takeSentence 30 = .ok (.invokevirtual 56, 3) := by decide +kernel
theorem dX4_takeSentence_33 : decode cX4_takeSentence 33 = .ok (.ireturn, 1) := by decide +kernel
theorem dX4_takeSentence_34 : decode cX4_takeSentence 34 = .ok (.aload_n 1, 1) := by decide +kernel
theorem dX4_takeSentence_35 : decode cX4_takeSentence 35 = .ok (.ldc 62, 2) := by decide +kernel
theorem dX4_takeSentence_37 : decode cX4_takeSentence 37 = .ok (.invokevirtual 52, 3) := by decide +kernel
theorem dX4_takeSentence_40 : decode cX4_takeSentence 40 = .ok (.ifCond .eq 13, 3) := by decide +kernel
theorem dX4_takeSentence_43 : decode cX4_takeSentence 43 = .ok (.aload_n 1, 1) := by decide +kernel
theorem dX4_takeSentence_44 : decode cX4_takeSentence 44 = .ok (.aload_n 0, 1) := by decide +kernel
theorem dX4_takeSentence_45 : decode cX4_takeSentence 45 = .ok (.getfield 15, 3) := by decide +kernel
theorem dX4_takeSentence_48 : decode cX4_takeSentence 48 = .ok (.iconst 2, 1) := by decide +kernel
theorem dX4_takeSentence_49 : decode cX4_takeSentence 49 = .ok (.invokestatic 64, 3) := by decide +kernel
theorem dX4_takeSentence_52 : decode cX4_takeSentence 52 = .ok (.ireturn, 1) := by decide +kernel
theorem dX4_takeSentence_53 : decode cX4_takeSentence 53 = .ok (.aload_n 1, 1) := by decide +kernel
theorem dX4_takeSentence_54 : decode cX4_takeSentence 54 = .ok (.ldc 68, 2) := by decide +kernel
theorem dX4_takeSentence_56 : decode cX4_takeSentence 56 = .ok (.invokevirtual 52, 3) := by decide +kernel
theorem dX4_takeSentence_59 : decode cX4_takeSentence 59 = .ok (.ifCond .eq 15, 3) := by decide +kernel
theorem dX4_takeSentence_62 : decode cX4_takeSentence 62 = .ok (.aload_n 1, 1) := by decide +kernel
theorem dX4_takeSentence_63 : decode cX4_takeSentence 63 = .ok (.aload_n 0, 1) := by decide +kernel
theorem dX4_takeSentence_64 : decode cX4_takeSentence 64 = .ok (.getfield 18, 3) := by decide +kernel
theorem dX4_takeSentence_67 : decode cX4_takeSentence 67 = .ok (.sipush 1000, 3) := by decide +kernel
theorem dX4_takeSentence_70 : decode cX4_takeSentence 70 = .ok (.invokestatic 64, 3) := by decide +kernel
theorem dX4_takeSentence_73 : decode cX4_takeSentence 73 = .ok (.ireturn, 1) := by decide +kernel
theorem dX4_takeSentence_74 : decode cX4_takeSentence 74 = .ok (.aload_n 1, 1) := by decide +kernel
theorem dX4_takeSentence_75 : decode cX4_takeSentence 75 = .ok (.ldc 70, 2) := by decide +kernel
theorem dX4_takeSentence_77 : decode cX4_takeSentence 77 = .ok (.invokevirtual 52, 3) := by decide +kernel
theorem dX4_takeSentence_80 : decode cX4_takeSentence 80 = .ok (.ifCond .eq 20, 3) := by decide +kernel
theorem dX4_takeSentence_83 : decode cX4_takeSentence 83 = .ok (.aload_n 1, 1) := by decide +kernel
theorem dX4_takeSentence_84 : decode cX4_takeSentence 84 = .ok (.aload_n 0, 1) := by decide +kernel
theorem dX4_takeSentence_85 : decode cX4_takeSentence 85 = .ok (.getfield 21, 3) := by decide +kernel
theorem dX4_takeSentence_88 : decode cX4_takeSentence 88 = .ok (.ldc 72, 2) := by decide +kernel
theorem dX4_takeSentence_90 : decode cX4_takeSentence 90 = .ok (.invokestatic 64, 3) := by decide +kernel
theorem dX4_takeSentence_93 : decode cX4_takeSentence 93 = .ok (.ifCond .eq 7, 3) := by decide +kernel
theorem dX4_takeSentence_96 : decode cX4_takeSentence 96 = .ok (.iconst 1, 1) := by decide +kernel
theorem dX4_takeSentence_97 : decode cX4_takeSentence 97 = .ok (.goto 4, 3) := by decide +kernel
theorem dX4_takeSentence_100 : decode cX4_takeSentence 100 = .ok (.iconst 0, 1) := by decide +kernel
theorem dX4_takeSentence_101 : decode cX4_takeSentence 101 = .ok (.ireturn, 1) := by decide +kernel
theorem dX4_takePercent_0 : decode cX4_takePercent 0 = .ok (.aload_n 0, 1) := by decide +kernel
theorem dX4_takePercent_1 : decode cX4_takePercent 1 = .ok (.getfield 9, 3) := by decide +kernel
theorem dX4_takePercent_4 : decode cX4_takePercent 4 = .ok (.iload_n 2, 1) := by decide +kernel
theorem dX4_takePercent_5 : decode cX4_takePercent 5 = .ok (.iaload, 1) := by decide +kernel
theorem dX4_takePercent_6 : decode cX4_takePercent 6 = .ok (.iconst (-1), 1) := by decide +kernel
theorem dX4_takePercent_7 : decode cX4_takePercent 7 = .ok (.if_icmp .eq 5, 3) := by decide +kernel
theorem dX4_takePercent_10 : decode cX4_takePercent 10 = .ok (.iconst 0, 1) := by decide +kernel
theorem dX4_takePercent_11 : decode cX4_takePercent 11 = .ok (.ireturn, 1) := by decide +kernel
theorem dX4_takePercent_12 : decode cX4_takePercent 12 = .ok (.aload_n 0, 1) := by decide +kernel
theorem dX4_takePercent_13 : decode cX4_takePercent 13 = .ok (.getfield 9, 3) := by decide +kernel
theorem dX4_takePercent_16 : decode cX4_takePercent 16 = .ok (.iload_n 2, 1) := by decide +kernel
theorem dX4_takePercent_17 : decode cX4_takePercent 17 = .ok (.aload_n 1, 1) := by decide +kernel
theorem dX4_takePercent_18 : decode cX4_takePercent 18 = .ok (.bipush 100, 2) := by decide +kernel
theorem dX4_takePercent_20 : decode cX4_takePercent 20 = .ok (.aload_n 0, 1) := by decide +kernel
theorem dX4_takePercent_21 : decode cX4_takePercent 21 = .ok (.iload_n 3, 1) := by decide +kernel
theorem dX4_takePercent_22 : decode cX4_takePercent 22 = .ok (.invokevirtual 73, 3) := by decide +kernel
theorem dX4_takePercent_25 : decode cX4_takePercent 25 = .ok (.isub, 1) := by decide +kernel
theorem dX4_takePercent_26 : decode cX4_takePercent 26 = .ok (.invokevirtual 77, 3) := by decide +kernel
theorem dX4_takePercent_29 : decode cX4_takePercent 29 = .ok (.iastore, 1) := by decide +kernel
theorem dX4_takePercent_30 : decode cX4_takePercent 30 = .ok (.aload_n 0, 1) := by decide +kernel
theorem dX4_takePercent_31 : decode cX4_takePercent 31 = .ok (.getfield 9, 3) := by decide +kernel
theorem dX4_takePercent_34 : decode cX4_takePercent 34 = .ok (.iload_n 2, 1) := by decide +kernel
theorem dX4_takePercent_35 : decode cX4_takePercent 35 = .ok (.iaload, 1) := by decide +kernel
theorem dX4_takePercent_36 : decode cX4_takePercent 36 = .ok (.iconst (-1), 1) := by decide +kernel
theorem dX4_takePercent_37 : decode cX4_takePercent 37 = .ok (.if_icmp .eq 7, 3) := by decide +kernel
theorem dX4_takePercent_40 : decode cX4_takePercent 40 = .ok (.iconst 1, 1) := by decide +kernel
theorem dX4_takePercent_41 : decode cX4_takePercent 41 = .ok (.goto 4, 3) := by decide +kernel
theorem dX4_takePercent_44 : decode cX4_takePercent 44 = .ok (.iconst 0, 1) := by decide +kernel
theorem dX4_takePercent_45 : decode cX4_takePercent 45 = .ok (.ireturn, 1) := by decide +kernel
theorem dX4_takeValue_0 : decode cX4_takeValue 0 = .ok (.aload_n 0, 1) := by decide +kernel
theorem dX4_takeValue_1 : decode cX4_takeValue 1 = .ok (.aload_n 1, 1) := by decide +kernel
theorem dX4_takeValue_2 : decode cX4_takeValue 2 = .ok (.arraylength, 1) := by decide +kernel
theorem dX4_takeValue_3 : decode cX4_takeValue 3 = .ok (.iconst 1, 1) := by decide +kernel
theorem dX4_takeValue_4 : decode cX4_takeValue 4 = .ok (.isub, 1) := by decide +kernel
theorem dX4_takeValue_5 : decode cX4_takeValue 5 = .ok (.invokevirtual 77, 3) := by decide +kernel
theorem dX4_takeValue_8 : decode cX4_takeValue 8 = .ok (.istore_n 3, 1) := by decide +kernel
theorem dX4_takeValue_9 : decode cX4_takeValue 9 = .ok (.iload_n 3, 1) := by decide +kernel
theorem dX4_takeValue_10 : decode cX4_takeValue 10 = .ok (.ifCond .ge 5, 3) := by decide +kernel
theorem dX4_takeValue_13 : decode cX4_takeValue 13 = .ok (.iconst 0, 1) := by decide +kernel
theorem dX4_takeValue_14 : decode cX4_takeValue 14 = .ok (.ireturn, 1) := by decide +kernel
theorem dX4_takeValue_15 : decode cX4_takeValue 15 = .ok (.aload_n 0, 1) := by decide +kernel
theorem dX4_takeValue_16 : decode cX4_takeValue 16 = .ok (.iload_n 2, 1) := by decide +kernel
theorem dX4_takeValue_17 : decode cX4_takeValue 17 = .ok (.invokevirtual 77, 3) := by decide +kernel
theorem dX4_takeValue_20 : decode cX4_takeValue 20 = .ok (.istore 4, 2) := by decide +kernel
theorem dX4_takeValue_22 : decode cX4_takeValue 22 = .ok (.iload 4, 2) := by decide +kernel
theorem dX4_takeValue_24 : decode cX4_takeValue 24 = .ok (.ifCond .ge 5, 3) := by decide +kernel
theorem dX4_takeValue_27 : decode cX4_takeValue 27 = .ok (.iconst 0, 1) := by decide +kernel
theorem dX4_takeValue_28 : decode cX4_takeValue 28 = .ok (.ireturn, 1) := by decide +kernel
theorem dX4_takeValue_29 : decode cX4_takeValue 29 = .ok (.aload_n 1, 1) := by decide +kernel
theorem dX4_takeValue_30 : decode cX4_takeValue 30 = .ok (.iload_n 3, 1) := by decide +kernel
theorem dX4_takeValue_31 : decode cX4_takeValue 31 = .ok (.iload 4, 2) := by decide +kernel
theorem dX4_takeValue_33 : decode cX4_takeValue 33 = .ok (.iastore, 1) := by decide +kernel
theorem dX4_takeValue_34 : decode cX4_takeValue 34 = .ok (.iconst 1, 1) := by decide +kernel
theorem dX4_takeValue_35 : decode cX4_takeValue 35 = .ok (.ireturn, 1) := by decide +kernel
theorem dX4_percentOf_0 : decode cX4_percentOf 0 = .ok (.aload_n 0, 1) := by decide +kernel
theorem dX4_percentOf_1 : decode cX4_percentOf 1 = .ok (.getfield 9, 3) := by decide +kernel
theorem dX4_percentOf_4 : decode cX4_percentOf 4 = .ok (.iload_n 1, 1) := by decide +kernel
theorem dX4_percentOf_5 : decode cX4_percentOf 5 = .ok (.iaload, 1) := by decide +kernel
theorem dX4_percentOf_6 : decode cX4_percentOf 6 = .ok (.iconst 0, 1) := by decide +kernel
theorem dX4_percentOf_7 : decode cX4_percentOf 7 = .ok (.invokestatic 80, 3) := by decide +kernel
theorem dX4_percentOf_10 : decode cX4_percentOf 10 = .ok (.ireturn, 1) := by decide +kernel
theorem dX5_init_0 : decode cX5_init 0 = .ok (.aload_n 0, 1) := by decide +kernel
theorem dX5_init_1 : decode cX5_init 1 = .ok (.invokespecial 3, 3) := by decide +kernel
theorem dX5_init_4 : decode cX5_init 4 = .ok (.aload_n 0, 1) := by decide +kernel
theorem dX5_init_5 : decode cX5_init 5 = .ok (.sipush 600, 3) := by decide +kernel
theorem dX5_init_8 : decode cX5_init 8 = .ok (.newarray .char, 2) := by decide +kernel
theorem dX5_init_10 : decode cX5_init 10 = .ok (.putfield 11, 3) := by decide +kernel
theorem dX5_init_13 : decode cX5_init 13 = .ok (.return_, 1) := by decide +kernel
theorem dX5_append_0 : decode cX5_append 0 = .ok (.iload_n 1, 1) := by decide +kernel
theorem dX5_append_1 : decode cX5_append 1 = .ok (.ifCond .lt 20, 3) := by decide +kernel
theorem dX5_append_4 : decode cX5_append 4 = .ok (.iload_n 1, 1) := by decide +kernel
theorem dX5_append_5 : decode cX5_append 5 = .ok (.sipush 255, 3) := by decide +kernel
theorem dX5_append_8 : decode cX5_append 8 = .ok (.if_icmp .gt 13, 3) := by decide +kernel
theorem dX5_append_11 : decode cX5_append 11 = .ok (.aload_n 0, 1) := by decide +kernel
theorem dX5_append_12 : decode cX5_append 12 = .ok (.getfield 15, 3) := by decide +kernel
theorem dX5_append_15 : decode cX5_append 15 = .ok (.sipush 600, 3) := by decide +kernel
theorem dX5_append_18 : decode cX5_append 18 = .ok (.if_icmp .lt 5, 3) := by decide +kernel
theorem dX5_append_21 : decode cX5_append 21 = .ok (.iconst 0, 1) := by decide +kernel
theorem dX5_append_22 : decode cX5_append 22 = .ok (.ireturn, 1) := by decide +kernel
theorem dX5_append_23 : decode cX5_append 23 = .ok (.aload_n 0, 1) := by decide +kernel
theorem dX5_append_24 : decode cX5_append 24 = .ok (.getfield 11, 3) := by decide +kernel
theorem dX5_append_27 : decode cX5_append 27 = .ok (.aload_n 0, 1) := by decide +kernel
theorem dX5_append_28 : decode cX5_append 28 = .ok (.getfield 15, 3) := by decide +kernel
theorem dX5_append_31 : decode cX5_append 31 = .ok (.iload_n 1, 1) := by decide +kernel
theorem dX5_append_32 : decode cX5_append 32 = .ok (.i2c, 1) := by decide +kernel
theorem dX5_append_33 : decode cX5_append 33 = .ok (.castore, 1) := by decide +kernel
theorem dX5_append_34 : decode cX5_append 34 = .ok (.aload_n 0, 1) := by decide +kernel
theorem dX5_append_35 : decode cX5_append 35 = .ok (.dup, 1) := by decide +kernel
theorem dX5_append_36 : decode cX5_append 36 = .ok (.getfield 15, 3) := by decide +kernel
theorem dX5_append_39 : decode cX5_append 39 = .ok (.iconst 1, 1) := by decide +kernel
theorem dX5_append_40 : decode cX5_append 40 = .ok (.iadd, 1) := by decide +kernel
theorem dX5_append_41 : decode cX5_append 41 = .ok (.putfield 15, 3) := by decide +kernel
theorem dX5_append_44 : decode cX5_append 44 = .ok (.iconst 1, 1) := by decide +kernel
theorem dX5_append_45 : decode cX5_append 45 = .ok (.ireturn, 1) := by decide +kernel
theorem dX5_empty_0 : decode cX5_empty 0 = .ok (.aload_n 0, 1) := by decide +kernel
theorem dX5_empty_1 : decode cX5_empty 1 = .ok (.iconst 0, 1) := by decide +kernel
theorem dX5_empty_2 : decode cX5_empty 2 = .ok (.putfield 15, 3) := by decide +kernel
theorem dX5_empty_5 : decode cX5_empty 5 = .ok (.return_, 1) := by decide +kernel
theorem dX5_rewind_0 : decode cX5_rewind 0 = .ok (.aload_n 0, 1) := by decide +kernel
theorem dX5_rewind_1 : decode cX5_rewind 1 = .ok (.iconst 0, 1) := by decide +kernel
theorem dX5_rewind_2 : decode cX5_rewind 2 = .ok (.putfield 19, 3) := by decide +kernel
theorem dX5_rewind_5 : decode cX5_rewind 5 = .ok (.aload_n 0, 1) := by decide +kernel
theorem dX5_rewind_6 : decode cX5_rewind 6 = .ok (.iconst (-1), 1) := by decide +kernel
theorem dX5_rewind_7 : decode cX5_rewind 7 = .ok (.putfield 22, 3) := by decide +kernel
theorem dX5_rewind_10 : decode cX5_rewind 10 = .ok (.return_, 1) := by decide +kernel
theorem dX5_nextWord_0 : decode cX5_nextWord 0 = .ok (.aload_n 0, 1) := by decide +kernel
theorem dX5_nextWord_1 : decode cX5_nextWord 1 = .ok (.dup, 1) := by decide +kernel
theorem dX5_nextWord_2 : decode cX5_nextWord 2 = .ok (.getfield 22, 3) := by decide +kernel
theorem dX5_nextWord_5 : decode cX5_nextWord 5 = .ok (.iconst 1, 1) := by decide +kernel
theorem dX5_nextWord_6 : decode cX5_nextWord 6 = .ok (.iadd, 1) := by decide +kernel
theorem dX5_nextWord_7 : decode cX5_nextWord 7 = .ok (.putfield 22, 3) := by decide +kernel
theorem dX5_nextWord_10 : decode cX5_nextWord 10 = .ok (.aload_n 0, 1) := by decide +kernel
theorem dX5_nextWord_11 : decode cX5_nextWord 11 = .ok (.aload_n 0, 1) := by decide +kernel
theorem dX5_nextWord_12 : decode cX5_nextWord 12 = .ok (.getfield 19, 3) := by decide +kernel
theorem dX5_nextWord_15 : decode cX5_nextWord 15 = .ok (.putfield 25, 3) := by decide +kernel
theorem dX5_nextWord_18 : decode cX5_nextWord 18 = .ok (.aload_n 0, 1) := by decide +kernel
theorem dX5_nextWord_19 : decode cX5_nextWord 19 = .ok (.getfield 25, 3) := by decide +kernel
theorem dX5_nextWord_22 : decode cX5_nextWord 22 = .ok (.aload_n 0, 1) := by decide +kernel
theorem dX5_nextWord_23 : decode cX5_nextWord 23 = .ok (.getfield 15, 3) := by decide +kernel
theorem dX5_nextWord_26 : decode cX5_nextWord 26 = .ok (.if_icmp .ge 31, 3) := by decide +kernel
theorem dX5_nextWord_29 : decode cX5_nextWord 29 = .ok (.aload_n 0, 1) := by decide +kernel
theorem dX5_nextWord_30 : decode cX5_nextWord 30 = .ok (.getfield 11, 3) := by decide +kernel
theorem dX5_nextWord_33 : decode cX5_nextWord 33 = .ok (.aload_n 0, 1) := by decide +kernel
theorem dX5_nextWord_34 : decode cX5_nextWord 34 = .ok (.getfield 25, 3) := by decide +kernel
theorem dX5_nextWord_37 : decode cX5_nextWord 37 = .ok (.caload, 1) := by decide +kernel
theorem dX5_nextWord_38 : decode cX5_nextWord 38 = .ok (.invokestatic 28, 3) := by decide +kernel
theorem dX5_nextWord_41 : decode cX5_nextWord 41 = .ok (.ifCond .eq 16, 3) := by decide +kernel
theorem dX5_nextWord_44 : decode cX5_nextWord 44 = .ok (.aload_n 0, 1) := by decide +kernel
theorem dX5_nextWord_45 : decode cX5_nextWord 45 = .ok (.dup, 1) := by decide +kernel
theorem dX5_nextWord_46 : decode cX5_nextWord 46 = .ok (.getfield 25, 3) := by decide +kernel
theorem dX5_nextWord_49 : decode cX5_nextWord 49 = .ok (.iconst 1, 1) := by decide +kernel
theorem dX5_nextWord_50 : decode cX5_nextWord 50 = .ok (.iadd, 1) := by decide +kernel
theorem dX5_nextWord_51 : decode cX5_nextWord 51 = .ok (.putfield 25, 3) := by decide +kernel
theorem dX5_nextWord_54 : decode cX5_nextWord 54 = .ok (.goto (-36), 3) := by decide +kernel
theorem dX5_nextWord_57 : decode cX5_nextWord 57 = .ok (.aload_n 0, 1) := by decide +kernel
theorem dX5_nextWord_58 : decode cX5_nextWord 58 = .ok (.aload_n 0, 1) := by decide +kernel
theorem dX5_nextWord_59 : decode cX5_nextWord 59 = .ok (.getfield 25, 3) := by decide +kernel
theorem dX5_nextWord_62 : decode cX5_nextWord 62 = .ok (.putfield 19, 3) := by decide +kernel
theorem dX5_nextWord_65 : decode cX5_nextWord 65 = .ok (.aload_n 0, 1) := by decide +kernel
theorem dX5_nextWord_66 : decode cX5_nextWord 66 = .ok (.getfield 19, 3) := by decide +kernel
theorem dX5_nextWord_69 : decode cX5_nextWord 69 = .ok (.aload_n 0, 1) := by decide +kernel
theorem dX5_nextWord_70 : decode cX5_nextWord 70 = .ok (.getfield 15, 3) := by decide +kernel
theorem dX5_nextWord_73 : decode cX5_nextWord 73 = .ok (.if_icmp .ge 31, 3) := by decide +kernel
theorem dX5_nextWord_76 : decode cX5_nextWord 76 = .ok (.aload_n 0, 1) := by decide +kernel
theorem dX5_nextWord_77 : decode cX5_nextWord 77 = .ok (.getfield 11, 3) := by decide +kernel
theorem dX5_nextWord_80 : decode cX5_nextWord 80 = .ok (.aload_n 0, 1) := by decide +kernel
theorem dX5_nextWord_81 : decode cX5_nextWord 81 = .ok (.getfield 19, 3) := by decide +kernel
theorem dX5_nextWord_84 : decode cX5_nextWord 84 = .ok (.caload, 1) := by decide +kernel
theorem dX5_nextWord_85 : decode cX5_nextWord 85 = .ok (.invokestatic 28, 3) := by decide +kernel
theorem dX5_nextWord_88 : decode cX5_nextWord 88 = .ok (.ifCond .ne 16, 3) := by decide +kernel
theorem dX5_nextWord_91 : decode cX5_nextWord 91 = .ok (.aload_n 0, 1) := by decide +kernel
theorem dX5_nextWord_92 : decode cX5_nextWord 92 = .ok (.dup, 1) := by decide +kernel
theorem dX5_nextWord_93 : decode cX5_nextWord 93 = .ok (.getfield 19, 3) := by decide +kernel
theorem dX5_nextWord_96 : decode cX5_nextWord 96 = .ok (.iconst 1, 1) := by decide +kernel
theorem dX5_nextWord_97 : decode cX5_nextWord 97 = .ok (.iadd, 1) := by decide +kernel
theorem dX5_nextWord_98 : decode cX5_nextWord 98 = .ok (.putfield 19, 3) := by decide +kernel
theorem dX5_nextWord_101 : decode cX5_nextWord 101 = .ok (.goto (-36), 3) := by decide +kernel
theorem dX5_nextWord_104 : decode cX5_nextWord 104 = .ok (.aload_n 0, 1) := by decide +kernel
theorem dX5_nextWord_105 : decode cX5_nextWord 105 = .ok (.getfield 25, 3) := by decide +kernel
theorem dX5_nextWord_108 : decode cX5_nextWord 108 = .ok (.aload_n 0, 1) := by decide +kernel
theorem dX5_nextWord_109 : decode cX5_nextWord 109 = .ok (.getfield 19, 3) := by decide +kernel
theorem dX5_nextWord_112 : decode cX5_nextWord 112 = .ok (.if_icmp .ge 7, 3) := by decide +kernel
theorem dX5_nextWord_115 : decode cX5_nextWord 115 = .ok (.iconst 1, 1) := by decide +kernel
theorem dX5_nextWord_116 : decode cX5_nextWord 116 = .ok (.goto 4, 3) := by decide +kernel
theorem dX5_nextWord_119 : decode cX5_nextWord 119 = .ok (.iconst 0, 1) := by decide +kernel
theorem dX5_nextWord_120 : decode cX5_nextWord 120 = .ok (.ireturn, 1) := by decide +kernel
theorem dX5_wordIs_0 : decode cX5_wordIs 0 = .ok (.aload_n 0, 1) := by decide +kernel
theorem dX5_wordIs_1 : decode cX5_wordIs 1 = .ok (.getfield 19, 3) := by decide +kernel
theorem dX5_wordIs_4 : decode cX5_wordIs 4 = .ok (.aload_n 0, 1) := by decide +kernel
theorem dX5_wordIs_5 : decode cX5_wordIs 5 = .ok (.getfield 25, 3) := by decide +kernel
theorem dX5_wordIs_8 : decode cX5_wordIs 8 = .ok (.isub, 1) := by decide +kernel
theorem dX5_wordIs_9 : decode cX5_wordIs 9 = .ok (.aload_n 1, 1) := by decide +kernel
theorem dX5_wordIs_10 : decode cX5_wordIs 10 = .ok (.invokevirtual 32, 3) := by decide +kernel
theorem dX5_wordIs_13 : decode cX5_wordIs 13 = .ok (.if_icmp .eq 5, 3) := by decide +kernel
theorem dX5_wordIs_16 : decode cX5_wordIs 16 = .ok (.iconst 0, 1) := by decide +kernel
theorem dX5_wordIs_17 : decode cX5_wordIs 17 = .ok (.ireturn, 1) := by decide +kernel
theorem dX5_wordIs_18 : decode cX5_wordIs 18 = .ok (.iconst 0, 1) := by decide +kernel
theorem dX5_wordIs_19 : decode cX5_wordIs 19 = .ok (.istore_n 2, 1) := by decide +kernel
theorem dX5_wordIs_20 : decode cX5_wordIs 20 = .ok (.iload_n 2, 1) := by decide +kernel
theorem dX5_wordIs_21 : decode cX5_wordIs 21 = .ok (.aload_n 1, 1) := by decide +kernel
theorem dX5_wordIs_22 : decode cX5_wordIs 22 = .ok (.invokevirtual 32, 3) := by decide +kernel
theorem dX5_wordIs_25 : decode cX5_wordIs 25 = .ok (.if_icmp .ge 30, 3) := by decide +kernel
theorem dX5_wordIs_28 : decode cX5_wordIs 28 = .ok (.aload_n 0, 1) := by decide +kernel
theorem dX5_wordIs_29 : decode cX5_wordIs 29 = .ok (.getfield 11, 3) := by decide +kernel
theorem dX5_wordIs_32 : decode cX5_wordIs 32 = .ok (.aload_n 0, 1) := by decide +kernel
theorem dX5_wordIs_33 : decode cX5_wordIs 33 = .ok (.getfield 25, 3) := by decide +kernel
theorem dX5_wordIs_36 : decode cX5_wordIs 36 = .ok (.iload_n 2, 1) := by decide +kernel
theorem dX5_wordIs_37 : decode cX5_wordIs 37 = .ok (.iadd, 1) := by decide +kernel
theorem dX5_wordIs_38 : decode cX5_wordIs 38 = .ok (.caload, 1) := by decide +kernel
theorem dX5_wordIs_39 : decode cX5_wordIs 39 = .ok (.aload_n 1, 1) := by decide +kernel
theorem dX5_wordIs_40 : decode cX5_wordIs 40 = .ok (.iload_n 2, 1) := by decide +kernel
theorem dX5_wordIs_41 : decode cX5_wordIs 41 = .ok (.invokevirtual 37, 3) := by decide +kernel
theorem dX5_wordIs_44 : decode cX5_wordIs 44 = .ok (.if_icmp .eq 5, 3) := by decide +kernel
theorem dX5_wordIs_47 : decode cX5_wordIs 47 = .ok (.iconst 0, 1) := by decide +kernel
theorem dX5_wordIs_48 : decode cX5_wordIs 48 = .ok (.ireturn, 1) := by decide +kernel
theorem dX5_wordIs_49 : decode cX5_wordIs 49 = .ok (.iinc 2 1, 3) := by decide +kernel
theorem dX5_wordIs_52 : decode cX5_wordIs 52 = .ok (.goto (-32), 3) := by decide +kernel
theorem dX5_wordIs_55 : decode cX5_wordIs 55 = .ok (.iconst 1, 1) := by decide +kernel
theorem dX5_wordIs_56 : decode cX5_wordIs 56 = .ok (.ireturn, 1) := by decide +kernel
theorem dX5_nextNumber_0 : decode cX5_nextNumber 0 = .ok (.aload_n 0, 1) := by decide +kernel
theorem dX5_nextNumber_1 : decode cX5_nextNumber 1 = .ok (.invokevirtual 41, 3) := by decide +kernel
theorem dX5_nextNumber_4 : decode cX5_nextNumber 4 = .ok (.ifCond .eq 17, 3) := by decide +kernel
theorem dX5_nextNumber_7 : decode cX5_nextNumber 7 = .ok (.aload_n 0, 1) := by decide +kernel
theorem dX5_nextNumber_8 : decode cX5_nextNumber 8 = .ok (.getfield 19, 3) := by decide +kernel
theorem dX5_nextNumber_11 : decode cX5_nextNumber 11 = .ok (.aload_n 0, 1) := by decide +kernel
theorem dX5_nextNumber_12 : decode cX5_nextNumber 12 = .ok (.getfield 25, 3) := by decide +kernel
theorem dX5_nextNumber_15 : decode cX5_nextNumber 15 = .ok (.isub, 1) := by decide +kernel
theorem dX5_nextNumber_16 : decode cX5_nextNumber 16 = .ok (.bipush 6, 2) := by decide +kernel
theorem dX5_nextNumber_18 : decode cX5_nextNumber 18 = .ok (.if_icmp .le 5, 3) := by decide +kernel
theorem dX5_nextNumber_21 : decode cX5_nextNumber 21 = .ok (.iconst (-1), 1) := by decide +kernel
theorem dX5_nextNumber_22 : decode cX5_nextNumber 22 = .ok (.ireturn, 1) := by decide +kernel
theorem dX5_nextNumber_23 : decode cX5_nextNumber 23 = .ok (.iconst 0, 1) := by decide +kernel
theorem dX5_nextNumber_24 : decode cX5_nextNumber 24 = .ok (.istore_n 2, 1) := by decide +kernel
theorem dX5_nextNumber_25 : decode cX5_nextNumber 25 = .ok (.aload_n 0, 1) := by decide +kernel
theorem dX5_nextNumber_26 : decode cX5_nextNumber 26 = .ok (.getfield 25, 3) := by decide +kernel
theorem dX5_nextNumber_29 : decode cX5_nextNumber 29 = .ok (.istore_n 3, 1) := by decide +kernel
theorem dX5_nextNumber_30 : decode cX5_nextNumber 30 = .ok (.iload_n 3, 1) := by decide +kernel
theorem dX5_nextNumber_31 : decode cX5_nextNumber 31 = .ok (.aload_n 0, 1) := by decide +kernel
theorem dX5_nextNumber_32 : decode cX5_nextNumber 32 = .ok (.getfield 19, 3) := by decide +kernel
theorem dX5_nextNumber_35 : decode cX5_nextNumber 35 = .ok (.if_icmp .ge 48, 3) := by decide +kernel
theorem dX5_nextNumber_38 : decode cX5_nextNumber 38 = .ok (.aload_n 0, 1) := by decide +kernel
theorem dX5_nextNumber_39 : decode cX5_nextNumber 39 = .ok (.getfield 11, 3) := by decide +kernel
theorem dX5_nextNumber_42 : decode cX5_nextNumber 42 = .ok (.iload_n 3, 1) := by decide +kernel
theorem dX5_nextNumber_43 : decode cX5_nextNumber 43 = .ok (.caload, 1) := by decide +kernel
theorem dX5_nextNumber_44 : decode cX5_nextNumber 44 = .ok (.bipush 48, 2) := by decide +kernel
theorem dX5_nextNumber_46 : decode cX5_nextNumber 46 = .ok (.if_icmp .lt 14, 3) := by decide +kernel
theorem dX5_nextNumber_49 : decode cX5_nextNumber 49 = .ok (.aload_n 0, 1) := by decide +kernel
theorem dX5_nextNumber_50 : decode cX5_nextNumber 50 = .ok (.getfield 11, 3) := by decide +kernel
theorem dX5_nextNumber_53 : decode cX5_nextNumber 53 = .ok (.iload_n 3, 1) := by decide +kernel
theorem dX5_nextNumber_54 : decode cX5_nextNumber 54 = .ok (.caload, 1) := by decide +kernel
theorem dX5_nextNumber_55 : decode cX5_nextNumber 55 = .ok (.bipush 57, 2) := by decide +kernel
theorem dX5_nextNumber_57 : decode cX5_nextNumber 57 = .ok (.if_icmp .le 5, 3) := by decide +kernel
theorem dX5_nextNumber_60 : decode cX5_nextNumber 60 = .ok (.iconst (-1), 1) := by decide +kernel
theorem dX5_nextNumber_61 : decode cX5_nextNumber 61 = .ok (.ireturn, 1) := by decide +kernel
theorem dX5_nextNumber_62 : decode cX5_nextNumber 62 = .ok (.bipush 10, 2) := by decide +kernel
theorem dX5_nextNumber_64 : decode cX5_nextNumber 64 = .ok (.iload_n 2, 1) := by decide +kernel
theorem dX5_nextNumber_65 : decode cX5_nextNumber 65 = .ok (.imul, 1) := by decide +kernel
theorem dX5_nextNumber_66 : decode cX5_nextNumber 66 = .ok (.aload_n 0, 1) := by decide +kernel
theorem dX5_nextNumber_67 : decode cX5_nextNumber 67 = .ok (.getfield 11, 3) := by decide +kernel
theorem dX5_nextNumber_70 : decode cX5_nextNumber 70 = .ok (.iload_n 3, 1) := by decide +kernel
theorem dX5_nextNumber_71 : decode cX5_nextNumber 71 = .ok (.caload, 1) := by decide +kernel
theorem dX5_nextNumber_72 : decode cX5_nextNumber 72 = .ok (.bipush 48, 2) := by decide +kernel
theorem dX5_nextNumber_74 : decode cX5_nextNumber 74 = .ok (.isub, 1) := by decide +kernel
theorem dX5_nextNumber_75 : decode cX5_nextNumber 75 = .ok (.iadd, 1) := by decide +kernel
theorem dX5_nextNumber_76 : decode cX5_nextNumber 76 = .ok (.istore_n 2, 1) := by decide +kernel
theorem dX5_nextNumber_77 : decode cX5_nextNumber 77 = .ok (.iinc 3 1, 3) := by decide +kernel
theorem dX5_nextNumber_80 : decode cX5_nextNumber 80 = .ok (.goto (-50), 3) := by decide +kernel
theorem dX5_nextNumber_83 : decode cX5_nextNumber 83 = .ok (.iload_n 2, 1) := by decide +kernel
theorem dX5_nextNumber_84 : decode cX5_nextNumber 84 = .ok (.iload_n 1, 1) := by decide +kernel
theorem dX5_nextNumber_85 : decode cX5_nextNumber 85 = .ok (.if_icmp .gt 7, 3) := by decide +kernel
theorem dX5_nextNumber_88 : decode cX5_nextNumber 88 = .ok (.iload_n 2, 1) := by decide +kernel
theorem dX5_nextNumber_89 : decode cX5_nextNumber 89 = .ok (.goto 4, 3) := by decide +kernel
theorem dX5_nextNumber_92 : decode cX5_nextNumber 92 = .ok (.iconst (-1), 1) := by decide +kernel
theorem dX5_nextNumber_93 : decode cX5_nextNumber 93 = .ok (.ireturn, 1) := by decide +kernel
theorem dX5_isGap_0 : decode cX5_isGap 0 = .ok (.iload_n 0, 1) := by decide +kernel
theorem dX5_isGap_1 : decode cX5_isGap 1 = .ok (.bipush 32, 2) := by decide +kernel
theorem dX5_isGap_3 : decode cX5_isGap 3 = .ok (.if_icmp .eq 9, 3) := by decide +kernel
theorem dX5_isGap_6 : decode cX5_isGap 6 = .ok (.iload_n 0, 1) := by decide +kernel
theorem dX5_isGap_7 : decode cX5_isGap 7 = .ok (.bipush 10, 2) := by decide +kernel
theorem dX5_isGap_9 : decode cX5_isGap 9 = .ok (.if_icmp .ne 7, 3) := by decide +kernel
theorem dX5_isGap_12 : decode cX5_isGap 12 = .ok (.iconst 1, 1) := by decide +kernel
theorem dX5_isGap_13 : decode cX5_isGap 13 = .ok (.goto 4, 3) := by decide +kernel
theorem dX5_isGap_16 : decode cX5_isGap 16 = .ok (.iconst 0, 1) := by decide +kernel
theorem dX5_isGap_17 : decode cX5_isGap 17 = .ok (.ireturn, 1) := by decide +kernel
theorem dX6_init_0 : decode cX6_init 0 = .ok (.aload_n 0, 1) := by decide +kernel
theorem dX6_init_1 : decode cX6_init 1 = .ok (.invokespecial 3, 3) := by decide +kernel
theorem dX6_init_4 : decode cX6_init 4 = .ok (.aload_n 0, 1) := by decide +kernel
theorem dX6_init_5 : decode cX6_init 5 = .ok (.bipush 10, 2) := by decide +kernel
theorem dX6_init_7 : decode cX6_init 7 = .ok (.newarray .long, 2) := by decide +kernel
theorem dX6_init_9 : decode cX6_init 9 = .ok (.putfield 9, 3) := by decide +kernel
theorem dX6_init_12 : decode cX6_init 12 = .ok (.aload_n 0, 1) := by decide +kernel
theorem dX6_init_13 : decode cX6_init 13 = .ok (.bipush 12, 2) := by decide +kernel
theorem dX6_init_15 : decode cX6_init 15 = .ok (.newarray .int, 2) := by decide +kernel
theorem dX6_init_17 : decode cX6_init 17 = .ok (.putfield 15, 3) := by decide +kernel
theorem dX6_init_20 : decode cX6_init 20 = .ok (.aload_n 0, 1) := by decide +kernel
theorem dX6_init_21 : decode cX6_init 21 = .ok (.bipush 6, 2) := by decide +kernel
theorem dX6_init_23 : decode cX6_init 23 = .ok (.newarray .long, 2) := by decide +kernel
theorem dX6_init_25 : decode cX6_init 25 = .ok (.putfield 19, 3) := by decide +kernel
theorem dX6_init_28 : decode cX6_init 28 = .ok (.aload_n 0, 1) := by decide +kernel
theorem dX6_init_29 : decode cX6_init 29 = .ok (.iconst 4, 1) := by decide +kernel
theorem dX6_init_30 : decode cX6_init 30 = .ok (.bipush 12, 2) := by decide +kernel
theorem dX6_init_32 : decode cX6_init 32 = .ok (.multianewarray 22 2, 4) := by decide +kernel
theorem dX6_init_36 : decode cX6_init 36 = .ok (.putfield 24, 3) := by decide +kernel
theorem dX6_init_39 : decode cX6_init 39 = .ok (.aload_n 0, 1) := by decide +kernel
theorem dX6_init_40 : decode cX6_init 40 = .ok (.iload_n 1, 1) := by decide +kernel
theorem dX6_init_41 : decode cX6_init 41 = .ok (.putfield 27, 3) := by decide +kernel
theorem dX6_init_44 : decode cX6_init 44 = .ok (.aload_n 0, 1) := by decide +kernel
theorem dX6_init_45 : decode cX6_init 45 = .ok (.lload_n 2, 1) := by decide +kernel
theorem dX6_init_46 : decode cX6_init 46 = .ok (.putfield 31, 3) := by decide +kernel
theorem dX6_init_49 : decode cX6_init 49 = .ok (.return_, 1) := by decide +kernel
theorem dX6_shareOut_0 : decode cX6_shareOut 0 = .ok (.aload_n 0, 1) := by decide +kernel
theorem dX6_shareOut_1 : decode cX6_shareOut 1 = .ok (.iconst 1, 1) := by decide +kernel
theorem dX6_shareOut_2 : decode cX6_shareOut 2 = .ok (.putfield 35, 3) := by decide +kernel
theorem dX6_shareOut_5 : decode cX6_shareOut 5 = .ok (.aload_n 0, 1) := by decide +kernel
theorem dX6_shareOut_6 : decode cX6_shareOut 6 = .ok (.aload_n 1, 1) := by decide +kernel
theorem dX6_shareOut_7 : decode cX6_shareOut 7 = .ok (.aload_n 3, 1) := by decide +kernel
theorem dX6_shareOut_8 : decode cX6_shareOut 8 = .ok (.invokevirtual 39, 3) := by decide +kernel
theorem dX6_shareOut_11 : decode cX6_shareOut 11 = .ok (.aload_n 0, 1) := by decide +kernel
theorem dX6_shareOut_12 : decode cX6_shareOut 12 = .ok (.aload_n 1, 1) := by decide +kernel
theorem dX6_shareOut_13 : decode cX6_shareOut 13 = .ok (.aload 4, 2) := by decide +kernel
theorem dX6_shareOut_15 : decode cX6_shareOut 15 = .ok (.invokevirtual 43, 3) := by decide +kernel
theorem dX6_shareOut_18 : decode cX6_shareOut 18 = .ok (.aload_n 0, 1) := by decide +kernel
theorem dX6_shareOut_19 : decode cX6_shareOut 19 = .ok (.aload_n 1, 1) := by decide +kernel
theorem dX6_shareOut_20 : decode cX6_shareOut 20 = .ok (.invokevirtual 47, 3) := by decide +kernel
theorem dX6_shareOut_23 : decode cX6_shareOut 23 = .ok (.aload_n 0, 1) := by decide +kernel
theorem dX6_shareOut_24 : decode cX6_shareOut 24 = .ok (.aload_n 1, 1) := by decide +kernel
theorem dX6_shareOut_25 : decode cX6_shareOut 25 = .ok (.aload_n 2, 1) := by decide +kernel
theorem dX6_shareOut_26 : decode cX6_shareOut 26 = .ok (.aload 4, 2) := by decide +kernel
theorem dX6_shareOut_28 : decode cX6_shareOut 28 = .ok (.invokevirtual 51, 3) := by decide +kernel
theorem dX6_shareOut_31 : decode cX6_shareOut 31 = .ok (.iconst 0, 1) := by decide +kernel
theorem dX6_shareOut_32 : decode cX6_shareOut 32 = .ok (.istore 5, 2) := by decide +kernel
theorem dX6_shareOut_34 : decode cX6_shareOut 34 = .ok (.iload 5, 2) := by decide +kernel
theorem dX6_shareOut_36 : decode cX6_shareOut 36 = .ok (.aload_n 2, 1) := by decide +kernel
theorem dX6_shareOut_37 : decode cX6_shareOut 37 = .ok (.getfield 55, 3) := by decide +kernel
theorem dX6_shareOut_40 : decode cX6_shareOut 40 = .ok (.if_icmp .ge 34, 3) := by decide +kernel
theorem dX6_shareOut_43 : decode cX6_shareOut 43 = .ok (.aload_n 0, 1) := by decide +kernel
theorem dX6_shareOut_44 : decode cX6_shareOut 44 = .ok (.iload 5, 2) := by decide +kernel
theorem dX6_shareOut_46 : decode cX6_shareOut 46 = .ok (.aload_n 1, 1) := by decide +kernel
theorem dX6_shareOut_47 : decode cX6_shareOut 47 = .ok (.getfield 60, 3) := by decide +kernel
theorem dX6_shareOut_50 : decode cX6_shareOut 50 = .ok (.aload_n 2, 1) := by decide +kernel
theorem dX6_shareOut_51 : decode cX6_shareOut 51 = .ok (.getfield 65, 3) := by decide +kernel
theorem dX6_shareOut_54 : decode cX6_shareOut 54 = .ok (.iload 5, 2) := by decide +kernel
theorem dX6_shareOut_56 : decode cX6_shareOut 56 = .ok (.iaload, 1) := by decide +kernel
theorem dX6_shareOut_57 : decode cX6_shareOut 57 = .ok (.iaload, 1) := by decide +kernel
theorem dX6_shareOut_58 : decode cX6_shareOut 58 = .ok (.invokevirtual 68, 3) := by decide +kernel
theorem dX6_shareOut_61 : decode cX6_shareOut 61 = .ok (.aload_n 0, 1) := by decide +kernel
theorem dX6_shareOut_62 : decode cX6_shareOut 62 = .ok (.iload 5, 2) := by decide +kernel
theorem dX6_shareOut_64 : decode cX6_shareOut 64 = .ok (.aload_n 2, 1) := by decide +kernel
theorem dX6_shareOut_65 : decode cX6_shareOut 65 = .ok (.invokevirtual 72, 3) := by decide +kernel
theorem dX6_shareOut_68 : decode cX6_shareOut 68 = .ok (.iinc 5 1, 3) := by decide +kernel
theorem dX6_shareOut_71 : decode cX6_shareOut 71 = .ok (.goto (-37), 3) := by decide +kernel
theorem dX6_shareOut_74 : decode cX6_shareOut 74 = .ok (.return_, 1) := by decide +kernel
theorem dX6_bearLoss_0 : decode cX6_bearLoss 0 = .ok (.aload_n 0, 1) := by decide +kernel
theorem dX6_bearLoss_1 : decode cX6_bearLoss 1 = .ok (.getfield 19, 3) := by decide +kernel
theorem dX6_bearLoss_4 : decode cX6_bearLoss 4 = .ok (.iconst 4, 1) := by decide +kernel
theorem dX6_bearLoss_5 : decode cX6_bearLoss 5 = .ok (.aload_n 2, 1) := by decide +kernel
theorem dX6_bearLoss_6 : decode cX6_bearLoss 6 = .ok (.aload_n 0, 1) := by decide +kernel
theorem dX6_bearLoss_7 : decode cX6_bearLoss 7 = .ok (.getfield 27, 3) := by decide +kernel
theorem dX6_bearLoss_10 : decode cX6_bearLoss 10 = .ok (.laload, 1) := by decide +kernel
theorem dX6_bearLoss_11 : decode cX6_bearLoss 11 = .ok (.lastore, 1) := by decide +kernel
theorem dX6_bearLoss_12 : decode cX6_bearLoss 12 = .ok (.aload_n 0, 1) := by decide +kernel
theorem dX6_bearLoss_13 : decode cX6_bearLoss 13 = .ok (.getfield 31, 3) := by decide +kernel
theorem dX6_bearLoss_16 : decode cX6_bearLoss 16 = .ok (.aload_n 0, 1) := by decide +kernel
theorem dX6_bearLoss_17 : decode cX6_bearLoss 17 = .ok (.aload_n 1, 1) := by decide +kernel
theorem dX6_bearLoss_18 : decode cX6_bearLoss 18 = .ok (.iconst 0, 1) := by decide +kernel
theorem dX6_bearLoss_19 : decode cX6_bearLoss 19 = .ok (.invokevirtual 76, 3) := by decide +kernel
theorem dX6_bearLoss_22 : decode cX6_bearLoss 22 = .ok (.lsub, 1) := by decide +kernel
theorem dX6_bearLoss_23 : decode cX6_bearLoss 23 = .ok (.aload_n 2, 1) := by decide +kernel
theorem dX6_bearLoss_24 : decode cX6_bearLoss 24 = .ok (.aload_n 0, 1) := by decide +kernel
theorem dX6_bearLoss_25 : decode cX6_bearLoss 25 = .ok (.getfield 27, 3) := by decide +kernel
theorem dX6_bearLoss_28 : decode cX6_bearLoss 28 = .ok (.laload, 1) := by decide +kernel
theorem dX6_bearLoss_29 : decode cX6_bearLoss 29 = .ok (.lsub, 1) := by decide +kernel
theorem dX6_bearLoss_30 : decode cX6_bearLoss 30 = .ok (.lstore_n 3, 1) := by decide +kernel
theorem dX6_bearLoss_31 : decode cX6_bearLoss 31 = .ok (.aload_n 0, 1) := by decide +kernel
theorem dX6_bearLoss_32 : decode cX6_bearLoss 32 = .ok (.getfield 19, 3) := by decide +kernel
theorem dX6_bearLoss_35 : decode cX6_bearLoss 35 = .ok (.iconst 0, 1) := by decide +kernel
theorem dX6_bearLoss_36 : decode cX6_bearLoss 36 = .ok (.lload_n 3, 1) := by decide +kernel
theorem dX6_bearLoss_37 : decode cX6_bearLoss 37 = .ok (.lconst 0, 1) := by decide +kernel
theorem dX6_bearLoss_38 : decode cX6_bearLoss 38 = .ok (.invokestatic 80, 3) := by decide +kernel
end
section
theorem dX6_bearLoss_41 : decode cX6_bearLoss 41 = .ok (.lastore, 1) := by decide +kernel
theorem dX6_bearLoss_42 : decode cX6_bearLoss 42 = .ok (.aload_n 0, 1) := by decide +kernel
theorem dX6_bearLoss_43 : decode cX6_bearLoss 43 = .ok (.getfield 19, 3) := by decide +kernel
theorem dX6_bearLoss_46 : decode cX6_bearLoss 46 = .ok (.iconst 5, 1) := by decide +kernel
theorem dX6_bearLoss_47 : decode cX6_bearLoss 47 = .ok (.lload_n 3, 1) := by decide +kernel
theorem dX6_bearLoss_48 : decode cX6_bearLoss 48 = .ok (.lneg, 1) := by decide +kernel
theorem dX6_bearLoss_49 : decode cX6_bearLoss 49 = .ok (.lconst 0, 1) := by decide +kernel
theorem dX6_bearLoss_50 : decode cX6_bearLoss 50 = .ok (.invokestatic 80, 3) := by decide +kernel
theorem dX6_bearLoss_53 : decode cX6_bearLoss 53 = .ok (.lastore, 1) := by decide +kernel
theorem dX6_bearLoss_54 : decode cX6_bearLoss 54 = .ok (.aload_n 2, 1) := by decide +kernel
theorem dX6_bearLoss_55 : decode cX6_bearLoss 55 = .ok (.aload_n 0, 1) := by decide +kernel
theorem dX6_bearLoss_56 : decode cX6_bearLoss 56 = .ok (.getfield 27, 3) := by decide +kernel
theorem dX6_bearLoss_59 : decode cX6_bearLoss 59 = .ok (.aload_n 0, 1) := by decide +kernel
theorem dX6_bearLoss_60 : decode cX6_bearLoss 60 = .ok (.getfield 19, 3) := by decide +kernel
theorem dX6_bearLoss_63 : decode cX6_bearLoss 63 = .ok (.iconst 5, 1) := by decide +kernel
theorem dX6_bearLoss_64 : decode cX6_bearLoss 64 = .ok (.laload, 1) := by decide +kernel
theorem dX6_bearLoss_65 : decode cX6_bearLoss 65 = .ok (.lastore, 1) := by decide +kernel
theorem dX6_bearLoss_66 : decode cX6_bearLoss 66 = .ok (.return_, 1) := by decide +kernel
theorem dX6_partLeft_0 : decode cX6_partLeft 0 = .ok (.aload_n 1, 1) := by decide +kernel
theorem dX6_partLeft_1 : decode cX6_partLeft 1 = .ok (.iconst 0, 1) := by decide +kernel
theorem dX6_partLeft_2 : decode cX6_partLeft 2 = .ok (.invokevirtual 86, 3) := by decide +kernel
theorem dX6_partLeft_5 : decode cX6_partLeft 5 = .ok (.istore_n 3, 1) := by decide +kernel
theorem dX6_partLeft_6 : decode cX6_partLeft 6 = .ok (.aload_n 1, 1) := by decide +kernel
theorem dX6_partLeft_7 : decode cX6_partLeft 7 = .ok (.iconst 1, 1) := by decide +kernel
theorem dX6_partLeft_8 : decode cX6_partLeft 8 = .ok (.invokevirtual 86, 3) := by decide +kernel
theorem dX6_partLeft_11 : decode cX6_partLeft 11 = .ok (.istore 4, 2) := by decide +kernel
theorem dX6_partLeft_13 : decode cX6_partLeft 13 = .ok (.aload_n 2, 1) := by decide +kernel
theorem dX6_partLeft_14 : decode cX6_partLeft 14 = .ok (.invokevirtual 90, 3) := by decide +kernel
theorem dX6_partLeft_17 : decode cX6_partLeft 17 = .ok (.aload_n 2, 1) := by decide +kernel
theorem dX6_partLeft_18 : decode cX6_partLeft 18 = .ok (.iload_n 3, 1) := by decide +kernel
theorem dX6_partLeft_19 : decode cX6_partLeft 19 = .ok (.i2l, 1) := by decide +kernel
theorem dX6_partLeft_20 : decode cX6_partLeft 20 = .ok (.invokevirtual 95, 3) := by decide +kernel
theorem dX6_partLeft_23 : decode cX6_partLeft 23 = .ok (.aload_n 2, 1) := by decide +kernel
theorem dX6_partLeft_24 : decode cX6_partLeft 24 = .ok (.iload 4, 2) := by decide +kernel
theorem dX6_partLeft_26 : decode cX6_partLeft 26 = .ok (.i2l, 1) := by decide +kernel
theorem dX6_partLeft_27 : decode cX6_partLeft 27 = .ok (.invokevirtual 95, 3) := by decide +kernel
theorem dX6_partLeft_30 : decode cX6_partLeft 30 = .ok (.aload_n 2, 1) := by decide +kernel
theorem dX6_partLeft_31 : decode cX6_partLeft 31 = .ok (.bipush 100, 2) := by decide +kernel
theorem dX6_partLeft_33 : decode cX6_partLeft 33 = .ok (.iload_n 3, 1) := by decide +kernel
theorem dX6_partLeft_34 : decode cX6_partLeft 34 = .ok (.isub, 1) := by decide +kernel
theorem dX6_partLeft_35 : decode cX6_partLeft 35 = .ok (.iload 4, 2) := by decide +kernel
theorem dX6_partLeft_37 : decode cX6_partLeft 37 = .ok (.isub, 1) := by decide +kernel
theorem dX6_partLeft_38 : decode cX6_partLeft 38 = .ok (.i2l, 1) := by decide +kernel
theorem dX6_partLeft_39 : decode cX6_partLeft 39 = .ok (.invokevirtual 95, 3) := by decide +kernel
theorem dX6_partLeft_42 : decode cX6_partLeft 42 = .ok (.aload_n 2, 1) := by decide +kernel
theorem dX6_partLeft_43 : decode cX6_partLeft 43 = .ok (.aload_n 0, 1) := by decide +kernel
theorem dX6_partLeft_44 : decode cX6_partLeft 44 = .ok (.getfield 19, 3) := by decide +kernel
theorem dX6_partLeft_47 : decode cX6_partLeft 47 = .ok (.iconst 0, 1) := by decide +kernel
theorem dX6_partLeft_48 : decode cX6_partLeft 48 = .ok (.laload, 1) := by decide +kernel
theorem dX6_partLeft_49 : decode cX6_partLeft 49 = .ok (.invokevirtual 99, 3) := by decide +kernel
theorem dX6_partLeft_52 : decode cX6_partLeft 52 = .ok (.pop, 1) := by decide +kernel
theorem dX6_partLeft_53 : decode cX6_partLeft 53 = .ok (.aload_n 0, 1) := by decide +kernel
theorem dX6_partLeft_54 : decode cX6_partLeft 54 = .ok (.getfield 19, 3) := by decide +kernel
theorem dX6_partLeft_57 : decode cX6_partLeft 57 = .ok (.iconst 1, 1) := by decide +kernel
theorem dX6_partLeft_58 : decode cX6_partLeft 58 = .ok (.aload_n 2, 1) := by decide +kernel
theorem dX6_partLeft_59 : decode cX6_partLeft 59 = .ok (.getfield 103, 3) := by decide +kernel
theorem dX6_partLeft_62 : decode cX6_partLeft 62 = .ok (.iconst 0, 1) := by decide +kernel
theorem dX6_partLeft_63 : decode cX6_partLeft 63 = .ok (.laload, 1) := by decide +kernel
theorem dX6_partLeft_64 : decode cX6_partLeft 64 = .ok (.lastore, 1) := by decide +kernel
theorem dX6_partLeft_65 : decode cX6_partLeft 65 = .ok (.aload_n 0, 1) := by decide +kernel
theorem dX6_partLeft_66 : decode cX6_partLeft 66 = .ok (.getfield 19, 3) := by decide +kernel
theorem dX6_partLeft_69 : decode cX6_partLeft 69 = .ok (.iconst 2, 1) := by decide +kernel
theorem dX6_partLeft_70 : decode cX6_partLeft 70 = .ok (.aload_n 2, 1) := by decide +kernel
theorem dX6_partLeft_71 : decode cX6_partLeft 71 = .ok (.getfield 103, 3) := by decide +kernel
theorem dX6_partLeft_74 : decode cX6_partLeft 74 = .ok (.iconst 1, 1) := by decide +kernel
theorem dX6_partLeft_75 : decode cX6_partLeft 75 = .ok (.laload, 1) := by decide +kernel
theorem dX6_partLeft_76 : decode cX6_partLeft 76 = .ok (.lastore, 1) := by decide +kernel
theorem dX6_partLeft_77 : decode cX6_partLeft 77 = .ok (.aload_n 0, 1) := by decide +kernel
theorem dX6_partLeft_78 : decode cX6_partLeft 78 = .ok (.getfield 19, 3) := by decide +kernel
theorem dX6_partLeft_81 : decode cX6_partLeft 81 = .ok (.iconst 3, 1) := by decide +kernel
theorem dX6_partLeft_82 : decode cX6_partLeft 82 = .ok (.aload_n 2, 1) := by decide +kernel
theorem dX6_partLeft_83 : decode cX6_partLeft 83 = .ok (.getfield 103, 3) := by decide +kernel
theorem dX6_partLeft_86 : decode cX6_partLeft 86 = .ok (.iconst 2, 1) := by decide +kernel
theorem dX6_partLeft_87 : decode cX6_partLeft 87 = .ok (.laload, 1) := by decide +kernel
theorem dX6_partLeft_88 : decode cX6_partLeft 88 = .ok (.lastore, 1) := by decide +kernel
theorem dX6_partLeft_89 : decode cX6_partLeft 89 = .ok (.return_, 1) := by decide +kernel
theorem dX6_bearCosts_0 : decode cX6_bearCosts 0 = .ok (.aload_n 0, 1) := by decide +kernel
theorem dX6_bearCosts_1 : decode cX6_bearCosts 1 = .ok (.aload_n 1, 1) := by decide +kernel
theorem dX6_bearCosts_2 : decode cX6_bearCosts 2 = .ok (.iconst 1, 1) := by decide +kernel
theorem dX6_bearCosts_3 : decode cX6_bearCosts 3 = .ok (.invokevirtual 76, 3) := by decide +kernel
theorem dX6_bearCosts_6 : decode cX6_bearCosts 6 = .ok (.lstore_n 2, 1) := by decide +kernel
theorem dX6_bearCosts_7 : decode cX6_bearCosts 7 = .ok (.lload_n 2, 1) := by decide +kernel
theorem dX6_bearCosts_8 : decode cX6_bearCosts 8 = .ok (.aload_n 0, 1) := by decide +kernel
theorem dX6_bearCosts_9 : decode cX6_bearCosts 9 = .ok (.getfield 19, 3) := by decide +kernel
theorem dX6_bearCosts_12 : decode cX6_bearCosts 12 = .ok (.iconst 3, 1) := by decide +kernel
theorem dX6_bearCosts_13 : decode cX6_bearCosts 13 = .ok (.laload, 1) := by decide +kernel
theorem dX6_bearCosts_14 : decode cX6_bearCosts 14 = .ok (.invokestatic 105, 3) := by decide +kernel
theorem dX6_bearCosts_17 : decode cX6_bearCosts 17 = .ok (.lstore 4, 2) := by decide +kernel
theorem dX6_bearCosts_19 : decode cX6_bearCosts 19 = .ok (.aload_n 0, 1) := by decide +kernel
theorem dX6_bearCosts_20 : decode cX6_bearCosts 20 = .ok (.getfield 19, 3) := by decide +kernel
theorem dX6_bearCosts_23 : decode cX6_bearCosts 23 = .ok (.iconst 3, 1) := by decide +kernel
theorem dX6_bearCosts_24 : decode cX6_bearCosts 24 = .ok (.dup2, 1) := by decide +kernel
theorem dX6_bearCosts_25 : decode cX6_bearCosts 25 = .ok (.laload, 1) := by decide +kernel
theorem dX6_bearCosts_26 : decode cX6_bearCosts 26 = .ok (.lload 4, 2) := by decide +kernel
theorem dX6_bearCosts_28 : decode cX6_bearCosts 28 = .ok (.lsub, 1) := by decide +kernel
theorem dX6_bearCosts_29 : decode cX6_bearCosts 29 = .ok (.lastore, 1) := by decide +kernel
theorem dX6_bearCosts_30 : decode cX6_bearCosts 30 = .ok (.aload_n 0, 1) := by decide +kernel
theorem dX6_bearCosts_31 : decode cX6_bearCosts 31 = .ok (.getfield 19, 3) := by decide +kernel
theorem dX6_bearCosts_34 : decode cX6_bearCosts 34 = .ok (.iconst 1, 1) := by decide +kernel
theorem dX6_bearCosts_35 : decode cX6_bearCosts 35 = .ok (.dup2, 1) := by decide +kernel
theorem dX6_bearCosts_36 : decode cX6_bearCosts 36 = .ok (.laload, 1) := by decide +kernel
theorem dX6_bearCosts_37 : decode cX6_bearCosts 37 = .ok (.lload_n 2, 1) := by decide +kernel
theorem dX6_bearCosts_38 : decode cX6_bearCosts 38 = .ok (.lload 4, 2) := by decide +kernel
theorem dX6_bearCosts_40 : decode cX6_bearCosts 40 = .ok (.lsub, 1) := by decide +kernel
theorem dX6_bearCosts_41 : decode cX6_bearCosts 41 = .ok (.aload_n 0, 1) := by decide +kernel
theorem dX6_bearCosts_42 : decode cX6_bearCosts 42 = .ok (.aload_n 1, 1) := by decide +kernel
theorem dX6_bearCosts_43 : decode cX6_bearCosts 43 = .ok (.iconst 2, 1) := by decide +kernel
theorem dX6_bearCosts_44 : decode cX6_bearCosts 44 = .ok (.invokevirtual 76, 3) := by decide +kernel
theorem dX6_bearCosts_47 : decode cX6_bearCosts 47 = .ok (.ladd, 1) := by decide +kernel
theorem dX6_bearCosts_48 : decode cX6_bearCosts 48 = .ok (.lsub, 1) := by decide +kernel
theorem dX6_bearCosts_49 : decode cX6_bearCosts 49 = .ok (.lastore, 1) := by decide +kernel
theorem dX6_bearCosts_50 : decode cX6_bearCosts 50 = .ok (.return_, 1) := by decide +kernel
theorem dX6_shareCrewsPart_0 : decode cX6_shareCrewsPart 0 = .ok (.aload_n 3, 1) := by decide +kernel
theorem dX6_shareCrewsPart_1 : decode cX6_shareCrewsPart 1 = .ok (.invokevirtual 90, 3) := by decide +kernel
theorem dX6_shareCrewsPart_4 : decode cX6_shareCrewsPart 4 = .ok (.iconst 0, 1) := by decide +kernel
theorem dX6_shareCrewsPart_5 : decode cX6_shareCrewsPart 5 = .ok (.istore 4, 2) := by decide +kernel
theorem dX6_shareCrewsPart_7 : decode cX6_shareCrewsPart 7 = .ok (.iload 4, 2) := by decide +kernel
theorem dX6_shareCrewsPart_9 : decode cX6_shareCrewsPart 9 = .ok (.aload_n 2, 1) := by decide +kernel
theorem dX6_shareCrewsPart_10 : decode cX6_shareCrewsPart 10 = .ok (.getfield 55, 3) := by decide +kernel
theorem dX6_shareCrewsPart_13 : decode cX6_shareCrewsPart 13 = .ok (.if_icmp .ge 35, 3) := by decide +kernel
theorem dX6_shareCrewsPart_16 : decode cX6_shareCrewsPart 16 = .ok (.aload_n 3, 1) := by decide +kernel
theorem dX6_shareCrewsPart_17 : decode cX6_shareCrewsPart 17 = .ok (.aload_n 1, 1) := by decide +kernel
theorem dX6_shareCrewsPart_18 : decode cX6_shareCrewsPart 18 = .ok (.getfield 108, 3) := by decide +kernel
theorem dX6_shareCrewsPart_21 : decode cX6_shareCrewsPart 21 = .ok (.aload_n 2, 1) := by decide +kernel
theorem dX6_shareCrewsPart_22 : decode cX6_shareCrewsPart 22 = .ok (.getfield 65, 3) := by decide +kernel
theorem dX6_shareCrewsPart_25 : decode cX6_shareCrewsPart 25 = .ok (.iload 4, 2) := by decide +kernel
theorem dX6_shareCrewsPart_27 : decode cX6_shareCrewsPart 27 = .ok (.iaload, 1) := by decide +kernel
theorem dX6_shareCrewsPart_28 : decode cX6_shareCrewsPart 28 = .ok (.iaload, 1) := by decide +kernel
theorem dX6_shareCrewsPart_29 : decode cX6_shareCrewsPart 29 = .ok (.i2l, 1) := by decide +kernel
theorem dX6_shareCrewsPart_30 : decode cX6_shareCrewsPart 30 = .ok (.aload_n 0, 1) := by decide +kernel
theorem dX6_shareCrewsPart_31 : decode cX6_shareCrewsPart 31 = .ok (.getfield 15, 3) := by decide +kernel
theorem dX6_shareCrewsPart_34 : decode cX6_shareCrewsPart 34 = .ok (.iload 4, 2) := by decide +kernel
theorem dX6_shareCrewsPart_36 : decode cX6_shareCrewsPart 36 = .ok (.iaload, 1) := by decide +kernel
theorem dX6_shareCrewsPart_37 : decode cX6_shareCrewsPart 37 = .ok (.i2l, 1) := by decide +kernel
theorem dX6_shareCrewsPart_38 : decode cX6_shareCrewsPart 38 = .ok (.lmul, 1) := by decide +kernel
theorem dX6_shareCrewsPart_39 : decode cX6_shareCrewsPart 39 = .ok (.invokevirtual 95, 3) := by decide +kernel
theorem dX6_shareCrewsPart_42 : decode cX6_shareCrewsPart 42 = .ok (.iinc 4 1, 3) := by decide +kernel
theorem dX6_shareCrewsPart_45 : decode cX6_shareCrewsPart 45 = .ok (.goto (-38), 3) := by decide +kernel
theorem dX6_shareCrewsPart_48 : decode cX6_shareCrewsPart 48 = .ok (.aload_n 3, 1) := by decide +kernel
theorem dX6_shareCrewsPart_49 : decode cX6_shareCrewsPart 49 = .ok (.aload_n 0, 1) := by decide +kernel
theorem dX6_shareCrewsPart_50 : decode cX6_shareCrewsPart 50 = .ok (.getfield 19, 3) := by decide +kernel
theorem dX6_shareCrewsPart_53 : decode cX6_shareCrewsPart 53 = .ok (.iconst 3, 1) := by decide +kernel
theorem dX6_shareCrewsPart_54 : decode cX6_shareCrewsPart 54 = .ok (.laload, 1) := by decide +kernel
theorem dX6_shareCrewsPart_55 : decode cX6_shareCrewsPart 55 = .ok (.invokevirtual 99, 3) := by decide +kernel
theorem dX6_shareCrewsPart_58 : decode cX6_shareCrewsPart 58 = .ok (.ifCond .ne 18, 3) := by decide +kernel
theorem dX6_shareCrewsPart_61 : decode cX6_shareCrewsPart 61 = .ok (.aload_n 0, 1) := by decide +kernel
theorem dX6_shareCrewsPart_62 : decode cX6_shareCrewsPart 62 = .ok (.getfield 19, 3) := by decide +kernel
theorem dX6_shareCrewsPart_65 : decode cX6_shareCrewsPart 65 = .ok (.iconst 1, 1) := by decide +kernel
theorem dX6_shareCrewsPart_66 : decode cX6_shareCrewsPart 66 = .ok (.dup2, 1) := by decide +kernel
theorem dX6_shareCrewsPart_67 : decode cX6_shareCrewsPart 67 = .ok (.laload, 1) := by decide +kernel
theorem dX6_shareCrewsPart_68 : decode cX6_shareCrewsPart 68 = .ok (.aload_n 0, 1) := by decide +kernel
theorem dX6_shareCrewsPart_69 : decode cX6_shareCrewsPart 69 = .ok (.getfield 19, 3) := by decide +kernel
theorem dX6_shareCrewsPart_72 : decode cX6_shareCrewsPart 72 = .ok (.iconst 3, 1) := by decide +kernel
theorem dX6_shareCrewsPart_73 : decode cX6_shareCrewsPart 73 = .ok (.laload, 1) := by decide +kernel
theorem dX6_shareCrewsPart_74 : decode cX6_shareCrewsPart 74 = .ok (.ladd, 1) := by decide +kernel
theorem dX6_shareCrewsPart_75 : decode cX6_shareCrewsPart 75 = .ok (.lastore, 1) := by decide +kernel
theorem dX6_shareCrewsPart_76 : decode cX6_shareCrewsPart 76 = .ok (.iconst 0, 1) := by decide +kernel
theorem dX6_shareCrewsPart_77 : decode cX6_shareCrewsPart 77 = .ok (.istore 4, 2) := by decide +kernel
theorem dX6_shareCrewsPart_79 : decode cX6_shareCrewsPart 79 = .ok (.iload 4, 2) := by decide +kernel
theorem dX6_shareCrewsPart_81 : decode cX6_shareCrewsPart 81 = .ok (.aload_n 2, 1) := by decide +kernel
theorem dX6_shareCrewsPart_82 : decode cX6_shareCrewsPart 82 = .ok (.getfield 55, 3) := by decide +kernel
theorem dX6_shareCrewsPart_85 : decode cX6_shareCrewsPart 85 = .ok (.if_icmp .ge 25, 3) := by decide +kernel
theorem dX6_shareCrewsPart_88 : decode cX6_shareCrewsPart 88 = .ok (.aload_n 0, 1) := by decide +kernel
theorem dX6_shareCrewsPart_89 : decode cX6_shareCrewsPart 89 = .ok (.getfield 24, 3) := by decide +kernel
theorem dX6_shareCrewsPart_92 : decode cX6_shareCrewsPart 92 = .ok (.iconst 0, 1) := by decide +kernel
theorem dX6_shareCrewsPart_93 : decode cX6_shareCrewsPart 93 = .ok (.aaload, 1) := by decide +kernel
theorem dX6_shareCrewsPart_94 : decode cX6_shareCrewsPart 94 = .ok (.iload 4, 2) := by decide +kernel
theorem dX6_shareCrewsPart_96 : decode cX6_shareCrewsPart 96 = .ok (.aload_n 3, 1) := by decide +kernel
theorem dX6_shareCrewsPart_97 : decode cX6_shareCrewsPart 97 = .ok (.getfield 103, 3) := by decide +kernel
theorem dX6_shareCrewsPart_100 : decode cX6_shareCrewsPart 100 = .ok (.iload 4, 2) := by decide +kernel
theorem dX6_shareCrewsPart_102 : decode cX6_shareCrewsPart 102 = .ok (.laload, 1) := by decide +kernel
theorem dX6_shareCrewsPart_103 : decode cX6_shareCrewsPart 103 = .ok (.lastore, 1) := by decide +kernel
theorem dX6_shareCrewsPart_104 : decode cX6_shareCrewsPart 104 = .ok (.iinc 4 1, 3) := by decide +kernel
theorem dX6_shareCrewsPart_107 : decode cX6_shareCrewsPart 107 = .ok (.goto (-28), 3) := by decide +kernel
theorem dX6_shareCrewsPart_110 : decode cX6_shareCrewsPart 110 = .ok (.return_, 1) := by decide +kernel
theorem dX6_topUp_0 : decode cX6_topUp 0 = .ok (.iload_n 2, 1) := by decide +kernel
theorem dX6_topUp_1 : decode cX6_topUp 1 = .ok (.i2l, 1) := by decide +kernel
theorem dX6_topUp_2 : decode cX6_topUp 2 = .ok (.aload_n 0, 1) := by decide +kernel
theorem dX6_topUp_3 : decode cX6_topUp 3 = .ok (.getfield 15, 3) := by decide +kernel
theorem dX6_topUp_6 : decode cX6_topUp 6 = .ok (.iload_n 1, 1) := by decide +kernel
theorem dX6_topUp_7 : decode cX6_topUp 7 = .ok (.iaload, 1) := by decide +kernel
theorem dX6_topUp_8 : decode cX6_topUp 8 = .ok (.i2l, 1) := by decide +kernel
theorem dX6_topUp_9 : decode cX6_topUp 9 = .ok (.lmul, 1) := by decide +kernel
theorem dX6_topUp_10 : decode cX6_topUp 10 = .ok (.lstore_n 3, 1) := by decide +kernel
theorem dX6_topUp_11 : decode cX6_topUp 11 = .ok (.lload_n 3, 1) := by decide +kernel
theorem dX6_topUp_12 : decode cX6_topUp 12 = .ok (.aload_n 0, 1) := by decide +kernel
theorem dX6_topUp_13 : decode cX6_topUp 13 = .ok (.getfield 24, 3) := by decide +kernel
theorem dX6_topUp_16 : decode cX6_topUp 16 = .ok (.iconst 0, 1) := by decide +kernel
theorem dX6_topUp_17 : decode cX6_topUp 17 = .ok (.aaload, 1) := by decide +kernel
theorem dX6_topUp_18 : decode cX6_topUp 18 = .ok (.iload_n 1, 1) := by decide +kernel
theorem dX6_topUp_19 : decode cX6_topUp 19 = .ok (.laload, 1) := by decide +kernel
theorem dX6_topUp_20 : decode cX6_topUp 20 = .ok (.lsub, 1) := by decide +kernel
theorem dX6_topUp_21 : decode cX6_topUp 21 = .ok (.lconst 0, 1) := by decide +kernel
theorem dX6_topUp_22 : decode cX6_topUp 22 = .ok (.invokestatic 80, 3) := by decide +kernel
theorem dX6_topUp_25 : decode cX6_topUp 25 = .ok (.lstore 5, 2) := by decide +kernel
theorem dX6_topUp_27 : decode cX6_topUp 27 = .ok (.aload_n 0, 1) := by decide +kernel
theorem dX6_topUp_28 : decode cX6_topUp 28 = .ok (.getfield 24, 3) := by decide +kernel
theorem dX6_topUp_31 : decode cX6_topUp 31 = .ok (.iconst 1, 1) := by decide +kernel
theorem dX6_topUp_32 : decode cX6_topUp 32 = .ok (.aaload, 1) := by decide +kernel
theorem dX6_topUp_33 : decode cX6_topUp 33 = .ok (.iload_n 1, 1) := by decide +kernel
theorem dX6_topUp_34 : decode cX6_topUp 34 = .ok (.lload 5, 2) := by decide +kernel
theorem dX6_topUp_36 : decode cX6_topUp 36 = .ok (.lastore, 1) := by decide +kernel
theorem dX6_topUp_37 : decode cX6_topUp 37 = .ok (.aload_n 0, 1) := by decide +kernel
theorem dX6_topUp_38 : decode cX6_topUp 38 = .ok (.getfield 19, 3) := by decide +kernel
theorem dX6_topUp_41 : decode cX6_topUp 41 = .ok (.iconst 1, 1) := by decide +kernel
theorem dX6_topUp_42 : decode cX6_topUp 42 = .ok (.dup2, 1) := by decide +kernel
theorem dX6_topUp_43 : decode cX6_topUp 43 = .ok (.laload, 1) := by decide +kernel
theorem dX6_topUp_44 : decode cX6_topUp 44 = .ok (.lload 5, 2) := by decide +kernel
theorem dX6_topUp_46 : decode cX6_topUp 46 = .ok (.lsub, 1) := by decide +kernel
theorem dX6_topUp_47 : decode cX6_topUp 47 = .ok (.lastore, 1) := by decide +kernel
theorem dX6_topUp_48 : decode cX6_topUp 48 = .ok (.return_, 1) := by decide +kernel
theorem dX6_pay_0 : decode cX6_pay 0 = .ok (.aload_n 0, 1) := by decide +kernel
theorem dX6_pay_1 : decode cX6_pay 1 = .ok (.iload_n 1, 1) := by decide +kernel
theorem dX6_pay_2 : decode cX6_pay 2 = .ok (.invokevirtual 111, 3) := by decide +kernel
theorem dX6_pay_5 : decode cX6_pay 5 = .ok (.lstore_n 3, 1) := by decide +kernel
theorem dX6_pay_6 : decode cX6_pay 6 = .ok (.lload_n 3, 1) := by decide +kernel
theorem dX6_pay_7 : decode cX6_pay 7 = .ok (.aload_n 2, 1) := by decide +kernel
theorem dX6_pay_8 : decode cX6_pay 8 = .ok (.getfield 115, 3) := by decide +kernel
theorem dX6_pay_11 : decode cX6_pay 11 = .ok (.iload_n 1, 1) := by decide +kernel
theorem dX6_pay_12 : decode cX6_pay 12 = .ok (.laload, 1) := by decide +kernel
theorem dX6_pay_13 : decode cX6_pay 13 = .ok (.invokestatic 105, 3) := by decide +kernel
theorem dX6_pay_16 : decode cX6_pay 16 = .ok (.lstore 5, 2) := by decide +kernel
theorem dX6_pay_18 : decode cX6_pay 18 = .ok (.aload_n 2, 1) := by decide +kernel
theorem dX6_pay_19 : decode cX6_pay 19 = .ok (.getfield 115, 3) := by decide +kernel
theorem dX6_pay_22 : decode cX6_pay 22 = .ok (.iload_n 1, 1) := by decide +kernel
theorem dX6_pay_23 : decode cX6_pay 23 = .ok (.dup2, 1) := by decide +kernel
theorem dX6_pay_24 : decode cX6_pay 24 = .ok (.laload, 1) := by decide +kernel
theorem dX6_pay_25 : decode cX6_pay 25 = .ok (.lload 5, 2) := by decide +kernel
theorem dX6_pay_27 : decode cX6_pay 27 = .ok (.lsub, 1) := by decide +kernel
theorem dX6_pay_28 : decode cX6_pay 28 = .ok (.lastore, 1) := by decide +kernel
theorem dX6_pay_29 : decode cX6_pay 29 = .ok (.aload_n 0, 1) := by decide +kernel
theorem dX6_pay_30 : decode cX6_pay 30 = .ok (.getfield 24, 3) := by decide +kernel
theorem dX6_pay_33 : decode cX6_pay 33 = .ok (.iconst 2, 1) := by decide +kernel
theorem dX6_pay_34 : decode cX6_pay 34 = .ok (.aaload, 1) := by decide +kernel
theorem dX6_pay_35 : decode cX6_pay 35 = .ok (.iload_n 1, 1) := by decide +kernel
theorem dX6_pay_36 : decode cX6_pay 36 = .ok (.lload 5, 2) := by decide +kernel
theorem dX6_pay_38 : decode cX6_pay 38 = .ok (.lastore, 1) := by decide +kernel
theorem dX6_pay_39 : decode cX6_pay 39 = .ok (.aload_n 0, 1) := by decide +kernel
theorem dX6_pay_40 : decode cX6_pay 40 = .ok (.getfield 24, 3) := by decide +kernel
theorem dX6_pay_43 : decode cX6_pay 43 = .ok (.iconst 3, 1) := by decide +kernel
theorem dX6_pay_44 : decode cX6_pay 44 = .ok (.aaload, 1) := by decide +kernel
theorem dX6_pay_45 : decode cX6_pay 45 = .ok (.iload_n 1, 1) := by decide +kernel
theorem dX6_pay_46 : decode cX6_pay 46 = .ok (.lload_n 3, 1) := by decide +kernel
theorem dX6_pay_47 : decode cX6_pay 47 = .ok (.lload 5, 2) := by decide +kernel
theorem dX6_pay_49 : decode cX6_pay 49 = .ok (.lsub, 1) := by decide +kernel
theorem dX6_pay_50 : decode cX6_pay 50 = .ok (.lastore, 1) := by decide +kernel
theorem dX6_pay_51 : decode cX6_pay 51 = .ok (.return_, 1) := by decide +kernel
theorem dX6_hasOf_0 : decode cX6_hasOf 0 = .ok (.aload_n 0, 1) := by decide +kernel
theorem dX6_hasOf_1 : decode cX6_hasOf 1 = .ok (.getfield 24, 3) := by decide +kernel
theorem dX6_hasOf_4 : decode cX6_hasOf 4 = .ok (.iconst 0, 1) := by decide +kernel
theorem dX6_hasOf_5 : decode cX6_hasOf 5 = .ok (.aaload, 1) := by decide +kernel
theorem dX6_hasOf_6 : decode cX6_hasOf 6 = .ok (.iload_n 1, 1) := by decide +kernel
theorem dX6_hasOf_7 : decode cX6_hasOf 7 = .ok (.laload, 1) := by decide +kernel
theorem dX6_hasOf_8 : decode cX6_hasOf 8 = .ok (.aload_n 0, 1) := by decide +kernel
theorem dX6_hasOf_9 : decode cX6_hasOf 9 = .ok (.getfield 24, 3) := by decide +kernel
theorem dX6_hasOf_12 : decode cX6_hasOf 12 = .ok (.iconst 1, 1) := by decide +kernel
theorem dX6_hasOf_13 : decode cX6_hasOf 13 = .ok (.aaload, 1) := by decide +kernel
theorem dX6_hasOf_14 : decode cX6_hasOf 14 = .ok (.iload_n 1, 1) := by decide +kernel
theorem dX6_hasOf_15 : decode cX6_hasOf 15 = .ok (.laload, 1) := by decide +kernel
theorem dX6_hasOf_16 : decode cX6_hasOf 16 = .ok (.ladd, 1) := by decide +kernel
theorem dX6_hasOf_17 : decode cX6_hasOf 17 = .ok (.lreturn, 1) := by decide +kernel
theorem dX6_costsOff_0 : decode cX6_costsOff 0 = .ok (.lconst 0, 1) := by decide +kernel
theorem dX6_costsOff_1 : decode cX6_costsOff 1 = .ok (.lstore_n 3, 1) := by decide +kernel
theorem dX6_costsOff_2 : decode cX6_costsOff 2 = .ok (.iconst 0, 1) := by decide +kernel
theorem dX6_costsOff_3 : decode cX6_costsOff 3 = .ok (.istore 5, 2) := by decide +kernel
theorem dX6_costsOff_5 : decode cX6_costsOff 5 = .ok (.iload 5, 2) := by decide +kernel
theorem dX6_costsOff_7 : decode cX6_costsOff 7 = .ok (.bipush 10, 2) := by decide +kernel
theorem dX6_costsOff_9 : decode cX6_costsOff 9 = .ok (.if_icmp .ge 30, 3) := by decide +kernel
theorem dX6_costsOff_12 : decode cX6_costsOff 12 = .ok (.aload_n 1, 1) := by decide +kernel
theorem dX6_costsOff_13 : decode cX6_costsOff 13 = .ok (.getfield 118, 3) := by decide +kernel
theorem dX6_costsOff_16 : decode cX6_costsOff 16 = .ok (.iload 5, 2) := by decide +kernel
theorem dX6_costsOff_18 : decode cX6_costsOff 18 = .ok (.iaload, 1) := by decide +kernel
theorem dX6_costsOff_19 : decode cX6_costsOff 19 = .ok (.iload_n 2, 1) := by decide +kernel
theorem dX6_costsOff_20 : decode cX6_costsOff 20 = .ok (.if_icmp .ne 13, 3) := by decide +kernel
theorem dX6_costsOff_23 : decode cX6_costsOff 23 = .ok (.lload_n 3, 1) := by decide +kernel
theorem dX6_costsOff_24 : decode cX6_costsOff 24 = .ok (.aload_n 0, 1) := by decide +kernel
theorem dX6_costsOff_25 : decode cX6_costsOff 25 = .ok (.getfield 9, 3) := by decide +kernel
theorem dX6_costsOff_28 : decode cX6_costsOff 28 = .ok (.iload 5, 2) := by decide +kernel
theorem dX6_costsOff_30 : decode cX6_costsOff 30 = .ok (.laload, 1) := by decide +kernel
theorem dX6_costsOff_31 : decode cX6_costsOff 31 = .ok (.ladd, 1) := by decide +kernel
theorem dX6_costsOff_32 : decode cX6_costsOff 32 = .ok (.lstore_n 3, 1) := by decide +kernel
theorem dX6_costsOff_33 : decode cX6_costsOff 33 = .ok (.iinc 5 1, 3) := by decide +kernel
theorem dX6_costsOff_36 : decode cX6_costsOff 36 = .ok (.goto (-31), 3) := by decide +kernel
theorem dX6_costsOff_39 : decode cX6_costsOff 39 = .ok (.lload_n 3, 1) := by decide +kernel
theorem dX6_costsOff_40 : decode cX6_costsOff 40 = .ok (.lreturn, 1) := by decide +kernel
theorem dX6_countAboard_0 : decode cX6_countAboard 0 = .ok (.iconst 0, 1) := by decide +kernel
theorem dX6_countAboard_1 : decode cX6_countAboard 1 = .ok (.istore_n 1, 1) := by decide +kernel
theorem dX6_countAboard_2 : decode cX6_countAboard 2 = .ok (.iconst 0, 1) := by decide +kernel
theorem dX6_countAboard_3 : decode cX6_countAboard 3 = .ok (.istore_n 2, 1) := by decide +kernel
theorem dX6_countAboard_4 : decode cX6_countAboard 4 = .ok (.iload_n 2, 1) := by decide +kernel
theorem dX6_countAboard_5 : decode cX6_countAboard 5 = .ok (.bipush 12, 2) := by decide +kernel
theorem dX6_countAboard_7 : decode cX6_countAboard 7 = .ok (.if_icmp .ge 21, 3) := by decide +kernel
theorem dX6_countAboard_10 : decode cX6_countAboard 10 = .ok (.aload_n 0, 1) := by decide +kernel
theorem dX6_countAboard_11 : decode cX6_countAboard 11 = .ok (.getfield 15, 3) := by decide +kernel
theorem dX6_countAboard_14 : decode cX6_countAboard 14 = .ok (.iload_n 2, 1) := by decide +kernel
theorem dX6_countAboard_15 : decode cX6_countAboard 15 = .ok (.iaload, 1) := by decide +kernel
theorem dX6_countAboard_16 : decode cX6_countAboard 16 = .ok (.ifCond .le 6, 3) := by decide +kernel
theorem dX6_countAboard_19 : decode cX6_countAboard 19 = .ok (.iinc 1 1, 3) := by decide +kernel
theorem dX6_countAboard_22 : decode cX6_countAboard 22 = .ok (.iinc 2 1, 3) := by decide +kernel
theorem dX6_countAboard_25 : decode cX6_countAboard 25 = .ok (.goto (-21), 3) := by decide +kernel
theorem dX6_countAboard_28 : decode cX6_countAboard 28 = .ok (.iload_n 1, 1) := by decide +kernel
theorem dX6_countAboard_29 : decode cX6_countAboard 29 = .ok (.ireturn, 1) := by decide +kernel
theorem dX6_isEven_0 : decode cX6_isEven 0 = .ok (.aload_n 0, 1) := by decide +kernel
theorem dX6_isEven_1 : decode cX6_isEven 1 = .ok (.getfield 19, 3) := by decide +kernel
theorem dX6_isEven_4 : decode cX6_isEven 4 = .ok (.iconst 1, 1) := by decide +kernel
theorem dX6_isEven_5 : decode cX6_isEven 5 = .ok (.laload, 1) := by decide +kernel
theorem dX6_isEven_6 : decode cX6_isEven 6 = .ok (.aload_n 0, 1) := by decide +kernel
theorem dX6_isEven_7 : decode cX6_isEven 7 = .ok (.getfield 19, 3) := by decide +kernel
theorem dX6_isEven_10 : decode cX6_isEven 10 = .ok (.iconst 2, 1) := by decide +kernel
theorem dX6_isEven_11 : decode cX6_isEven 11 = .ok (.laload, 1) := by decide +kernel
theorem dX6_isEven_12 : decode cX6_isEven 12 = .ok (.ladd, 1) := by decide +kernel
theorem dX6_isEven_13 : decode cX6_isEven 13 = .ok (.lstore_n 1, 1) := by decide +kernel
theorem dX6_isEven_14 : decode cX6_isEven 14 = .ok (.iconst 0, 1) := by decide +kernel
theorem dX6_isEven_15 : decode cX6_isEven 15 = .ok (.istore_n 3, 1) := by decide +kernel
theorem dX6_isEven_16 : decode cX6_isEven 16 = .ok (.iload_n 3, 1) := by decide +kernel
theorem dX6_isEven_17 : decode cX6_isEven 17 = .ok (.bipush 12, 2) := by decide +kernel
theorem dX6_isEven_19 : decode cX6_isEven 19 = .ok (.if_icmp .ge 17, 3) := by decide +kernel
theorem dX6_isEven_22 : decode cX6_isEven 22 = .ok (.lload_n 1, 1) := by decide +kernel
theorem dX6_isEven_23 : decode cX6_isEven 23 = .ok (.aload_n 0, 1) := by decide +kernel
theorem dX6_isEven_24 : decode cX6_isEven 24 = .ok (.iload_n 3, 1) := by decide +kernel
theorem dX6_isEven_25 : decode cX6_isEven 25 = .ok (.invokevirtual 111, 3) := by decide +kernel
theorem dX6_isEven_28 : decode cX6_isEven 28 = .ok (.ladd, 1) := by decide +kernel
theorem dX6_isEven_29 : decode cX6_isEven 29 = .ok (.lstore_n 1, 1) := by decide +kernel
theorem dX6_isEven_30 : decode cX6_isEven 30 = .ok (.iinc 3 1, 3) := by decide +kernel
theorem dX6_isEven_33 : decode cX6_isEven 33 = .ok (.goto (-17), 3) := by decide +kernel
theorem dX6_isEven_36 : decode cX6_isEven 36 = .ok (.aload_n 0, 1) := by decide +kernel
theorem dX6_isEven_37 : decode cX6_isEven 37 = .ok (.getfield 31, 3) := by decide +kernel
theorem dX6_isEven_40 : decode cX6_isEven 40 = .ok (.aload_n 0, 1) := by decide +kernel
theorem dX6_isEven_41 : decode cX6_isEven 41 = .ok (.getfield 19, 3) := by decide +kernel
theorem dX6_isEven_44 : decode cX6_isEven 44 = .ok (.iconst 4, 1) := by decide +kernel
theorem dX6_isEven_45 : decode cX6_isEven 45 = .ok (.laload, 1) := by decide +kernel
theorem dX6_isEven_46 : decode cX6_isEven 46 = .ok (.lsub, 1) := by decide +kernel
theorem dX6_isEven_47 : decode cX6_isEven 47 = .ok (.aload_n 0, 1) := by decide +kernel
theorem dX6_isEven_48 : decode cX6_isEven 48 = .ok (.getfield 19, 3) := by decide +kernel
theorem dX6_isEven_51 : decode cX6_isEven 51 = .ok (.iconst 5, 1) := by decide +kernel
theorem dX6_isEven_52 : decode cX6_isEven 52 = .ok (.laload, 1) := by decide +kernel
theorem dX6_isEven_53 : decode cX6_isEven 53 = .ok (.ladd, 1) := by decide +kernel
theorem dX6_isEven_54 : decode cX6_isEven 54 = .ok (.lstore_n 3, 1) := by decide +kernel
theorem dX6_isEven_55 : decode cX6_isEven 55 = .ok (.iconst 0, 1) := by decide +kernel
theorem dX6_isEven_56 : decode cX6_isEven 56 = .ok (.istore 5, 2) := by decide +kernel
theorem dX6_isEven_58 : decode cX6_isEven 58 = .ok (.iload 5, 2) := by decide +kernel
theorem dX6_isEven_60 : decode cX6_isEven 60 = .ok (.bipush 10, 2) := by decide +kernel
theorem dX6_isEven_62 : decode cX6_isEven 62 = .ok (.if_icmp .ge 19, 3) := by decide +kernel
theorem dX6_isEven_65 : decode cX6_isEven 65 = .ok (.lload_n 3, 1) := by decide +kernel
theorem dX6_isEven_66 : decode cX6_isEven 66 = .ok (.aload_n 0, 1) := by decide +kernel
theorem dX6_isEven_67 : decode cX6_isEven 67 = .ok (.getfield 9, 3) := by decide +kernel
theorem dX6_isEven_70 : decode cX6_isEven 70 = .ok (.iload 5, 2) := by decide +kernel
theorem dX6_isEven_72 : decode cX6_isEven 72 = .ok (.laload, 1) := by decide +kernel
theorem dX6_isEven_73 : decode cX6_isEven 73 = .ok (.lsub, 1) := by decide +kernel
theorem dX6_isEven_74 : decode cX6_isEven 74 = .ok (.lstore_n 3, 1) := by decide +kernel
theorem dX6_isEven_75 : decode cX6_isEven 75 = .ok (.iinc 5 1, 3) := by decide +kernel
theorem dX6_isEven_78 : decode cX6_isEven 78 = .ok (.goto (-20), 3) := by decide +kernel
theorem dX6_isEven_81 : decode cX6_isEven 81 = .ok (.lload_n 1, 1) := by decide +kernel
theorem dX6_isEven_82 : decode cX6_isEven 82 = .ok (.lload_n 3, 1) := by decide +kernel
theorem dX6_isEven_83 : decode cX6_isEven 83 = .ok (.lcmp, 1) := by decide +kernel
theorem dX6_isEven_84 : decode cX6_isEven 84 = .ok (.ifCond .ne 7, 3) := by decide +kernel
theorem dX6_isEven_87 : decode cX6_isEven 87 = .ok (.iconst 1, 1) := by decide +kernel
theorem dX6_isEven_88 : decode cX6_isEven 88 = .ok (.goto 4, 3) := by decide +kernel
theorem dX6_isEven_91 : decode cX6_isEven 91 = .ok (.iconst 0, 1) := by decide +kernel
theorem dX6_isEven_92 : decode cX6_isEven 92 = .ok (.ireturn, 1) := by decide +kernel
theorem dX7_init_0 : decode cX7_init 0 = .ok (.aload_n 0, 1) := by decide +kernel
theorem dX7_init_1 : decode cX7_init 1 = .ok (.invokespecial 3, 3) := by decide +kernel
theorem dX7_init_4 : decode cX7_init 4 = .ok (.aload_n 0, 1) := by decide +kernel
theorem dX7_init_5 : decode cX7_init 5 = .ok (.new 9, 3) := by decide +kernel
theorem dX7_init_8 : decode cX7_init 8 = .ok (.dup, 1) := by decide +kernel
theorem dX7_init_9 : decode cX7_init 9 = .ok (.invokespecial 11, 3) := by decide +kernel
theorem dX7_init_12 : decode cX7_init 12 = .ok (.putfield 12, 3) := by decide +kernel
theorem dX7_init_15 : decode cX7_init 15 = .ok (.aload_n 0, 1) := by decide +kernel
theorem dX7_init_16 : decode cX7_init 16 = .ok (.new 18, 3) := by decide +kernel
theorem dX7_init_19 : decode cX7_init 19 = .ok (.dup, 1) := by decide +kernel
theorem dX7_init_20 : decode cX7_init 20 = .ok (.invokespecial 20, 3) := by decide +kernel
theorem dX7_init_23 : decode cX7_init 23 = .ok (.putfield 21, 3) := by decide +kernel
theorem dX7_init_26 : decode cX7_init 26 = .ok (.aload_n 0, 1) := by decide +kernel
theorem dX7_init_27 : decode cX7_init 27 = .ok (.iconst 4, 1) := by decide +kernel
theorem dX7_init_28 : decode cX7_init 28 = .ok (.newarray .long, 2) := by decide +kernel
theorem dX7_init_30 : decode cX7_init 30 = .ok (.putfield 25, 3) := by decide +kernel
theorem dX7_init_33 : decode cX7_init 33 = .ok (.aload_n 0, 1) := by decide +kernel
theorem dX7_init_34 : decode cX7_init 34 = .ok (.bipush 20, 2) := by decide +kernel
theorem dX7_init_36 : decode cX7_init 36 = .ok (.anewarray 29, 3) := by decide +kernel
theorem dX7_init_39 : decode cX7_init 39 = .ok (.putfield 31, 3) := by decide +kernel
theorem dX7_init_42 : decode cX7_init 42 = .ok (.aload_n 0, 1) := by decide +kernel
theorem dX7_init_43 : decode cX7_init 43 = .ok (.new 35, 3) := by decide +kernel
theorem dX7_init_46 : decode cX7_init 46 = .ok (.dup, 1) := by decide +kernel
theorem dX7_init_47 : decode cX7_init 47 = .ok (.invokespecial 37, 3) := by decide +kernel
theorem dX7_init_50 : decode cX7_init 50 = .ok (.putfield 38, 3) := by decide +kernel
theorem dX7_init_53 : decode cX7_init 53 = .ok (.aload_n 0, 1) := by decide +kernel
theorem dX7_init_54 : decode cX7_init 54 = .ok (.new 42, 3) := by decide +kernel
theorem dX7_init_57 : decode cX7_init 57 = .ok (.dup, 1) := by decide +kernel
theorem dX7_init_58 : decode cX7_init 58 = .ok (.invokespecial 44, 3) := by decide +kernel
theorem dX7_init_61 : decode cX7_init 61 = .ok (.putfield 45, 3) := by decide +kernel
theorem dX7_init_64 : decode cX7_init 64 = .ok (.aload_n 0, 1) := by decide +kernel
theorem dX7_init_65 : decode cX7_init 65 = .ok (.new 49, 3) := by decide +kernel
theorem dX7_init_68 : decode cX7_init 68 = .ok (.dup, 1) := by decide +kernel
theorem dX7_init_69 : decode cX7_init 69 = .ok (.invokespecial 51, 3) := by decide +kernel
theorem dX7_init_72 : decode cX7_init 72 = .ok (.putfield 52, 3) := by decide +kernel
theorem dX7_init_75 : decode cX7_init 75 = .ok (.aload_n 0, 1) := by decide +kernel
theorem dX7_init_76 : decode cX7_init 76 = .ok (.new 49, 3) := by decide +kernel
theorem dX7_init_79 : decode cX7_init 79 = .ok (.dup, 1) := by decide +kernel
theorem dX7_init_80 : decode cX7_init 80 = .ok (.invokespecial 51, 3) := by decide +kernel
theorem dX7_init_83 : decode cX7_init 83 = .ok (.putfield 56, 3) := by decide +kernel
theorem dX7_init_86 : decode cX7_init 86 = .ok (.return_, 1) := by decide +kernel
theorem dX7_unit_0 : decode cX7_unit 0 = .ok (.aload_n 0, 1) := by decide +kernel
theorem dX7_unit_1 : decode cX7_unit 1 = .ok (.getfield 12, 3) := by decide +kernel
theorem dX7_unit_4 : decode cX7_unit 4 = .ok (.iload_n 1, 1) := by decide +kernel
theorem dX7_unit_5 : decode cX7_unit 5 = .ok (.invokevirtual 59, 3) := by decide +kernel
theorem dX7_unit_8 : decode cX7_unit 8 = .ok (.ireturn, 1) := by decide +kernel
theorem dX7_read_0 : decode cX7_read 0 = .ok (.aload_n 0, 1) := by decide +kernel
theorem dX7_read_1 : decode cX7_read 1 = .ok (.getfield 56, 3) := by decide +kernel
theorem dX7_read_4 : decode cX7_read 4 = .ok (.aload_n 0, 1) := by decide +kernel
theorem dX7_read_5 : decode cX7_read 5 = .ok (.getfield 12, 3) := by decide +kernel
theorem dX7_read_8 : decode cX7_read 8 = .ok (.invokevirtual 63, 3) := by decide +kernel
theorem dX7_read_11 : decode cX7_read 11 = .ok (.istore_n 1, 1) := by decide +kernel
theorem dX7_read_12 : decode cX7_read 12 = .ok (.aload_n 0, 1) := by decide +kernel
theorem dX7_read_13 : decode cX7_read 13 = .ok (.getfield 12, 3) := by decide +kernel
theorem dX7_read_16 : decode cX7_read 16 = .ok (.invokevirtual 67, 3) := by decide +kernel
theorem dX7_read_19 : decode cX7_read 19 = .ok (.iload_n 1, 1) := by decide +kernel
theorem dX7_read_20 : decode cX7_read 20 = .ok (.ifCond .lt 21, 3) := by decide +kernel
theorem dX7_read_23 : decode cX7_read 23 = .ok (.aload_n 0, 1) := by decide +kernel
theorem dX7_read_24 : decode cX7_read 24 = .ok (.getfield 52, 3) := by decide +kernel
theorem dX7_read_27 : decode cX7_read 27 = .ok (.astore_n 2, 1) := by decide +kernel
theorem dX7_read_28 : decode cX7_read 28 = .ok (.aload_n 0, 1) := by decide +kernel
theorem dX7_read_29 : decode cX7_read 29 = .ok (.aload_n 0, 1) := by decide +kernel
theorem dX7_read_30 : decode cX7_read 30 = .ok (.getfield 56, 3) := by decide +kernel
theorem dX7_read_33 : decode cX7_read 33 = .ok (.putfield 52, 3) := by decide +kernel
theorem dX7_read_36 : decode cX7_read 36 = .ok (.aload_n 0, 1) := by decide +kernel
theorem dX7_read_37 : decode cX7_read 37 = .ok (.aload_n 2, 1) := by decide +kernel
theorem dX7_read_38 : decode cX7_read 38 = .ok (.putfield 56, 3) := by decide +kernel
theorem dX7_read_41 : decode cX7_read 41 = .ok (.iload_n 1, 1) := by decide +kernel
theorem dX7_read_42 : decode cX7_read 42 = .ok (.ireturn, 1) := by decide +kernel
theorem dX7_person_0 : decode cX7_person 0 = .ok (.aload_n 0, 1) := by decide +kernel
theorem dX7_person_1 : decode cX7_person 1 = .ok (.getfield 21, 3) := by decide +kernel
theorem dX7_person_4 : decode cX7_person 4 = .ok (.iload_n 1, 1) := by decide +kernel
theorem dX7_person_5 : decode cX7_person 5 = .ok (.invokevirtual 70, 3) := by decide +kernel
theorem dX7_person_8 : decode cX7_person 8 = .ok (.ireturn, 1) := by decide +kernel
theorem dX7_advance_0 : decode cX7_advance 0 = .ok (.aload_n 0, 1) := by decide +kernel
theorem dX7_advance_1 : decode cX7_advance 1 = .ok (.getfield 21, 3) := by decide +kernel
theorem dX7_advance_4 : decode cX7_advance 4 = .ok (.iload_n 1, 1) := by decide +kernel
theorem dX7_advance_5 : decode cX7_advance 5 = .ok (.invokevirtual 74, 3) := by decide +kernel
theorem dX7_advance_8 : decode cX7_advance 8 = .ok (.ifCond .eq 10, 3) := by decide +kernel
theorem dX7_advance_11 : decode cX7_advance 11 = .ok (.lload_n 2, 1) := by decide +kernel
theorem dX7_advance_12 : decode cX7_advance 12 = .ok (.invokestatic 77, 3) := by decide +kernel
theorem dX7_advance_15 : decode cX7_advance 15 = .ok (.ifCond .ne 5, 3) := by decide +kernel
theorem dX7_advance_18 : decode cX7_advance 18 = .ok (.iconst 0, 1) := by decide +kernel
theorem dX7_advance_19 : decode cX7_advance 19 = .ok (.ireturn, 1) := by decide +kernel
theorem dX7_advance_20 : decode cX7_advance 20 = .ok (.aload_n 0, 1) := by decide +kernel
theorem dX7_advance_21 : decode cX7_advance 21 = .ok (.getfield 21, 3) := by decide +kernel
theorem dX7_advance_24 : decode cX7_advance 24 = .ok (.getfield 81, 3) := by decide +kernel
theorem dX7_advance_27 : decode cX7_advance 27 = .ok (.iload_n 1, 1) := by decide +kernel
theorem dX7_advance_28 : decode cX7_advance 28 = .ok (.dup2, 1) := by decide +kernel
theorem dX7_advance_29 : decode cX7_advance 29 = .ok (.laload, 1) := by decide +kernel
theorem dX7_advance_30 : decode cX7_advance 30 = .ok (.lload_n 2, 1) := by decide +kernel
theorem dX7_advance_31 : decode cX7_advance 31 = .ok (.ladd, 1) := by decide +kernel
theorem dX7_advance_32 : decode cX7_advance 32 = .ok (.lastore, 1) := by decide +kernel
theorem dX7_advance_33 : decode cX7_advance 33 = .ok (.iconst 1, 1) := by decide +kernel
theorem dX7_advance_34 : decode cX7_advance 34 = .ok (.ireturn, 1) := by decide +kernel
theorem dX7_trip_0 : decode cX7_trip 0 = .ok (.iload_n 1, 1) := by decide +kernel
theorem dX7_trip_1 : decode cX7_trip 1 = .ok (.ifCond .lt 31, 3) := by decide +kernel
theorem dX7_trip_4 : decode cX7_trip 4 = .ok (.iload_n 1, 1) := by decide +kernel
theorem dX7_trip_5 : decode cX7_trip 5 = .ok (.iconst 4, 1) := by decide +kernel
theorem dX7_trip_6 : decode cX7_trip 6 = .ok (.if_icmp .ge 26, 3) := by decide +kernel
theorem dX7_trip_9 : decode cX7_trip 9 = .ok (.lload_n 2, 1) := by decide +kernel
theorem dX7_trip_10 : decode cX7_trip 10 = .ok (.lconst 0, 1) := by decide +kernel
theorem dX7_trip_11 : decode cX7_trip 11 = .ok (.lcmp, 1) := by decide +kernel
theorem dX7_trip_12 : decode cX7_trip 12 = .ok (.ifCond .lt 20, 3) := by decide +kernel
theorem dX7_trip_15 : decode cX7_trip 15 = .ok (.lload_n 2, 1) := by decide +kernel
theorem dX7_trip_16 : decode cX7_trip 16 = .ok (.ldc2_w 84, 3) := by decide +kernel
theorem dX7_trip_19 : decode cX7_trip 19 = .ok (.lcmp, 1) := by decide +kernel
theorem dX7_trip_20 : decode cX7_trip 20 = .ok (.ifCond .gt 12, 3) := by decide +kernel
theorem dX7_trip_23 : decode cX7_trip 23 = .ok (.aload_n 0, 1) := by decide +kernel
theorem dX7_trip_24 : decode cX7_trip 24 = .ok (.getfield 86, 3) := by decide +kernel
theorem dX7_trip_27 : decode cX7_trip 27 = .ok (.bipush 20, 2) := by decide +kernel
theorem dX7_trip_29 : decode cX7_trip 29 = .ok (.if_icmp .lt 5, 3) := by decide +kernel
theorem dX7_trip_32 : decode cX7_trip 32 = .ok (.iconst (-1), 1) := by decide +kernel
theorem dX7_trip_33 : decode cX7_trip 33 = .ok (.ireturn, 1) := by decide +kernel
theorem dX7_trip_34 : decode cX7_trip 34 = .ok (.aload_n 0, 1) := by decide +kernel
theorem dX7_trip_35 : decode cX7_trip 35 = .ok (.getfield 31, 3) := by decide +kernel
theorem dX7_trip_38 : decode cX7_trip 38 = .ok (.aload_n 0, 1) := by decide +kernel
theorem dX7_trip_39 : decode cX7_trip 39 = .ok (.getfield 86, 3) := by decide +kernel
theorem dX7_trip_42 : decode cX7_trip 42 = .ok (.new 29, 3) := by decide +kernel
theorem dX7_trip_45 : decode cX7_trip 45 = .ok (.dup, 1) := by decide +kernel
theorem dX7_trip_46 : decode cX7_trip 46 = .ok (.iload_n 1, 1) := by decide +kernel
theorem dX7_trip_47 : decode cX7_trip 47 = .ok (.lload_n 2, 1) := by decide +kernel
theorem dX7_trip_48 : decode cX7_trip 48 = .ok (.invokespecial 90, 3) := by decide +kernel
theorem dX7_trip_51 : decode cX7_trip 51 = .ok (.aastore, 1) := by decide +kernel
theorem dX7_trip_52 : decode cX7_trip 52 = .ok (.aload_n 0, 1) := by decide +kernel
theorem dX7_trip_53 : decode cX7_trip 53 = .ok (.dup, 1) := by decide +kernel
theorem dX7_trip_54 : decode cX7_trip 54 = .ok (.getfield 86, 3) := by decide +kernel
theorem dX7_trip_57 : decode cX7_trip 57 = .ok (.iconst 1, 1) := by decide +kernel
theorem dX7_trip_58 : decode cX7_trip 58 = .ok (.iadd, 1) := by decide +kernel
theorem dX7_trip_59 : decode cX7_trip 59 = .ok (.putfield 86, 3) := by decide +kernel
theorem dX7_trip_62 : decode cX7_trip 62 = .ok (.aload_n 0, 1) := by decide +kernel
theorem dX7_trip_63 : decode cX7_trip 63 = .ok (.getfield 86, 3) := by decide +kernel
theorem dX7_trip_66 : decode cX7_trip 66 = .ok (.iconst 1, 1) := by decide +kernel
theorem dX7_trip_67 : decode cX7_trip 67 = .ok (.isub, 1) := by decide +kernel
theorem dX7_trip_68 : decode cX7_trip 68 = .ok (.ireturn, 1) := by decide +kernel
theorem dX7_cost_0 : decode cX7_cost 0 = .ok (.aload_n 0, 1) := by decide +kernel
theorem dX7_cost_1 : decode cX7_cost 1 = .ok (.iload_n 1, 1) := by decide +kernel
theorem dX7_cost_2 : decode cX7_cost 2 = .ok (.invokevirtual 93, 3) := by decide +kernel
theorem dX7_cost_5 : decode cX7_cost 5 = .ok (.astore 5, 2) := by decide +kernel
theorem dX7_cost_7 : decode cX7_cost 7 = .ok (.aload 5, 2) := by decide +kernel
theorem dX7_cost_9 : decode cX7_cost 9 = .ok (.ifnull 20, 3) := by decide +kernel
theorem dX7_cost_12 : decode cX7_cost 12 = .ok (.iload_n 2, 1) := by decide +kernel
theorem dX7_cost_13 : decode cX7_cost 13 = .ok (.ifCond .lt 16, 3) := by decide +kernel
theorem dX7_cost_16 : decode cX7_cost 16 = .ok (.iload_n 2, 1) := by decide +kernel
theorem dX7_cost_17 : decode cX7_cost 17 = .ok (.bipush 10, 2) := by decide +kernel
theorem dX7_cost_19 : decode cX7_cost 19 = .ok (.if_icmp .ge 10, 3) := by decide +kernel
theorem dX7_cost_22 : decode cX7_cost 22 = .ok (.lload_n 3, 1) := by decide +kernel
theorem dX7_cost_23 : decode cX7_cost 23 = .ok (.invokestatic 77, 3) := by decide +kernel
theorem dX7_cost_26 : decode cX7_cost 26 = .ok (.ifCond .ne 5, 3) := by decide +kernel
theorem dX7_cost_29 : decode cX7_cost 29 = .ok (.iconst 0, 1) := by decide +kernel
theorem dX7_cost_30 : decode cX7_cost 30 = .ok (.ireturn, 1) := by decide +kernel
theorem dX7_cost_31 : decode cX7_cost 31 = .ok (.aload 5, 2) := by decide +kernel
theorem dX7_cost_33 : decode cX7_cost 33 = .ok (.getfield 97, 3) := by decide +kernel
theorem dX7_cost_36 : decode cX7_cost 36 = .ok (.iload_n 2, 1) := by decide +kernel
theorem dX7_cost_37 : decode cX7_cost 37 = .ok (.dup2, 1) := by decide +kernel
theorem dX7_cost_38 : decode cX7_cost 38 = .ok (.laload, 1) := by decide +kernel
theorem dX7_cost_39 : decode cX7_cost 39 = .ok (.lload_n 3, 1) := by decide +kernel
theorem dX7_cost_40 : decode cX7_cost 40 = .ok (.ladd, 1) := by decide +kernel
theorem dX7_cost_41 : decode cX7_cost 41 = .ok (.lastore, 1) := by decide +kernel
theorem dX7_cost_42 : decode cX7_cost 42 = .ok (.iconst 1, 1) := by decide +kernel
theorem dX7_cost_43 : decode cX7_cost 43 = .ok (.ireturn, 1) := by decide +kernel
theorem dX7_days_0 : decode cX7_days 0 = .ok (.aload_n 0, 1) := by decide +kernel
theorem dX7_days_1 : decode cX7_days 1 = .ok (.iload_n 1, 1) := by decide +kernel
theorem dX7_days_2 : decode cX7_days 2 = .ok (.invokevirtual 93, 3) := by decide +kernel
theorem dX7_days_5 : decode cX7_days 5 = .ok (.astore 4, 2) := by decide +kernel
theorem dX7_days_7 : decode cX7_days 7 = .ok (.aload 4, 2) := by decide +kernel
theorem dX7_days_9 : decode cX7_days 9 = .ok (.ifnull 25, 3) := by decide +kernel
theorem dX7_days_12 : decode cX7_days 12 = .ok (.aload_n 0, 1) := by decide +kernel
theorem dX7_days_13 : decode cX7_days 13 = .ok (.getfield 21, 3) := by decide +kernel
theorem dX7_days_16 : decode cX7_days 16 = .ok (.iload_n 2, 1) := by decide +kernel
theorem dX7_days_17 : decode cX7_days 17 = .ok (.invokevirtual 74, 3) := by decide +kernel
theorem dX7_days_20 : decode cX7_days 20 = .ok (.ifCond .eq 14, 3) := by decide +kernel
theorem dX7_days_23 : decode cX7_days 23 = .ok (.iload_n 3, 1) := by decide +kernel
theorem dX7_days_24 : decode cX7_days 24 = .ok (.ifCond .lt 10, 3) := by decide +kernel
theorem dX7_days_27 : decode cX7_days 27 = .ok (.iload_n 3, 1) := by decide +kernel
theorem dX7_days_28 : decode cX7_days 28 = .ok (.sipush 400, 3) := by decide +kernel
theorem dX7_days_31 : decode cX7_days 31 = .ok (.if_icmp .le 5, 3) := by decide +kernel
theorem dX7_days_34 : decode cX7_days 34 = .ok (.iconst (-1), 1) := by decide +kernel
theorem dX7_days_35 : decode cX7_days 35 = .ok (.ireturn, 1) := by decide +kernel
theorem dX7_days_36 : decode cX7_days 36 = .ok (.aload 4, 2) := by decide +kernel
theorem dX7_days_38 : decode cX7_days 38 = .ok (.getfield 100, 3) := by decide +kernel
theorem dX7_days_41 : decode cX7_days 41 = .ok (.iload_n 2, 1) := by decide +kernel
theorem dX7_days_42 : decode cX7_days 42 = .ok (.iaload, 1) := by decide +kernel
theorem dX7_days_43 : decode cX7_days 43 = .ok (.istore 5, 2) := by decide +kernel
theorem dX7_days_45 : decode cX7_days 45 = .ok (.aload 4, 2) := by decide +kernel
theorem dX7_days_47 : decode cX7_days 47 = .ok (.getfield 100, 3) := by decide +kernel
theorem dX7_days_50 : decode cX7_days 50 = .ok (.iload_n 2, 1) := by decide +kernel
theorem dX7_days_51 : decode cX7_days 51 = .ok (.iload_n 3, 1) := by decide +kernel
theorem dX7_days_52 : decode cX7_days 52 = .ok (.iastore, 1) := by decide +kernel
theorem dX7_days_53 : decode cX7_days 53 = .ok (.iload 5, 2) := by decide +kernel
theorem dX7_days_55 : decode cX7_days 55 = .ok (.ireturn, 1) := by decide +kernel
theorem dX7_settle_0 : decode cX7_settle 0 = .ok (.aload_n 0, 1) := by decide +kernel
theorem dX7_settle_1 : decode cX7_settle 1 = .ok (.iload_n 1, 1) := by decide +kernel
theorem dX7_settle_2 : decode cX7_settle 2 = .ok (.invokevirtual 93, 3) := by decide +kernel
theorem dX7_settle_5 : decode cX7_settle 5 = .ok (.astore_n 2, 1) := by decide +kernel
theorem dX7_settle_6 : decode cX7_settle 6 = .ok (.aload_n 2, 1) := by decide +kernel
theorem dX7_settle_7 : decode cX7_settle 7 = .ok (.ifnonnull 5, 3) := by decide +kernel
theorem dX7_settle_10 : decode cX7_settle 10 = .ok (.iconst (-1), 1) := by decide +kernel
theorem dX7_settle_11 : decode cX7_settle 11 = .ok (.ireturn, 1) := by decide +kernel
theorem dX7_settle_12 : decode cX7_settle 12 = .ok (.aload_n 2, 1) := by decide +kernel
theorem dX7_settle_13 : decode cX7_settle 13 = .ok (.aload_n 0, 1) := by decide +kernel
theorem dX7_settle_14 : decode cX7_settle 14 = .ok (.getfield 52, 3) := by decide +kernel
theorem dX7_settle_17 : decode cX7_settle 17 = .ok (.aload_n 0, 1) := by decide +kernel
theorem dX7_settle_18 : decode cX7_settle 18 = .ok (.getfield 21, 3) := by decide +kernel
theorem dX7_settle_21 : decode cX7_settle 21 = .ok (.aload_n 0, 1) := by decide +kernel
theorem dX7_settle_22 : decode cX7_settle 22 = .ok (.getfield 25, 3) := by decide +kernel
theorem dX7_settle_25 : decode cX7_settle 25 = .ok (.aload_n 0, 1) := by decide +kernel
theorem dX7_settle_26 : decode cX7_settle 26 = .ok (.getfield 38, 3) := by decide +kernel
theorem dX7_settle_29 : decode cX7_settle 29 = .ok (.invokevirtual 104, 3) := by decide +kernel
theorem dX7_settle_32 : decode cX7_settle 32 = .ok (.aload_n 2, 1) := by decide +kernel
theorem dX7_settle_33 : decode cX7_settle 33 = .ok (.invokevirtual 108, 3) := by decide +kernel
theorem dX7_settle_36 : decode cX7_settle 36 = .ok (.ireturn, 1) := by decide +kernel
theorem dX7_part_0 : decode cX7_part 0 = .ok (.aload_n 0, 1) := by decide +kernel
theorem dX7_part_1 : decode cX7_part 1 = .ok (.iload_n 1, 1) := by decide +kernel
theorem dX7_part_2 : decode cX7_part 2 = .ok (.invokevirtual 112, 3) := by decide +kernel
theorem dX7_part_5 : decode cX7_part 5 = .ok (.astore_n 3, 1) := by decide +kernel
theorem dX7_part_6 : decode cX7_part 6 = .ok (.aload_n 3, 1) := by decide +kernel
theorem dX7_part_7 : decode cX7_part 7 = .ok (.ifnull 13, 3) := by decide +kernel
theorem dX7_part_10 : decode cX7_part 10 = .ok (.iload_n 2, 1) := by decide +kernel
theorem dX7_part_11 : decode cX7_part 11 = .ok (.ifCond .lt 9, 3) := by decide +kernel
theorem dX7_part_14 : decode cX7_part 14 = .ok (.iload_n 2, 1) := by decide +kernel
theorem dX7_part_15 : decode cX7_part 15 = .ok (.bipush 6, 2) := by decide +kernel
theorem dX7_part_17 : decode cX7_part 17 = .ok (.if_icmp .lt 7, 3) := by decide +kernel
theorem dX7_part_20 : decode cX7_part 20 = .ok (.ldc2_w 115, 3) := by decide +kernel
theorem dX7_part_23 : decode cX7_part 23 = .ok (.lreturn, 1) := by decide +kernel
theorem dX7_part_24 : decode cX7_part 24 = .ok (.aload_n 3, 1) := by decide +kernel
theorem dX7_part_25 : decode cX7_part 25 = .ok (.getfield 117, 3) := by decide +kernel
theorem dX7_part_28 : decode cX7_part 28 = .ok (.iload_n 2, 1) := by decide +kernel
theorem dX7_part_29 : decode cX7_part 29 = .ok (.laload, 1) := by decide +kernel
theorem dX7_part_30 : decode cX7_part 30 = .ok (.lreturn, 1) := by decide +kernel
theorem dX7_share_0 : decode cX7_share 0 = .ok (.aload_n 0, 1) := by decide +kernel
theorem dX7_share_1 : decode cX7_share 1 = .ok (.iload_n 1, 1) := by decide +kernel
theorem dX7_share_2 : decode cX7_share 2 = .ok (.invokevirtual 112, 3) := by decide +kernel
theorem dX7_share_5 : decode cX7_share 5 = .ok (.astore 4, 2) := by decide +kernel
theorem dX7_share_7 : decode cX7_share 7 = .ok (.aload 4, 2) := by decide +kernel
theorem dX7_share_9 : decode cX7_share 9 = .ok (.ifnull 23, 3) := by decide +kernel
theorem dX7_share_12 : decode cX7_share 12 = .ok (.aload_n 0, 1) := by decide +kernel
theorem dX7_share_13 : decode cX7_share 13 = .ok (.getfield 21, 3) := by decide +kernel
theorem dX7_share_16 : decode cX7_share 16 = .ok (.iload_n 2, 1) := by decide +kernel
theorem dX7_share_17 : decode cX7_share 17 = .ok (.invokevirtual 74, 3) := by decide +kernel
theorem dX7_share_20 : decode cX7_share 20 = .ok (.ifCond .eq 12, 3) := by decide +kernel
theorem dX7_share_23 : decode cX7_share 23 = .ok (.iload_n 3, 1) := by decide +kernel
theorem dX7_share_24 : decode cX7_share 24 = .ok (.ifCond .lt 8, 3) := by decide +kernel
theorem dX7_share_27 : decode cX7_share 27 = .ok (.iload_n 3, 1) := by decide +kernel
theorem dX7_share_28 : decode cX7_share 28 = .ok (.iconst 4, 1) := by decide +kernel
theorem dX7_share_29 : decode cX7_share 29 = .ok (.if_icmp .lt 7, 3) := by decide +kernel
theorem dX7_share_32 : decode cX7_share 32 = .ok (.ldc2_w 115, 3) := by decide +kernel
theorem dX7_share_35 : decode cX7_share 35 = .ok (.lreturn, 1) := by decide +kernel
theorem dX7_share_36 : decode cX7_share 36 = .ok (.aload 4, 2) := by decide +kernel
theorem dX7_share_38 : decode cX7_share 38 = .ok (.getfield 120, 3) := by decide +kernel
theorem dX7_share_41 : decode cX7_share 41 = .ok (.iload_n 3, 1) := by decide +kernel
theorem dX7_share_42 : decode cX7_share 42 = .ok (.aaload, 1) := by decide +kernel
theorem dX7_share_43 : decode cX7_share 43 = .ok (.iload_n 2, 1) := by decide +kernel
theorem dX7_share_44 : decode cX7_share 44 = .ok (.laload, 1) := by decide +kernel
theorem dX7_share_45 : decode cX7_share 45 = .ok (.lreturn, 1) := by decide +kernel
theorem dX7_carried_0 : decode cX7_carried 0 = .ok (.iload_n 1, 1) := by decide +kernel
theorem dX7_carried_1 : decode cX7_carried 1 = .ok (.ifCond .lt 15, 3) := by decide +kernel
theorem dX7_carried_4 : decode cX7_carried 4 = .ok (.iload_n 1, 1) := by decide +kernel
theorem dX7_carried_5 : decode cX7_carried 5 = .ok (.iconst 4, 1) := by decide +kernel
theorem dX7_carried_6 : decode cX7_carried 6 = .ok (.if_icmp .ge 10, 3) := by decide +kernel
theorem dX7_carried_9 : decode cX7_carried 9 = .ok (.aload_n 0, 1) := by decide +kernel
theorem dX7_carried_10 : decode cX7_carried 10 = .ok (.getfield 25, 3) := by decide +kernel
theorem dX7_carried_13 : decode cX7_carried 13 = .ok (.iload_n 1, 1) := by decide +kernel
theorem dX7_carried_14 : decode cX7_carried 14 = .ok (.laload, 1) := by decide +kernel
theorem dX7_carried_15 : decode cX7_carried 15 = .ok (.lreturn, 1) := by decide +kernel
theorem dX7_carried_16 : decode cX7_carried 16 = .ok (.iload_n 1, 1) := by decide +kernel
theorem dX7_carried_17 : decode cX7_carried 17 = .ok (.bipush 100, 2) := by decide +kernel
theorem dX7_carried_19 : decode cX7_carried 19 = .ok (.if_icmp .lt 30, 3) := by decide +kernel
theorem dX7_carried_22 : decode cX7_carried 22 = .ok (.aload_n 0, 1) := by decide +kernel
theorem dX7_carried_23 : decode cX7_carried 23 = .ok (.getfield 21, 3) := by decide +kernel
theorem dX7_carried_26 : decode cX7_carried 26 = .ok (.iload_n 1, 1) := by decide +kernel
theorem dX7_carried_27 : decode cX7_carried 27 = .ok (.bipush 100, 2) := by decide +kernel
theorem dX7_carried_29 : decode cX7_carried 29 = .ok (.isub, 1) := by decide +kernel
theorem dX7_carried_30 : decode cX7_carried 30 = .ok (.invokevirtual 74, 3) := by decide +kernel
theorem dX7_carried_33 : decode cX7_carried 33 = .ok (.ifCond .eq 16, 3) := by decide +kernel
theorem dX7_carried_36 : decode cX7_carried 36 = .ok (.aload_n 0, 1) := by decide +kernel
theorem dX7_carried_37 : decode cX7_carried 37 = .ok (.getfield 21, 3) := by decide +kernel
theorem dX7_carried_40 : decode cX7_carried 40 = .ok (.getfield 81, 3) := by decide +kernel
theorem dX7_carried_43 : decode cX7_carried 43 = .ok (.iload_n 1, 1) := by decide +kernel
theorem dX7_carried_44 : decode cX7_carried 44 = .ok (.bipush 100, 2) := by decide +kernel
theorem dX7_carried_46 : decode cX7_carried 46 = .ok (.isub, 1) := by decide +kernel
theorem dX7_carried_47 : decode cX7_carried 47 = .ok (.laload, 1) := by decide +kernel
theorem dX7_carried_48 : decode cX7_carried 48 = .ok (.lreturn, 1) := by decide +kernel
theorem dX7_carried_49 : decode cX7_carried 49 = .ok (.ldc2_w 124, 3) := by decide +kernel
theorem dX7_carried_52 : decode cX7_carried 52 = .ok (.lreturn, 1) := by decide +kernel
theorem dX7_sums_0 : decode cX7_sums 0 = .ok (.aload_n 0, 1) := by decide +kernel
theorem dX7_sums_1 : decode cX7_sums 1 = .ok (.iload_n 1, 1) := by decide +kernel
theorem dX7_sums_2 : decode cX7_sums 2 = .ok (.invokevirtual 112, 3) := by decide +kernel
theorem dX7_sums_5 : decode cX7_sums 5 = .ok (.astore_n 2, 1) := by decide +kernel
theorem dX7_sums_6 : decode cX7_sums 6 = .ok (.aload_n 2, 1) := by decide +kernel
theorem dX7_sums_7 : decode cX7_sums 7 = .ok (.ifnull 14, 3) := by decide +kernel
theorem dX7_sums_10 : decode cX7_sums 10 = .ok (.aload_n 2, 1) := by decide +kernel
theorem dX7_sums_11 : decode cX7_sums 11 = .ok (.invokevirtual 126, 3) := by decide +kernel
theorem dX7_sums_14 : decode cX7_sums 14 = .ok (.ifCond .eq 7, 3) := by decide +kernel
theorem dX7_sums_17 : decode cX7_sums 17 = .ok (.iconst 1, 1) := by decide +kernel
theorem dX7_sums_18 : decode cX7_sums 18 = .ok (.goto 4, 3) := by decide +kernel
theorem dX7_sums_21 : decode cX7_sums 21 = .ok (.iconst 0, 1) := by decide +kernel
theorem dX7_sums_22 : decode cX7_sums 22 = .ok (.ireturn, 1) := by decide +kernel
theorem dX7_open_0 : decode cX7_open 0 = .ok (.aload_n 0, 1) := by decide +kernel
theorem dX7_open_1 : decode cX7_open 1 = .ok (.getfield 45, 3) := by decide +kernel
theorem dX7_open_4 : decode cX7_open 4 = .ok (.iload_n 1, 1) := by decide +kernel
theorem dX7_open_5 : decode cX7_open 5 = .ok (.invokevirtual 130, 3) := by decide +kernel
theorem dX7_open_8 : decode cX7_open 8 = .ok (.ireturn, 1) := by decide +kernel
theorem dX7_row_0 : decode cX7_row 0 = .ok (.aload_n 0, 1) := by decide +kernel
theorem dX7_row_1 : decode cX7_row 1 = .ok (.getfield 45, 3) := by decide +kernel
theorem dX7_row_4 : decode cX7_row 4 = .ok (.iload_n 1, 1) := by decide +kernel
theorem dX7_row_5 : decode cX7_row 5 = .ok (.lload_n 2, 1) := by decide +kernel
theorem dX7_row_6 : decode cX7_row 6 = .ok (.invokevirtual 133, 3) := by decide +kernel
theorem dX7_row_9 : decode cX7_row 9 = .ok (.ireturn, 1) := by decide +kernel
theorem dX7_enter_0 : decode cX7_enter 0 = .ok (.aload_n 0, 1) := by decide +kernel
theorem dX7_enter_1 : decode cX7_enter 1 = .ok (.getfield 45, 3) := by decide +kernel
theorem dX7_enter_4 : decode cX7_enter 4 = .ok (.invokevirtual 137, 3) := by decide +kernel
theorem dX7_enter_7 : decode cX7_enter 7 = .ok (.ireturn, 1) := by decide +kernel
theorem dX7_drop_0 : decode cX7_drop 0 = .ok (.aload_n 0, 1) := by decide +kernel
theorem dX7_drop_1 : decode cX7_drop 1 = .ok (.getfield 45, 3) := by decide +kernel
theorem dX7_drop_4 : decode cX7_drop 4 = .ok (.invokevirtual 140, 3) := by decide +kernel
theorem dX7_drop_7 : decode cX7_drop 7 = .ok (.ireturn, 1) := by decide +kernel
theorem dX7_closeMonth_0 : decode cX7_closeMonth 0 = .ok (.aload_n 0, 1) := by decide +kernel
theorem dX7_closeMonth_1 : decode cX7_closeMonth 1 = .ok (.getfield 45, 3) := by decide +kernel
theorem dX7_closeMonth_4 : decode cX7_closeMonth 4 = .ok (.iload_n 1, 1) := by decide +kernel
theorem dX7_closeMonth_5 : decode cX7_closeMonth 5 = .ok (.invokevirtual 143, 3) := by decide +kernel
theorem dX7_closeMonth_8 : decode cX7_closeMonth 8 = .ok (.ireturn, 1) := by decide +kernel
theorem dX7_correct_0 : decode cX7_correct 0 = .ok (.aload_n 0, 1) := by decide +kernel
theorem dX7_correct_1 : decode cX7_correct 1 = .ok (.getfield 45, 3) := by decide +kernel
theorem dX7_correct_4 : decode cX7_correct 4 = .ok (.iload_n 1, 1) := by decide +kernel
theorem dX7_correct_5 : decode cX7_correct 5 = .ok (.iload_n 2, 1) := by decide +kernel
theorem dX7_correct_6 : decode cX7_correct 6 = .ok (.invokevirtual 146, 3) := by decide +kernel
theorem dX7_correct_9 : decode cX7_correct 9 = .ok (.ireturn, 1) := by decide +kernel
theorem dX7_balance_0 : decode cX7_balance 0 = .ok (.aload_n 0, 1) := by decide +kernel
theorem dX7_balance_1 : decode cX7_balance 1 = .ok (.getfield 45, 3) := by decide +kernel
theorem dX7_balance_4 : decode cX7_balance 4 = .ok (.iload_n 1, 1) := by decide +kernel
theorem dX7_balance_5 : decode cX7_balance 5 = .ok (.iload_n 2, 1) := by decide +kernel
theorem dX7_balance_6 : decode cX7_balance 6 = .ok (.invokevirtual 150, 3) := by decide +kernel
theorem dX7_balance_9 : decode cX7_balance 9 = .ok (.lreturn, 1) := by decide +kernel
theorem dX7_entry_0 : decode cX7_entry 0 = .ok (.aload_n 0, 1) := by decide +kernel
theorem dX7_entry_1 : decode cX7_entry 1 = .ok (.getfield 45, 3) := by decide +kernel
theorem dX7_entry_4 : decode cX7_entry 4 = .ok (.iload_n 1, 1) := by decide +kernel
theorem dX7_entry_5 : decode cX7_entry 5 = .ok (.iload_n 2, 1) := by decide +kernel
theorem dX7_entry_6 : decode cX7_entry 6 = .ok (.iload_n 3, 1) := by decide +kernel
theorem dX7_entry_7 : decode cX7_entry 7 = .ok (.invokevirtual 154, 3) := by decide +kernel
theorem dX7_entry_10 : decode cX7_entry 10 = .ok (.lreturn, 1) := by decide +kernel
theorem dX7_areCents_0 : decode cX7_areCents 0 = .ok (.lload_n 0, 1) := by decide +kernel
theorem dX7_areCents_1 : decode cX7_areCents 1 = .ok (.lconst 1, 1) := by decide +kernel
theorem dX7_areCents_2 : decode cX7_areCents 2 = .ok (.lcmp, 1) := by decide +kernel
theorem dX7_areCents_3 : decode cX7_areCents 3 = .ok (.ifCond .lt 15, 3) := by decide +kernel
theorem dX7_areCents_6 : decode cX7_areCents 6 = .ok (.lload_n 0, 1) := by decide +kernel
theorem dX7_areCents_7 : decode cX7_areCents 7 = .ok (.ldc2_w 158, 3) := by decide +kernel
theorem dX7_areCents_10 : decode cX7_areCents 10 = .ok (.lcmp, 1) := by decide +kernel
theorem dX7_areCents_11 : decode cX7_areCents 11 = .ok (.ifCond .gt 7, 3) := by decide +kernel
theorem dX7_areCents_14 : decode cX7_areCents 14 = .ok (.iconst 1, 1) := by decide +kernel
theorem dX7_areCents_15 : decode cX7_areCents 15 = .ok (.goto 4, 3) := by decide +kernel
theorem dX7_areCents_18 : decode cX7_areCents 18 = .ok (.iconst 0, 1) := by decide +kernel
theorem dX7_areCents_19 : decode cX7_areCents 19 = .ok (.ireturn, 1) := by decide +kernel
theorem dX7_tripAt_0 : decode cX7_tripAt 0 = .ok (.iload_n 1, 1) := by decide +kernel
theorem dX7_tripAt_1 : decode cX7_tripAt 1 = .ok (.ifCond .lt 20, 3) := by decide +kernel
theorem dX7_tripAt_4 : decode cX7_tripAt 4 = .ok (.iload_n 1, 1) := by decide +kernel
theorem dX7_tripAt_5 : decode cX7_tripAt 5 = .ok (.aload_n 0, 1) := by decide +kernel
theorem dX7_tripAt_6 : decode cX7_tripAt 6 = .ok (.getfield 86, 3) := by decide +kernel
theorem dX7_tripAt_9 : decode cX7_tripAt 9 = .ok (.if_icmp .ge 12, 3) := by decide +kernel
theorem dX7_tripAt_12 : decode cX7_tripAt 12 = .ok (.aload_n 0, 1) := by decide +kernel
theorem dX7_tripAt_13 : decode cX7_tripAt 13 = .ok (.getfield 31, 3) := by decide +kernel
theorem dX7_tripAt_16 : decode cX7_tripAt 16 = .ok (.iload_n 1, 1) := by decide +kernel
theorem dX7_tripAt_17 : decode cX7_tripAt 17 = .ok (.aaload, 1) := by decide +kernel
theorem dX7_tripAt_18 : decode cX7_tripAt 18 = .ok (.goto 4, 3) := by decide +kernel
theorem dX7_tripAt_21 : decode cX7_tripAt 21 = .ok (.aconst_null, 1) := by decide +kernel
theorem dX7_tripAt_22 : decode cX7_tripAt 22 = .ok (.areturn, 1) := by decide +kernel
theorem dX7_tripToSettle_0 : decode cX7_tripToSettle 0 = .ok (.aload_n 0, 1) := by decide +kernel
theorem dX7_tripToSettle_1 : decode cX7_tripToSettle 1 = .ok (.iload_n 1, 1) := by decide +kernel
theorem dX7_tripToSettle_2 : decode cX7_tripToSettle 2 = .ok (.invokevirtual 160, 3) := by decide +kernel
theorem dX7_tripToSettle_5 : decode cX7_tripToSettle 5 = .ok (.astore_n 2, 1) := by decide +kernel
theorem dX7_tripToSettle_6 : decode cX7_tripToSettle 6 = .ok (.aload_n 2, 1) := by decide +kernel
theorem dX7_tripToSettle_7 : decode cX7_tripToSettle 7 = .ok (.ifnull 14, 3) := by decide +kernel
theorem dX7_tripToSettle_10 : decode cX7_tripToSettle 10 = .ok (.aload_n 2, 1) := by decide +kernel
theorem dX7_tripToSettle_11 : decode cX7_tripToSettle 11 = .ok (.getfield 163, 3) := by decide +kernel
theorem dX7_tripToSettle_14 : decode cX7_tripToSettle 14 = .ok (.ifCond .ne 7, 3) := by decide +kernel
theorem dX7_tripToSettle_17 : decode cX7_tripToSettle 17 = .ok (.aload_n 2, 1) := by decide +kernel
theorem dX7_tripToSettle_18 : decode cX7_tripToSettle 18 = .ok (.goto 4, 3) := by decide +kernel
theorem dX7_tripToSettle_21 : decode cX7_tripToSettle 21 = .ok (.aconst_null, 1) := by decide +kernel
theorem dX7_tripToSettle_22 : decode cX7_tripToSettle 22 = .ok (.areturn, 1) := by decide +kernel
theorem dX7_settledTrip_0 : decode cX7_settledTrip 0 = .ok (.aload_n 0, 1) := by decide +kernel
theorem dX7_settledTrip_1 : decode cX7_settledTrip 1 = .ok (.iload_n 1, 1) := by decide +kernel
theorem dX7_settledTrip_2 : decode cX7_settledTrip 2 = .ok (.invokevirtual 160, 3) := by decide +kernel
theorem dX7_settledTrip_5 : decode cX7_settledTrip 5 = .ok (.astore_n 2, 1) := by decide +kernel
theorem dX7_settledTrip_6 : decode cX7_settledTrip 6 = .ok (.aload_n 2, 1) := by decide +kernel
theorem dX7_settledTrip_7 : decode cX7_settledTrip 7 = .ok (.ifnull 14, 3) := by decide +kernel
theorem dX7_settledTrip_10 : decode cX7_settledTrip 10 = .ok (.aload_n 2, 1) := by decide +kernel
theorem dX7_settledTrip_11 : decode cX7_settledTrip 11 = .ok (.getfield 163, 3) := by decide +kernel
theorem dX7_settledTrip_14 : decode cX7_settledTrip 14 = .ok (.ifCond .eq 7, 3) := by decide +kernel
theorem dX7_settledTrip_17 : decode cX7_settledTrip 17 = .ok (.aload_n 2, 1) := by decide +kernel
theorem dX7_settledTrip_18 : decode cX7_settledTrip 18 = .ok (.goto 4, 3) := by decide +kernel
theorem dX7_settledTrip_21 : decode cX7_settledTrip 21 = .ok (.aconst_null, 1) := by decide +kernel
theorem dX7_settledTrip_22 : decode cX7_settledTrip 22 = .ok (.areturn, 1) := by decide +kernel
theorem dX8_init_0 : decode cX8_init 0 = .ok (.aload_n 0, 1) := by decide +kernel
theorem dX8_init_1 : decode cX8_init 1 = .ok (.invokespecial 1, 3) := by decide +kernel
theorem dX8_init_4 : decode cX8_init 4 = .ok (.aload_n 0, 1) := by decide +kernel
theorem dX8_init_5 : decode cX8_init 5 = .ok (.sipush 600, 3) := by decide +kernel
theorem dX8_init_8 : decode cX8_init 8 = .ok (.newarray .int, 2) := by decide +kernel
theorem dX8_init_10 : decode cX8_init 10 = .ok (.putfield 7, 3) := by decide +kernel
theorem dX8_init_13 : decode cX8_init 13 = .ok (.aload_n 0, 1) := by decide +kernel
theorem dX8_init_14 : decode cX8_init 14 = .ok (.bipush 34, 2) := by decide +kernel
theorem dX8_init_16 : decode cX8_init 16 = .ok (.newarray .int, 2) := by decide +kernel
theorem dX8_init_18 : decode cX8_init 18 = .ok (.putfield 13, 3) := by decide +kernel
theorem dX8_init_21 : decode cX8_init 21 = .ok (.aload_n 0, 1) := by decide +kernel
theorem dX8_init_22 : decode cX8_init 22 = .ok (.bipush 34, 2) := by decide +kernel
theorem dX8_init_24 : decode cX8_init 24 = .ok (.newarray .int, 2) := by decide +kernel
theorem dX8_init_26 : decode cX8_init 26 = .ok (.putfield 16, 3) := by decide +kernel
theorem dX8_init_29 : decode cX8_init 29 = .ok (.aload_n 0, 1) := by decide +kernel
theorem dX8_init_30 : decode cX8_init 30 = .ok (.iconst 4, 1) := by decide +kernel
theorem dX8_init_31 : decode cX8_init 31 = .ok (.newarray .long, 2) := by decide +kernel
theorem dX8_init_33 : decode cX8_init 33 = .ok (.putfield 19, 3) := by decide +kernel
theorem dX8_init_36 : decode cX8_init 36 = .ok (.aload_n 0, 1) := by decide +kernel
theorem dX8_init_37 : decode cX8_init 37 = .ok (.bipush 12, 2) := by decide +kernel
theorem dX8_init_39 : decode cX8_init 39 = .ok (.newarray .int, 2) := by decide +kernel
theorem dX8_init_41 : decode cX8_init 41 = .ok (.putfield 23, 3) := by decide +kernel
theorem dX8_init_44 : decode cX8_init 44 = .ok (.aload_n 0, 1) := by decide +kernel
theorem dX8_init_45 : decode cX8_init 45 = .ok (.bipush 12, 2) := by decide +kernel
theorem dX8_init_47 : decode cX8_init 47 = .ok (.newarray .long, 2) := by decide +kernel
theorem dX8_init_49 : decode cX8_init 49 = .ok (.putfield 26, 3) := by decide +kernel
theorem dX8_init_52 : decode cX8_init 52 = .ok (.aload_n 0, 1) := by decide +kernel
theorem dX8_init_53 : decode cX8_init 53 = .ok (.bipush 20, 2) := by decide +kernel
theorem dX8_init_55 : decode cX8_init 55 = .ok (.newarray .int, 2) := by decide +kernel
theorem dX8_init_57 : decode cX8_init 57 = .ok (.putfield 29, 3) := by decide +kernel
theorem dX8_init_60 : decode cX8_init 60 = .ok (.aload_n 0, 1) := by decide +kernel
theorem dX8_init_61 : decode cX8_init 61 = .ok (.bipush 20, 2) := by decide +kernel
theorem dX8_init_63 : decode cX8_init 63 = .ok (.newarray .long, 2) := by decide +kernel
theorem dX8_init_65 : decode cX8_init 65 = .ok (.putfield 32, 3) := by decide +kernel
theorem dX8_init_68 : decode cX8_init 68 = .ok (.aload_n 0, 1) := by decide +kernel
theorem dX8_init_69 : decode cX8_init 69 = .ok (.sipush 200, 3) := by decide +kernel
theorem dX8_init_72 : decode cX8_init 72 = .ok (.newarray .long, 2) := by decide +kernel
theorem dX8_init_74 : decode cX8_init 74 = .ok (.putfield 35, 3) := by decide +kernel
theorem dX8_init_77 : decode cX8_init 77 = .ok (.aload_n 0, 1) := by decide +kernel
theorem dX8_init_78 : decode cX8_init 78 = .ok (.sipush 240, 3) := by decide +kernel
theorem dX8_init_81 : decode cX8_init 81 = .ok (.newarray .int, 2) := by decide +kernel
theorem dX8_init_83 : decode cX8_init 83 = .ok (.putfield 38, 3) := by decide +kernel
theorem dX8_init_86 : decode cX8_init 86 = .ok (.aload_n 0, 1) := by decide +kernel
theorem dX8_init_87 : decode cX8_init 87 = .ok (.bipush 20, 2) := by decide +kernel
theorem dX8_init_89 : decode cX8_init 89 = .ok (.newarray .boolean, 2) := by decide +kernel
theorem dX8_init_91 : decode cX8_init 91 = .ok (.putfield 41, 3) := by decide +kernel
theorem dX8_init_94 : decode cX8_init 94 = .ok (.aload_n 0, 1) := by decide +kernel
theorem dX8_init_95 : decode cX8_init 95 = .ok (.bipush 120, 2) := by decide +kernel
theorem dX8_init_97 : decode cX8_init 97 = .ok (.newarray .long, 2) := by decide +kernel
theorem dX8_init_99 : decode cX8_init 99 = .ok (.putfield 45, 3) := by decide +kernel
theorem dX8_init_102 : decode cX8_init 102 = .ok (.aload_n 0, 1) := by decide +kernel
theorem dX8_init_103 : decode cX8_init 103 = .ok (.sipush 960, 3) := by decide +kernel
theorem dX8_init_106 : decode cX8_init 106 = .ok (.newarray .long, 2) := by decide +kernel
theorem dX8_init_108 : decode cX8_init 108 = .ok (.putfield 48, 3) := by decide +kernel
theorem dX8_init_111 : decode cX8_init 111 = .ok (.aload_n 0, 1) := by decide +kernel
theorem dX8_init_112 : decode cX8_init 112 = .ok (.bipush 12, 2) := by decide +kernel
theorem dX8_init_114 : decode cX8_init 114 = .ok (.newarray .long, 2) := by decide +kernel
theorem dX8_init_116 : decode cX8_init 116 = .ok (.putfield 51, 3) := by decide +kernel
theorem dX8_init_119 : decode cX8_init 119 = .ok (.aload_n 0, 1) := by decide +kernel
theorem dX8_init_120 : decode cX8_init 120 = .ok (.bipush 12, 2) := by decide +kernel
theorem dX8_init_122 : decode cX8_init 122 = .ok (.newarray .long, 2) := by decide +kernel
theorem dX8_init_124 : decode cX8_init 124 = .ok (.putfield 54, 3) := by decide +kernel
theorem dX8_init_127 : decode cX8_init 127 = .ok (.aload_n 0, 1) := by decide +kernel
theorem dX8_init_128 : decode cX8_init 128 = .ok (.bipush 12, 2) := by decide +kernel
theorem dX8_init_130 : decode cX8_init 130 = .ok (.newarray .long, 2) := by decide +kernel
theorem dX8_init_132 : decode cX8_init 132 = .ok (.putfield 57, 3) := by decide +kernel
theorem dX8_init_135 : decode cX8_init 135 = .ok (.aload_n 0, 1) := by decide +kernel
theorem dX8_init_136 : decode cX8_init 136 = .ok (.bipush 61, 2) := by decide +kernel
theorem dX8_init_138 : decode cX8_init 138 = .ok (.newarray .int, 2) := by decide +kernel
theorem dX8_init_140 : decode cX8_init 140 = .ok (.putfield 60, 3) := by decide +kernel
theorem dX8_init_143 : decode cX8_init 143 = .ok (.aload_n 0, 1) := by decide +kernel
theorem dX8_init_144 : decode cX8_init 144 = .ok (.bipush 61, 2) := by decide +kernel
theorem dX8_init_146 : decode cX8_init 146 = .ok (.newarray .int, 2) := by decide +kernel
theorem dX8_init_148 : decode cX8_init 148 = .ok (.putfield 63, 3) := by decide +kernel
theorem dX8_init_151 : decode cX8_init 151 = .ok (.aload_n 0, 1) := by decide +kernel
theorem dX8_init_152 : decode cX8_init 152 = .ok (.bipush 61, 2) := by decide +kernel
theorem dX8_init_154 : decode cX8_init 154 = .ok (.newarray .int, 2) := by decide +kernel
theorem dX8_init_156 : decode cX8_init 156 = .ok (.putfield 66, 3) := by decide +kernel
theorem dX8_init_159 : decode cX8_init 159 = .ok (.aload_n 0, 1) := by decide +kernel
theorem dX8_init_160 : decode cX8_init 160 = .ok (.bipush 61, 2) := by decide +kernel
theorem dX8_init_162 : decode cX8_init 162 = .ok (.newarray .int, 2) := by decide +kernel
theorem dX8_init_164 : decode cX8_init 164 = .ok (.putfield 69, 3) := by decide +kernel
theorem dX8_init_167 : decode cX8_init 167 = .ok (.aload_n 0, 1) := by decide +kernel
theorem dX8_init_168 : decode cX8_init 168 = .ok (.sipush 488, 3) := by decide +kernel
theorem dX8_init_171 : decode cX8_init 171 = .ok (.newarray .int, 2) := by decide +kernel
theorem dX8_init_173 : decode cX8_init 173 = .ok (.putfield 72, 3) := by decide +kernel
theorem dX8_init_176 : decode cX8_init 176 = .ok (.aload_n 0, 1) := by decide +kernel
theorem dX8_init_177 : decode cX8_init 177 = .ok (.sipush 488, 3) := by decide +kernel
theorem dX8_init_180 : decode cX8_init 180 = .ok (.newarray .long, 2) := by decide +kernel
theorem dX8_init_182 : decode cX8_init 182 = .ok (.putfield 75, 3) := by decide +kernel
theorem dX8_init_185 : decode cX8_init 185 = .ok (.iconst 0, 1) := by decide +kernel
theorem dX8_init_186 : decode cX8_init 186 = .ok (.istore_n 1, 1) := by decide +kernel
theorem dX8_init_187 : decode cX8_init 187 = .ok (.iload_n 1, 1) := by decide +kernel
theorem dX8_init_188 : decode cX8_init 188 = .ok (.bipush 10, 2) := by decide +kernel
theorem dX8_init_190 : decode cX8_init 190 = .ok (.if_icmp .ge 19, 3) := by decide +kernel
theorem dX8_init_193 : decode cX8_init 193 = .ok (.aload_n 0, 1) := by decide +kernel
theorem dX8_init_194 : decode cX8_init 194 = .ok (.getfield 13, 3) := by decide +kernel
theorem dX8_init_197 : decode cX8_init 197 = .ok (.bipush 12, 2) := by decide +kernel
theorem dX8_init_199 : decode cX8_init 199 = .ok (.iload_n 1, 1) := by decide +kernel
theorem dX8_init_200 : decode cX8_init 200 = .ok (.iadd, 1) := by decide +kernel
theorem dX8_init_201 : decode cX8_init 201 = .ok (.iconst 1, 1) := by decide +kernel
theorem dX8_init_202 : decode cX8_init 202 = .ok (.iastore, 1) := by decide +kernel
theorem dX8_init_203 : decode cX8_init 203 = .ok (.iinc 1 1, 3) := by decide +kernel
theorem dX8_init_206 : decode cX8_init 206 = .ok (.goto (-19), 3) := by decide +kernel
theorem dX8_init_209 : decode cX8_init 209 = .ok (.return_, 1) := by decide +kernel
theorem dX8_within_0 : decode cX8_within 0 = .ok (.lload_n 0, 1) := by decide +kernel
theorem dX8_within_1 : decode cX8_within 1 = .ok (.lload_n 2, 1) := by decide +kernel
theorem dX8_within_2 : decode cX8_within 2 = .ok (.lcmp, 1) := by decide +kernel
theorem dX8_within_3 : decode cX8_within 3 = .ok (.ifCond .lt 14, 3) := by decide +kernel
theorem dX8_within_6 : decode cX8_within 6 = .ok (.lload_n 0, 1) := by decide +kernel
theorem dX8_within_7 : decode cX8_within 7 = .ok (.lload 4, 2) := by decide +kernel
theorem dX8_within_9 : decode cX8_within 9 = .ok (.lcmp, 1) := by decide +kernel
theorem dX8_within_10 : decode cX8_within 10 = .ok (.ifCond .gt 7, 3) := by decide +kernel
theorem dX8_within_13 : decode cX8_within 13 = .ok (.iconst 1, 1) := by decide +kernel
theorem dX8_within_14 : decode cX8_within 14 = .ok (.goto 4, 3) := by decide +kernel
theorem dX8_within_17 : decode cX8_within 17 = .ok (.iconst 0, 1) := by decide +kernel
theorem dX8_within_18 : decode cX8_within 18 = .ok (.ireturn, 1) := by decide +kernel
theorem dX8_unit_0 : decode cX8_unit 0 = .ok (.iload_n 1, 1) := by decide +kernel
theorem dX8_unit_1 : decode cX8_unit 1 = .ok (.i2l, 1) := by decide +kernel
theorem dX8_unit_2 : decode cX8_unit 2 = .ok (.lconst 0, 1) := by decide +kernel
theorem dX8_unit_3 : decode cX8_unit 3 = .ok (.ldc2_w 78, 3) := by decide +kernel
theorem dX8_unit_6 : decode cX8_unit 6 = .ok (.invokestatic 80, 3) := by decide +kernel
theorem dX8_unit_9 : decode cX8_unit 9 = .ok (.ifCond .eq 13, 3) := by decide +kernel
theorem dX8_unit_12 : decode cX8_unit 12 = .ok (.aload_n 0, 1) := by decide +kernel
theorem dX8_unit_13 : decode cX8_unit 13 = .ok (.getfield 84, 3) := by decide +kernel
theorem dX8_unit_16 : decode cX8_unit 16 = .ok (.sipush 600, 3) := by decide +kernel
theorem dX8_unit_19 : decode cX8_unit 19 = .ok (.if_icmp .ne 5, 3) := by decide +kernel
theorem dX8_unit_22 : decode cX8_unit 22 = .ok (.iconst 0, 1) := by decide +kernel
theorem dX8_unit_23 : decode cX8_unit 23 = .ok (.ireturn, 1) := by decide +kernel
theorem dX8_unit_24 : decode cX8_unit 24 = .ok (.aload_n 0, 1) := by decide +kernel
theorem dX8_unit_25 : decode cX8_unit 25 = .ok (.getfield 7, 3) := by decide +kernel
theorem dX8_unit_28 : decode cX8_unit 28 = .ok (.aload_n 0, 1) := by decide +kernel
theorem dX8_unit_29 : decode cX8_unit 29 = .ok (.getfield 84, 3) := by decide +kernel
theorem dX8_unit_32 : decode cX8_unit 32 = .ok (.iload_n 1, 1) := by decide +kernel
theorem dX8_unit_33 : decode cX8_unit 33 = .ok (.iastore, 1) := by decide +kernel
theorem dX8_unit_34 : decode cX8_unit 34 = .ok (.aload_n 0, 1) := by decide +kernel
theorem dX8_unit_35 : decode cX8_unit 35 = .ok (.dup, 1) := by decide +kernel
theorem dX8_unit_36 : decode cX8_unit 36 = .ok (.getfield 84, 3) := by decide +kernel
theorem dX8_unit_39 : decode cX8_unit 39 = .ok (.iconst 1, 1) := by decide +kernel
theorem dX8_unit_40 : decode cX8_unit 40 = .ok (.iadd, 1) := by decide +kernel
theorem dX8_unit_41 : decode cX8_unit 41 = .ok (.putfield 84, 3) := by decide +kernel
theorem dX8_unit_44 : decode cX8_unit 44 = .ok (.iconst 1, 1) := by decide +kernel
theorem dX8_unit_45 : decode cX8_unit 45 = .ok (.ireturn, 1) := by decide +kernel
theorem dX8_isNext_0 : decode cX8_isNext 0 = .ok (.aload_n 0, 1) := by decide +kernel
theorem dX8_isNext_1 : decode cX8_isNext 1 = .ok (.getfield 88, 3) := by decide +kernel
theorem dX8_isNext_4 : decode cX8_isNext 4 = .ok (.aload_n 0, 1) := by decide +kernel
theorem dX8_isNext_5 : decode cX8_isNext 5 = .ok (.getfield 84, 3) := by decide +kernel
theorem dX8_isNext_8 : decode cX8_isNext 8 = .ok (.if_icmp .ge 44, 3) := by decide +kernel
theorem dX8_isNext_11 : decode cX8_isNext 11 = .ok (.aload_n 0, 1) := by decide +kernel
theorem dX8_isNext_12 : decode cX8_isNext 12 = .ok (.getfield 7, 3) := by decide +kernel
theorem dX8_isNext_15 : decode cX8_isNext 15 = .ok (.aload_n 0, 1) := by decide +kernel
theorem dX8_isNext_16 : decode cX8_isNext 16 = .ok (.getfield 88, 3) := by decide +kernel
theorem dX8_isNext_19 : decode cX8_isNext 19 = .ok (.iaload, 1) := by decide +kernel
theorem dX8_isNext_20 : decode cX8_isNext 20 = .ok (.bipush 32, 2) := by decide +kernel
theorem dX8_isNext_22 : decode cX8_isNext 22 = .ok (.if_icmp .eq 17, 3) := by decide +kernel
theorem dX8_isNext_25 : decode cX8_isNext 25 = .ok (.aload_n 0, 1) := by decide +kernel
theorem dX8_isNext_26 : decode cX8_isNext 26 = .ok (.getfield 7, 3) := by decide +kernel
theorem dX8_isNext_29 : decode cX8_isNext 29 = .ok (.aload_n 0, 1) := by decide +kernel
theorem dX8_isNext_30 : decode cX8_isNext 30 = .ok (.getfield 88, 3) := by decide +kernel
theorem dX8_isNext_33 : decode cX8_isNext 33 = .ok (.iaload, 1) := by decide +kernel
theorem dX8_isNext_34 : decode cX8_isNext 34 = .ok (.bipush 10, 2) := by decide +kernel
theorem dX8_isNext_36 : decode cX8_isNext 36 = .ok (.if_icmp .ne 16, 3) := by decide +kernel
theorem dX8_isNext_39 : decode cX8_isNext 39 = .ok (.aload_n 0, 1) := by decide +kernel
theorem dX8_isNext_40 : decode cX8_isNext 40 = .ok (.dup, 1) := by decide +kernel
theorem dX8_isNext_41 : decode cX8_isNext 41 = .ok (.getfield 88, 3) := by decide +kernel
theorem dX8_isNext_44 : decode cX8_isNext 44 = .ok (.iconst 1, 1) := by decide +kernel
theorem dX8_isNext_45 : decode cX8_isNext 45 = .ok (.iadd, 1) := by decide +kernel
theorem dX8_isNext_46 : decode cX8_isNext 46 = .ok (.putfield 88, 3) := by decide +kernel
theorem dX8_isNext_49 : decode cX8_isNext 49 = .ok (.goto (-49), 3) := by decide +kernel
theorem dX8_isNext_52 : decode cX8_isNext 52 = .ok (.aload_n 0, 1) := by decide +kernel
theorem dX8_isNext_53 : decode cX8_isNext 53 = .ok (.aload_n 0, 1) := by decide +kernel
theorem dX8_isNext_54 : decode cX8_isNext 54 = .ok (.getfield 88, 3) := by decide +kernel
theorem dX8_isNext_57 : decode cX8_isNext 57 = .ok (.putfield 91, 3) := by decide +kernel
theorem dX8_isNext_60 : decode cX8_isNext 60 = .ok (.aload_n 0, 1) := by decide +kernel
theorem dX8_isNext_61 : decode cX8_isNext 61 = .ok (.getfield 88, 3) := by decide +kernel
theorem dX8_isNext_64 : decode cX8_isNext 64 = .ok (.aload_n 0, 1) := by decide +kernel
theorem dX8_isNext_65 : decode cX8_isNext 65 = .ok (.getfield 84, 3) := by decide +kernel
theorem dX8_isNext_68 : decode cX8_isNext 68 = .ok (.if_icmp .ge 44, 3) := by decide +kernel
theorem dX8_isNext_71 : decode cX8_isNext 71 = .ok (.aload_n 0, 1) := by decide +kernel
theorem dX8_isNext_72 : decode cX8_isNext 72 = .ok (.getfield 7, 3) := by decide +kernel
theorem dX8_isNext_75 : decode cX8_isNext 75 = .ok (.aload_n 0, 1) := by decide +kernel
theorem dX8_isNext_76 : decode cX8_isNext 76 = .ok (.getfield 88, 3) := by decide +kernel
theorem dX8_isNext_79 : decode cX8_isNext 79 = .ok (.iaload, 1) := by decide +kernel
theorem dX8_isNext_80 : decode cX8_isNext 80 = .ok (.bipush 32, 2) := by decide +kernel
theorem dX8_isNext_82 : decode cX8_isNext 82 = .ok (.if_icmp .eq 30, 3) := by decide +kernel
theorem dX8_isNext_85 : decode cX8_isNext 85 = .ok (.aload_n 0, 1) := by decide +kernel
theorem dX8_isNext_86 : decode cX8_isNext 86 = .ok (.getfield 7, 3) := by decide +kernel
theorem dX8_isNext_89 : decode cX8_isNext 89 = .ok (.aload_n 0, 1) := by decide +kernel
theorem dX8_isNext_90 : decode cX8_isNext 90 = .ok (.getfield 88, 3) := by decide +kernel
theorem dX8_isNext_93 : decode cX8_isNext 93 = .ok (.iaload, 1) := by decide +kernel
theorem dX8_isNext_94 : decode cX8_isNext 94 = .ok (.bipush 10, 2) := by decide +kernel
theorem dX8_isNext_96 : decode cX8_isNext 96 = .ok (.if_icmp .eq 16, 3) := by decide +kernel
theorem dX8_isNext_99 : decode cX8_isNext 99 = .ok (.aload_n 0, 1) := by decide +kernel
theorem dX8_isNext_100 : decode cX8_isNext 100 = .ok (.dup, 1) := by decide +kernel
theorem dX8_isNext_101 : decode cX8_isNext 101 = .ok (.getfield 88, 3) := by decide +kernel
theorem dX8_isNext_104 : decode cX8_isNext 104 = .ok (.iconst 1, 1) := by decide +kernel
theorem dX8_isNext_105 : decode cX8_isNext 105 = .ok (.iadd, 1) := by decide +kernel
theorem dX8_isNext_106 : decode cX8_isNext 106 = .ok (.putfield 88, 3) := by decide +kernel
theorem dX8_isNext_109 : decode cX8_isNext 109 = .ok (.goto (-49), 3) := by decide +kernel
theorem dX8_isNext_112 : decode cX8_isNext 112 = .ok (.aload_n 0, 1) := by decide +kernel
theorem dX8_isNext_113 : decode cX8_isNext 113 = .ok (.getfield 88, 3) := by decide +kernel
theorem dX8_isNext_116 : decode cX8_isNext 116 = .ok (.aload_n 0, 1) := by decide +kernel
theorem dX8_isNext_117 : decode cX8_isNext 117 = .ok (.getfield 91, 3) := by decide +kernel
theorem dX8_isNext_120 : decode cX8_isNext 120 = .ok (.if_icmp .le 7, 3) := by decide +kernel
theorem dX8_isNext_123 : decode cX8_isNext 123 = .ok (.iconst 1, 1) := by decide +kernel
theorem dX8_isNext_124 : decode cX8_isNext 124 = .ok (.goto 4, 3) := by decide +kernel
theorem dX8_isNext_127 : decode cX8_isNext 127 = .ok (.iconst 0, 1) := by decide +kernel
theorem dX8_isNext_128 : decode cX8_isNext 128 = .ok (.ireturn, 1) := by decide +kernel
theorem dX8_isWord_0 : decode cX8_isWord 0 = .ok (.aload_n 0, 1) := by decide +kernel
theorem dX8_isWord_1 : decode cX8_isWord 1 = .ok (.getfield 88, 3) := by decide +kernel
theorem dX8_isWord_4 : decode cX8_isWord 4 = .ok (.aload_n 0, 1) := by decide +kernel
theorem dX8_isWord_5 : decode cX8_isWord 5 = .ok (.getfield 91, 3) := by decide +kernel
theorem dX8_isWord_8 : decode cX8_isWord 8 = .ok (.isub, 1) := by decide +kernel
theorem dX8_isWord_9 : decode cX8_isWord 9 = .ok (.iload_n 3, 1) := by decide +kernel
theorem dX8_isWord_10 : decode cX8_isWord 10 = .ok (.if_icmp .ne 7, 3) := by decide +kernel
theorem dX8_isWord_13 : decode cX8_isWord 13 = .ok (.iconst 1, 1) := by decide +kernel
theorem dX8_isWord_14 : decode cX8_isWord 14 = .ok (.goto 4, 3) := by decide +kernel
theorem dX8_isWord_17 : decode cX8_isWord 17 = .ok (.iconst 0, 1) := by decide +kernel
theorem dX8_isWord_18 : decode cX8_isWord 18 = .ok (.istore 4, 2) := by decide +kernel
theorem dX8_isWord_20 : decode cX8_isWord 20 = .ok (.iconst 0, 1) := by decide +kernel
theorem dX8_isWord_21 : decode cX8_isWord 21 = .ok (.istore 5, 2) := by decide +kernel
theorem dX8_isWord_23 : decode cX8_isWord 23 = .ok (.iload 5, 2) := by decide +kernel
theorem dX8_isWord_25 : decode cX8_isWord 25 = .ok (.iload_n 3, 1) := by decide +kernel
theorem dX8_isWord_26 : decode cX8_isWord 26 = .ok (.if_icmp .ge 53, 3) := by decide +kernel
theorem dX8_isWord_29 : decode cX8_isWord 29 = .ok (.iload 4, 2) := by decide +kernel
theorem dX8_isWord_31 : decode cX8_isWord 31 = .ok (.ifCond .eq 48, 3) := by decide +kernel
theorem dX8_isWord_34 : decode cX8_isWord 34 = .ok (.aload_n 0, 1) := by decide +kernel
theorem dX8_isWord_35 : decode cX8_isWord 35 = .ok (.getfield 7, 3) := by decide +kernel
theorem dX8_isWord_38 : decode cX8_isWord 38 = .ok (.aload_n 0, 1) := by decide +kernel
theorem dX8_isWord_39 : decode cX8_isWord 39 = .ok (.getfield 91, 3) := by decide +kernel
theorem dX8_isWord_42 : decode cX8_isWord 42 = .ok (.iload 5, 2) := by decide +kernel
theorem dX8_isWord_44 : decode cX8_isWord 44 = .ok (.iadd, 1) := by decide +kernel
theorem dX8_isWord_45 : decode cX8_isWord 45 = .ok (.iaload, 1) := by decide +kernel
theorem dX8_isWord_46 : decode cX8_isWord 46 = .ok (.i2l, 1) := by decide +kernel
theorem dX8_isWord_47 : decode cX8_isWord 47 = .ok (.lload_n 1, 1) := by decide +kernel
theorem dX8_isWord_48 : decode cX8_isWord 48 = .ok (.bipush 8, 2) := by decide +kernel
theorem dX8_isWord_50 : decode cX8_isWord 50 = .ok (.iload_n 3, 1) := by decide +kernel
theorem dX8_isWord_51 : decode cX8_isWord 51 = .ok (.iconst 1, 1) := by decide +kernel
theorem dX8_isWord_52 : decode cX8_isWord 52 = .ok (.isub, 1) := by decide +kernel
theorem dX8_isWord_53 : decode cX8_isWord 53 = .ok (.iload 5, 2) := by decide +kernel
theorem dX8_isWord_55 : decode cX8_isWord 55 = .ok (.isub, 1) := by decide +kernel
theorem dX8_isWord_56 : decode cX8_isWord 56 = .ok (.imul, 1) := by decide +kernel
theorem dX8_isWord_57 : decode cX8_isWord 57 = .ok (.lshr, 1) := by decide +kernel
theorem dX8_isWord_58 : decode cX8_isWord 58 = .ok (.ldc2_w 78, 3) := by decide +kernel
theorem dX8_isWord_61 : decode cX8_isWord 61 = .ok (.land, 1) := by decide +kernel
theorem dX8_isWord_62 : decode cX8_isWord 62 = .ok (.lcmp, 1) := by decide +kernel
theorem dX8_isWord_63 : decode cX8_isWord 63 = .ok (.ifCond .ne 7, 3) := by decide +kernel
theorem dX8_isWord_66 : decode cX8_isWord 66 = .ok (.iconst 1, 1) := by decide +kernel
theorem dX8_isWord_67 : decode cX8_isWord 67 = .ok (.goto 4, 3) := by decide +kernel
theorem dX8_isWord_70 : decode cX8_isWord 70 = .ok (.iconst 0, 1) := by decide +kernel
theorem dX8_isWord_71 : decode cX8_isWord 71 = .ok (.istore 4, 2) := by decide +kernel
theorem dX8_isWord_73 : decode cX8_isWord 73 = .ok (.iinc 5 1, 3) := by decide +kernel
theorem dX8_isWord_76 : decode cX8_isWord 76 = .ok (.goto (-53), 3) := by decide +kernel
theorem dX8_isWord_79 : decode cX8_isWord 79 = .ok (.iload 4, 2) := by decide +kernel
theorem dX8_isWord_81 : decode cX8_isWord 81 = .ok (.ireturn, 1) := by decide +kernel
theorem dX8_number_0 : decode cX8_number 0 = .ok (.aload_n 0, 1) := by decide +kernel
theorem dX8_number_1 : decode cX8_number 1 = .ok (.invokevirtual 94, 3) := by decide +kernel
theorem dX8_number_4 : decode cX8_number 4 = .ok (.ifCond .eq 17, 3) := by decide +kernel
theorem dX8_number_7 : decode cX8_number 7 = .ok (.aload_n 0, 1) := by decide +kernel
theorem dX8_number_8 : decode cX8_number 8 = .ok (.getfield 88, 3) := by decide +kernel
theorem dX8_number_11 : decode cX8_number 11 = .ok (.aload_n 0, 1) := by decide +kernel
theorem dX8_number_12 : decode cX8_number 12 = .ok (.getfield 91, 3) := by decide +kernel
theorem dX8_number_15 : decode cX8_number 15 = .ok (.isub, 1) := by decide +kernel
theorem dX8_number_16 : decode cX8_number 16 = .ok (.bipush 6, 2) := by decide +kernel
theorem dX8_number_18 : decode cX8_number 18 = .ok (.if_icmp .le 5, 3) := by decide +kernel
theorem dX8_number_21 : decode cX8_number 21 = .ok (.iconst (-1), 1) := by decide +kernel
theorem dX8_number_22 : decode cX8_number 22 = .ok (.ireturn, 1) := by decide +kernel
theorem dX8_number_23 : decode cX8_number 23 = .ok (.iconst 0, 1) := by decide +kernel
theorem dX8_number_24 : decode cX8_number 24 = .ok (.istore_n 2, 1) := by decide +kernel
theorem dX8_number_25 : decode cX8_number 25 = .ok (.aload_n 0, 1) := by decide +kernel
theorem dX8_number_26 : decode cX8_number 26 = .ok (.getfield 91, 3) := by decide +kernel
theorem dX8_number_29 : decode cX8_number 29 = .ok (.istore_n 3, 1) := by decide +kernel
theorem dX8_number_30 : decode cX8_number 30 = .ok (.iload_n 3, 1) := by decide +kernel
theorem dX8_number_31 : decode cX8_number 31 = .ok (.aload_n 0, 1) := by decide +kernel
theorem dX8_number_32 : decode cX8_number 32 = .ok (.getfield 88, 3) := by decide +kernel
theorem dX8_number_35 : decode cX8_number 35 = .ok (.if_icmp .ge 48, 3) := by decide +kernel
theorem dX8_number_38 : decode cX8_number 38 = .ok (.aload_n 0, 1) := by decide +kernel
theorem dX8_number_39 : decode cX8_number 39 = .ok (.getfield 7, 3) := by decide +kernel
theorem dX8_number_42 : decode cX8_number 42 = .ok (.iload_n 3, 1) := by decide +kernel
theorem dX8_number_43 : decode cX8_number 43 = .ok (.iaload, 1) := by decide +kernel
theorem dX8_number_44 : decode cX8_number 44 = .ok (.bipush 48, 2) := by decide +kernel
theorem dX8_number_46 : decode cX8_number 46 = .ok (.if_icmp .lt 14, 3) := by decide +kernel
theorem dX8_number_49 : decode cX8_number 49 = .ok (.aload_n 0, 1) := by decide +kernel
theorem dX8_number_50 : decode cX8_number 50 = .ok (.getfield 7, 3) := by decide +kernel
theorem dX8_number_53 : decode cX8_number 53 = .ok (.iload_n 3, 1) := by decide +kernel
theorem dX8_number_54 : decode cX8_number 54 = .ok (.iaload, 1) := by decide +kernel
theorem dX8_number_55 : decode cX8_number 55 = .ok (.bipush 57, 2) := by decide +kernel
theorem dX8_number_57 : decode cX8_number 57 = .ok (.if_icmp .le 5, 3) := by decide +kernel
theorem dX8_number_60 : decode cX8_number 60 = .ok (.iconst (-1), 1) := by decide +kernel
theorem dX8_number_61 : decode cX8_number 61 = .ok (.ireturn, 1) := by decide +kernel
theorem dX8_number_62 : decode cX8_number 62 = .ok (.bipush 10, 2) := by decide +kernel
theorem dX8_number_64 : decode cX8_number 64 = .ok (.iload_n 2, 1) := by decide +kernel
theorem dX8_number_65 : decode cX8_number 65 = .ok (.imul, 1) := by decide +kernel
theorem dX8_number_66 : decode cX8_number 66 = .ok (.aload_n 0, 1) := by decide +kernel
theorem dX8_number_67 : decode cX8_number 67 = .ok (.getfield 7, 3) := by decide +kernel
theorem dX8_number_70 : decode cX8_number 70 = .ok (.iload_n 3, 1) := by decide +kernel
theorem dX8_number_71 : decode cX8_number 71 = .ok (.iaload, 1) := by decide +kernel
theorem dX8_number_72 : decode cX8_number 72 = .ok (.iadd, 1) := by decide +kernel
theorem dX8_number_73 : decode cX8_number 73 = .ok (.bipush 48, 2) := by decide +kernel
theorem dX8_number_75 : decode cX8_number 75 = .ok (.isub, 1) := by decide +kernel
theorem dX8_number_76 : decode cX8_number 76 = .ok (.istore_n 2, 1) := by decide +kernel
theorem dX8_number_77 : decode cX8_number 77 = .ok (.iinc 3 1, 3) := by decide +kernel
theorem dX8_number_80 : decode cX8_number 80 = .ok (.goto (-50), 3) := by decide +kernel
theorem dX8_number_83 : decode cX8_number 83 = .ok (.iload_n 2, 1) := by decide +kernel
theorem dX8_number_84 : decode cX8_number 84 = .ok (.iload_n 1, 1) := by decide +kernel
theorem dX8_number_85 : decode cX8_number 85 = .ok (.if_icmp .le 5, 3) := by decide +kernel
theorem dX8_number_88 : decode cX8_number 88 = .ok (.iconst (-1), 1) := by decide +kernel
theorem dX8_number_89 : decode cX8_number 89 = .ok (.ireturn, 1) := by decide +kernel
theorem dX8_number_90 : decode cX8_number 90 = .ok (.aload_n 0, 1) := by decide +kernel
theorem dX8_number_91 : decode cX8_number 91 = .ok (.dup, 1) := by decide +kernel
theorem dX8_number_92 : decode cX8_number 92 = .ok (.getfield 98, 3) := by decide +kernel
theorem dX8_number_95 : decode cX8_number 95 = .ok (.iconst 1, 1) := by decide +kernel
theorem dX8_number_96 : decode cX8_number 96 = .ok (.iadd, 1) := by decide +kernel
theorem dX8_number_97 : decode cX8_number 97 = .ok (.putfield 98, 3) := by decide +kernel
theorem dX8_number_100 : decode cX8_number 100 = .ok (.iload_n 2, 1) := by decide +kernel
theorem dX8_number_101 : decode cX8_number 101 = .ok (.ireturn, 1) := by decide +kernel
theorem dX8_isSentence_0 : decode cX8_isSentence 0 = .ok (.aload_n 0, 1) := by decide +kernel
theorem dX8_isSentence_1 : decode cX8_isSentence 1 = .ok (.ldc2_w 101, 3) := by decide +kernel
theorem dX8_isSentence_4 : decode cX8_isSentence 4 = .ok (.iconst 4, 1) := by decide +kernel
theorem dX8_isSentence_5 : decode cX8_isSentence 5 = .ok (.invokevirtual 103, 3) := by decide +kernel
theorem dX8_isSentence_8 : decode cX8_isSentence 8 = .ok (.ifCond .ne 14, 3) := by decide +kernel
theorem dX8_isSentence_11 : decode cX8_isSentence 11 = .ok (.aload_n 0, 1) := by decide +kernel
theorem dX8_isSentence_12 : decode cX8_isSentence 12 = .ok (.ldc2_w 107, 3) := by decide +kernel
theorem dX8_isSentence_15 : decode cX8_isSentence 15 = .ok (.iconst 4, 1) := by decide +kernel
theorem dX8_isSentence_16 : decode cX8_isSentence 16 = .ok (.invokevirtual 103, 3) := by decide +kernel
theorem dX8_isSentence_19 : decode cX8_isSentence 19 = .ok (.ifCond .eq 86, 3) := by decide +kernel
theorem dX8_isSentence_22 : decode cX8_isSentence 22 = .ok (.aload_n 0, 1) := by decide +kernel
theorem dX8_isSentence_23 : decode cX8_isSentence 23 = .ok (.ldc2_w 101, 3) := by decide +kernel
theorem dX8_isSentence_26 : decode cX8_isSentence 26 = .ok (.iconst 4, 1) := by decide +kernel
theorem dX8_isSentence_27 : decode cX8_isSentence 27 = .ok (.invokevirtual 103, 3) := by decide +kernel
theorem dX8_isSentence_30 : decode cX8_isSentence 30 = .ok (.ifCond .eq 7, 3) := by decide +kernel
theorem dX8_isSentence_33 : decode cX8_isSentence 33 = .ok (.iconst 0, 1) := by decide +kernel
theorem dX8_isSentence_34 : decode cX8_isSentence 34 = .ok (.goto 4, 3) := by decide +kernel
theorem dX8_isSentence_37 : decode cX8_isSentence 37 = .ok (.iconst 1, 1) := by decide +kernel
theorem dX8_isSentence_38 : decode cX8_isSentence 38 = .ok (.istore_n 1, 1) := by decide +kernel
theorem dX8_isSentence_39 : decode cX8_isSentence 39 = .ok (.aload_n 0, 1) := by decide +kernel
theorem dX8_isSentence_40 : decode cX8_isSentence 40 = .ok (.getfield 16, 3) := by decide +kernel
theorem dX8_isSentence_43 : decode cX8_isSentence 43 = .ok (.bipush 32, 2) := by decide +kernel
theorem dX8_isSentence_45 : decode cX8_isSentence 45 = .ok (.iload_n 1, 1) := by decide +kernel
theorem dX8_isSentence_46 : decode cX8_isSentence 46 = .ok (.iadd, 1) := by decide +kernel
theorem dX8_isSentence_47 : decode cX8_isSentence 47 = .ok (.iaload, 1) := by decide +kernel
theorem dX8_isSentence_48 : decode cX8_isSentence 48 = .ok (.iconst 1, 1) := by decide +kernel
theorem dX8_isSentence_49 : decode cX8_isSentence 49 = .ok (.if_icmp .ne 5, 3) := by decide +kernel
theorem dX8_isSentence_52 : decode cX8_isSentence 52 = .ok (.iconst 0, 1) := by decide +kernel
theorem dX8_isSentence_53 : decode cX8_isSentence 53 = .ok (.ireturn, 1) := by decide +kernel
theorem dX8_isSentence_54 : decode cX8_isSentence 54 = .ok (.aload_n 0, 1) := by decide +kernel
theorem dX8_isSentence_55 : decode cX8_isSentence 55 = .ok (.dup, 1) := by decide +kernel
theorem dX8_isSentence_56 : decode cX8_isSentence 56 = .ok (.getfield 98, 3) := by decide +kernel
theorem dX8_isSentence_59 : decode cX8_isSentence 59 = .ok (.iconst 1, 1) := by decide +kernel
theorem dX8_isSentence_60 : decode cX8_isSentence 60 = .ok (.iadd, 1) := by decide +kernel
theorem dX8_isSentence_61 : decode cX8_isSentence 61 = .ok (.putfield 98, 3) := by decide +kernel
theorem dX8_isSentence_64 : decode cX8_isSentence 64 = .ok (.aload_n 0, 1) := by decide +kernel
theorem dX8_isSentence_65 : decode cX8_isSentence 65 = .ok (.bipush 100, 2) := by decide +kernel
theorem dX8_isSentence_67 : decode cX8_isSentence 67 = .ok (.aload_n 0, 1) := by decide +kernel
theorem dX8_isSentence_68 : decode cX8_isSentence 68 = .ok (.getfield 16, 3) := by decide +kernel
theorem dX8_isSentence_71 : decode cX8_isSentence 71 = .ok (.iconst 1, 1) := by decide +kernel
theorem dX8_isSentence_72 : decode cX8_isSentence 72 = .ok (.iload_n 1, 1) := by decide +kernel
theorem dX8_isSentence_73 : decode cX8_isSentence 73 = .ok (.isub, 1) := by decide +kernel
theorem dX8_isSentence_74 : decode cX8_isSentence 74 = .ok (.iaload, 1) := by decide +kernel
theorem dX8_isSentence_75 : decode cX8_isSentence 75 = .ok (.isub, 1) := by decide +kernel
theorem dX8_isSentence_76 : decode cX8_isSentence 76 = .ok (.invokevirtual 109, 3) := by decide +kernel
theorem dX8_isSentence_79 : decode cX8_isSentence 79 = .ok (.istore_n 2, 1) := by decide +kernel
theorem dX8_isSentence_80 : decode cX8_isSentence 80 = .ok (.iload_n 2, 1) := by decide +kernel
theorem dX8_isSentence_81 : decode cX8_isSentence 81 = .ok (.ifCond .ge 5, 3) := by decide +kernel
theorem dX8_isSentence_84 : decode cX8_isSentence 84 = .ok (.iconst 0, 1) := by decide +kernel
theorem dX8_isSentence_85 : decode cX8_isSentence 85 = .ok (.ireturn, 1) := by decide +kernel
theorem dX8_isSentence_86 : decode cX8_isSentence 86 = .ok (.aload_n 0, 1) := by decide +kernel
theorem dX8_isSentence_87 : decode cX8_isSentence 87 = .ok (.getfield 16, 3) := by decide +kernel
theorem dX8_isSentence_90 : decode cX8_isSentence 90 = .ok (.iload_n 1, 1) := by decide +kernel
theorem dX8_isSentence_91 : decode cX8_isSentence 91 = .ok (.iload_n 2, 1) := by decide +kernel
theorem dX8_isSentence_92 : decode cX8_isSentence 92 = .ok (.iastore, 1) := by decide +kernel
theorem dX8_isSentence_93 : decode cX8_isSentence 93 = .ok (.aload_n 0, 1) := by decide +kernel
theorem dX8_isSentence_94 : decode cX8_isSentence 94 = .ok (.getfield 16, 3) := by decide +kernel
theorem dX8_isSentence_97 : decode cX8_isSentence 97 = .ok (.bipush 32, 2) := by decide +kernel
theorem dX8_isSentence_99 : decode cX8_isSentence 99 = .ok (.iload_n 1, 1) := by decide +kernel
theorem dX8_isSentence_100 : decode cX8_isSentence 100 = .ok (.iadd, 1) := by decide +kernel
theorem dX8_isSentence_101 : decode cX8_isSentence 101 = .ok (.iconst 1, 1) := by decide +kernel
theorem dX8_isSentence_102 : decode cX8_isSentence 102 = .ok (.iastore, 1) := by decide +kernel
theorem dX8_isSentence_103 : decode cX8_isSentence 103 = .ok (.iconst 1, 1) := by decide +kernel
theorem dX8_isSentence_104 : decode cX8_isSentence 104 = .ok (.ireturn, 1) := by decide +kernel
theorem dX8_isSentence_105 : decode cX8_isSentence 105 = .ok (.aload_n 0, 1) := by decide +kernel
theorem dX8_isSentence_106 : decode cX8_isSentence 106 = .ok (.ldc2_w 113, 3) := by decide +kernel
theorem dX8_isSentence_109 : decode cX8_isSentence 109 = .ok (.iconst 4, 1) := by decide +kernel
theorem dX8_isSentence_110 : decode cX8_isSentence 110 = .ok (.invokevirtual 103, 3) := by decide +kernel
theorem dX8_isSentence_113 : decode cX8_isSentence 113 = .ok (.ifCond .eq 7, 3) := by decide +kernel
theorem dX8_isSentence_116 : decode cX8_isSentence 116 = .ok (.iconst 2, 1) := by decide +kernel
theorem dX8_isSentence_117 : decode cX8_isSentence 117 = .ok (.goto 36, 3) := by decide +kernel
theorem dX8_isSentence_120 : decode cX8_isSentence 120 = .ok (.aload_n 0, 1) := by decide +kernel
theorem dX8_isSentence_121 : decode cX8_isSentence 121 = .ok (.ldc2_w 115, 3) := by decide +kernel
theorem dX8_isSentence_124 : decode cX8_isSentence 124 = .ok (.iconst 4, 1) := by decide +kernel
theorem dX8_isSentence_125 : decode cX8_isSentence 125 = .ok (.invokevirtual 103, 3) := by decide +kernel
theorem dX8_isSentence_128 : decode cX8_isSentence 128 = .ok (.ifCond .eq 8, 3) := by decide +kernel
theorem dX8_isSentence_131 : decode cX8_isSentence 131 = .ok (.bipush 12, 2) := by decide +kernel
theorem dX8_isSentence_133 : decode cX8_isSentence 133 = .ok (.goto 20, 3) := by decide +kernel
theorem dX8_isSentence_136 : decode cX8_isSentence 136 = .ok (.aload_n 0, 1) := by decide +kernel
theorem dX8_isSentence_137 : decode cX8_isSentence 137 = .ok (.ldc2_w 117, 3) := by decide +kernel
theorem dX8_isSentence_140 : decode cX8_isSentence 140 = .ok (.iconst 5, 1) := by decide +kernel
theorem dX8_isSentence_141 : decode cX8_isSentence 141 = .ok (.invokevirtual 103, 3) := by decide +kernel
theorem dX8_isSentence_144 : decode cX8_isSentence 144 = .ok (.ifCond .eq 8, 3) := by decide +kernel
theorem dX8_isSentence_147 : decode cX8_isSentence 147 = .ok (.bipush 22, 2) := by decide +kernel
theorem dX8_isSentence_149 : decode cX8_isSentence 149 = .ok (.goto 4, 3) := by decide +kernel
theorem dX8_isSentence_152 : decode cX8_isSentence 152 = .ok (.iconst (-1), 1) := by decide +kernel
theorem dX8_isSentence_153 : decode cX8_isSentence 153 = .ok (.istore_n 1, 1) := by decide +kernel
theorem dX8_isSentence_154 : decode cX8_isSentence 154 = .ok (.iload_n 1, 1) := by decide +kernel
theorem dX8_isSentence_155 : decode cX8_isSentence 155 = .ok (.ifCond .ge 5, 3) := by decide +kernel
theorem dX8_isSentence_158 : decode cX8_isSentence 158 = .ok (.iconst 0, 1) := by decide +kernel
theorem dX8_isSentence_159 : decode cX8_isSentence 159 = .ok (.ireturn, 1) := by decide +kernel
theorem dX8_isSentence_160 : decode cX8_isSentence 160 = .ok (.aload_n 0, 1) := by decide +kernel
theorem dX8_isSentence_161 : decode cX8_isSentence 161 = .ok (.dup, 1) := by decide +kernel
theorem dX8_isSentence_162 : decode cX8_isSentence 162 = .ok (.getfield 98, 3) := by decide +kernel
theorem dX8_isSentence_165 : decode cX8_isSentence 165 = .ok (.iconst 1, 1) := by decide +kernel
theorem dX8_isSentence_166 : decode cX8_isSentence 166 = .ok (.iadd, 1) := by decide +kernel
theorem dX8_isSentence_167 : decode cX8_isSentence 167 = .ok (.putfield 98, 3) := by decide +kernel
theorem dX8_isSentence_170 : decode cX8_isSentence 170 = .ok (.aload_n 0, 1) := by decide +kernel
theorem dX8_isSentence_171 : decode cX8_isSentence 171 = .ok (.bipush 9, 2) := by decide +kernel
theorem dX8_isSentence_173 : decode cX8_isSentence 173 = .ok (.invokevirtual 109, 3) := by decide +kernel
theorem dX8_isSentence_176 : decode cX8_isSentence 176 = .ok (.istore_n 2, 1) := by decide +kernel
theorem dX8_isSentence_177 : decode cX8_isSentence 177 = .ok (.iload_n 2, 1) := by decide +kernel
theorem dX8_isSentence_178 : decode cX8_isSentence 178 = .ok (.ifCond .ge 7, 3) := by decide +kernel
theorem dX8_isSentence_181 : decode cX8_isSentence 181 = .ok (.iconst (-1), 1) := by decide +kernel
theorem dX8_isSentence_182 : decode cX8_isSentence 182 = .ok (.goto 30, 3) := by decide +kernel
theorem dX8_isSentence_185 : decode cX8_isSentence 185 = .ok (.aload_n 0, 1) := by decide +kernel
theorem dX8_isSentence_186 : decode cX8_isSentence 186 = .ok (.iload_n 1, 1) := by decide +kernel
theorem dX8_isSentence_187 : decode cX8_isSentence 187 = .ok (.iconst 2, 1) := by decide +kernel
theorem dX8_isSentence_188 : decode cX8_isSentence 188 = .ok (.if_icmp .ne 7, 3) := by decide +kernel
theorem dX8_isSentence_191 : decode cX8_isSentence 191 = .ok (.iconst 2, 1) := by decide +kernel
theorem dX8_isSentence_192 : decode cX8_isSentence 192 = .ok (.goto 17, 3) := by decide +kernel
theorem dX8_isSentence_195 : decode cX8_isSentence 195 = .ok (.iload_n 1, 1) := by decide +kernel
theorem dX8_isSentence_196 : decode cX8_isSentence 196 = .ok (.bipush 12, 2) := by decide +kernel
theorem dX8_isSentence_198 : decode cX8_isSentence 198 = .ok (.if_icmp .ne 9, 3) := by decide +kernel
theorem dX8_isSentence_201 : decode cX8_isSentence 201 = .ok (.sipush 1000, 3) := by decide +kernel
theorem dX8_isSentence_204 : decode cX8_isSentence 204 = .ok (.goto 5, 3) := by decide +kernel
theorem dX8_isSentence_207 : decode cX8_isSentence 207 = .ok (.ldc 119, 2) := by decide +kernel
theorem dX8_isSentence_209 : decode cX8_isSentence 209 = .ok (.invokevirtual 109, 3) := by decide +kernel
theorem dX8_isSentence_212 : decode cX8_isSentence 212 = .ok (.istore_n 3, 1) := by decide +kernel
theorem dX8_isSentence_213 : decode cX8_isSentence 213 = .ok (.iload_n 3, 1) := by decide +kernel
theorem dX8_isSentence_214 : decode cX8_isSentence 214 = .ok (.ifCond .ge 5, 3) := by decide +kernel
theorem dX8_isSentence_217 : decode cX8_isSentence 217 = .ok (.iconst 0, 1) := by decide +kernel
theorem dX8_isSentence_218 : decode cX8_isSentence 218 = .ok (.ireturn, 1) := by decide +kernel
theorem dX8_isSentence_219 : decode cX8_isSentence 219 = .ok (.aload_n 0, 1) := by decide +kernel
theorem dX8_isSentence_220 : decode cX8_isSentence 220 = .ok (.getfield 16, 3) := by decide +kernel
theorem dX8_isSentence_223 : decode cX8_isSentence 223 = .ok (.iload_n 1, 1) := by decide +kernel
theorem dX8_isSentence_224 : decode cX8_isSentence 224 = .ok (.iload_n 2, 1) := by decide +kernel
theorem dX8_isSentence_225 : decode cX8_isSentence 225 = .ok (.iadd, 1) := by decide +kernel
theorem dX8_isSentence_226 : decode cX8_isSentence 226 = .ok (.iload_n 3, 1) := by decide +kernel
theorem dX8_isSentence_227 : decode cX8_isSentence 227 = .ok (.iastore, 1) := by decide +kernel
theorem dX8_isSentence_228 : decode cX8_isSentence 228 = .ok (.iconst 1, 1) := by decide +kernel
theorem dX8_isSentence_229 : decode cX8_isSentence 229 = .ok (.ireturn, 1) := by decide +kernel
end
section
theorem dX8_read_0 : decode cX8_read 0 = .ok (.iconst 0, 1) := by decide +kernel
theorem dX8_read_1 : decode cX8_read 1 = .ok (.istore_n 1, 1) := by decide +kernel
theorem dX8_read_2 : decode cX8_read 2 = .ok (.iload_n 1, 1) := by decide +kernel
theorem dX8_read_3 : decode cX8_read 3 = .ok (.bipush 34, 2) := by decide +kernel
theorem dX8_read_5 : decode cX8_read 5 = .ok (.if_icmp .ge 32, 3) := by decide +kernel
theorem dX8_read_8 : decode cX8_read 8 = .ok (.aload_n 0, 1) := by decide +kernel
theorem dX8_read_9 : decode cX8_read 9 = .ok (.getfield 16, 3) := by decide +kernel
theorem dX8_read_12 : decode cX8_read 12 = .ok (.iload_n 1, 1) := by decide +kernel
theorem dX8_read_13 : decode cX8_read 13 = .ok (.iload_n 1, 1) := by decide +kernel
theorem dX8_read_14 : decode cX8_read 14 = .ok (.bipush 12, 2) := by decide +kernel
theorem dX8_read_16 : decode cX8_read 16 = .ok (.if_icmp .lt 13, 3) := by decide +kernel
theorem dX8_read_19 : decode cX8_read 19 = .ok (.iload_n 1, 1) := by decide +kernel
theorem dX8_read_20 : decode cX8_read 20 = .ok (.bipush 22, 2) := by decide +kernel
theorem dX8_read_22 : decode cX8_read 22 = .ok (.if_icmp .ge 7, 3) := by decide +kernel
theorem dX8_read_25 : decode cX8_read 25 = .ok (.iconst 1, 1) := by decide +kernel
theorem dX8_read_26 : decode cX8_read 26 = .ok (.goto 4, 3) := by decide +kernel
theorem dX8_read_29 : decode cX8_read 29 = .ok (.iconst 0, 1) := by decide +kernel
theorem dX8_read_30 : decode cX8_read 30 = .ok (.iastore, 1) := by decide +kernel
theorem dX8_read_31 : decode cX8_read 31 = .ok (.iinc 1 1, 3) := by decide +kernel
theorem dX8_read_34 : decode cX8_read 34 = .ok (.goto (-32), 3) := by decide +kernel
theorem dX8_read_37 : decode cX8_read 37 = .ok (.aload_n 0, 1) := by decide +kernel
theorem dX8_read_38 : decode cX8_read 38 = .ok (.iconst 0, 1) := by decide +kernel
theorem dX8_read_39 : decode cX8_read 39 = .ok (.putfield 88, 3) := by decide +kernel
theorem dX8_read_42 : decode cX8_read 42 = .ok (.aload_n 0, 1) := by decide +kernel
theorem dX8_read_43 : decode cX8_read 43 = .ok (.iconst 0, 1) := by decide +kernel
theorem dX8_read_44 : decode cX8_read 44 = .ok (.putfield 98, 3) := by decide +kernel
theorem dX8_read_47 : decode cX8_read 47 = .ok (.iconst 0, 1) := by decide +kernel
theorem dX8_read_48 : decode cX8_read 48 = .ok (.istore_n 1, 1) := by decide +kernel
theorem dX8_read_49 : decode cX8_read 49 = .ok (.iconst 1, 1) := by decide +kernel
theorem dX8_read_50 : decode cX8_read 50 = .ok (.istore_n 2, 1) := by decide +kernel
theorem dX8_read_51 : decode cX8_read 51 = .ok (.iload_n 2, 1) := by decide +kernel
theorem dX8_read_52 : decode cX8_read 52 = .ok (.ifCond .eq 30, 3) := by decide +kernel
theorem dX8_read_55 : decode cX8_read 55 = .ok (.aload_n 0, 1) := by decide +kernel
theorem dX8_read_56 : decode cX8_read 56 = .ok (.invokevirtual 94, 3) := by decide +kernel
theorem dX8_read_59 : decode cX8_read 59 = .ok (.ifCond .eq 23, 3) := by decide +kernel
theorem dX8_read_62 : decode cX8_read 62 = .ok (.aload_n 0, 1) := by decide +kernel
theorem dX8_read_63 : decode cX8_read 63 = .ok (.invokevirtual 120, 3) := by decide +kernel
theorem dX8_read_66 : decode cX8_read 66 = .ok (.istore_n 2, 1) := by decide +kernel
theorem dX8_read_67 : decode cX8_read 67 = .ok (.iload_n 1, 1) := by decide +kernel
theorem dX8_read_68 : decode cX8_read 68 = .ok (.iload_n 2, 1) := by decide +kernel
theorem dX8_read_69 : decode cX8_read 69 = .ok (.ifCond .eq 7, 3) := by decide +kernel
theorem dX8_read_72 : decode cX8_read 72 = .ok (.iconst 1, 1) := by decide +kernel
theorem dX8_read_73 : decode cX8_read 73 = .ok (.goto 4, 3) := by decide +kernel
theorem dX8_read_76 : decode cX8_read 76 = .ok (.iconst 0, 1) := by decide +kernel
theorem dX8_read_77 : decode cX8_read 77 = .ok (.iadd, 1) := by decide +kernel
theorem dX8_read_78 : decode cX8_read 78 = .ok (.istore_n 1, 1) := by decide +kernel
theorem dX8_read_79 : decode cX8_read 79 = .ok (.goto (-28), 3) := by decide +kernel
theorem dX8_read_82 : decode cX8_read 82 = .ok (.aload_n 0, 1) := by decide +kernel
theorem dX8_read_83 : decode cX8_read 83 = .ok (.iconst 0, 1) := by decide +kernel
theorem dX8_read_84 : decode cX8_read 84 = .ok (.putfield 84, 3) := by decide +kernel
theorem dX8_read_87 : decode cX8_read 87 = .ok (.iload_n 2, 1) := by decide +kernel
theorem dX8_read_88 : decode cX8_read 88 = .ok (.ifCond .ne 10, 3) := by decide +kernel
theorem dX8_read_91 : decode cX8_read 91 = .ok (.iconst (-1), 1) := by decide +kernel
theorem dX8_read_92 : decode cX8_read 92 = .ok (.aload_n 0, 1) := by decide +kernel
theorem dX8_read_93 : decode cX8_read 93 = .ok (.getfield 98, 3) := by decide +kernel
theorem dX8_read_96 : decode cX8_read 96 = .ok (.isub, 1) := by decide +kernel
theorem dX8_read_97 : decode cX8_read 97 = .ok (.ireturn, 1) := by decide +kernel
theorem dX8_read_98 : decode cX8_read 98 = .ok (.iconst 0, 1) := by decide +kernel
theorem dX8_read_99 : decode cX8_read 99 = .ok (.istore_n 3, 1) := by decide +kernel
theorem dX8_read_100 : decode cX8_read 100 = .ok (.iload_n 3, 1) := by decide +kernel
theorem dX8_read_101 : decode cX8_read 101 = .ok (.bipush 34, 2) := by decide +kernel
theorem dX8_read_103 : decode cX8_read 103 = .ok (.if_icmp .ge 21, 3) := by decide +kernel
theorem dX8_read_106 : decode cX8_read 106 = .ok (.aload_n 0, 1) := by decide +kernel
theorem dX8_read_107 : decode cX8_read 107 = .ok (.getfield 13, 3) := by decide +kernel
theorem dX8_read_110 : decode cX8_read 110 = .ok (.iload_n 3, 1) := by decide +kernel
theorem dX8_read_111 : decode cX8_read 111 = .ok (.aload_n 0, 1) := by decide +kernel
theorem dX8_read_112 : decode cX8_read 112 = .ok (.getfield 16, 3) := by decide +kernel
theorem dX8_read_115 : decode cX8_read 115 = .ok (.iload_n 3, 1) := by decide +kernel
theorem dX8_read_116 : decode cX8_read 116 = .ok (.iaload, 1) := by decide +kernel
theorem dX8_read_117 : decode cX8_read 117 = .ok (.iastore, 1) := by decide +kernel
theorem dX8_read_118 : decode cX8_read 118 = .ok (.iinc 3 1, 3) := by decide +kernel
theorem dX8_read_121 : decode cX8_read 121 = .ok (.goto (-21), 3) := by decide +kernel
theorem dX8_read_124 : decode cX8_read 124 = .ok (.iload_n 1, 1) := by decide +kernel
theorem dX8_read_125 : decode cX8_read 125 = .ok (.ireturn, 1) := by decide +kernel
theorem dX8_isPerson_0 : decode cX8_isPerson 0 = .ok (.iload_n 1, 1) := by decide +kernel
theorem dX8_isPerson_1 : decode cX8_isPerson 1 = .ok (.ifCond .lt 15, 3) := by decide +kernel
theorem dX8_isPerson_4 : decode cX8_isPerson 4 = .ok (.iload_n 1, 1) := by decide +kernel
theorem dX8_isPerson_5 : decode cX8_isPerson 5 = .ok (.aload_n 0, 1) := by decide +kernel
theorem dX8_isPerson_6 : decode cX8_isPerson 6 = .ok (.getfield 123, 3) := by decide +kernel
theorem dX8_isPerson_9 : decode cX8_isPerson 9 = .ok (.if_icmp .ge 7, 3) := by decide +kernel
theorem dX8_isPerson_12 : decode cX8_isPerson 12 = .ok (.iconst 1, 1) := by decide +kernel
theorem dX8_isPerson_13 : decode cX8_isPerson 13 = .ok (.goto 4, 3) := by decide +kernel
theorem dX8_isPerson_16 : decode cX8_isPerson 16 = .ok (.iconst 0, 1) := by decide +kernel
theorem dX8_isPerson_17 : decode cX8_isPerson 17 = .ok (.ireturn, 1) := by decide +kernel
theorem dX8_isTrip_0 : decode cX8_isTrip 0 = .ok (.iload_n 1, 1) := by decide +kernel
theorem dX8_isTrip_1 : decode cX8_isTrip 1 = .ok (.ifCond .lt 15, 3) := by decide +kernel
theorem dX8_isTrip_4 : decode cX8_isTrip 4 = .ok (.iload_n 1, 1) := by decide +kernel
theorem dX8_isTrip_5 : decode cX8_isTrip 5 = .ok (.aload_n 0, 1) := by decide +kernel
theorem dX8_isTrip_6 : decode cX8_isTrip 6 = .ok (.getfield 126, 3) := by decide +kernel
theorem dX8_isTrip_9 : decode cX8_isTrip 9 = .ok (.if_icmp .ge 7, 3) := by decide +kernel
theorem dX8_isTrip_12 : decode cX8_isTrip 12 = .ok (.iconst 1, 1) := by decide +kernel
theorem dX8_isTrip_13 : decode cX8_isTrip 13 = .ok (.goto 4, 3) := by decide +kernel
theorem dX8_isTrip_16 : decode cX8_isTrip 16 = .ok (.iconst 0, 1) := by decide +kernel
theorem dX8_isTrip_17 : decode cX8_isTrip 17 = .ok (.ireturn, 1) := by decide +kernel
theorem dX8_person_0 : decode cX8_person 0 = .ok (.iload_n 1, 1) := by decide +kernel
theorem dX8_person_1 : decode cX8_person 1 = .ok (.i2l, 1) := by decide +kernel
theorem dX8_person_2 : decode cX8_person 2 = .ok (.lconst 0, 1) := by decide +kernel
theorem dX8_person_3 : decode cX8_person 3 = .ok (.ldc2_w 129, 3) := by decide +kernel
theorem dX8_person_6 : decode cX8_person 6 = .ok (.invokestatic 80, 3) := by decide +kernel
theorem dX8_person_9 : decode cX8_person 9 = .ok (.ifCond .eq 12, 3) := by decide +kernel
theorem dX8_person_12 : decode cX8_person 12 = .ok (.aload_n 0, 1) := by decide +kernel
theorem dX8_person_13 : decode cX8_person 13 = .ok (.getfield 123, 3) := by decide +kernel
theorem dX8_person_16 : decode cX8_person 16 = .ok (.bipush 12, 2) := by decide +kernel
theorem dX8_person_18 : decode cX8_person 18 = .ok (.if_icmp .ne 5, 3) := by decide +kernel
theorem dX8_person_21 : decode cX8_person 21 = .ok (.iconst (-1), 1) := by decide +kernel
theorem dX8_person_22 : decode cX8_person 22 = .ok (.ireturn, 1) := by decide +kernel
theorem dX8_person_23 : decode cX8_person 23 = .ok (.aload_n 0, 1) := by decide +kernel
theorem dX8_person_24 : decode cX8_person 24 = .ok (.getfield 23, 3) := by decide +kernel
theorem dX8_person_27 : decode cX8_person 27 = .ok (.aload_n 0, 1) := by decide +kernel
theorem dX8_person_28 : decode cX8_person 28 = .ok (.getfield 123, 3) := by decide +kernel
theorem dX8_person_31 : decode cX8_person 31 = .ok (.iload_n 1, 1) := by decide +kernel
theorem dX8_person_32 : decode cX8_person 32 = .ok (.iastore, 1) := by decide +kernel
theorem dX8_person_33 : decode cX8_person 33 = .ok (.aload_n 0, 1) := by decide +kernel
theorem dX8_person_34 : decode cX8_person 34 = .ok (.dup, 1) := by decide +kernel
theorem dX8_person_35 : decode cX8_person 35 = .ok (.getfield 123, 3) := by decide +kernel
theorem dX8_person_38 : decode cX8_person 38 = .ok (.iconst 1, 1) := by decide +kernel
theorem dX8_person_39 : decode cX8_person 39 = .ok (.iadd, 1) := by decide +kernel
theorem dX8_person_40 : decode cX8_person 40 = .ok (.putfield 123, 3) := by decide +kernel
theorem dX8_person_43 : decode cX8_person 43 = .ok (.aload_n 0, 1) := by decide +kernel
theorem dX8_person_44 : decode cX8_person 44 = .ok (.getfield 123, 3) := by decide +kernel
theorem dX8_person_47 : decode cX8_person 47 = .ok (.iconst 1, 1) := by decide +kernel
theorem dX8_person_48 : decode cX8_person 48 = .ok (.isub, 1) := by decide +kernel
theorem dX8_person_49 : decode cX8_person 49 = .ok (.ireturn, 1) := by decide +kernel
theorem dX8_advance_0 : decode cX8_advance 0 = .ok (.aload_n 0, 1) := by decide +kernel
theorem dX8_advance_1 : decode cX8_advance 1 = .ok (.iload_n 1, 1) := by decide +kernel
theorem dX8_advance_2 : decode cX8_advance 2 = .ok (.invokevirtual 131, 3) := by decide +kernel
theorem dX8_advance_5 : decode cX8_advance 5 = .ok (.ifCond .eq 14, 3) := by decide +kernel
theorem dX8_advance_8 : decode cX8_advance 8 = .ok (.lload_n 2, 1) := by decide +kernel
theorem dX8_advance_9 : decode cX8_advance 9 = .ok (.lconst 1, 1) := by decide +kernel
theorem dX8_advance_10 : decode cX8_advance 10 = .ok (.ldc2_w 135, 3) := by decide +kernel
theorem dX8_advance_13 : decode cX8_advance 13 = .ok (.invokestatic 80, 3) := by decide +kernel
theorem dX8_advance_16 : decode cX8_advance 16 = .ok (.ifCond .ne 5, 3) := by decide +kernel
theorem dX8_advance_19 : decode cX8_advance 19 = .ok (.iconst 0, 1) := by decide +kernel
theorem dX8_advance_20 : decode cX8_advance 20 = .ok (.ireturn, 1) := by decide +kernel
theorem dX8_advance_21 : decode cX8_advance 21 = .ok (.aload_n 0, 1) := by decide +kernel
theorem dX8_advance_22 : decode cX8_advance 22 = .ok (.getfield 26, 3) := by decide +kernel
theorem dX8_advance_25 : decode cX8_advance 25 = .ok (.iload_n 1, 1) := by decide +kernel
theorem dX8_advance_26 : decode cX8_advance 26 = .ok (.dup2, 1) := by decide +kernel
theorem dX8_advance_27 : decode cX8_advance 27 = .ok (.laload, 1) := by decide +kernel
theorem dX8_advance_28 : decode cX8_advance 28 = .ok (.lload_n 2, 1) := by decide +kernel
theorem dX8_advance_29 : decode cX8_advance 29 = .ok (.ladd, 1) := by decide +kernel
theorem dX8_advance_30 : decode cX8_advance 30 = .ok (.lastore, 1) := by decide +kernel
theorem dX8_advance_31 : decode cX8_advance 31 = .ok (.iconst 1, 1) := by decide +kernel
theorem dX8_advance_32 : decode cX8_advance 32 = .ok (.ireturn, 1) := by decide +kernel
theorem dX8_trip_0 : decode cX8_trip 0 = .ok (.iload_n 1, 1) := by decide +kernel
theorem dX8_trip_1 : decode cX8_trip 1 = .ok (.i2l, 1) := by decide +kernel
theorem dX8_trip_2 : decode cX8_trip 2 = .ok (.lconst 0, 1) := by decide +kernel
theorem dX8_trip_3 : decode cX8_trip 3 = .ok (.ldc2_w 137, 3) := by decide +kernel
theorem dX8_trip_6 : decode cX8_trip 6 = .ok (.invokestatic 80, 3) := by decide +kernel
theorem dX8_trip_9 : decode cX8_trip 9 = .ok (.ifCond .eq 23, 3) := by decide +kernel
theorem dX8_trip_12 : decode cX8_trip 12 = .ok (.lload_n 2, 1) := by decide +kernel
theorem dX8_trip_13 : decode cX8_trip 13 = .ok (.lconst 0, 1) := by decide +kernel
theorem dX8_trip_14 : decode cX8_trip 14 = .ok (.ldc2_w 139, 3) := by decide +kernel
theorem dX8_trip_17 : decode cX8_trip 17 = .ok (.invokestatic 80, 3) := by decide +kernel
theorem dX8_trip_20 : decode cX8_trip 20 = .ok (.ifCond .eq 12, 3) := by decide +kernel
theorem dX8_trip_23 : decode cX8_trip 23 = .ok (.aload_n 0, 1) := by decide +kernel
theorem dX8_trip_24 : decode cX8_trip 24 = .ok (.getfield 126, 3) := by decide +kernel
theorem dX8_trip_27 : decode cX8_trip 27 = .ok (.bipush 20, 2) := by decide +kernel
theorem dX8_trip_29 : decode cX8_trip 29 = .ok (.if_icmp .ne 5, 3) := by decide +kernel
theorem dX8_trip_32 : decode cX8_trip 32 = .ok (.iconst (-1), 1) := by decide +kernel
theorem dX8_trip_33 : decode cX8_trip 33 = .ok (.ireturn, 1) := by decide +kernel
theorem dX8_trip_34 : decode cX8_trip 34 = .ok (.aload_n 0, 1) := by decide +kernel
theorem dX8_trip_35 : decode cX8_trip 35 = .ok (.getfield 29, 3) := by decide +kernel
theorem dX8_trip_38 : decode cX8_trip 38 = .ok (.aload_n 0, 1) := by decide +kernel
theorem dX8_trip_39 : decode cX8_trip 39 = .ok (.getfield 126, 3) := by decide +kernel
theorem dX8_trip_42 : decode cX8_trip 42 = .ok (.iload_n 1, 1) := by decide +kernel
theorem dX8_trip_43 : decode cX8_trip 43 = .ok (.iastore, 1) := by decide +kernel
theorem dX8_trip_44 : decode cX8_trip 44 = .ok (.aload_n 0, 1) := by decide +kernel
theorem dX8_trip_45 : decode cX8_trip 45 = .ok (.getfield 32, 3) := by decide +kernel
theorem dX8_trip_48 : decode cX8_trip 48 = .ok (.aload_n 0, 1) := by decide +kernel
theorem dX8_trip_49 : decode cX8_trip 49 = .ok (.getfield 126, 3) := by decide +kernel
theorem dX8_trip_52 : decode cX8_trip 52 = .ok (.lload_n 2, 1) := by decide +kernel
theorem dX8_trip_53 : decode cX8_trip 53 = .ok (.lastore, 1) := by decide +kernel
theorem dX8_trip_54 : decode cX8_trip 54 = .ok (.aload_n 0, 1) := by decide +kernel
theorem dX8_trip_55 : decode cX8_trip 55 = .ok (.dup, 1) := by decide +kernel
theorem dX8_trip_56 : decode cX8_trip 56 = .ok (.getfield 126, 3) := by decide +kernel
theorem dX8_trip_59 : decode cX8_trip 59 = .ok (.iconst 1, 1) := by decide +kernel
theorem dX8_trip_60 : decode cX8_trip 60 = .ok (.iadd, 1) := by decide +kernel
theorem dX8_trip_61 : decode cX8_trip 61 = .ok (.putfield 126, 3) := by decide +kernel
theorem dX8_trip_64 : decode cX8_trip 64 = .ok (.aload_n 0, 1) := by decide +kernel
theorem dX8_trip_65 : decode cX8_trip 65 = .ok (.getfield 126, 3) := by decide +kernel
theorem dX8_trip_68 : decode cX8_trip 68 = .ok (.iconst 1, 1) := by decide +kernel
theorem dX8_trip_69 : decode cX8_trip 69 = .ok (.isub, 1) := by decide +kernel
theorem dX8_trip_70 : decode cX8_trip 70 = .ok (.ireturn, 1) := by decide +kernel
theorem dX8_cost_0 : decode cX8_cost 0 = .ok (.aload_n 0, 1) := by decide +kernel
theorem dX8_cost_1 : decode cX8_cost 1 = .ok (.iload_n 1, 1) := by decide +kernel
theorem dX8_cost_2 : decode cX8_cost 2 = .ok (.invokevirtual 141, 3) := by decide +kernel
theorem dX8_cost_5 : decode cX8_cost 5 = .ok (.ifCond .eq 35, 3) := by decide +kernel
theorem dX8_cost_8 : decode cX8_cost 8 = .ok (.aload_n 0, 1) := by decide +kernel
theorem dX8_cost_9 : decode cX8_cost 9 = .ok (.getfield 41, 3) := by decide +kernel
theorem dX8_cost_12 : decode cX8_cost 12 = .ok (.iload_n 1, 1) := by decide +kernel
theorem dX8_cost_13 : decode cX8_cost 13 = .ok (.baload, 1) := by decide +kernel
theorem dX8_cost_14 : decode cX8_cost 14 = .ok (.ifCond .ne 26, 3) := by decide +kernel
theorem dX8_cost_17 : decode cX8_cost 17 = .ok (.iload_n 2, 1) := by decide +kernel
theorem dX8_cost_18 : decode cX8_cost 18 = .ok (.i2l, 1) := by decide +kernel
theorem dX8_cost_19 : decode cX8_cost 19 = .ok (.lconst 0, 1) := by decide +kernel
theorem dX8_cost_20 : decode cX8_cost 20 = .ok (.ldc2_w 129, 3) := by decide +kernel
theorem dX8_cost_23 : decode cX8_cost 23 = .ok (.invokestatic 80, 3) := by decide +kernel
theorem dX8_cost_26 : decode cX8_cost 26 = .ok (.ifCond .eq 14, 3) := by decide +kernel
theorem dX8_cost_29 : decode cX8_cost 29 = .ok (.lload_n 3, 1) := by decide +kernel
theorem dX8_cost_30 : decode cX8_cost 30 = .ok (.lconst 1, 1) := by decide +kernel
theorem dX8_cost_31 : decode cX8_cost 31 = .ok (.ldc2_w 135, 3) := by decide +kernel
theorem dX8_cost_34 : decode cX8_cost 34 = .ok (.invokestatic 80, 3) := by decide +kernel
theorem dX8_cost_37 : decode cX8_cost 37 = .ok (.ifCond .ne 5, 3) := by decide +kernel
theorem dX8_cost_40 : decode cX8_cost 40 = .ok (.iconst 0, 1) := by decide +kernel
theorem dX8_cost_41 : decode cX8_cost 41 = .ok (.ireturn, 1) := by decide +kernel
theorem dX8_cost_42 : decode cX8_cost 42 = .ok (.aload_n 0, 1) := by decide +kernel
theorem dX8_cost_43 : decode cX8_cost 43 = .ok (.getfield 35, 3) := by decide +kernel
theorem dX8_cost_46 : decode cX8_cost 46 = .ok (.bipush 10, 2) := by decide +kernel
theorem dX8_cost_48 : decode cX8_cost 48 = .ok (.iload_n 1, 1) := by decide +kernel
theorem dX8_cost_49 : decode cX8_cost 49 = .ok (.imul, 1) := by decide +kernel
theorem dX8_cost_50 : decode cX8_cost 50 = .ok (.iload_n 2, 1) := by decide +kernel
theorem dX8_cost_51 : decode cX8_cost 51 = .ok (.iadd, 1) := by decide +kernel
theorem dX8_cost_52 : decode cX8_cost 52 = .ok (.dup2, 1) := by decide +kernel
theorem dX8_cost_53 : decode cX8_cost 53 = .ok (.laload, 1) := by decide +kernel
theorem dX8_cost_54 : decode cX8_cost 54 = .ok (.lload_n 3, 1) := by decide +kernel
theorem dX8_cost_55 : decode cX8_cost 55 = .ok (.ladd, 1) := by decide +kernel
theorem dX8_cost_56 : decode cX8_cost 56 = .ok (.lastore, 1) := by decide +kernel
theorem dX8_cost_57 : decode cX8_cost 57 = .ok (.iconst 1, 1) := by decide +kernel
theorem dX8_cost_58 : decode cX8_cost 58 = .ok (.ireturn, 1) := by decide +kernel
theorem dX8_days_0 : decode cX8_days 0 = .ok (.aload_n 0, 1) := by decide +kernel
theorem dX8_days_1 : decode cX8_days 1 = .ok (.iload_n 1, 1) := by decide +kernel
theorem dX8_days_2 : decode cX8_days 2 = .ok (.invokevirtual 141, 3) := by decide +kernel
theorem dX8_days_5 : decode cX8_days 5 = .ok (.ifCond .eq 32, 3) := by decide +kernel
theorem dX8_days_8 : decode cX8_days 8 = .ok (.aload_n 0, 1) := by decide +kernel
theorem dX8_days_9 : decode cX8_days 9 = .ok (.iload_n 2, 1) := by decide +kernel
theorem dX8_days_10 : decode cX8_days 10 = .ok (.invokevirtual 131, 3) := by decide +kernel
theorem dX8_days_13 : decode cX8_days 13 = .ok (.ifCond .eq 24, 3) := by decide +kernel
theorem dX8_days_16 : decode cX8_days 16 = .ok (.aload_n 0, 1) := by decide +kernel
theorem dX8_days_17 : decode cX8_days 17 = .ok (.getfield 41, 3) := by decide +kernel
theorem dX8_days_20 : decode cX8_days 20 = .ok (.iload_n 1, 1) := by decide +kernel
theorem dX8_days_21 : decode cX8_days 21 = .ok (.baload, 1) := by decide +kernel
theorem dX8_days_22 : decode cX8_days 22 = .ok (.ifCond .ne 15, 3) := by decide +kernel
theorem dX8_days_25 : decode cX8_days 25 = .ok (.iload_n 3, 1) := by decide +kernel
theorem dX8_days_26 : decode cX8_days 26 = .ok (.i2l, 1) := by decide +kernel
theorem dX8_days_27 : decode cX8_days 27 = .ok (.lconst 0, 1) := by decide +kernel
theorem dX8_days_28 : decode cX8_days 28 = .ok (.ldc2_w 144, 3) := by decide +kernel
theorem dX8_days_31 : decode cX8_days 31 = .ok (.invokestatic 80, 3) := by decide +kernel
theorem dX8_days_34 : decode cX8_days 34 = .ok (.ifCond .ne 5, 3) := by decide +kernel
theorem dX8_days_37 : decode cX8_days 37 = .ok (.iconst (-1), 1) := by decide +kernel
theorem dX8_days_38 : decode cX8_days 38 = .ok (.ireturn, 1) := by decide +kernel
theorem dX8_days_39 : decode cX8_days 39 = .ok (.aload_n 0, 1) := by decide +kernel
theorem dX8_days_40 : decode cX8_days 40 = .ok (.getfield 38, 3) := by decide +kernel
theorem dX8_days_43 : decode cX8_days 43 = .ok (.bipush 12, 2) := by decide +kernel
theorem dX8_days_45 : decode cX8_days 45 = .ok (.iload_n 1, 1) := by decide +kernel
theorem dX8_days_46 : decode cX8_days 46 = .ok (.imul, 1) := by decide +kernel
theorem dX8_days_47 : decode cX8_days 47 = .ok (.iload_n 2, 1) := by decide +kernel
theorem dX8_days_48 : decode cX8_days 48 = .ok (.iadd, 1) := by decide +kernel
theorem dX8_days_49 : decode cX8_days 49 = .ok (.iaload, 1) := by decide +kernel
theorem dX8_days_50 : decode cX8_days 50 = .ok (.istore 4, 2) := by decide +kernel
theorem dX8_days_52 : decode cX8_days 52 = .ok (.aload_n 0, 1) := by decide +kernel
theorem dX8_days_53 : decode cX8_days 53 = .ok (.getfield 38, 3) := by decide +kernel
theorem dX8_days_56 : decode cX8_days 56 = .ok (.bipush 12, 2) := by decide +kernel
theorem dX8_days_58 : decode cX8_days 58 = .ok (.iload_n 1, 1) := by decide +kernel
theorem dX8_days_59 : decode cX8_days 59 = .ok (.imul, 1) := by decide +kernel
theorem dX8_days_60 : decode cX8_days 60 = .ok (.iload_n 2, 1) := by decide +kernel
theorem dX8_days_61 : decode cX8_days 61 = .ok (.iadd, 1) := by decide +kernel
theorem dX8_days_62 : decode cX8_days 62 = .ok (.iload_n 3, 1) := by decide +kernel
theorem dX8_days_63 : decode cX8_days 63 = .ok (.iastore, 1) := by decide +kernel
theorem dX8_days_64 : decode cX8_days 64 = .ok (.iload 4, 2) := by decide +kernel
theorem dX8_days_66 : decode cX8_days 66 = .ok (.ireturn, 1) := by decide +kernel
theorem dX8_costsOf_0 : decode cX8_costsOf 0 = .ok (.lconst 0, 1) := by decide +kernel
theorem dX8_costsOf_1 : decode cX8_costsOf 1 = .ok (.lstore_n 3, 1) := by decide +kernel
theorem dX8_costsOf_2 : decode cX8_costsOf 2 = .ok (.iconst 0, 1) := by decide +kernel
theorem dX8_costsOf_3 : decode cX8_costsOf 3 = .ok (.istore 5, 2) := by decide +kernel
theorem dX8_costsOf_5 : decode cX8_costsOf 5 = .ok (.iload 5, 2) := by decide +kernel
theorem dX8_costsOf_7 : decode cX8_costsOf 7 = .ok (.bipush 10, 2) := by decide +kernel
theorem dX8_costsOf_9 : decode cX8_costsOf 9 = .ok (.if_icmp .ge 41, 3) := by decide +kernel
theorem dX8_costsOf_12 : decode cX8_costsOf 12 = .ok (.lload_n 3, 1) := by decide +kernel
theorem dX8_costsOf_13 : decode cX8_costsOf 13 = .ok (.aload_n 0, 1) := by decide +kernel
theorem dX8_costsOf_14 : decode cX8_costsOf 14 = .ok (.getfield 13, 3) := by decide +kernel
theorem dX8_costsOf_17 : decode cX8_costsOf 17 = .ok (.iconst 2, 1) := by decide +kernel
theorem dX8_costsOf_18 : decode cX8_costsOf 18 = .ok (.iload 5, 2) := by decide +kernel
theorem dX8_costsOf_20 : decode cX8_costsOf 20 = .ok (.iadd, 1) := by decide +kernel
theorem dX8_costsOf_21 : decode cX8_costsOf 21 = .ok (.iaload, 1) := by decide +kernel
theorem dX8_costsOf_22 : decode cX8_costsOf 22 = .ok (.iload_n 2, 1) := by decide +kernel
theorem dX8_costsOf_23 : decode cX8_costsOf 23 = .ok (.if_icmp .ne 18, 3) := by decide +kernel
theorem dX8_costsOf_26 : decode cX8_costsOf 26 = .ok (.aload_n 0, 1) := by decide +kernel
theorem dX8_costsOf_27 : decode cX8_costsOf 27 = .ok (.getfield 35, 3) := by decide +kernel
theorem dX8_costsOf_30 : decode cX8_costsOf 30 = .ok (.bipush 10, 2) := by decide +kernel
theorem dX8_costsOf_32 : decode cX8_costsOf 32 = .ok (.iload_n 1, 1) := by decide +kernel
theorem dX8_costsOf_33 : decode cX8_costsOf 33 = .ok (.imul, 1) := by decide +kernel
theorem dX8_costsOf_34 : decode cX8_costsOf 34 = .ok (.iload 5, 2) := by decide +kernel
theorem dX8_costsOf_36 : decode cX8_costsOf 36 = .ok (.iadd, 1) := by decide +kernel
theorem dX8_costsOf_37 : decode cX8_costsOf 37 = .ok (.laload, 1) := by decide +kernel
theorem dX8_costsOf_38 : decode cX8_costsOf 38 = .ok (.goto 4, 3) := by decide +kernel
theorem dX8_costsOf_41 : decode cX8_costsOf 41 = .ok (.lconst 0, 1) := by decide +kernel
theorem dX8_costsOf_42 : decode cX8_costsOf 42 = .ok (.ladd, 1) := by decide +kernel
theorem dX8_costsOf_43 : decode cX8_costsOf 43 = .ok (.lstore_n 3, 1) := by decide +kernel
theorem dX8_costsOf_44 : decode cX8_costsOf 44 = .ok (.iinc 5 1, 3) := by decide +kernel
theorem dX8_costsOf_47 : decode cX8_costsOf 47 = .ok (.goto (-42), 3) := by decide +kernel
theorem dX8_costsOf_50 : decode cX8_costsOf 50 = .ok (.lload_n 3, 1) := by decide +kernel
theorem dX8_costsOf_51 : decode cX8_costsOf 51 = .ok (.lreturn, 1) := by decide +kernel
theorem dX8_partByCents_0 : decode cX8_partByCents 0 = .ok (.lconst 0, 1) := by decide +kernel
theorem dX8_partByCents_1 : decode cX8_partByCents 1 = .ok (.lstore 4, 2) := by decide +kernel
theorem dX8_partByCents_3 : decode cX8_partByCents 3 = .ok (.iconst 0, 1) := by decide +kernel
theorem dX8_partByCents_4 : decode cX8_partByCents 4 = .ok (.istore 6, 2) := by decide +kernel
theorem dX8_partByCents_6 : decode cX8_partByCents 6 = .ok (.iload 6, 2) := by decide +kernel
theorem dX8_partByCents_8 : decode cX8_partByCents 8 = .ok (.iload_n 3, 1) := by decide +kernel
theorem dX8_partByCents_9 : decode cX8_partByCents 9 = .ok (.if_icmp .ge 21, 3) := by decide +kernel
theorem dX8_partByCents_12 : decode cX8_partByCents 12 = .ok (.lload 4, 2) := by decide +kernel
theorem dX8_partByCents_14 : decode cX8_partByCents 14 = .ok (.aload_n 0, 1) := by decide +kernel
theorem dX8_partByCents_15 : decode cX8_partByCents 15 = .ok (.getfield 51, 3) := by decide +kernel
theorem dX8_partByCents_18 : decode cX8_partByCents 18 = .ok (.iload 6, 2) := by decide +kernel
theorem dX8_partByCents_20 : decode cX8_partByCents 20 = .ok (.laload, 1) := by decide +kernel
theorem dX8_partByCents_21 : decode cX8_partByCents 21 = .ok (.ladd, 1) := by decide +kernel
theorem dX8_partByCents_22 : decode cX8_partByCents 22 = .ok (.lstore 4, 2) := by decide +kernel
theorem dX8_partByCents_24 : decode cX8_partByCents 24 = .ok (.iinc 6 1, 3) := by decide +kernel
theorem dX8_partByCents_27 : decode cX8_partByCents 27 = .ok (.goto (-21), 3) := by decide +kernel
theorem dX8_partByCents_30 : decode cX8_partByCents 30 = .ok (.lload_n 1, 1) := by decide +kernel
theorem dX8_partByCents_31 : decode cX8_partByCents 31 = .ok (.lstore 6, 2) := by decide +kernel
theorem dX8_partByCents_33 : decode cX8_partByCents 33 = .ok (.iconst 0, 1) := by decide +kernel
theorem dX8_partByCents_34 : decode cX8_partByCents 34 = .ok (.istore 8, 2) := by decide +kernel
theorem dX8_partByCents_36 : decode cX8_partByCents 36 = .ok (.iload 8, 2) := by decide +kernel
theorem dX8_partByCents_38 : decode cX8_partByCents 38 = .ok (.iload_n 3, 1) := by decide +kernel
theorem dX8_partByCents_39 : decode cX8_partByCents 39 = .ok (.if_icmp .ge 59, 3) := by decide +kernel
theorem dX8_partByCents_42 : decode cX8_partByCents 42 = .ok (.aload_n 0, 1) := by decide +kernel
theorem dX8_partByCents_43 : decode cX8_partByCents 43 = .ok (.getfield 54, 3) := by decide +kernel
theorem dX8_partByCents_46 : decode cX8_partByCents 46 = .ok (.iload 8, 2) := by decide +kernel
theorem dX8_partByCents_48 : decode cX8_partByCents 48 = .ok (.lload_n 1, 1) := by decide +kernel
theorem dX8_partByCents_49 : decode cX8_partByCents 49 = .ok (.aload_n 0, 1) := by decide +kernel
theorem dX8_partByCents_50 : decode cX8_partByCents 50 = .ok (.getfield 51, 3) := by decide +kernel
theorem dX8_partByCents_53 : decode cX8_partByCents 53 = .ok (.iload 8, 2) := by decide +kernel
theorem dX8_partByCents_55 : decode cX8_partByCents 55 = .ok (.laload, 1) := by decide +kernel
theorem dX8_partByCents_56 : decode cX8_partByCents 56 = .ok (.lmul, 1) := by decide +kernel
theorem dX8_partByCents_57 : decode cX8_partByCents 57 = .ok (.lload 4, 2) := by decide +kernel
theorem dX8_partByCents_59 : decode cX8_partByCents 59 = .ok (.ldiv, 1) := by decide +kernel
theorem dX8_partByCents_60 : decode cX8_partByCents 60 = .ok (.lastore, 1) := by decide +kernel
theorem dX8_partByCents_61 : decode cX8_partByCents 61 = .ok (.aload_n 0, 1) := by decide +kernel
theorem dX8_partByCents_62 : decode cX8_partByCents 62 = .ok (.getfield 57, 3) := by decide +kernel
theorem dX8_partByCents_65 : decode cX8_partByCents 65 = .ok (.iload 8, 2) := by decide +kernel
theorem dX8_partByCents_67 : decode cX8_partByCents 67 = .ok (.lload_n 1, 1) := by decide +kernel
theorem dX8_partByCents_68 : decode cX8_partByCents 68 = .ok (.aload_n 0, 1) := by decide +kernel
theorem dX8_partByCents_69 : decode cX8_partByCents 69 = .ok (.getfield 51, 3) := by decide +kernel
theorem dX8_partByCents_72 : decode cX8_partByCents 72 = .ok (.iload 8, 2) := by decide +kernel
theorem dX8_partByCents_74 : decode cX8_partByCents 74 = .ok (.laload, 1) := by decide +kernel
theorem dX8_partByCents_75 : decode cX8_partByCents 75 = .ok (.lmul, 1) := by decide +kernel
theorem dX8_partByCents_76 : decode cX8_partByCents 76 = .ok (.lload 4, 2) := by decide +kernel
theorem dX8_partByCents_78 : decode cX8_partByCents 78 = .ok (.lrem, 1) := by decide +kernel
theorem dX8_partByCents_79 : decode cX8_partByCents 79 = .ok (.lastore, 1) := by decide +kernel
theorem dX8_partByCents_80 : decode cX8_partByCents 80 = .ok (.lload 6, 2) := by decide +kernel
theorem dX8_partByCents_82 : decode cX8_partByCents 82 = .ok (.aload_n 0, 1) := by decide +kernel
theorem dX8_partByCents_83 : decode cX8_partByCents 83 = .ok (.getfield 54, 3) := by decide +kernel
theorem dX8_partByCents_86 : decode cX8_partByCents 86 = .ok (.iload 8, 2) := by decide +kernel
theorem dX8_partByCents_88 : decode cX8_partByCents 88 = .ok (.laload, 1) := by decide +kernel
theorem dX8_partByCents_89 : decode cX8_partByCents 89 = .ok (.lsub, 1) := by decide +kernel
theorem dX8_partByCents_90 : decode cX8_partByCents 90 = .ok (.lstore 6, 2) := by decide +kernel
theorem dX8_partByCents_92 : decode cX8_partByCents 92 = .ok (.iinc 8 1, 3) := by decide +kernel
theorem dX8_partByCents_95 : decode cX8_partByCents 95 = .ok (.goto (-59), 3) := by decide +kernel
theorem dX8_partByCents_98 : decode cX8_partByCents 98 = .ok (.lload 6, 2) := by decide +kernel
theorem dX8_partByCents_100 : decode cX8_partByCents 100 = .ok (.lconst 0, 1) := by decide +kernel
theorem dX8_partByCents_101 : decode cX8_partByCents 101 = .ok (.lcmp, 1) := by decide +kernel
theorem dX8_partByCents_102 : decode cX8_partByCents 102 = .ok (.ifCond .le 78, 3) := by decide +kernel
theorem dX8_partByCents_105 : decode cX8_partByCents 105 = .ok (.iconst 0, 1) := by decide +kernel
theorem dX8_partByCents_106 : decode cX8_partByCents 106 = .ok (.istore 8, 2) := by decide +kernel
theorem dX8_partByCents_108 : decode cX8_partByCents 108 = .ok (.iconst 1, 1) := by decide +kernel
theorem dX8_partByCents_109 : decode cX8_partByCents 109 = .ok (.istore 9, 2) := by decide +kernel
theorem dX8_partByCents_111 : decode cX8_partByCents 111 = .ok (.iload 9, 2) := by decide +kernel
theorem dX8_partByCents_113 : decode cX8_partByCents 113 = .ok (.iload_n 3, 1) := by decide +kernel
theorem dX8_partByCents_114 : decode cX8_partByCents 114 = .ok (.if_icmp .ge 36, 3) := by decide +kernel
theorem dX8_partByCents_117 : decode cX8_partByCents 117 = .ok (.aload_n 0, 1) := by decide +kernel
theorem dX8_partByCents_118 : decode cX8_partByCents 118 = .ok (.getfield 57, 3) := by decide +kernel
theorem dX8_partByCents_121 : decode cX8_partByCents 121 = .ok (.iload 9, 2) := by decide +kernel
theorem dX8_partByCents_123 : decode cX8_partByCents 123 = .ok (.laload, 1) := by decide +kernel
theorem dX8_partByCents_124 : decode cX8_partByCents 124 = .ok (.aload_n 0, 1) := by decide +kernel
theorem dX8_partByCents_125 : decode cX8_partByCents 125 = .ok (.getfield 57, 3) := by decide +kernel
theorem dX8_partByCents_128 : decode cX8_partByCents 128 = .ok (.iload 8, 2) := by decide +kernel
theorem dX8_partByCents_130 : decode cX8_partByCents 130 = .ok (.laload, 1) := by decide +kernel
theorem dX8_partByCents_131 : decode cX8_partByCents 131 = .ok (.lcmp, 1) := by decide +kernel
theorem dX8_partByCents_132 : decode cX8_partByCents 132 = .ok (.ifCond .le 8, 3) := by decide +kernel
theorem dX8_partByCents_135 : decode cX8_partByCents 135 = .ok (.iload 9, 2) := by decide +kernel
theorem dX8_partByCents_137 : decode cX8_partByCents 137 = .ok (.goto 5, 3) := by decide +kernel
theorem dX8_partByCents_140 : decode cX8_partByCents 140 = .ok (.iload 8, 2) := by decide +kernel
theorem dX8_partByCents_142 : decode cX8_partByCents 142 = .ok (.istore 8, 2) := by decide +kernel
theorem dX8_partByCents_144 : decode cX8_partByCents 144 = .ok (.iinc 9 1, 3) := by decide +kernel
theorem dX8_partByCents_147 : decode cX8_partByCents 147 = .ok (.goto (-36), 3) := by decide +kernel
theorem dX8_partByCents_150 : decode cX8_partByCents 150 = .ok (.aload_n 0, 1) := by decide +kernel
theorem dX8_partByCents_151 : decode cX8_partByCents 151 = .ok (.getfield 54, 3) := by decide +kernel
theorem dX8_partByCents_154 : decode cX8_partByCents 154 = .ok (.iload 8, 2) := by decide +kernel
theorem dX8_partByCents_156 : decode cX8_partByCents 156 = .ok (.dup2, 1) := by decide +kernel
theorem dX8_partByCents_157 : decode cX8_partByCents 157 = .ok (.laload, 1) := by decide +kernel
theorem dX8_partByCents_158 : decode cX8_partByCents 158 = .ok (.lconst 1, 1) := by decide +kernel
theorem dX8_partByCents_159 : decode cX8_partByCents 159 = .ok (.ladd, 1) := by decide +kernel
theorem dX8_partByCents_160 : decode cX8_partByCents 160 = .ok (.lastore, 1) := by decide +kernel
theorem dX8_partByCents_161 : decode cX8_partByCents 161 = .ok (.aload_n 0, 1) := by decide +kernel
theorem dX8_partByCents_162 : decode cX8_partByCents 162 = .ok (.getfield 57, 3) := by decide +kernel
theorem dX8_partByCents_165 : decode cX8_partByCents 165 = .ok (.iload 8, 2) := by decide +kernel
theorem dX8_partByCents_167 : decode cX8_partByCents 167 = .ok (.ldc2_w 146, 3) := by decide +kernel
theorem dX8_partByCents_170 : decode cX8_partByCents 170 = .ok (.lastore, 1) := by decide +kernel
theorem dX8_partByCents_171 : decode cX8_partByCents 171 = .ok (.lload 6, 2) := by decide +kernel
theorem dX8_partByCents_173 : decode cX8_partByCents 173 = .ok (.lconst 1, 1) := by decide +kernel
theorem dX8_partByCents_174 : decode cX8_partByCents 174 = .ok (.lsub, 1) := by decide +kernel
theorem dX8_partByCents_175 : decode cX8_partByCents 175 = .ok (.lstore 6, 2) := by decide +kernel
theorem dX8_partByCents_177 : decode cX8_partByCents 177 = .ok (.goto (-79), 3) := by decide +kernel
theorem dX8_partByCents_180 : decode cX8_partByCents 180 = .ok (.return_, 1) := by decide +kernel
theorem dX8_settle_0 : decode cX8_settle 0 = .ok (.aload_n 0, 1) := by decide +kernel
theorem dX8_settle_1 : decode cX8_settle 1 = .ok (.iload_n 1, 1) := by decide +kernel
theorem dX8_settle_2 : decode cX8_settle 2 = .ok (.invokevirtual 141, 3) := by decide +kernel
theorem dX8_settle_5 : decode cX8_settle 5 = .ok (.ifCond .eq 12, 3) := by decide +kernel
theorem dX8_settle_8 : decode cX8_settle 8 = .ok (.aload_n 0, 1) := by decide +kernel
theorem dX8_settle_9 : decode cX8_settle 9 = .ok (.getfield 41, 3) := by decide +kernel
theorem dX8_settle_12 : decode cX8_settle 12 = .ok (.iload_n 1, 1) := by decide +kernel
theorem dX8_settle_13 : decode cX8_settle 13 = .ok (.baload, 1) := by decide +kernel
theorem dX8_settle_14 : decode cX8_settle 14 = .ok (.ifCond .eq 5, 3) := by decide +kernel
theorem dX8_settle_17 : decode cX8_settle 17 = .ok (.iconst (-1), 1) := by decide +kernel
theorem dX8_settle_18 : decode cX8_settle 18 = .ok (.ireturn, 1) := by decide +kernel
theorem dX8_settle_19 : decode cX8_settle 19 = .ok (.aload_n 0, 1) := by decide +kernel
theorem dX8_settle_20 : decode cX8_settle 20 = .ok (.getfield 41, 3) := by decide +kernel
theorem dX8_settle_23 : decode cX8_settle 23 = .ok (.iload_n 1, 1) := by decide +kernel
theorem dX8_settle_24 : decode cX8_settle 24 = .ok (.iconst 1, 1) := by decide +kernel
theorem dX8_settle_25 : decode cX8_settle 25 = .ok (.bastore, 1) := by decide +kernel
theorem dX8_settle_26 : decode cX8_settle 26 = .ok (.aload_n 0, 1) := by decide +kernel
theorem dX8_settle_27 : decode cX8_settle 27 = .ok (.getfield 29, 3) := by decide +kernel
theorem dX8_settle_30 : decode cX8_settle 30 = .ok (.iload_n 1, 1) := by decide +kernel
theorem dX8_settle_31 : decode cX8_settle 31 = .ok (.iaload, 1) := by decide +kernel
theorem dX8_settle_32 : decode cX8_settle 32 = .ok (.istore_n 2, 1) := by decide +kernel
theorem dX8_settle_33 : decode cX8_settle 33 = .ok (.aload_n 0, 1) := by decide +kernel
theorem dX8_settle_34 : decode cX8_settle 34 = .ok (.getfield 32, 3) := by decide +kernel
theorem dX8_settle_37 : decode cX8_settle 37 = .ok (.iload_n 1, 1) := by decide +kernel
theorem dX8_settle_38 : decode cX8_settle 38 = .ok (.laload, 1) := by decide +kernel
theorem dX8_settle_39 : decode cX8_settle 39 = .ok (.aload_n 0, 1) := by decide +kernel
theorem dX8_settle_40 : decode cX8_settle 40 = .ok (.iload_n 1, 1) := by decide +kernel
theorem dX8_settle_41 : decode cX8_settle 41 = .ok (.iconst 0, 1) := by decide +kernel
theorem dX8_settle_42 : decode cX8_settle 42 = .ok (.invokevirtual 148, 3) := by decide +kernel
theorem dX8_settle_45 : decode cX8_settle 45 = .ok (.lsub, 1) := by decide +kernel
theorem dX8_settle_46 : decode cX8_settle 46 = .ok (.aload_n 0, 1) := by decide +kernel
theorem dX8_settle_47 : decode cX8_settle 47 = .ok (.getfield 19, 3) := by decide +kernel
theorem dX8_settle_50 : decode cX8_settle 50 = .ok (.iload_n 2, 1) := by decide +kernel
theorem dX8_settle_51 : decode cX8_settle 51 = .ok (.laload, 1) := by decide +kernel
theorem dX8_settle_52 : decode cX8_settle 52 = .ok (.lsub, 1) := by decide +kernel
theorem dX8_settle_53 : decode cX8_settle 53 = .ok (.lstore_n 3, 1) := by decide +kernel
theorem dX8_settle_54 : decode cX8_settle 54 = .ok (.aload_n 0, 1) := by decide +kernel
theorem dX8_settle_55 : decode cX8_settle 55 = .ok (.getfield 45, 3) := by decide +kernel
theorem dX8_settle_58 : decode cX8_settle 58 = .ok (.bipush 6, 2) := by decide +kernel
theorem dX8_settle_60 : decode cX8_settle 60 = .ok (.iload_n 1, 1) := by decide +kernel
theorem dX8_settle_61 : decode cX8_settle 61 = .ok (.imul, 1) := by decide +kernel
theorem dX8_settle_62 : decode cX8_settle 62 = .ok (.iconst 4, 1) := by decide +kernel
theorem dX8_settle_63 : decode cX8_settle 63 = .ok (.iadd, 1) := by decide +kernel
theorem dX8_settle_64 : decode cX8_settle 64 = .ok (.aload_n 0, 1) := by decide +kernel
theorem dX8_settle_65 : decode cX8_settle 65 = .ok (.getfield 19, 3) := by decide +kernel
theorem dX8_settle_68 : decode cX8_settle 68 = .ok (.iload_n 2, 1) := by decide +kernel
theorem dX8_settle_69 : decode cX8_settle 69 = .ok (.laload, 1) := by decide +kernel
theorem dX8_settle_70 : decode cX8_settle 70 = .ok (.lastore, 1) := by decide +kernel
theorem dX8_settle_71 : decode cX8_settle 71 = .ok (.aload_n 0, 1) := by decide +kernel
theorem dX8_settle_72 : decode cX8_settle 72 = .ok (.getfield 19, 3) := by decide +kernel
theorem dX8_settle_75 : decode cX8_settle 75 = .ok (.iload_n 2, 1) := by decide +kernel
theorem dX8_settle_76 : decode cX8_settle 76 = .ok (.lload_n 3, 1) := by decide +kernel
theorem dX8_settle_77 : decode cX8_settle 77 = .ok (.lconst 0, 1) := by decide +kernel
theorem dX8_settle_78 : decode cX8_settle 78 = .ok (.lcmp, 1) := by decide +kernel
theorem dX8_settle_79 : decode cX8_settle 79 = .ok (.ifCond .ge 8, 3) := by decide +kernel
theorem dX8_settle_82 : decode cX8_settle 82 = .ok (.lload_n 3, 1) := by decide +kernel
theorem dX8_settle_83 : decode cX8_settle 83 = .ok (.lneg, 1) := by decide +kernel
theorem dX8_settle_84 : decode cX8_settle 84 = .ok (.goto 4, 3) := by decide +kernel
theorem dX8_settle_87 : decode cX8_settle 87 = .ok (.lconst 0, 1) := by decide +kernel
theorem dX8_settle_88 : decode cX8_settle 88 = .ok (.lastore, 1) := by decide +kernel
theorem dX8_settle_89 : decode cX8_settle 89 = .ok (.lload_n 3, 1) := by decide +kernel
theorem dX8_settle_90 : decode cX8_settle 90 = .ok (.lconst 0, 1) := by decide +kernel
theorem dX8_settle_91 : decode cX8_settle 91 = .ok (.lcmp, 1) := by decide +kernel
theorem dX8_settle_92 : decode cX8_settle 92 = .ok (.ifCond .ge 7, 3) := by decide +kernel
theorem dX8_settle_95 : decode cX8_settle 95 = .ok (.lconst 0, 1) := by decide +kernel
theorem dX8_settle_96 : decode cX8_settle 96 = .ok (.goto 4, 3) := by decide +kernel
theorem dX8_settle_99 : decode cX8_settle 99 = .ok (.lload_n 3, 1) := by decide +kernel
theorem dX8_settle_100 : decode cX8_settle 100 = .ok (.lstore_n 3, 1) := by decide +kernel
theorem dX8_settle_101 : decode cX8_settle 101 = .ok (.aload_n 0, 1) := by decide +kernel
theorem dX8_settle_102 : decode cX8_settle 102 = .ok (.getfield 45, 3) := by decide +kernel
theorem dX8_settle_105 : decode cX8_settle 105 = .ok (.bipush 6, 2) := by decide +kernel
theorem dX8_settle_107 : decode cX8_settle 107 = .ok (.iload_n 1, 1) := by decide +kernel
theorem dX8_settle_108 : decode cX8_settle 108 = .ok (.imul, 1) := by decide +kernel
theorem dX8_settle_109 : decode cX8_settle 109 = .ok (.iconst 5, 1) := by decide +kernel
theorem dX8_settle_110 : decode cX8_settle 110 = .ok (.iadd, 1) := by decide +kernel
theorem dX8_settle_111 : decode cX8_settle 111 = .ok (.aload_n 0, 1) := by decide +kernel
theorem dX8_settle_112 : decode cX8_settle 112 = .ok (.getfield 19, 3) := by decide +kernel
theorem dX8_settle_115 : decode cX8_settle 115 = .ok (.iload_n 2, 1) := by decide +kernel
theorem dX8_settle_116 : decode cX8_settle 116 = .ok (.laload, 1) := by decide +kernel
theorem dX8_settle_117 : decode cX8_settle 117 = .ok (.lastore, 1) := by decide +kernel
theorem dX8_settle_118 : decode cX8_settle 118 = .ok (.aload_n 0, 1) := by decide +kernel
theorem dX8_settle_119 : decode cX8_settle 119 = .ok (.getfield 45, 3) := by decide +kernel
theorem dX8_settle_122 : decode cX8_settle 122 = .ok (.bipush 6, 2) := by decide +kernel
theorem dX8_settle_124 : decode cX8_settle 124 = .ok (.iload_n 1, 1) := by decide +kernel
theorem dX8_settle_125 : decode cX8_settle 125 = .ok (.imul, 1) := by decide +kernel
theorem dX8_settle_126 : decode cX8_settle 126 = .ok (.lload_n 3, 1) := by decide +kernel
theorem dX8_settle_127 : decode cX8_settle 127 = .ok (.lastore, 1) := by decide +kernel
theorem dX8_settle_128 : decode cX8_settle 128 = .ok (.aload_n 0, 1) := by decide +kernel
theorem dX8_settle_129 : decode cX8_settle 129 = .ok (.getfield 51, 3) := by decide +kernel
theorem dX8_settle_132 : decode cX8_settle 132 = .ok (.iconst 0, 1) := by decide +kernel
theorem dX8_settle_133 : decode cX8_settle 133 = .ok (.aload_n 0, 1) := by decide +kernel
theorem dX8_settle_134 : decode cX8_settle 134 = .ok (.getfield 13, 3) := by decide +kernel
theorem dX8_settle_137 : decode cX8_settle 137 = .ok (.iconst 0, 1) := by decide +kernel
theorem dX8_settle_138 : decode cX8_settle 138 = .ok (.iaload, 1) := by decide +kernel
theorem dX8_settle_139 : decode cX8_settle 139 = .ok (.i2l, 1) := by decide +kernel
theorem dX8_settle_140 : decode cX8_settle 140 = .ok (.lastore, 1) := by decide +kernel
theorem dX8_settle_141 : decode cX8_settle 141 = .ok (.aload_n 0, 1) := by decide +kernel
theorem dX8_settle_142 : decode cX8_settle 142 = .ok (.getfield 51, 3) := by decide +kernel
theorem dX8_settle_145 : decode cX8_settle 145 = .ok (.iconst 1, 1) := by decide +kernel
theorem dX8_settle_146 : decode cX8_settle 146 = .ok (.aload_n 0, 1) := by decide +kernel
theorem dX8_settle_147 : decode cX8_settle 147 = .ok (.getfield 13, 3) := by decide +kernel
theorem dX8_settle_150 : decode cX8_settle 150 = .ok (.iconst 1, 1) := by decide +kernel
theorem dX8_settle_151 : decode cX8_settle 151 = .ok (.iaload, 1) := by decide +kernel
theorem dX8_settle_152 : decode cX8_settle 152 = .ok (.i2l, 1) := by decide +kernel
theorem dX8_settle_153 : decode cX8_settle 153 = .ok (.lastore, 1) := by decide +kernel
theorem dX8_settle_154 : decode cX8_settle 154 = .ok (.aload_n 0, 1) := by decide +kernel
theorem dX8_settle_155 : decode cX8_settle 155 = .ok (.getfield 51, 3) := by decide +kernel
theorem dX8_settle_158 : decode cX8_settle 158 = .ok (.iconst 2, 1) := by decide +kernel
theorem dX8_settle_159 : decode cX8_settle 159 = .ok (.bipush 100, 2) := by decide +kernel
theorem dX8_settle_161 : decode cX8_settle 161 = .ok (.aload_n 0, 1) := by decide +kernel
theorem dX8_settle_162 : decode cX8_settle 162 = .ok (.getfield 13, 3) := by decide +kernel
theorem dX8_settle_165 : decode cX8_settle 165 = .ok (.iconst 0, 1) := by decide +kernel
theorem dX8_settle_166 : decode cX8_settle 166 = .ok (.iaload, 1) := by decide +kernel
theorem dX8_settle_167 : decode cX8_settle 167 = .ok (.isub, 1) := by decide +kernel
theorem dX8_settle_168 : decode cX8_settle 168 = .ok (.aload_n 0, 1) := by decide +kernel
theorem dX8_settle_169 : decode cX8_settle 169 = .ok (.getfield 13, 3) := by decide +kernel
theorem dX8_settle_172 : decode cX8_settle 172 = .ok (.iconst 1, 1) := by decide +kernel
theorem dX8_settle_173 : decode cX8_settle 173 = .ok (.iaload, 1) := by decide +kernel
theorem dX8_settle_174 : decode cX8_settle 174 = .ok (.isub, 1) := by decide +kernel
theorem dX8_settle_175 : decode cX8_settle 175 = .ok (.i2l, 1) := by decide +kernel
theorem dX8_settle_176 : decode cX8_settle 176 = .ok (.lastore, 1) := by decide +kernel
theorem dX8_settle_177 : decode cX8_settle 177 = .ok (.aload_n 0, 1) := by decide +kernel
theorem dX8_settle_178 : decode cX8_settle 178 = .ok (.lload_n 3, 1) := by decide +kernel
theorem dX8_settle_179 : decode cX8_settle 179 = .ok (.iconst 3, 1) := by decide +kernel
theorem dX8_settle_180 : decode cX8_settle 180 = .ok (.invokevirtual 152, 3) := by decide +kernel
theorem dX8_settle_183 : decode cX8_settle 183 = .ok (.aload_n 0, 1) := by decide +kernel
theorem dX8_settle_184 : decode cX8_settle 184 = .ok (.getfield 54, 3) := by decide +kernel
theorem dX8_settle_187 : decode cX8_settle 187 = .ok (.iconst 0, 1) := by decide +kernel
theorem dX8_settle_188 : decode cX8_settle 188 = .ok (.laload, 1) := by decide +kernel
theorem dX8_settle_189 : decode cX8_settle 189 = .ok (.aload_n 0, 1) := by decide +kernel
theorem dX8_settle_190 : decode cX8_settle 190 = .ok (.iload_n 1, 1) := by decide +kernel
theorem dX8_settle_191 : decode cX8_settle 191 = .ok (.iconst 2, 1) := by decide +kernel
theorem dX8_settle_192 : decode cX8_settle 192 = .ok (.invokevirtual 148, 3) := by decide +kernel
theorem dX8_settle_195 : decode cX8_settle 195 = .ok (.lsub, 1) := by decide +kernel
theorem dX8_settle_196 : decode cX8_settle 196 = .ok (.lstore 5, 2) := by decide +kernel
theorem dX8_settle_198 : decode cX8_settle 198 = .ok (.aload_n 0, 1) := by decide +kernel
theorem dX8_settle_199 : decode cX8_settle 199 = .ok (.getfield 45, 3) := by decide +kernel
theorem dX8_settle_202 : decode cX8_settle 202 = .ok (.bipush 6, 2) := by decide +kernel
theorem dX8_settle_204 : decode cX8_settle 204 = .ok (.iload_n 1, 1) := by decide +kernel
theorem dX8_settle_205 : decode cX8_settle 205 = .ok (.imul, 1) := by decide +kernel
theorem dX8_settle_206 : decode cX8_settle 206 = .ok (.iconst 2, 1) := by decide +kernel
theorem dX8_settle_207 : decode cX8_settle 207 = .ok (.iadd, 1) := by decide +kernel
theorem dX8_settle_208 : decode cX8_settle 208 = .ok (.aload_n 0, 1) := by decide +kernel
theorem dX8_settle_209 : decode cX8_settle 209 = .ok (.getfield 54, 3) := by decide +kernel
theorem dX8_settle_212 : decode cX8_settle 212 = .ok (.iconst 1, 1) := by decide +kernel
theorem dX8_settle_213 : decode cX8_settle 213 = .ok (.laload, 1) := by decide +kernel
theorem dX8_settle_214 : decode cX8_settle 214 = .ok (.lastore, 1) := by decide +kernel
theorem dX8_settle_215 : decode cX8_settle 215 = .ok (.aload_n 0, 1) := by decide +kernel
theorem dX8_settle_216 : decode cX8_settle 216 = .ok (.getfield 54, 3) := by decide +kernel
theorem dX8_settle_219 : decode cX8_settle 219 = .ok (.iconst 2, 1) := by decide +kernel
theorem dX8_settle_220 : decode cX8_settle 220 = .ok (.laload, 1) := by decide +kernel
theorem dX8_settle_221 : decode cX8_settle 221 = .ok (.aload_n 0, 1) := by decide +kernel
theorem dX8_settle_222 : decode cX8_settle 222 = .ok (.iload_n 1, 1) := by decide +kernel
theorem dX8_settle_223 : decode cX8_settle 223 = .ok (.iconst 1, 1) := by decide +kernel
theorem dX8_settle_224 : decode cX8_settle 224 = .ok (.invokevirtual 148, 3) := by decide +kernel
theorem dX8_settle_227 : decode cX8_settle 227 = .ok (.lsub, 1) := by decide +kernel
theorem dX8_settle_228 : decode cX8_settle 228 = .ok (.lstore 7, 2) := by decide +kernel
theorem dX8_settle_230 : decode cX8_settle 230 = .ok (.lload 5, 2) := by decide +kernel
theorem dX8_settle_232 : decode cX8_settle 232 = .ok (.lload 7, 2) := by decide +kernel
theorem dX8_settle_234 : decode cX8_settle 234 = .ok (.lconst 0, 1) := by decide +kernel
theorem dX8_settle_235 : decode cX8_settle 235 = .ok (.lcmp, 1) := by decide +kernel
theorem dX8_settle_236 : decode cX8_settle 236 = .ok (.ifCond .ge 8, 3) := by decide +kernel
theorem dX8_settle_239 : decode cX8_settle 239 = .ok (.lload 7, 2) := by decide +kernel
theorem dX8_settle_241 : decode cX8_settle 241 = .ok (.goto 4, 3) := by decide +kernel
theorem dX8_settle_244 : decode cX8_settle 244 = .ok (.lconst 0, 1) := by decide +kernel
theorem dX8_settle_245 : decode cX8_settle 245 = .ok (.ladd, 1) := by decide +kernel
theorem dX8_settle_246 : decode cX8_settle 246 = .ok (.lstore 5, 2) := by decide +kernel
theorem dX8_settle_248 : decode cX8_settle 248 = .ok (.lload 7, 2) := by decide +kernel
theorem dX8_settle_250 : decode cX8_settle 250 = .ok (.lconst 0, 1) := by decide +kernel
theorem dX8_settle_251 : decode cX8_settle 251 = .ok (.lcmp, 1) := by decide +kernel
theorem dX8_settle_252 : decode cX8_settle 252 = .ok (.ifCond .ge 7, 3) := by decide +kernel
theorem dX8_settle_255 : decode cX8_settle 255 = .ok (.lconst 0, 1) := by decide +kernel
theorem dX8_settle_256 : decode cX8_settle 256 = .ok (.goto 5, 3) := by decide +kernel
theorem dX8_settle_259 : decode cX8_settle 259 = .ok (.lload 7, 2) := by decide +kernel
theorem dX8_settle_261 : decode cX8_settle 261 = .ok (.lstore 7, 2) := by decide +kernel
theorem dX8_settle_263 : decode cX8_settle 263 = .ok (.aload_n 0, 1) := by decide +kernel
theorem dX8_settle_264 : decode cX8_settle 264 = .ok (.getfield 45, 3) := by decide +kernel
theorem dX8_settle_267 : decode cX8_settle 267 = .ok (.bipush 6, 2) := by decide +kernel
theorem dX8_settle_269 : decode cX8_settle 269 = .ok (.iload_n 1, 1) := by decide +kernel
theorem dX8_settle_270 : decode cX8_settle 270 = .ok (.imul, 1) := by decide +kernel
theorem dX8_settle_271 : decode cX8_settle 271 = .ok (.iconst 3, 1) := by decide +kernel
theorem dX8_settle_272 : decode cX8_settle 272 = .ok (.iadd, 1) := by decide +kernel
theorem dX8_settle_273 : decode cX8_settle 273 = .ok (.lload 7, 2) := by decide +kernel
theorem dX8_settle_275 : decode cX8_settle 275 = .ok (.lastore, 1) := by decide +kernel
theorem dX8_settle_276 : decode cX8_settle 276 = .ok (.lconst 0, 1) := by decide +kernel
theorem dX8_settle_277 : decode cX8_settle 277 = .ok (.lstore 9, 2) := by decide +kernel
theorem dX8_settle_279 : decode cX8_settle 279 = .ok (.iconst 0, 1) := by decide +kernel
theorem dX8_settle_280 : decode cX8_settle 280 = .ok (.istore 11, 2) := by decide +kernel
theorem dX8_settle_282 : decode cX8_settle 282 = .ok (.iconst 0, 1) := by decide +kernel
theorem dX8_settle_283 : decode cX8_settle 283 = .ok (.istore 12, 2) := by decide +kernel
theorem dX8_settle_285 : decode cX8_settle 285 = .ok (.iload 12, 2) := by decide +kernel
theorem dX8_settle_287 : decode cX8_settle 287 = .ok (.aload_n 0, 1) := by decide +kernel
theorem dX8_settle_288 : decode cX8_settle 288 = .ok (.getfield 123, 3) := by decide +kernel
theorem dX8_settle_291 : decode cX8_settle 291 = .ok (.if_icmp .ge 85, 3) := by decide +kernel
theorem dX8_settle_294 : decode cX8_settle 294 = .ok (.aload_n 0, 1) := by decide +kernel
theorem dX8_settle_295 : decode cX8_settle 295 = .ok (.getfield 38, 3) := by decide +kernel
theorem dX8_settle_298 : decode cX8_settle 298 = .ok (.bipush 12, 2) := by decide +kernel
theorem dX8_settle_300 : decode cX8_settle 300 = .ok (.iload_n 1, 1) := by decide +kernel
theorem dX8_settle_301 : decode cX8_settle 301 = .ok (.imul, 1) := by decide +kernel
theorem dX8_settle_302 : decode cX8_settle 302 = .ok (.iload 12, 2) := by decide +kernel
theorem dX8_settle_304 : decode cX8_settle 304 = .ok (.iadd, 1) := by decide +kernel
theorem dX8_settle_305 : decode cX8_settle 305 = .ok (.iaload, 1) := by decide +kernel
theorem dX8_settle_306 : decode cX8_settle 306 = .ok (.istore 13, 2) := by decide +kernel
theorem dX8_settle_308 : decode cX8_settle 308 = .ok (.aload_n 0, 1) := by decide +kernel
theorem dX8_settle_309 : decode cX8_settle 309 = .ok (.getfield 51, 3) := by decide +kernel
theorem dX8_settle_312 : decode cX8_settle 312 = .ok (.iload 12, 2) := by decide +kernel
theorem dX8_settle_314 : decode cX8_settle 314 = .ok (.iload 13, 2) := by decide +kernel
theorem dX8_settle_316 : decode cX8_settle 316 = .ok (.i2l, 1) := by decide +kernel
theorem dX8_settle_317 : decode cX8_settle 317 = .ok (.aload_n 0, 1) := by decide +kernel
theorem dX8_settle_318 : decode cX8_settle 318 = .ok (.getfield 13, 3) := by decide +kernel
theorem dX8_settle_321 : decode cX8_settle 321 = .ok (.bipush 12, 2) := by decide +kernel
theorem dX8_settle_323 : decode cX8_settle 323 = .ok (.aload_n 0, 1) := by decide +kernel
theorem dX8_settle_324 : decode cX8_settle 324 = .ok (.getfield 23, 3) := by decide +kernel
theorem dX8_settle_327 : decode cX8_settle 327 = .ok (.iload 12, 2) := by decide +kernel
theorem dX8_settle_329 : decode cX8_settle 329 = .ok (.iaload, 1) := by decide +kernel
theorem dX8_settle_330 : decode cX8_settle 330 = .ok (.iadd, 1) := by decide +kernel
theorem dX8_settle_331 : decode cX8_settle 331 = .ok (.iaload, 1) := by decide +kernel
theorem dX8_settle_332 : decode cX8_settle 332 = .ok (.i2l, 1) := by decide +kernel
theorem dX8_settle_333 : decode cX8_settle 333 = .ok (.lmul, 1) := by decide +kernel
theorem dX8_settle_334 : decode cX8_settle 334 = .ok (.lastore, 1) := by decide +kernel
theorem dX8_settle_335 : decode cX8_settle 335 = .ok (.aload_n 0, 1) := by decide +kernel
theorem dX8_settle_336 : decode cX8_settle 336 = .ok (.getfield 54, 3) := by decide +kernel
theorem dX8_settle_339 : decode cX8_settle 339 = .ok (.iload 12, 2) := by decide +kernel
theorem dX8_settle_341 : decode cX8_settle 341 = .ok (.lconst 0, 1) := by decide +kernel
theorem dX8_settle_342 : decode cX8_settle 342 = .ok (.lastore, 1) := by decide +kernel
theorem dX8_settle_343 : decode cX8_settle 343 = .ok (.lload 9, 2) := by decide +kernel
theorem dX8_settle_345 : decode cX8_settle 345 = .ok (.aload_n 0, 1) := by decide +kernel
theorem dX8_settle_346 : decode cX8_settle 346 = .ok (.getfield 51, 3) := by decide +kernel
theorem dX8_settle_349 : decode cX8_settle 349 = .ok (.iload 12, 2) := by decide +kernel
theorem dX8_settle_351 : decode cX8_settle 351 = .ok (.laload, 1) := by decide +kernel
theorem dX8_settle_352 : decode cX8_settle 352 = .ok (.ladd, 1) := by decide +kernel
theorem dX8_settle_353 : decode cX8_settle 353 = .ok (.lstore 9, 2) := by decide +kernel
theorem dX8_settle_355 : decode cX8_settle 355 = .ok (.iload 11, 2) := by decide +kernel
theorem dX8_settle_357 : decode cX8_settle 357 = .ok (.iload 13, 2) := by decide +kernel
theorem dX8_settle_359 : decode cX8_settle 359 = .ok (.ifCond .le 7, 3) := by decide +kernel
theorem dX8_settle_362 : decode cX8_settle 362 = .ok (.iconst 1, 1) := by decide +kernel
theorem dX8_settle_363 : decode cX8_settle 363 = .ok (.goto 4, 3) := by decide +kernel
theorem dX8_settle_366 : decode cX8_settle 366 = .ok (.iconst 0, 1) := by decide +kernel
theorem dX8_settle_367 : decode cX8_settle 367 = .ok (.iadd, 1) := by decide +kernel
theorem dX8_settle_368 : decode cX8_settle 368 = .ok (.istore 11, 2) := by decide +kernel
theorem dX8_settle_370 : decode cX8_settle 370 = .ok (.iinc 12 1, 3) := by decide +kernel
theorem dX8_settle_373 : decode cX8_settle 373 = .ok (.goto (-88), 3) := by decide +kernel
theorem dX8_settle_376 : decode cX8_settle 376 = .ok (.lload 9, 2) := by decide +kernel
theorem dX8_settle_378 : decode cX8_settle 378 = .ok (.lconst 0, 1) := by decide +kernel
theorem dX8_settle_379 : decode cX8_settle 379 = .ok (.lcmp, 1) := by decide +kernel
theorem dX8_settle_380 : decode cX8_settle 380 = .ok (.ifCond .le 16, 3) := by decide +kernel
theorem dX8_settle_383 : decode cX8_settle 383 = .ok (.aload_n 0, 1) := by decide +kernel
theorem dX8_settle_384 : decode cX8_settle 384 = .ok (.lload 7, 2) := by decide +kernel
theorem dX8_settle_386 : decode cX8_settle 386 = .ok (.aload_n 0, 1) := by decide +kernel
theorem dX8_settle_387 : decode cX8_settle 387 = .ok (.getfield 123, 3) := by decide +kernel
theorem dX8_settle_390 : decode cX8_settle 390 = .ok (.invokevirtual 152, 3) := by decide +kernel
theorem dX8_settle_393 : decode cX8_settle 393 = .ok (.goto 10, 3) := by decide +kernel
theorem dX8_settle_396 : decode cX8_settle 396 = .ok (.lload 5, 2) := by decide +kernel
theorem dX8_settle_398 : decode cX8_settle 398 = .ok (.lload 7, 2) := by decide +kernel
theorem dX8_settle_400 : decode cX8_settle 400 = .ok (.ladd, 1) := by decide +kernel
theorem dX8_settle_401 : decode cX8_settle 401 = .ok (.lstore 5, 2) := by decide +kernel
theorem dX8_settle_403 : decode cX8_settle 403 = .ok (.iconst 0, 1) := by decide +kernel
theorem dX8_settle_404 : decode cX8_settle 404 = .ok (.istore 12, 2) := by decide +kernel
theorem dX8_settle_406 : decode cX8_settle 406 = .ok (.iload 12, 2) := by decide +kernel
theorem dX8_settle_408 : decode cX8_settle 408 = .ok (.aload_n 0, 1) := by decide +kernel
theorem dX8_settle_409 : decode cX8_settle 409 = .ok (.getfield 123, 3) := by decide +kernel
theorem dX8_settle_412 : decode cX8_settle 412 = .ok (.if_icmp .ge 189, 3) := by decide +kernel
theorem dX8_settle_415 : decode cX8_settle 415 = .ok (.bipush 48, 2) := by decide +kernel
theorem dX8_settle_417 : decode cX8_settle 417 = .ok (.iload_n 1, 1) := by decide +kernel
theorem dX8_settle_418 : decode cX8_settle 418 = .ok (.imul, 1) := by decide +kernel
theorem dX8_settle_419 : decode cX8_settle 419 = .ok (.iconst 4, 1) := by decide +kernel
theorem dX8_settle_420 : decode cX8_settle 420 = .ok (.iload 12, 2) := by decide +kernel
theorem dX8_settle_422 : decode cX8_settle 422 = .ok (.imul, 1) := by decide +kernel
theorem dX8_settle_423 : decode cX8_settle 423 = .ok (.iadd, 1) := by decide +kernel
theorem dX8_settle_424 : decode cX8_settle 424 = .ok (.istore 13, 2) := by decide +kernel
theorem dX8_settle_426 : decode cX8_settle 426 = .ok (.aload_n 0, 1) := by decide +kernel
theorem dX8_settle_427 : decode cX8_settle 427 = .ok (.getfield 38, 3) := by decide +kernel
theorem dX8_settle_430 : decode cX8_settle 430 = .ok (.bipush 12, 2) := by decide +kernel
theorem dX8_settle_432 : decode cX8_settle 432 = .ok (.iload_n 1, 1) := by decide +kernel
theorem dX8_settle_433 : decode cX8_settle 433 = .ok (.imul, 1) := by decide +kernel
theorem dX8_settle_434 : decode cX8_settle 434 = .ok (.iload 12, 2) := by decide +kernel
theorem dX8_settle_436 : decode cX8_settle 436 = .ok (.iadd, 1) := by decide +kernel
theorem dX8_settle_437 : decode cX8_settle 437 = .ok (.iaload, 1) := by decide +kernel
theorem dX8_settle_438 : decode cX8_settle 438 = .ok (.i2l, 1) := by decide +kernel
theorem dX8_settle_439 : decode cX8_settle 439 = .ok (.aload_n 0, 1) := by decide +kernel
theorem dX8_settle_440 : decode cX8_settle 440 = .ok (.getfield 13, 3) := by decide +kernel
theorem dX8_settle_443 : decode cX8_settle 443 = .ok (.bipush 22, 2) := by decide +kernel
theorem dX8_settle_445 : decode cX8_settle 445 = .ok (.aload_n 0, 1) := by decide +kernel
theorem dX8_settle_446 : decode cX8_settle 446 = .ok (.getfield 23, 3) := by decide +kernel
theorem dX8_settle_449 : decode cX8_settle 449 = .ok (.iload 12, 2) := by decide +kernel
theorem dX8_settle_451 : decode cX8_settle 451 = .ok (.iaload, 1) := by decide +kernel
theorem dX8_settle_452 : decode cX8_settle 452 = .ok (.iadd, 1) := by decide +kernel
theorem dX8_settle_453 : decode cX8_settle 453 = .ok (.iaload, 1) := by decide +kernel
theorem dX8_settle_454 : decode cX8_settle 454 = .ok (.i2l, 1) := by decide +kernel
theorem dX8_settle_455 : decode cX8_settle 455 = .ok (.lmul, 1) := by decide +kernel
theorem dX8_settle_456 : decode cX8_settle 456 = .ok (.lstore 14, 2) := by decide +kernel
theorem dX8_settle_458 : decode cX8_settle 458 = .ok (.lload 14, 2) := by decide +kernel
theorem dX8_settle_460 : decode cX8_settle 460 = .ok (.aload_n 0, 1) := by decide +kernel
theorem dX8_settle_461 : decode cX8_settle 461 = .ok (.getfield 54, 3) := by decide +kernel
theorem dX8_settle_464 : decode cX8_settle 464 = .ok (.iload 12, 2) := by decide +kernel
theorem dX8_settle_466 : decode cX8_settle 466 = .ok (.laload, 1) := by decide +kernel
theorem dX8_settle_467 : decode cX8_settle 467 = .ok (.lcmp, 1) := by decide +kernel
theorem dX8_settle_468 : decode cX8_settle 468 = .ok (.ifCond .le 16, 3) := by decide +kernel
theorem dX8_settle_471 : decode cX8_settle 471 = .ok (.lload 14, 2) := by decide +kernel
theorem dX8_settle_473 : decode cX8_settle 473 = .ok (.aload_n 0, 1) := by decide +kernel
theorem dX8_settle_474 : decode cX8_settle 474 = .ok (.getfield 54, 3) := by decide +kernel
theorem dX8_settle_477 : decode cX8_settle 477 = .ok (.iload 12, 2) := by decide +kernel
theorem dX8_settle_479 : decode cX8_settle 479 = .ok (.laload, 1) := by decide +kernel
theorem dX8_settle_480 : decode cX8_settle 480 = .ok (.lsub, 1) := by decide +kernel
theorem dX8_settle_481 : decode cX8_settle 481 = .ok (.goto 4, 3) := by decide +kernel
theorem dX8_settle_484 : decode cX8_settle 484 = .ok (.lconst 0, 1) := by decide +kernel
theorem dX8_settle_485 : decode cX8_settle 485 = .ok (.lstore 16, 2) := by decide +kernel
theorem dX8_settle_487 : decode cX8_settle 487 = .ok (.aload_n 0, 1) := by decide +kernel
theorem dX8_settle_488 : decode cX8_settle 488 = .ok (.getfield 54, 3) := by decide +kernel
theorem dX8_settle_491 : decode cX8_settle 491 = .ok (.iload 12, 2) := by decide +kernel
theorem dX8_settle_493 : decode cX8_settle 493 = .ok (.laload, 1) := by decide +kernel
theorem dX8_settle_494 : decode cX8_settle 494 = .ok (.lload 16, 2) := by decide +kernel
theorem dX8_settle_496 : decode cX8_settle 496 = .ok (.ladd, 1) := by decide +kernel
theorem dX8_settle_497 : decode cX8_settle 497 = .ok (.lstore 18, 2) := by decide +kernel
theorem dX8_settle_499 : decode cX8_settle 499 = .ok (.aload_n 0, 1) := by decide +kernel
theorem dX8_settle_500 : decode cX8_settle 500 = .ok (.getfield 26, 3) := by decide +kernel
theorem dX8_settle_503 : decode cX8_settle 503 = .ok (.iload 12, 2) := by decide +kernel
theorem dX8_settle_505 : decode cX8_settle 505 = .ok (.laload, 1) := by decide +kernel
theorem dX8_settle_506 : decode cX8_settle 506 = .ok (.lload 18, 2) := by decide +kernel
theorem dX8_settle_508 : decode cX8_settle 508 = .ok (.lcmp, 1) := by decide +kernel
theorem dX8_settle_509 : decode cX8_settle 509 = .ok (.ifCond .ge 13, 3) := by decide +kernel
theorem dX8_settle_512 : decode cX8_settle 512 = .ok (.aload_n 0, 1) := by decide +kernel
theorem dX8_settle_513 : decode cX8_settle 513 = .ok (.getfield 26, 3) := by decide +kernel
theorem dX8_settle_516 : decode cX8_settle 516 = .ok (.iload 12, 2) := by decide +kernel
theorem dX8_settle_518 : decode cX8_settle 518 = .ok (.laload, 1) := by decide +kernel
theorem dX8_settle_519 : decode cX8_settle 519 = .ok (.goto 5, 3) := by decide +kernel
theorem dX8_settle_522 : decode cX8_settle 522 = .ok (.lload 18, 2) := by decide +kernel
theorem dX8_settle_524 : decode cX8_settle 524 = .ok (.lstore 20, 2) := by decide +kernel
theorem dX8_settle_526 : decode cX8_settle 526 = .ok (.lload 5, 2) := by decide +kernel
theorem dX8_settle_528 : decode cX8_settle 528 = .ok (.lload 16, 2) := by decide +kernel
theorem dX8_settle_530 : decode cX8_settle 530 = .ok (.lsub, 1) := by decide +kernel
theorem dX8_settle_531 : decode cX8_settle 531 = .ok (.lstore 5, 2) := by decide +kernel
theorem dX8_settle_533 : decode cX8_settle 533 = .ok (.aload_n 0, 1) := by decide +kernel
theorem dX8_settle_534 : decode cX8_settle 534 = .ok (.getfield 26, 3) := by decide +kernel
theorem dX8_settle_537 : decode cX8_settle 537 = .ok (.iload 12, 2) := by decide +kernel
theorem dX8_settle_539 : decode cX8_settle 539 = .ok (.dup2, 1) := by decide +kernel
theorem dX8_settle_540 : decode cX8_settle 540 = .ok (.laload, 1) := by decide +kernel
theorem dX8_settle_541 : decode cX8_settle 541 = .ok (.lload 20, 2) := by decide +kernel
theorem dX8_settle_543 : decode cX8_settle 543 = .ok (.lsub, 1) := by decide +kernel
theorem dX8_settle_544 : decode cX8_settle 544 = .ok (.lastore, 1) := by decide +kernel
theorem dX8_settle_545 : decode cX8_settle 545 = .ok (.aload_n 0, 1) := by decide +kernel
theorem dX8_settle_546 : decode cX8_settle 546 = .ok (.getfield 48, 3) := by decide +kernel
theorem dX8_settle_549 : decode cX8_settle 549 = .ok (.iload 13, 2) := by decide +kernel
theorem dX8_settle_551 : decode cX8_settle 551 = .ok (.aload_n 0, 1) := by decide +kernel
theorem dX8_settle_552 : decode cX8_settle 552 = .ok (.getfield 54, 3) := by decide +kernel
theorem dX8_settle_555 : decode cX8_settle 555 = .ok (.iload 12, 2) := by decide +kernel
theorem dX8_settle_557 : decode cX8_settle 557 = .ok (.laload, 1) := by decide +kernel
theorem dX8_settle_558 : decode cX8_settle 558 = .ok (.lastore, 1) := by decide +kernel
theorem dX8_settle_559 : decode cX8_settle 559 = .ok (.aload_n 0, 1) := by decide +kernel
theorem dX8_settle_560 : decode cX8_settle 560 = .ok (.getfield 48, 3) := by decide +kernel
theorem dX8_settle_563 : decode cX8_settle 563 = .ok (.iload 13, 2) := by decide +kernel
theorem dX8_settle_565 : decode cX8_settle 565 = .ok (.iconst 1, 1) := by decide +kernel
theorem dX8_settle_566 : decode cX8_settle 566 = .ok (.iadd, 1) := by decide +kernel
theorem dX8_settle_567 : decode cX8_settle 567 = .ok (.lload 16, 2) := by decide +kernel
theorem dX8_settle_569 : decode cX8_settle 569 = .ok (.lastore, 1) := by decide +kernel
theorem dX8_settle_570 : decode cX8_settle 570 = .ok (.aload_n 0, 1) := by decide +kernel
theorem dX8_settle_571 : decode cX8_settle 571 = .ok (.getfield 48, 3) := by decide +kernel
theorem dX8_settle_574 : decode cX8_settle 574 = .ok (.iload 13, 2) := by decide +kernel
theorem dX8_settle_576 : decode cX8_settle 576 = .ok (.iconst 2, 1) := by decide +kernel
theorem dX8_settle_577 : decode cX8_settle 577 = .ok (.iadd, 1) := by decide +kernel
theorem dX8_settle_578 : decode cX8_settle 578 = .ok (.lload 20, 2) := by decide +kernel
theorem dX8_settle_580 : decode cX8_settle 580 = .ok (.lastore, 1) := by decide +kernel
theorem dX8_settle_581 : decode cX8_settle 581 = .ok (.aload_n 0, 1) := by decide +kernel
theorem dX8_settle_582 : decode cX8_settle 582 = .ok (.getfield 48, 3) := by decide +kernel
theorem dX8_settle_585 : decode cX8_settle 585 = .ok (.iload 13, 2) := by decide +kernel
theorem dX8_settle_587 : decode cX8_settle 587 = .ok (.iconst 3, 1) := by decide +kernel
theorem dX8_settle_588 : decode cX8_settle 588 = .ok (.iadd, 1) := by decide +kernel
theorem dX8_settle_589 : decode cX8_settle 589 = .ok (.lload 18, 2) := by decide +kernel
theorem dX8_settle_591 : decode cX8_settle 591 = .ok (.lload 20, 2) := by decide +kernel
theorem dX8_settle_593 : decode cX8_settle 593 = .ok (.lsub, 1) := by decide +kernel
theorem dX8_settle_594 : decode cX8_settle 594 = .ok (.lastore, 1) := by decide +kernel
theorem dX8_settle_595 : decode cX8_settle 595 = .ok (.iinc 12 1, 3) := by decide +kernel
theorem dX8_settle_598 : decode cX8_settle 598 = .ok (.goto (-192), 3) := by decide +kernel
theorem dX8_settle_601 : decode cX8_settle 601 = .ok (.aload_n 0, 1) := by decide +kernel
theorem dX8_settle_602 : decode cX8_settle 602 = .ok (.getfield 45, 3) := by decide +kernel
theorem dX8_settle_605 : decode cX8_settle 605 = .ok (.bipush 6, 2) := by decide +kernel
theorem dX8_settle_607 : decode cX8_settle 607 = .ok (.iload_n 1, 1) := by decide +kernel
theorem dX8_settle_608 : decode cX8_settle 608 = .ok (.imul, 1) := by decide +kernel
theorem dX8_settle_609 : decode cX8_settle 609 = .ok (.iconst 1, 1) := by decide +kernel
theorem dX8_settle_610 : decode cX8_settle 610 = .ok (.iadd, 1) := by decide +kernel
theorem dX8_settle_611 : decode cX8_settle 611 = .ok (.lload 5, 2) := by decide +kernel
theorem dX8_settle_613 : decode cX8_settle 613 = .ok (.lastore, 1) := by decide +kernel
theorem dX8_settle_614 : decode cX8_settle 614 = .ok (.iload 11, 2) := by decide +kernel
theorem dX8_settle_616 : decode cX8_settle 616 = .ok (.ireturn, 1) := by decide +kernel
theorem dX8_part_0 : decode cX8_part 0 = .ok (.aload_n 0, 1) := by decide +kernel
theorem dX8_part_1 : decode cX8_part 1 = .ok (.iload_n 1, 1) := by decide +kernel
theorem dX8_part_2 : decode cX8_part 2 = .ok (.invokevirtual 141, 3) := by decide +kernel
theorem dX8_part_5 : decode cX8_part 5 = .ok (.ifCond .eq 38, 3) := by decide +kernel
theorem dX8_part_8 : decode cX8_part 8 = .ok (.aload_n 0, 1) := by decide +kernel
theorem dX8_part_9 : decode cX8_part 9 = .ok (.getfield 41, 3) := by decide +kernel
theorem dX8_part_12 : decode cX8_part 12 = .ok (.iload_n 1, 1) := by decide +kernel
theorem dX8_part_13 : decode cX8_part 13 = .ok (.baload, 1) := by decide +kernel
theorem dX8_part_14 : decode cX8_part 14 = .ok (.ifCond .eq 29, 3) := by decide +kernel
theorem dX8_part_17 : decode cX8_part 17 = .ok (.iload_n 2, 1) := by decide +kernel
theorem dX8_part_18 : decode cX8_part 18 = .ok (.i2l, 1) := by decide +kernel
theorem dX8_part_19 : decode cX8_part 19 = .ok (.lconst 0, 1) := by decide +kernel
theorem dX8_part_20 : decode cX8_part 20 = .ok (.ldc2_w 156, 3) := by decide +kernel
theorem dX8_part_23 : decode cX8_part 23 = .ok (.invokestatic 80, 3) := by decide +kernel
theorem dX8_part_26 : decode cX8_part 26 = .ok (.ifCond .eq 17, 3) := by decide +kernel
theorem dX8_part_29 : decode cX8_part 29 = .ok (.aload_n 0, 1) := by decide +kernel
theorem dX8_part_30 : decode cX8_part 30 = .ok (.getfield 45, 3) := by decide +kernel
theorem dX8_part_33 : decode cX8_part 33 = .ok (.bipush 6, 2) := by decide +kernel
theorem dX8_part_35 : decode cX8_part 35 = .ok (.iload_n 1, 1) := by decide +kernel
theorem dX8_part_36 : decode cX8_part 36 = .ok (.imul, 1) := by decide +kernel
theorem dX8_part_37 : decode cX8_part 37 = .ok (.iload_n 2, 1) := by decide +kernel
theorem dX8_part_38 : decode cX8_part 38 = .ok (.iadd, 1) := by decide +kernel
theorem dX8_part_39 : decode cX8_part 39 = .ok (.laload, 1) := by decide +kernel
theorem dX8_part_40 : decode cX8_part 40 = .ok (.goto 6, 3) := by decide +kernel
theorem dX8_part_43 : decode cX8_part 43 = .ok (.ldc2_w 158, 3) := by decide +kernel
theorem dX8_part_46 : decode cX8_part 46 = .ok (.lreturn, 1) := by decide +kernel
theorem dX8_share_0 : decode cX8_share 0 = .ok (.aload_n 0, 1) := by decide +kernel
theorem dX8_share_1 : decode cX8_share 1 = .ok (.iload_n 1, 1) := by decide +kernel
theorem dX8_share_2 : decode cX8_share 2 = .ok (.invokevirtual 141, 3) := by decide +kernel
theorem dX8_share_5 : decode cX8_share 5 = .ok (.ifCond .eq 50, 3) := by decide +kernel
theorem dX8_share_8 : decode cX8_share 8 = .ok (.aload_n 0, 1) := by decide +kernel
theorem dX8_share_9 : decode cX8_share 9 = .ok (.getfield 41, 3) := by decide +kernel
theorem dX8_share_12 : decode cX8_share 12 = .ok (.iload_n 1, 1) := by decide +kernel
theorem dX8_share_13 : decode cX8_share 13 = .ok (.baload, 1) := by decide +kernel
theorem dX8_share_14 : decode cX8_share 14 = .ok (.ifCond .eq 41, 3) := by decide +kernel
theorem dX8_share_17 : decode cX8_share 17 = .ok (.aload_n 0, 1) := by decide +kernel
theorem dX8_share_18 : decode cX8_share 18 = .ok (.iload_n 2, 1) := by decide +kernel
theorem dX8_share_19 : decode cX8_share 19 = .ok (.invokevirtual 131, 3) := by decide +kernel
theorem dX8_share_22 : decode cX8_share 22 = .ok (.ifCond .eq 33, 3) := by decide +kernel
theorem dX8_share_25 : decode cX8_share 25 = .ok (.iload_n 3, 1) := by decide +kernel
theorem dX8_share_26 : decode cX8_share 26 = .ok (.i2l, 1) := by decide +kernel
theorem dX8_share_27 : decode cX8_share 27 = .ok (.lconst 0, 1) := by decide +kernel
theorem dX8_share_28 : decode cX8_share 28 = .ok (.ldc2_w 137, 3) := by decide +kernel
theorem dX8_share_31 : decode cX8_share 31 = .ok (.invokestatic 80, 3) := by decide +kernel
theorem dX8_share_34 : decode cX8_share 34 = .ok (.ifCond .eq 21, 3) := by decide +kernel
theorem dX8_share_37 : decode cX8_share 37 = .ok (.aload_n 0, 1) := by decide +kernel
theorem dX8_share_38 : decode cX8_share 38 = .ok (.getfield 48, 3) := by decide +kernel
theorem dX8_share_41 : decode cX8_share 41 = .ok (.bipush 48, 2) := by decide +kernel
theorem dX8_share_43 : decode cX8_share 43 = .ok (.iload_n 1, 1) := by decide +kernel
theorem dX8_share_44 : decode cX8_share 44 = .ok (.imul, 1) := by decide +kernel
theorem dX8_share_45 : decode cX8_share 45 = .ok (.iconst 4, 1) := by decide +kernel
theorem dX8_share_46 : decode cX8_share 46 = .ok (.iload_n 2, 1) := by decide +kernel
theorem dX8_share_47 : decode cX8_share 47 = .ok (.imul, 1) := by decide +kernel
theorem dX8_share_48 : decode cX8_share 48 = .ok (.iadd, 1) := by decide +kernel
theorem dX8_share_49 : decode cX8_share 49 = .ok (.iload_n 3, 1) := by decide +kernel
theorem dX8_share_50 : decode cX8_share 50 = .ok (.iadd, 1) := by decide +kernel
theorem dX8_share_51 : decode cX8_share 51 = .ok (.laload, 1) := by decide +kernel
theorem dX8_share_52 : decode cX8_share 52 = .ok (.goto 6, 3) := by decide +kernel
theorem dX8_share_55 : decode cX8_share 55 = .ok (.ldc2_w 158, 3) := by decide +kernel
theorem dX8_share_58 : decode cX8_share 58 = .ok (.lreturn, 1) := by decide +kernel
theorem dX8_carried_0 : decode cX8_carried 0 = .ok (.iload_n 1, 1) := by decide +kernel
theorem dX8_carried_1 : decode cX8_carried 1 = .ok (.i2l, 1) := by decide +kernel
theorem dX8_carried_2 : decode cX8_carried 2 = .ok (.lconst 0, 1) := by decide +kernel
theorem dX8_carried_3 : decode cX8_carried 3 = .ok (.ldc2_w 137, 3) := by decide +kernel
theorem dX8_carried_6 : decode cX8_carried 6 = .ok (.invokestatic 80, 3) := by decide +kernel
theorem dX8_carried_9 : decode cX8_carried 9 = .ok (.ifCond .eq 12, 3) := by decide +kernel
theorem dX8_carried_12 : decode cX8_carried 12 = .ok (.aload_n 0, 1) := by decide +kernel
theorem dX8_carried_13 : decode cX8_carried 13 = .ok (.getfield 19, 3) := by decide +kernel
theorem dX8_carried_16 : decode cX8_carried 16 = .ok (.iload_n 1, 1) := by decide +kernel
theorem dX8_carried_17 : decode cX8_carried 17 = .ok (.laload, 1) := by decide +kernel
theorem dX8_carried_18 : decode cX8_carried 18 = .ok (.goto 29, 3) := by decide +kernel
theorem dX8_carried_21 : decode cX8_carried 21 = .ok (.aload_n 0, 1) := by decide +kernel
theorem dX8_carried_22 : decode cX8_carried 22 = .ok (.iload_n 1, 1) := by decide +kernel
theorem dX8_carried_23 : decode cX8_carried 23 = .ok (.bipush 100, 2) := by decide +kernel
theorem dX8_carried_25 : decode cX8_carried 25 = .ok (.isub, 1) := by decide +kernel
theorem dX8_carried_26 : decode cX8_carried 26 = .ok (.invokevirtual 131, 3) := by decide +kernel
theorem dX8_carried_29 : decode cX8_carried 29 = .ok (.ifCond .eq 15, 3) := by decide +kernel
theorem dX8_carried_32 : decode cX8_carried 32 = .ok (.aload_n 0, 1) := by decide +kernel
theorem dX8_carried_33 : decode cX8_carried 33 = .ok (.getfield 26, 3) := by decide +kernel
theorem dX8_carried_36 : decode cX8_carried 36 = .ok (.iload_n 1, 1) := by decide +kernel
theorem dX8_carried_37 : decode cX8_carried 37 = .ok (.bipush 100, 2) := by decide +kernel
theorem dX8_carried_39 : decode cX8_carried 39 = .ok (.isub, 1) := by decide +kernel
theorem dX8_carried_40 : decode cX8_carried 40 = .ok (.laload, 1) := by decide +kernel
theorem dX8_carried_41 : decode cX8_carried 41 = .ok (.goto 6, 3) := by decide +kernel
theorem dX8_carried_44 : decode cX8_carried 44 = .ok (.ldc2_w 146, 3) := by decide +kernel
theorem dX8_carried_47 : decode cX8_carried 47 = .ok (.lreturn, 1) := by decide +kernel
theorem dX8_sums_0 : decode cX8_sums 0 = .ok (.aload_n 0, 1) := by decide +kernel
theorem dX8_sums_1 : decode cX8_sums 1 = .ok (.iload_n 1, 1) := by decide +kernel
theorem dX8_sums_2 : decode cX8_sums 2 = .ok (.invokevirtual 141, 3) := by decide +kernel
theorem dX8_sums_5 : decode cX8_sums 5 = .ok (.ifCond .eq 12, 3) := by decide +kernel
theorem dX8_sums_8 : decode cX8_sums 8 = .ok (.aload_n 0, 1) := by decide +kernel
theorem dX8_sums_9 : decode cX8_sums 9 = .ok (.getfield 41, 3) := by decide +kernel
theorem dX8_sums_12 : decode cX8_sums 12 = .ok (.iload_n 1, 1) := by decide +kernel
theorem dX8_sums_13 : decode cX8_sums 13 = .ok (.baload, 1) := by decide +kernel
theorem dX8_sums_14 : decode cX8_sums 14 = .ok (.ifCond .ne 5, 3) := by decide +kernel
theorem dX8_sums_17 : decode cX8_sums 17 = .ok (.iconst 0, 1) := by decide +kernel
theorem dX8_sums_18 : decode cX8_sums 18 = .ok (.ireturn, 1) := by decide +kernel
theorem dX8_sums_19 : decode cX8_sums 19 = .ok (.aload_n 0, 1) := by decide +kernel
theorem dX8_sums_20 : decode cX8_sums 20 = .ok (.getfield 45, 3) := by decide +kernel
theorem dX8_sums_23 : decode cX8_sums 23 = .ok (.bipush 6, 2) := by decide +kernel
theorem dX8_sums_25 : decode cX8_sums 25 = .ok (.iload_n 1, 1) := by decide +kernel
theorem dX8_sums_26 : decode cX8_sums 26 = .ok (.imul, 1) := by decide +kernel
theorem dX8_sums_27 : decode cX8_sums 27 = .ok (.iconst 1, 1) := by decide +kernel
theorem dX8_sums_28 : decode cX8_sums 28 = .ok (.iadd, 1) := by decide +kernel
theorem dX8_sums_29 : decode cX8_sums 29 = .ok (.laload, 1) := by decide +kernel
theorem dX8_sums_30 : decode cX8_sums 30 = .ok (.aload_n 0, 1) := by decide +kernel
theorem dX8_sums_31 : decode cX8_sums 31 = .ok (.getfield 45, 3) := by decide +kernel
theorem dX8_sums_34 : decode cX8_sums 34 = .ok (.bipush 6, 2) := by decide +kernel
theorem dX8_sums_36 : decode cX8_sums 36 = .ok (.iload_n 1, 1) := by decide +kernel
theorem dX8_sums_37 : decode cX8_sums 37 = .ok (.imul, 1) := by decide +kernel
theorem dX8_sums_38 : decode cX8_sums 38 = .ok (.iconst 2, 1) := by decide +kernel
theorem dX8_sums_39 : decode cX8_sums 39 = .ok (.iadd, 1) := by decide +kernel
theorem dX8_sums_40 : decode cX8_sums 40 = .ok (.laload, 1) := by decide +kernel
theorem dX8_sums_41 : decode cX8_sums 41 = .ok (.ladd, 1) := by decide +kernel
theorem dX8_sums_42 : decode cX8_sums 42 = .ok (.lstore_n 2, 1) := by decide +kernel
theorem dX8_sums_43 : decode cX8_sums 43 = .ok (.iconst 0, 1) := by decide +kernel
theorem dX8_sums_44 : decode cX8_sums 44 = .ok (.istore 4, 2) := by decide +kernel
theorem dX8_sums_46 : decode cX8_sums 46 = .ok (.iload 4, 2) := by decide +kernel
theorem dX8_sums_48 : decode cX8_sums 48 = .ok (.bipush 12, 2) := by decide +kernel
theorem dX8_sums_50 : decode cX8_sums 50 = .ok (.if_icmp .ge 43, 3) := by decide +kernel
theorem dX8_sums_53 : decode cX8_sums 53 = .ok (.lload_n 2, 1) := by decide +kernel
theorem dX8_sums_54 : decode cX8_sums 54 = .ok (.aload_n 0, 1) := by decide +kernel
theorem dX8_sums_55 : decode cX8_sums 55 = .ok (.getfield 48, 3) := by decide +kernel
theorem dX8_sums_58 : decode cX8_sums 58 = .ok (.bipush 48, 2) := by decide +kernel
theorem dX8_sums_60 : decode cX8_sums 60 = .ok (.iload_n 1, 1) := by decide +kernel
theorem dX8_sums_61 : decode cX8_sums 61 = .ok (.imul, 1) := by decide +kernel
theorem dX8_sums_62 : decode cX8_sums 62 = .ok (.iconst 4, 1) := by decide +kernel
theorem dX8_sums_63 : decode cX8_sums 63 = .ok (.iload 4, 2) := by decide +kernel
theorem dX8_sums_65 : decode cX8_sums 65 = .ok (.imul, 1) := by decide +kernel
theorem dX8_sums_66 : decode cX8_sums 66 = .ok (.iadd, 1) := by decide +kernel
theorem dX8_sums_67 : decode cX8_sums 67 = .ok (.laload, 1) := by decide +kernel
theorem dX8_sums_68 : decode cX8_sums 68 = .ok (.aload_n 0, 1) := by decide +kernel
theorem dX8_sums_69 : decode cX8_sums 69 = .ok (.getfield 48, 3) := by decide +kernel
theorem dX8_sums_72 : decode cX8_sums 72 = .ok (.bipush 48, 2) := by decide +kernel
theorem dX8_sums_74 : decode cX8_sums 74 = .ok (.iload_n 1, 1) := by decide +kernel
theorem dX8_sums_75 : decode cX8_sums 75 = .ok (.imul, 1) := by decide +kernel
theorem dX8_sums_76 : decode cX8_sums 76 = .ok (.iconst 4, 1) := by decide +kernel
theorem dX8_sums_77 : decode cX8_sums 77 = .ok (.iload 4, 2) := by decide +kernel
theorem dX8_sums_79 : decode cX8_sums 79 = .ok (.imul, 1) := by decide +kernel
theorem dX8_sums_80 : decode cX8_sums 80 = .ok (.iadd, 1) := by decide +kernel
theorem dX8_sums_81 : decode cX8_sums 81 = .ok (.iconst 1, 1) := by decide +kernel
theorem dX8_sums_82 : decode cX8_sums 82 = .ok (.iadd, 1) := by decide +kernel
theorem dX8_sums_83 : decode cX8_sums 83 = .ok (.laload, 1) := by decide +kernel
theorem dX8_sums_84 : decode cX8_sums 84 = .ok (.ladd, 1) := by decide +kernel
theorem dX8_sums_85 : decode cX8_sums 85 = .ok (.ladd, 1) := by decide +kernel
theorem dX8_sums_86 : decode cX8_sums 86 = .ok (.lstore_n 2, 1) := by decide +kernel
theorem dX8_sums_87 : decode cX8_sums 87 = .ok (.iinc 4 1, 3) := by decide +kernel
theorem dX8_sums_90 : decode cX8_sums 90 = .ok (.goto (-44), 3) := by decide +kernel
theorem dX8_sums_93 : decode cX8_sums 93 = .ok (.aload_n 0, 1) := by decide +kernel
theorem dX8_sums_94 : decode cX8_sums 94 = .ok (.getfield 32, 3) := by decide +kernel
theorem dX8_sums_97 : decode cX8_sums 97 = .ok (.iload_n 1, 1) := by decide +kernel
theorem dX8_sums_98 : decode cX8_sums 98 = .ok (.laload, 1) := by decide +kernel
theorem dX8_sums_99 : decode cX8_sums 99 = .ok (.aload_n 0, 1) := by decide +kernel
theorem dX8_sums_100 : decode cX8_sums 100 = .ok (.getfield 45, 3) := by decide +kernel
theorem dX8_sums_103 : decode cX8_sums 103 = .ok (.bipush 6, 2) := by decide +kernel
theorem dX8_sums_105 : decode cX8_sums 105 = .ok (.iload_n 1, 1) := by decide +kernel
theorem dX8_sums_106 : decode cX8_sums 106 = .ok (.imul, 1) := by decide +kernel
theorem dX8_sums_107 : decode cX8_sums 107 = .ok (.iconst 4, 1) := by decide +kernel
theorem dX8_sums_108 : decode cX8_sums 108 = .ok (.iadd, 1) := by decide +kernel
theorem dX8_sums_109 : decode cX8_sums 109 = .ok (.laload, 1) := by decide +kernel
theorem dX8_sums_110 : decode cX8_sums 110 = .ok (.lsub, 1) := by decide +kernel
theorem dX8_sums_111 : decode cX8_sums 111 = .ok (.aload_n 0, 1) := by decide +kernel
theorem dX8_sums_112 : decode cX8_sums 112 = .ok (.getfield 45, 3) := by decide +kernel
theorem dX8_sums_115 : decode cX8_sums 115 = .ok (.bipush 6, 2) := by decide +kernel
theorem dX8_sums_117 : decode cX8_sums 117 = .ok (.iload_n 1, 1) := by decide +kernel
theorem dX8_sums_118 : decode cX8_sums 118 = .ok (.imul, 1) := by decide +kernel
theorem dX8_sums_119 : decode cX8_sums 119 = .ok (.iconst 5, 1) := by decide +kernel
theorem dX8_sums_120 : decode cX8_sums 120 = .ok (.iadd, 1) := by decide +kernel
theorem dX8_sums_121 : decode cX8_sums 121 = .ok (.laload, 1) := by decide +kernel
theorem dX8_sums_122 : decode cX8_sums 122 = .ok (.ladd, 1) := by decide +kernel
theorem dX8_sums_123 : decode cX8_sums 123 = .ok (.lstore 4, 2) := by decide +kernel
theorem dX8_sums_125 : decode cX8_sums 125 = .ok (.iconst 0, 1) := by decide +kernel
theorem dX8_sums_126 : decode cX8_sums 126 = .ok (.istore 6, 2) := by decide +kernel
theorem dX8_sums_128 : decode cX8_sums 128 = .ok (.iload 6, 2) := by decide +kernel
theorem dX8_sums_130 : decode cX8_sums 130 = .ok (.bipush 10, 2) := by decide +kernel
theorem dX8_sums_132 : decode cX8_sums 132 = .ok (.if_icmp .ge 26, 3) := by decide +kernel
theorem dX8_sums_135 : decode cX8_sums 135 = .ok (.lload 4, 2) := by decide +kernel
theorem dX8_sums_137 : decode cX8_sums 137 = .ok (.aload_n 0, 1) := by decide +kernel
theorem dX8_sums_138 : decode cX8_sums 138 = .ok (.getfield 35, 3) := by decide +kernel
theorem dX8_sums_141 : decode cX8_sums 141 = .ok (.bipush 10, 2) := by decide +kernel
theorem dX8_sums_143 : decode cX8_sums 143 = .ok (.iload_n 1, 1) := by decide +kernel
theorem dX8_sums_144 : decode cX8_sums 144 = .ok (.imul, 1) := by decide +kernel
theorem dX8_sums_145 : decode cX8_sums 145 = .ok (.iload 6, 2) := by decide +kernel
theorem dX8_sums_147 : decode cX8_sums 147 = .ok (.iadd, 1) := by decide +kernel
theorem dX8_sums_148 : decode cX8_sums 148 = .ok (.laload, 1) := by decide +kernel
theorem dX8_sums_149 : decode cX8_sums 149 = .ok (.lsub, 1) := by decide +kernel
theorem dX8_sums_150 : decode cX8_sums 150 = .ok (.lstore 4, 2) := by decide +kernel
theorem dX8_sums_152 : decode cX8_sums 152 = .ok (.iinc 6 1, 3) := by decide +kernel
theorem dX8_sums_155 : decode cX8_sums 155 = .ok (.goto (-27), 3) := by decide +kernel
theorem dX8_sums_158 : decode cX8_sums 158 = .ok (.lload_n 2, 1) := by decide +kernel
theorem dX8_sums_159 : decode cX8_sums 159 = .ok (.lload 4, 2) := by decide +kernel
theorem dX8_sums_161 : decode cX8_sums 161 = .ok (.lcmp, 1) := by decide +kernel
theorem dX8_sums_162 : decode cX8_sums 162 = .ok (.ifCond .ne 7, 3) := by decide +kernel
theorem dX8_sums_165 : decode cX8_sums 165 = .ok (.iconst 1, 1) := by decide +kernel
theorem dX8_sums_166 : decode cX8_sums 166 = .ok (.goto 4, 3) := by decide +kernel
theorem dX8_sums_169 : decode cX8_sums 169 = .ok (.iconst 0, 1) := by decide +kernel
theorem dX8_sums_170 : decode cX8_sums 170 = .ok (.ireturn, 1) := by decide +kernel
theorem dX8_open_0 : decode cX8_open 0 = .ok (.aload_n 0, 1) := by decide +kernel
theorem dX8_open_1 : decode cX8_open 1 = .ok (.getfield 160, 3) := by decide +kernel
theorem dX8_open_4 : decode cX8_open 4 = .ok (.ifCond .ne 35, 3) := by decide +kernel
theorem dX8_open_7 : decode cX8_open 7 = .ok (.iload_n 1, 1) := by decide +kernel
theorem dX8_open_8 : decode cX8_open 8 = .ok (.i2l, 1) := by decide +kernel
theorem dX8_open_9 : decode cX8_open 9 = .ok (.lconst 0, 1) := by decide +kernel
theorem dX8_open_10 : decode cX8_open 10 = .ok (.ldc2_w 164, 3) := by decide +kernel
theorem dX8_open_13 : decode cX8_open 13 = .ok (.invokestatic 80, 3) := by decide +kernel
theorem dX8_open_16 : decode cX8_open 16 = .ok (.ifCond .eq 23, 3) := by decide +kernel
theorem dX8_open_19 : decode cX8_open 19 = .ok (.iload_n 1, 1) := by decide +kernel
theorem dX8_open_20 : decode cX8_open 20 = .ok (.bipush 30, 2) := by decide +kernel
theorem dX8_open_22 : decode cX8_open 22 = .ok (.idiv, 1) := by decide +kernel
theorem dX8_open_23 : decode cX8_open 23 = .ok (.aload_n 0, 1) := by decide +kernel
theorem dX8_open_24 : decode cX8_open 24 = .ok (.getfield 166, 3) := by decide +kernel
theorem dX8_open_27 : decode cX8_open 27 = .ok (.if_icmp .lt 12, 3) := by decide +kernel
theorem dX8_open_30 : decode cX8_open 30 = .ok (.aload_n 0, 1) := by decide +kernel
theorem dX8_open_31 : decode cX8_open 31 = .ok (.getfield 169, 3) := by decide +kernel
theorem dX8_open_34 : decode cX8_open 34 = .ok (.bipush 60, 2) := by decide +kernel
theorem dX8_open_36 : decode cX8_open 36 = .ok (.if_icmp .ne 5, 3) := by decide +kernel
theorem dX8_open_39 : decode cX8_open 39 = .ok (.iconst 0, 1) := by decide +kernel
theorem dX8_open_40 : decode cX8_open 40 = .ok (.ireturn, 1) := by decide +kernel
theorem dX8_open_41 : decode cX8_open 41 = .ok (.aload_n 0, 1) := by decide +kernel
theorem dX8_open_42 : decode cX8_open 42 = .ok (.iconst 1, 1) := by decide +kernel
theorem dX8_open_43 : decode cX8_open 43 = .ok (.putfield 160, 3) := by decide +kernel
theorem dX8_open_46 : decode cX8_open 46 = .ok (.aload_n 0, 1) := by decide +kernel
theorem dX8_open_47 : decode cX8_open 47 = .ok (.getfield 60, 3) := by decide +kernel
theorem dX8_open_50 : decode cX8_open 50 = .ok (.iconst 0, 1) := by decide +kernel
theorem dX8_open_51 : decode cX8_open 51 = .ok (.iload_n 1, 1) := by decide +kernel
theorem dX8_open_52 : decode cX8_open 52 = .ok (.iastore, 1) := by decide +kernel
theorem dX8_open_53 : decode cX8_open 53 = .ok (.aload_n 0, 1) := by decide +kernel
theorem dX8_open_54 : decode cX8_open 54 = .ok (.getfield 63, 3) := by decide +kernel
theorem dX8_open_57 : decode cX8_open 57 = .ok (.iconst 0, 1) := by decide +kernel
theorem dX8_open_58 : decode cX8_open 58 = .ok (.iconst 0, 1) := by decide +kernel
theorem dX8_open_59 : decode cX8_open 59 = .ok (.iastore, 1) := by decide +kernel
theorem dX8_open_60 : decode cX8_open 60 = .ok (.iconst 1, 1) := by decide +kernel
theorem dX8_open_61 : decode cX8_open 61 = .ok (.ireturn, 1) := by decide +kernel
theorem dX8_row_0 : decode cX8_row 0 = .ok (.aload_n 0, 1) := by decide +kernel
theorem dX8_row_1 : decode cX8_row 1 = .ok (.getfield 160, 3) := by decide +kernel
theorem dX8_row_4 : decode cX8_row 4 = .ok (.ifCond .eq 45, 3) := by decide +kernel
theorem dX8_row_7 : decode cX8_row 7 = .ok (.iload_n 1, 1) := by decide +kernel
theorem dX8_row_8 : decode cX8_row 8 = .ok (.i2l, 1) := by decide +kernel
theorem dX8_row_9 : decode cX8_row 9 = .ok (.lconst 0, 1) := by decide +kernel
theorem dX8_row_10 : decode cX8_row 10 = .ok (.ldc2_w 172, 3) := by decide +kernel
theorem dX8_row_13 : decode cX8_row 13 = .ok (.invokestatic 80, 3) := by decide +kernel
theorem dX8_row_16 : decode cX8_row 16 = .ok (.ifCond .eq 33, 3) := by decide +kernel
theorem dX8_row_19 : decode cX8_row 19 = .ok (.lload_n 2, 1) := by decide +kernel
theorem dX8_row_20 : decode cX8_row 20 = .ok (.lconst 0, 1) := by decide +kernel
theorem dX8_row_21 : decode cX8_row 21 = .ok (.lcmp, 1) := by decide +kernel
theorem dX8_row_22 : decode cX8_row 22 = .ok (.ifCond .eq 27, 3) := by decide +kernel
theorem dX8_row_25 : decode cX8_row 25 = .ok (.lload_n 2, 1) := by decide +kernel
theorem dX8_row_26 : decode cX8_row 26 = .ok (.ldc2_w 174, 3) := by decide +kernel
theorem dX8_row_29 : decode cX8_row 29 = .ok (.ldc2_w 139, 3) := by decide +kernel
theorem dX8_row_32 : decode cX8_row 32 = .ok (.invokestatic 80, 3) := by decide +kernel
theorem dX8_row_35 : decode cX8_row 35 = .ok (.ifCond .eq 14, 3) := by decide +kernel
theorem dX8_row_38 : decode cX8_row 38 = .ok (.aload_n 0, 1) := by decide +kernel
theorem dX8_row_39 : decode cX8_row 39 = .ok (.getfield 63, 3) := by decide +kernel
theorem dX8_row_42 : decode cX8_row 42 = .ok (.iconst 0, 1) := by decide +kernel
theorem dX8_row_43 : decode cX8_row 43 = .ok (.iaload, 1) := by decide +kernel
theorem dX8_row_44 : decode cX8_row 44 = .ok (.bipush 8, 2) := by decide +kernel
theorem dX8_row_46 : decode cX8_row 46 = .ok (.if_icmp .ne 5, 3) := by decide +kernel
theorem dX8_row_49 : decode cX8_row 49 = .ok (.iconst (-1), 1) := by decide +kernel
theorem dX8_row_50 : decode cX8_row 50 = .ok (.ireturn, 1) := by decide +kernel
theorem dX8_row_51 : decode cX8_row 51 = .ok (.aload_n 0, 1) := by decide +kernel
theorem dX8_row_52 : decode cX8_row 52 = .ok (.getfield 72, 3) := by decide +kernel
theorem dX8_row_55 : decode cX8_row 55 = .ok (.aload_n 0, 1) := by decide +kernel
theorem dX8_row_56 : decode cX8_row 56 = .ok (.getfield 63, 3) := by decide +kernel
theorem dX8_row_59 : decode cX8_row 59 = .ok (.iconst 0, 1) := by decide +kernel
theorem dX8_row_60 : decode cX8_row 60 = .ok (.iaload, 1) := by decide +kernel
theorem dX8_row_61 : decode cX8_row 61 = .ok (.iload_n 1, 1) := by decide +kernel
theorem dX8_row_62 : decode cX8_row 62 = .ok (.iastore, 1) := by decide +kernel
theorem dX8_row_63 : decode cX8_row 63 = .ok (.aload_n 0, 1) := by decide +kernel
theorem dX8_row_64 : decode cX8_row 64 = .ok (.getfield 75, 3) := by decide +kernel
theorem dX8_row_67 : decode cX8_row 67 = .ok (.aload_n 0, 1) := by decide +kernel
theorem dX8_row_68 : decode cX8_row 68 = .ok (.getfield 63, 3) := by decide +kernel
theorem dX8_row_71 : decode cX8_row 71 = .ok (.iconst 0, 1) := by decide +kernel
theorem dX8_row_72 : decode cX8_row 72 = .ok (.iaload, 1) := by decide +kernel
theorem dX8_row_73 : decode cX8_row 73 = .ok (.lload_n 2, 1) := by decide +kernel
theorem dX8_row_74 : decode cX8_row 74 = .ok (.lastore, 1) := by decide +kernel
theorem dX8_row_75 : decode cX8_row 75 = .ok (.aload_n 0, 1) := by decide +kernel
theorem dX8_row_76 : decode cX8_row 76 = .ok (.getfield 63, 3) := by decide +kernel
theorem dX8_row_79 : decode cX8_row 79 = .ok (.iconst 0, 1) := by decide +kernel
theorem dX8_row_80 : decode cX8_row 80 = .ok (.dup2, 1) := by decide +kernel
theorem dX8_row_81 : decode cX8_row 81 = .ok (.iaload, 1) := by decide +kernel
theorem dX8_row_82 : decode cX8_row 82 = .ok (.iconst 1, 1) := by decide +kernel
theorem dX8_row_83 : decode cX8_row 83 = .ok (.iadd, 1) := by decide +kernel
theorem dX8_row_84 : decode cX8_row 84 = .ok (.iastore, 1) := by decide +kernel
theorem dX8_row_85 : decode cX8_row 85 = .ok (.aload_n 0, 1) := by decide +kernel
theorem dX8_row_86 : decode cX8_row 86 = .ok (.getfield 63, 3) := by decide +kernel
theorem dX8_row_89 : decode cX8_row 89 = .ok (.iconst 0, 1) := by decide +kernel
theorem dX8_row_90 : decode cX8_row 90 = .ok (.iaload, 1) := by decide +kernel
theorem dX8_row_91 : decode cX8_row 91 = .ok (.ireturn, 1) := by decide +kernel
theorem dX8_enter_0 : decode cX8_enter 0 = .ok (.aload_n 0, 1) := by decide +kernel
theorem dX8_enter_1 : decode cX8_enter 1 = .ok (.getfield 160, 3) := by decide +kernel
theorem dX8_enter_4 : decode cX8_enter 4 = .ok (.ifCond .ne 5, 3) := by decide +kernel
theorem dX8_enter_7 : decode cX8_enter 7 = .ok (.iconst (-1), 1) := by decide +kernel
theorem dX8_enter_8 : decode cX8_enter 8 = .ok (.ireturn, 1) := by decide +kernel
theorem dX8_enter_9 : decode cX8_enter 9 = .ok (.lconst 0, 1) := by decide +kernel
theorem dX8_enter_10 : decode cX8_enter 10 = .ok (.lstore_n 1, 1) := by decide +kernel
theorem dX8_enter_11 : decode cX8_enter 11 = .ok (.iconst 0, 1) := by decide +kernel
theorem dX8_enter_12 : decode cX8_enter 12 = .ok (.istore_n 3, 1) := by decide +kernel
theorem dX8_enter_13 : decode cX8_enter 13 = .ok (.iload_n 3, 1) := by decide +kernel
theorem dX8_enter_14 : decode cX8_enter 14 = .ok (.aload_n 0, 1) := by decide +kernel
theorem dX8_enter_15 : decode cX8_enter 15 = .ok (.getfield 63, 3) := by decide +kernel
theorem dX8_enter_18 : decode cX8_enter 18 = .ok (.iconst 0, 1) := by decide +kernel
theorem dX8_enter_19 : decode cX8_enter 19 = .ok (.iaload, 1) := by decide +kernel
theorem dX8_enter_20 : decode cX8_enter 20 = .ok (.if_icmp .ge 18, 3) := by decide +kernel
theorem dX8_enter_23 : decode cX8_enter 23 = .ok (.lload_n 1, 1) := by decide +kernel
theorem dX8_enter_24 : decode cX8_enter 24 = .ok (.aload_n 0, 1) := by decide +kernel
theorem dX8_enter_25 : decode cX8_enter 25 = .ok (.getfield 75, 3) := by decide +kernel
theorem dX8_enter_28 : decode cX8_enter 28 = .ok (.iload_n 3, 1) := by decide +kernel
theorem dX8_enter_29 : decode cX8_enter 29 = .ok (.laload, 1) := by decide +kernel
theorem dX8_enter_30 : decode cX8_enter 30 = .ok (.ladd, 1) := by decide +kernel
theorem dX8_enter_31 : decode cX8_enter 31 = .ok (.lstore_n 1, 1) := by decide +kernel
theorem dX8_enter_32 : decode cX8_enter 32 = .ok (.iinc 3 1, 3) := by decide +kernel
theorem dX8_enter_35 : decode cX8_enter 35 = .ok (.goto (-22), 3) := by decide +kernel
theorem dX8_enter_38 : decode cX8_enter 38 = .ok (.aload_n 0, 1) := by decide +kernel
theorem dX8_enter_39 : decode cX8_enter 39 = .ok (.getfield 63, 3) := by decide +kernel
theorem dX8_enter_42 : decode cX8_enter 42 = .ok (.iconst 0, 1) := by decide +kernel
theorem dX8_enter_43 : decode cX8_enter 43 = .ok (.iaload, 1) := by decide +kernel
theorem dX8_enter_44 : decode cX8_enter 44 = .ok (.ifCond .eq 18, 3) := by decide +kernel
theorem dX8_enter_47 : decode cX8_enter 47 = .ok (.lload_n 1, 1) := by decide +kernel
theorem dX8_enter_48 : decode cX8_enter 48 = .ok (.lconst 0, 1) := by decide +kernel
theorem dX8_enter_49 : decode cX8_enter 49 = .ok (.lcmp, 1) := by decide +kernel
theorem dX8_enter_50 : decode cX8_enter 50 = .ok (.ifCond .ne 12, 3) := by decide +kernel
theorem dX8_enter_53 : decode cX8_enter 53 = .ok (.aload_n 0, 1) := by decide +kernel
theorem dX8_enter_54 : decode cX8_enter 54 = .ok (.getfield 169, 3) := by decide +kernel
theorem dX8_enter_57 : decode cX8_enter 57 = .ok (.bipush 60, 2) := by decide +kernel
theorem dX8_enter_59 : decode cX8_enter 59 = .ok (.if_icmp .ne 5, 3) := by decide +kernel
theorem dX8_enter_62 : decode cX8_enter 62 = .ok (.iconst 0, 1) := by decide +kernel
theorem dX8_enter_63 : decode cX8_enter 63 = .ok (.ireturn, 1) := by decide +kernel
theorem dX8_enter_64 : decode cX8_enter 64 = .ok (.aload_n 0, 1) := by decide +kernel
theorem dX8_enter_65 : decode cX8_enter 65 = .ok (.iconst 0, 1) := by decide +kernel
theorem dX8_enter_66 : decode cX8_enter 66 = .ok (.putfield 160, 3) := by decide +kernel
theorem dX8_enter_69 : decode cX8_enter 69 = .ok (.aload_n 0, 1) := by decide +kernel
theorem dX8_enter_70 : decode cX8_enter 70 = .ok (.iconst 0, 1) := by decide +kernel
theorem dX8_enter_71 : decode cX8_enter 71 = .ok (.aload_n 0, 1) := by decide +kernel
theorem dX8_enter_72 : decode cX8_enter 72 = .ok (.getfield 60, 3) := by decide +kernel
theorem dX8_enter_75 : decode cX8_enter 75 = .ok (.iconst 0, 1) := by decide +kernel
theorem dX8_enter_76 : decode cX8_enter 76 = .ok (.iaload, 1) := by decide +kernel
theorem dX8_enter_77 : decode cX8_enter 77 = .ok (.lconst 1, 1) := by decide +kernel
theorem dX8_enter_78 : decode cX8_enter 78 = .ok (.invokevirtual 176, 3) := by decide +kernel
theorem dX8_enter_81 : decode cX8_enter 81 = .ok (.aload_n 0, 1) := by decide +kernel
theorem dX8_enter_82 : decode cX8_enter 82 = .ok (.getfield 169, 3) := by decide +kernel
theorem dX8_enter_85 : decode cX8_enter 85 = .ok (.ireturn, 1) := by decide +kernel
theorem dX8_put_0 : decode cX8_put 0 = .ok (.aload_n 0, 1) := by decide +kernel
theorem dX8_put_1 : decode cX8_put 1 = .ok (.dup, 1) := by decide +kernel
theorem dX8_put_2 : decode cX8_put 2 = .ok (.getfield 169, 3) := by decide +kernel
theorem dX8_put_5 : decode cX8_put 5 = .ok (.iconst 1, 1) := by decide +kernel
theorem dX8_put_6 : decode cX8_put 6 = .ok (.iadd, 1) := by decide +kernel
theorem dX8_put_7 : decode cX8_put 7 = .ok (.putfield 169, 3) := by decide +kernel
theorem dX8_put_10 : decode cX8_put 10 = .ok (.aload_n 0, 1) := by decide +kernel
theorem dX8_put_11 : decode cX8_put 11 = .ok (.getfield 60, 3) := by decide +kernel
theorem dX8_put_14 : decode cX8_put 14 = .ok (.aload_n 0, 1) := by decide +kernel
theorem dX8_put_15 : decode cX8_put 15 = .ok (.getfield 169, 3) := by decide +kernel
theorem dX8_put_18 : decode cX8_put 18 = .ok (.iload_n 2, 1) := by decide +kernel
theorem dX8_put_19 : decode cX8_put 19 = .ok (.iastore, 1) := by decide +kernel
theorem dX8_put_20 : decode cX8_put 20 = .ok (.aload_n 0, 1) := by decide +kernel
theorem dX8_put_21 : decode cX8_put 21 = .ok (.getfield 63, 3) := by decide +kernel
theorem dX8_put_24 : decode cX8_put 24 = .ok (.aload_n 0, 1) := by decide +kernel
theorem dX8_put_25 : decode cX8_put 25 = .ok (.getfield 169, 3) := by decide +kernel
theorem dX8_put_28 : decode cX8_put 28 = .ok (.aload_n 0, 1) := by decide +kernel
theorem dX8_put_29 : decode cX8_put 29 = .ok (.getfield 63, 3) := by decide +kernel
theorem dX8_put_32 : decode cX8_put 32 = .ok (.iload_n 1, 1) := by decide +kernel
theorem dX8_put_33 : decode cX8_put 33 = .ok (.iaload, 1) := by decide +kernel
theorem dX8_put_34 : decode cX8_put 34 = .ok (.iastore, 1) := by decide +kernel
theorem dX8_put_35 : decode cX8_put 35 = .ok (.aload_n 0, 1) := by decide +kernel
theorem dX8_put_36 : decode cX8_put 36 = .ok (.getfield 66, 3) := by decide +kernel
theorem dX8_put_39 : decode cX8_put 39 = .ok (.aload_n 0, 1) := by decide +kernel
theorem dX8_put_40 : decode cX8_put 40 = .ok (.getfield 169, 3) := by decide +kernel
theorem dX8_put_43 : decode cX8_put 43 = .ok (.iconst 0, 1) := by decide +kernel
theorem dX8_put_44 : decode cX8_put 44 = .ok (.iastore, 1) := by decide +kernel
theorem dX8_put_45 : decode cX8_put 45 = .ok (.aload_n 0, 1) := by decide +kernel
theorem dX8_put_46 : decode cX8_put 46 = .ok (.getfield 69, 3) := by decide +kernel
theorem dX8_put_49 : decode cX8_put 49 = .ok (.aload_n 0, 1) := by decide +kernel
theorem dX8_put_50 : decode cX8_put 50 = .ok (.getfield 169, 3) := by decide +kernel
theorem dX8_put_53 : decode cX8_put 53 = .ok (.iconst 0, 1) := by decide +kernel
theorem dX8_put_54 : decode cX8_put 54 = .ok (.iastore, 1) := by decide +kernel
theorem dX8_put_55 : decode cX8_put 55 = .ok (.iconst 0, 1) := by decide +kernel
theorem dX8_put_56 : decode cX8_put 56 = .ok (.istore 5, 2) := by decide +kernel
theorem dX8_put_58 : decode cX8_put 58 = .ok (.iload 5, 2) := by decide +kernel
theorem dX8_put_60 : decode cX8_put 60 = .ok (.aload_n 0, 1) := by decide +kernel
theorem dX8_put_61 : decode cX8_put 61 = .ok (.getfield 63, 3) := by decide +kernel
theorem dX8_put_64 : decode cX8_put 64 = .ok (.iload_n 1, 1) := by decide +kernel
theorem dX8_put_65 : decode cX8_put 65 = .ok (.iaload, 1) := by decide +kernel
theorem dX8_put_66 : decode cX8_put 66 = .ok (.if_icmp .ge 65, 3) := by decide +kernel
theorem dX8_put_69 : decode cX8_put 69 = .ok (.aload_n 0, 1) := by decide +kernel
theorem dX8_put_70 : decode cX8_put 70 = .ok (.getfield 72, 3) := by decide +kernel
theorem dX8_put_73 : decode cX8_put 73 = .ok (.bipush 8, 2) := by decide +kernel
theorem dX8_put_75 : decode cX8_put 75 = .ok (.aload_n 0, 1) := by decide +kernel
theorem dX8_put_76 : decode cX8_put 76 = .ok (.getfield 169, 3) := by decide +kernel
theorem dX8_put_79 : decode cX8_put 79 = .ok (.imul, 1) := by decide +kernel
theorem dX8_put_80 : decode cX8_put 80 = .ok (.iload 5, 2) := by decide +kernel
theorem dX8_put_82 : decode cX8_put 82 = .ok (.iadd, 1) := by decide +kernel
theorem dX8_put_83 : decode cX8_put 83 = .ok (.aload_n 0, 1) := by decide +kernel
theorem dX8_put_84 : decode cX8_put 84 = .ok (.getfield 72, 3) := by decide +kernel
theorem dX8_put_87 : decode cX8_put 87 = .ok (.bipush 8, 2) := by decide +kernel
theorem dX8_put_89 : decode cX8_put 89 = .ok (.iload_n 1, 1) := by decide +kernel
theorem dX8_put_90 : decode cX8_put 90 = .ok (.imul, 1) := by decide +kernel
theorem dX8_put_91 : decode cX8_put 91 = .ok (.iload 5, 2) := by decide +kernel
theorem dX8_put_93 : decode cX8_put 93 = .ok (.iadd, 1) := by decide +kernel
theorem dX8_put_94 : decode cX8_put 94 = .ok (.iaload, 1) := by decide +kernel
theorem dX8_put_95 : decode cX8_put 95 = .ok (.iastore, 1) := by decide +kernel
theorem dX8_put_96 : decode cX8_put 96 = .ok (.aload_n 0, 1) := by decide +kernel
theorem dX8_put_97 : decode cX8_put 97 = .ok (.getfield 75, 3) := by decide +kernel
theorem dX8_put_100 : decode cX8_put 100 = .ok (.bipush 8, 2) := by decide +kernel
theorem dX8_put_102 : decode cX8_put 102 = .ok (.aload_n 0, 1) := by decide +kernel
theorem dX8_put_103 : decode cX8_put 103 = .ok (.getfield 169, 3) := by decide +kernel
theorem dX8_put_106 : decode cX8_put 106 = .ok (.imul, 1) := by decide +kernel
theorem dX8_put_107 : decode cX8_put 107 = .ok (.iload 5, 2) := by decide +kernel
theorem dX8_put_109 : decode cX8_put 109 = .ok (.iadd, 1) := by decide +kernel
theorem dX8_put_110 : decode cX8_put 110 = .ok (.lload_n 3, 1) := by decide +kernel
theorem dX8_put_111 : decode cX8_put 111 = .ok (.aload_n 0, 1) := by decide +kernel
theorem dX8_put_112 : decode cX8_put 112 = .ok (.getfield 75, 3) := by decide +kernel
theorem dX8_put_115 : decode cX8_put 115 = .ok (.bipush 8, 2) := by decide +kernel
theorem dX8_put_117 : decode cX8_put 117 = .ok (.iload_n 1, 1) := by decide +kernel
theorem dX8_put_118 : decode cX8_put 118 = .ok (.imul, 1) := by decide +kernel
theorem dX8_put_119 : decode cX8_put 119 = .ok (.iload 5, 2) := by decide +kernel
theorem dX8_put_121 : decode cX8_put 121 = .ok (.iadd, 1) := by decide +kernel
theorem dX8_put_122 : decode cX8_put 122 = .ok (.laload, 1) := by decide +kernel
theorem dX8_put_123 : decode cX8_put 123 = .ok (.lmul, 1) := by decide +kernel
theorem dX8_put_124 : decode cX8_put 124 = .ok (.lastore, 1) := by decide +kernel
theorem dX8_put_125 : decode cX8_put 125 = .ok (.iinc 5 1, 3) := by decide +kernel
theorem dX8_put_128 : decode cX8_put 128 = .ok (.goto (-70), 3) := by decide +kernel
theorem dX8_put_131 : decode cX8_put 131 = .ok (.return_, 1) := by decide +kernel
end
section
theorem dX8_drop_0 : decode cX8_drop 0 = .ok (.aload_n 0, 1) := by decide +kernel
theorem dX8_drop_1 : decode cX8_drop 1 = .ok (.getfield 160, 3) := by decide +kernel
theorem dX8_drop_4 : decode cX8_drop 4 = .ok (.ifCond .ne 5, 3) := by decide +kernel
theorem dX8_drop_7 : decode cX8_drop 7 = .ok (.iconst (-1), 1) := by decide +kernel
theorem dX8_drop_8 : decode cX8_drop 8 = .ok (.ireturn, 1) := by decide +kernel
theorem dX8_drop_9 : decode cX8_drop 9 = .ok (.aload_n 0, 1) := by decide +kernel
theorem dX8_drop_10 : decode cX8_drop 10 = .ok (.iconst 0, 1) := by decide +kernel
theorem dX8_drop_11 : decode cX8_drop 11 = .ok (.putfield 160, 3) := by decide +kernel
theorem dX8_drop_14 : decode cX8_drop 14 = .ok (.aload_n 0, 1) := by decide +kernel
theorem dX8_drop_15 : decode cX8_drop 15 = .ok (.getfield 63, 3) := by decide +kernel
theorem dX8_drop_18 : decode cX8_drop 18 = .ok (.iconst 0, 1) := by decide +kernel
theorem dX8_drop_19 : decode cX8_drop 19 = .ok (.iaload, 1) := by decide +kernel
theorem dX8_drop_20 : decode cX8_drop 20 = .ok (.ireturn, 1) := by decide +kernel
theorem dX8_closeMonth_0 : decode cX8_closeMonth 0 = .ok (.iload_n 1, 1) := by decide +kernel
theorem dX8_closeMonth_1 : decode cX8_closeMonth 1 = .ok (.i2l, 1) := by decide +kernel
theorem dX8_closeMonth_2 : decode cX8_closeMonth 2 = .ok (.lconst 0, 1) := by decide +kernel
theorem dX8_closeMonth_3 : decode cX8_closeMonth 3 = .ok (.ldc2_w 180, 3) := by decide +kernel
theorem dX8_closeMonth_6 : decode cX8_closeMonth 6 = .ok (.invokestatic 80, 3) := by decide +kernel
theorem dX8_closeMonth_9 : decode cX8_closeMonth 9 = .ok (.ifCond .eq 23, 3) := by decide +kernel
theorem dX8_closeMonth_12 : decode cX8_closeMonth 12 = .ok (.aload_n 0, 1) := by decide +kernel
theorem dX8_closeMonth_13 : decode cX8_closeMonth 13 = .ok (.getfield 160, 3) := by decide +kernel
theorem dX8_closeMonth_16 : decode cX8_closeMonth 16 = .ok (.ifCond .eq 18, 3) := by decide +kernel
theorem dX8_closeMonth_19 : decode cX8_closeMonth 19 = .ok (.aload_n 0, 1) := by decide +kernel
theorem dX8_closeMonth_20 : decode cX8_closeMonth 20 = .ok (.getfield 60, 3) := by decide +kernel
theorem dX8_closeMonth_23 : decode cX8_closeMonth 23 = .ok (.iconst 0, 1) := by decide +kernel
theorem dX8_closeMonth_24 : decode cX8_closeMonth 24 = .ok (.iaload, 1) := by decide +kernel
theorem dX8_closeMonth_25 : decode cX8_closeMonth 25 = .ok (.bipush 30, 2) := by decide +kernel
theorem dX8_closeMonth_27 : decode cX8_closeMonth 27 = .ok (.idiv, 1) := by decide +kernel
theorem dX8_closeMonth_28 : decode cX8_closeMonth 28 = .ok (.iload_n 1, 1) := by decide +kernel
theorem dX8_closeMonth_29 : decode cX8_closeMonth 29 = .ok (.if_icmp .gt 5, 3) := by decide +kernel
theorem dX8_closeMonth_32 : decode cX8_closeMonth 32 = .ok (.iconst (-1), 1) := by decide +kernel
theorem dX8_closeMonth_33 : decode cX8_closeMonth 33 = .ok (.ireturn, 1) := by decide +kernel
theorem dX8_closeMonth_34 : decode cX8_closeMonth 34 = .ok (.iload_n 1, 1) := by decide +kernel
theorem dX8_closeMonth_35 : decode cX8_closeMonth 35 = .ok (.iconst 1, 1) := by decide +kernel
theorem dX8_closeMonth_36 : decode cX8_closeMonth 36 = .ok (.iadd, 1) := by decide +kernel
theorem dX8_closeMonth_37 : decode cX8_closeMonth 37 = .ok (.aload_n 0, 1) := by decide +kernel
theorem dX8_closeMonth_38 : decode cX8_closeMonth 38 = .ok (.getfield 166, 3) := by decide +kernel
theorem dX8_closeMonth_41 : decode cX8_closeMonth 41 = .ok (.if_icmp .le 14, 3) := by decide +kernel
theorem dX8_closeMonth_44 : decode cX8_closeMonth 44 = .ok (.iload_n 1, 1) := by decide +kernel
theorem dX8_closeMonth_45 : decode cX8_closeMonth 45 = .ok (.iconst 1, 1) := by decide +kernel
theorem dX8_closeMonth_46 : decode cX8_closeMonth 46 = .ok (.iadd, 1) := by decide +kernel
theorem dX8_closeMonth_47 : decode cX8_closeMonth 47 = .ok (.aload_n 0, 1) := by decide +kernel
theorem dX8_closeMonth_48 : decode cX8_closeMonth 48 = .ok (.getfield 166, 3) := by decide +kernel
theorem dX8_closeMonth_51 : decode cX8_closeMonth 51 = .ok (.isub, 1) := by decide +kernel
theorem dX8_closeMonth_52 : decode cX8_closeMonth 52 = .ok (.goto 4, 3) := by decide +kernel
theorem dX8_closeMonth_55 : decode cX8_closeMonth 55 = .ok (.iconst 0, 1) := by decide +kernel
theorem dX8_closeMonth_56 : decode cX8_closeMonth 56 = .ok (.istore_n 2, 1) := by decide +kernel
theorem dX8_closeMonth_57 : decode cX8_closeMonth 57 = .ok (.aload_n 0, 1) := by decide +kernel
theorem dX8_closeMonth_58 : decode cX8_closeMonth 58 = .ok (.dup, 1) := by decide +kernel
theorem dX8_closeMonth_59 : decode cX8_closeMonth 59 = .ok (.getfield 166, 3) := by decide +kernel
theorem dX8_closeMonth_62 : decode cX8_closeMonth 62 = .ok (.iload_n 2, 1) := by decide +kernel
theorem dX8_closeMonth_63 : decode cX8_closeMonth 63 = .ok (.iadd, 1) := by decide +kernel
theorem dX8_closeMonth_64 : decode cX8_closeMonth 64 = .ok (.putfield 166, 3) := by decide +kernel
theorem dX8_closeMonth_67 : decode cX8_closeMonth 67 = .ok (.iload_n 2, 1) := by decide +kernel
theorem dX8_closeMonth_68 : decode cX8_closeMonth 68 = .ok (.ireturn, 1) := by decide +kernel
theorem dX8_correct_0 : decode cX8_correct 0 = .ok (.iload_n 1, 1) := by decide +kernel
theorem dX8_correct_1 : decode cX8_correct 1 = .ok (.i2l, 1) := by decide +kernel
theorem dX8_correct_2 : decode cX8_correct 2 = .ok (.lconst 1, 1) := by decide +kernel
theorem dX8_correct_3 : decode cX8_correct 3 = .ok (.aload_n 0, 1) := by decide +kernel
theorem dX8_correct_4 : decode cX8_correct 4 = .ok (.getfield 169, 3) := by decide +kernel
theorem dX8_correct_7 : decode cX8_correct 7 = .ok (.i2l, 1) := by decide +kernel
theorem dX8_correct_8 : decode cX8_correct 8 = .ok (.invokestatic 80, 3) := by decide +kernel
theorem dX8_correct_11 : decode cX8_correct 11 = .ok (.ifCond .eq 37, 3) := by decide +kernel
theorem dX8_correct_14 : decode cX8_correct 14 = .ok (.aload_n 0, 1) := by decide +kernel
theorem dX8_correct_15 : decode cX8_correct 15 = .ok (.getfield 60, 3) := by decide +kernel
theorem dX8_correct_18 : decode cX8_correct 18 = .ok (.iload_n 1, 1) := by decide +kernel
theorem dX8_correct_19 : decode cX8_correct 19 = .ok (.iaload, 1) := by decide +kernel
theorem dX8_correct_20 : decode cX8_correct 20 = .ok (.bipush 30, 2) := by decide +kernel
theorem dX8_correct_22 : decode cX8_correct 22 = .ok (.idiv, 1) := by decide +kernel
theorem dX8_correct_23 : decode cX8_correct 23 = .ok (.aload_n 0, 1) := by decide +kernel
theorem dX8_correct_24 : decode cX8_correct 24 = .ok (.getfield 166, 3) := by decide +kernel
theorem dX8_correct_27 : decode cX8_correct 27 = .ok (.if_icmp .ge 21, 3) := by decide +kernel
theorem dX8_correct_30 : decode cX8_correct 30 = .ok (.aload_n 0, 1) := by decide +kernel
theorem dX8_correct_31 : decode cX8_correct 31 = .ok (.getfield 66, 3) := by decide +kernel
theorem dX8_correct_34 : decode cX8_correct 34 = .ok (.iload_n 1, 1) := by decide +kernel
theorem dX8_correct_35 : decode cX8_correct 35 = .ok (.iaload, 1) := by decide +kernel
theorem dX8_correct_36 : decode cX8_correct 36 = .ok (.ifCond .gt 12, 3) := by decide +kernel
theorem dX8_correct_39 : decode cX8_correct 39 = .ok (.aload_n 0, 1) := by decide +kernel
theorem dX8_correct_40 : decode cX8_correct 40 = .ok (.getfield 69, 3) := by decide +kernel
theorem dX8_correct_43 : decode cX8_correct 43 = .ok (.iload_n 1, 1) := by decide +kernel
theorem dX8_correct_44 : decode cX8_correct 44 = .ok (.iaload, 1) := by decide +kernel
theorem dX8_correct_45 : decode cX8_correct 45 = .ok (.ifCond .le 5, 3) := by decide +kernel
theorem dX8_correct_48 : decode cX8_correct 48 = .ok (.iconst (-1), 1) := by decide +kernel
theorem dX8_correct_49 : decode cX8_correct 49 = .ok (.ireturn, 1) := by decide +kernel
theorem dX8_correct_50 : decode cX8_correct 50 = .ok (.iload_n 2, 1) := by decide +kernel
theorem dX8_correct_51 : decode cX8_correct 51 = .ok (.i2l, 1) := by decide +kernel
theorem dX8_correct_52 : decode cX8_correct 52 = .ok (.lconst 0, 1) := by decide +kernel
theorem dX8_correct_53 : decode cX8_correct 53 = .ok (.ldc2_w 164, 3) := by decide +kernel
theorem dX8_correct_56 : decode cX8_correct 56 = .ok (.invokestatic 80, 3) := by decide +kernel
theorem dX8_correct_59 : decode cX8_correct 59 = .ok (.ifCond .eq 23, 3) := by decide +kernel
theorem dX8_correct_62 : decode cX8_correct 62 = .ok (.iload_n 2, 1) := by decide +kernel
theorem dX8_correct_63 : decode cX8_correct 63 = .ok (.bipush 30, 2) := by decide +kernel
theorem dX8_correct_65 : decode cX8_correct 65 = .ok (.idiv, 1) := by decide +kernel
theorem dX8_correct_66 : decode cX8_correct 66 = .ok (.aload_n 0, 1) := by decide +kernel
theorem dX8_correct_67 : decode cX8_correct 67 = .ok (.getfield 166, 3) := by decide +kernel
theorem dX8_correct_70 : decode cX8_correct 70 = .ok (.if_icmp .lt 12, 3) := by decide +kernel
theorem dX8_correct_73 : decode cX8_correct 73 = .ok (.aload_n 0, 1) := by decide +kernel
theorem dX8_correct_74 : decode cX8_correct 74 = .ok (.getfield 169, 3) := by decide +kernel
theorem dX8_correct_77 : decode cX8_correct 77 = .ok (.bipush 60, 2) := by decide +kernel
theorem dX8_correct_79 : decode cX8_correct 79 = .ok (.if_icmp .ne 5, 3) := by decide +kernel
theorem dX8_correct_82 : decode cX8_correct 82 = .ok (.iconst (-1), 1) := by decide +kernel
theorem dX8_correct_83 : decode cX8_correct 83 = .ok (.ireturn, 1) := by decide +kernel
theorem dX8_correct_84 : decode cX8_correct 84 = .ok (.aload_n 0, 1) := by decide +kernel
theorem dX8_correct_85 : decode cX8_correct 85 = .ok (.iload_n 1, 1) := by decide +kernel
theorem dX8_correct_86 : decode cX8_correct 86 = .ok (.iload_n 2, 1) := by decide +kernel
theorem dX8_correct_87 : decode cX8_correct 87 = .ok (.ldc2_w 146, 3) := by decide +kernel
theorem dX8_correct_90 : decode cX8_correct 90 = .ok (.invokevirtual 176, 3) := by decide +kernel
theorem dX8_correct_93 : decode cX8_correct 93 = .ok (.aload_n 0, 1) := by decide +kernel
theorem dX8_correct_94 : decode cX8_correct 94 = .ok (.getfield 66, 3) := by decide +kernel
theorem dX8_correct_97 : decode cX8_correct 97 = .ok (.aload_n 0, 1) := by decide +kernel
theorem dX8_correct_98 : decode cX8_correct 98 = .ok (.getfield 169, 3) := by decide +kernel
theorem dX8_correct_101 : decode cX8_correct 101 = .ok (.iload_n 1, 1) := by decide +kernel
theorem dX8_correct_102 : decode cX8_correct 102 = .ok (.iastore, 1) := by decide +kernel
theorem dX8_correct_103 : decode cX8_correct 103 = .ok (.aload_n 0, 1) := by decide +kernel
theorem dX8_correct_104 : decode cX8_correct 104 = .ok (.getfield 69, 3) := by decide +kernel
theorem dX8_correct_107 : decode cX8_correct 107 = .ok (.iload_n 1, 1) := by decide +kernel
theorem dX8_correct_108 : decode cX8_correct 108 = .ok (.aload_n 0, 1) := by decide +kernel
theorem dX8_correct_109 : decode cX8_correct 109 = .ok (.getfield 169, 3) := by decide +kernel
theorem dX8_correct_112 : decode cX8_correct 112 = .ok (.iastore, 1) := by decide +kernel
theorem dX8_correct_113 : decode cX8_correct 113 = .ok (.aload_n 0, 1) := by decide +kernel
theorem dX8_correct_114 : decode cX8_correct 114 = .ok (.getfield 169, 3) := by decide +kernel
theorem dX8_correct_117 : decode cX8_correct 117 = .ok (.ireturn, 1) := by decide +kernel
theorem dX8_balance_0 : decode cX8_balance 0 = .ok (.iload_n 1, 1) := by decide +kernel
theorem dX8_balance_1 : decode cX8_balance 1 = .ok (.i2l, 1) := by decide +kernel
theorem dX8_balance_2 : decode cX8_balance 2 = .ok (.lconst 0, 1) := by decide +kernel
theorem dX8_balance_3 : decode cX8_balance 3 = .ok (.ldc2_w 172, 3) := by decide +kernel
theorem dX8_balance_6 : decode cX8_balance 6 = .ok (.invokestatic 80, 3) := by decide +kernel
theorem dX8_balance_9 : decode cX8_balance 9 = .ok (.ifCond .eq 15, 3) := by decide +kernel
theorem dX8_balance_12 : decode cX8_balance 12 = .ok (.iload_n 2, 1) := by decide +kernel
theorem dX8_balance_13 : decode cX8_balance 13 = .ok (.i2l, 1) := by decide +kernel
theorem dX8_balance_14 : decode cX8_balance 14 = .ok (.lconst 0, 1) := by decide +kernel
theorem dX8_balance_15 : decode cX8_balance 15 = .ok (.ldc2_w 180, 3) := by decide +kernel
theorem dX8_balance_18 : decode cX8_balance 18 = .ok (.invokestatic 80, 3) := by decide +kernel
theorem dX8_balance_21 : decode cX8_balance 21 = .ok (.ifCond .ne 7, 3) := by decide +kernel
theorem dX8_balance_24 : decode cX8_balance 24 = .ok (.ldc2_w 158, 3) := by decide +kernel
theorem dX8_balance_27 : decode cX8_balance 27 = .ok (.lreturn, 1) := by decide +kernel
theorem dX8_balance_28 : decode cX8_balance 28 = .ok (.lconst 0, 1) := by decide +kernel
theorem dX8_balance_29 : decode cX8_balance 29 = .ok (.lstore_n 3, 1) := by decide +kernel
theorem dX8_balance_30 : decode cX8_balance 30 = .ok (.iconst 1, 1) := by decide +kernel
theorem dX8_balance_31 : decode cX8_balance 31 = .ok (.istore 5, 2) := by decide +kernel
theorem dX8_balance_33 : decode cX8_balance 33 = .ok (.iload 5, 2) := by decide +kernel
theorem dX8_balance_35 : decode cX8_balance 35 = .ok (.aload_n 0, 1) := by decide +kernel
theorem dX8_balance_36 : decode cX8_balance 36 = .ok (.getfield 169, 3) := by decide +kernel
theorem dX8_balance_39 : decode cX8_balance 39 = .ok (.if_icmp .gt 81, 3) := by decide +kernel
theorem dX8_balance_42 : decode cX8_balance 42 = .ok (.iconst 0, 1) := by decide +kernel
theorem dX8_balance_43 : decode cX8_balance 43 = .ok (.istore 6, 2) := by decide +kernel
theorem dX8_balance_45 : decode cX8_balance 45 = .ok (.iload 6, 2) := by decide +kernel
theorem dX8_balance_47 : decode cX8_balance 47 = .ok (.aload_n 0, 1) := by decide +kernel
theorem dX8_balance_48 : decode cX8_balance 48 = .ok (.getfield 63, 3) := by decide +kernel
theorem dX8_balance_51 : decode cX8_balance 51 = .ok (.iload 5, 2) := by decide +kernel
theorem dX8_balance_53 : decode cX8_balance 53 = .ok (.iaload, 1) := by decide +kernel
theorem dX8_balance_54 : decode cX8_balance 54 = .ok (.if_icmp .ge 60, 3) := by decide +kernel
theorem dX8_balance_57 : decode cX8_balance 57 = .ok (.aload_n 0, 1) := by decide +kernel
theorem dX8_balance_58 : decode cX8_balance 58 = .ok (.getfield 60, 3) := by decide +kernel
theorem dX8_balance_61 : decode cX8_balance 61 = .ok (.iload 5, 2) := by decide +kernel
theorem dX8_balance_63 : decode cX8_balance 63 = .ok (.iaload, 1) := by decide +kernel
theorem dX8_balance_64 : decode cX8_balance 64 = .ok (.bipush 30, 2) := by decide +kernel
theorem dX8_balance_66 : decode cX8_balance 66 = .ok (.idiv, 1) := by decide +kernel
theorem dX8_balance_67 : decode cX8_balance 67 = .ok (.iload_n 2, 1) := by decide +kernel
theorem dX8_balance_68 : decode cX8_balance 68 = .ok (.if_icmp .gt 46, 3) := by decide +kernel
theorem dX8_balance_71 : decode cX8_balance 71 = .ok (.lload_n 3, 1) := by decide +kernel
theorem dX8_balance_72 : decode cX8_balance 72 = .ok (.aload_n 0, 1) := by decide +kernel
theorem dX8_balance_73 : decode cX8_balance 73 = .ok (.getfield 72, 3) := by decide +kernel
theorem dX8_balance_76 : decode cX8_balance 76 = .ok (.bipush 8, 2) := by decide +kernel
theorem dX8_balance_78 : decode cX8_balance 78 = .ok (.iload 5, 2) := by decide +kernel
theorem dX8_balance_80 : decode cX8_balance 80 = .ok (.imul, 1) := by decide +kernel
theorem dX8_balance_81 : decode cX8_balance 81 = .ok (.iload 6, 2) := by decide +kernel
theorem dX8_balance_83 : decode cX8_balance 83 = .ok (.iadd, 1) := by decide +kernel
theorem dX8_balance_84 : decode cX8_balance 84 = .ok (.iaload, 1) := by decide +kernel
theorem dX8_balance_85 : decode cX8_balance 85 = .ok (.iload_n 1, 1) := by decide +kernel
theorem dX8_balance_86 : decode cX8_balance 86 = .ok (.if_icmp .ne 19, 3) := by decide +kernel
theorem dX8_balance_89 : decode cX8_balance 89 = .ok (.aload_n 0, 1) := by decide +kernel
theorem dX8_balance_90 : decode cX8_balance 90 = .ok (.getfield 75, 3) := by decide +kernel
theorem dX8_balance_93 : decode cX8_balance 93 = .ok (.bipush 8, 2) := by decide +kernel
theorem dX8_balance_95 : decode cX8_balance 95 = .ok (.iload 5, 2) := by decide +kernel
theorem dX8_balance_97 : decode cX8_balance 97 = .ok (.imul, 1) := by decide +kernel
theorem dX8_balance_98 : decode cX8_balance 98 = .ok (.iload 6, 2) := by decide +kernel
theorem dX8_balance_100 : decode cX8_balance 100 = .ok (.iadd, 1) := by decide +kernel
theorem dX8_balance_101 : decode cX8_balance 101 = .ok (.laload, 1) := by decide +kernel
theorem dX8_balance_102 : decode cX8_balance 102 = .ok (.goto 4, 3) := by decide +kernel
theorem dX8_balance_105 : decode cX8_balance 105 = .ok (.lconst 0, 1) := by decide +kernel
theorem dX8_balance_106 : decode cX8_balance 106 = .ok (.ladd, 1) := by decide +kernel
theorem dX8_balance_107 : decode cX8_balance 107 = .ok (.lstore_n 3, 1) := by decide +kernel
theorem dX8_balance_108 : decode cX8_balance 108 = .ok (.iinc 6 1, 3) := by decide +kernel
theorem dX8_balance_111 : decode cX8_balance 111 = .ok (.goto (-66), 3) := by decide +kernel
theorem dX8_balance_114 : decode cX8_balance 114 = .ok (.iinc 5 1, 3) := by decide +kernel
theorem dX8_balance_117 : decode cX8_balance 117 = .ok (.goto (-84), 3) := by decide +kernel
theorem dX8_balance_120 : decode cX8_balance 120 = .ok (.lload_n 3, 1) := by decide +kernel
theorem dX8_balance_121 : decode cX8_balance 121 = .ok (.lreturn, 1) := by decide +kernel
theorem dX8_entry_0 : decode cX8_entry 0 = .ok (.iload_n 1, 1) := by decide +kernel
theorem dX8_entry_1 : decode cX8_entry 1 = .ok (.i2l, 1) := by decide +kernel
theorem dX8_entry_2 : decode cX8_entry 2 = .ok (.lconst 1, 1) := by decide +kernel
theorem dX8_entry_3 : decode cX8_entry 3 = .ok (.aload_n 0, 1) := by decide +kernel
theorem dX8_entry_4 : decode cX8_entry 4 = .ok (.getfield 169, 3) := by decide +kernel
theorem dX8_entry_7 : decode cX8_entry 7 = .ok (.i2l, 1) := by decide +kernel
theorem dX8_entry_8 : decode cX8_entry 8 = .ok (.invokestatic 80, 3) := by decide +kernel
theorem dX8_entry_11 : decode cX8_entry 11 = .ok (.ifCond .ne 7, 3) := by decide +kernel
theorem dX8_entry_14 : decode cX8_entry 14 = .ok (.ldc2_w 158, 3) := by decide +kernel
theorem dX8_entry_17 : decode cX8_entry 17 = .ok (.lreturn, 1) := by decide +kernel
theorem dX8_entry_18 : decode cX8_entry 18 = .ok (.iload_n 2, 1) := by decide +kernel
theorem dX8_entry_19 : decode cX8_entry 19 = .ok (.iconst (-1), 1) := by decide +kernel
theorem dX8_entry_20 : decode cX8_entry 20 = .ok (.if_icmp .ne 66, 3) := by decide +kernel
theorem dX8_entry_23 : decode cX8_entry 23 = .ok (.iload_n 3, 1) := by decide +kernel
theorem dX8_entry_24 : decode cX8_entry 24 = .ok (.ifCond .ne 13, 3) := by decide +kernel
theorem dX8_entry_27 : decode cX8_entry 27 = .ok (.aload_n 0, 1) := by decide +kernel
theorem dX8_entry_28 : decode cX8_entry 28 = .ok (.getfield 60, 3) := by decide +kernel
theorem dX8_entry_31 : decode cX8_entry 31 = .ok (.iload_n 1, 1) := by decide +kernel
theorem dX8_entry_32 : decode cX8_entry 32 = .ok (.iaload, 1) := by decide +kernel
theorem dX8_entry_33 : decode cX8_entry 33 = .ok (.i2l, 1) := by decide +kernel
theorem dX8_entry_34 : decode cX8_entry 34 = .ok (.goto 51, 3) := by decide +kernel
theorem dX8_entry_37 : decode cX8_entry 37 = .ok (.iload_n 3, 1) := by decide +kernel
theorem dX8_entry_38 : decode cX8_entry 38 = .ok (.iconst 1, 1) := by decide +kernel
theorem dX8_entry_39 : decode cX8_entry 39 = .ok (.if_icmp .ne 13, 3) := by decide +kernel
theorem dX8_entry_42 : decode cX8_entry 42 = .ok (.aload_n 0, 1) := by decide +kernel
theorem dX8_entry_43 : decode cX8_entry 43 = .ok (.getfield 63, 3) := by decide +kernel
theorem dX8_entry_46 : decode cX8_entry 46 = .ok (.iload_n 1, 1) := by decide +kernel
theorem dX8_entry_47 : decode cX8_entry 47 = .ok (.iaload, 1) := by decide +kernel
theorem dX8_entry_48 : decode cX8_entry 48 = .ok (.i2l, 1) := by decide +kernel
theorem dX8_entry_49 : decode cX8_entry 49 = .ok (.goto 36, 3) := by decide +kernel
theorem dX8_entry_52 : decode cX8_entry 52 = .ok (.iload_n 3, 1) := by decide +kernel
theorem dX8_entry_53 : decode cX8_entry 53 = .ok (.iconst 2, 1) := by decide +kernel
theorem dX8_entry_54 : decode cX8_entry 54 = .ok (.if_icmp .ne 13, 3) := by decide +kernel
theorem dX8_entry_57 : decode cX8_entry 57 = .ok (.aload_n 0, 1) := by decide +kernel
theorem dX8_entry_58 : decode cX8_entry 58 = .ok (.getfield 66, 3) := by decide +kernel
theorem dX8_entry_61 : decode cX8_entry 61 = .ok (.iload_n 1, 1) := by decide +kernel
theorem dX8_entry_62 : decode cX8_entry 62 = .ok (.iaload, 1) := by decide +kernel
theorem dX8_entry_63 : decode cX8_entry 63 = .ok (.i2l, 1) := by decide +kernel
theorem dX8_entry_64 : decode cX8_entry 64 = .ok (.goto 21, 3) := by decide +kernel
theorem dX8_entry_67 : decode cX8_entry 67 = .ok (.iload_n 3, 1) := by decide +kernel
theorem dX8_entry_68 : decode cX8_entry 68 = .ok (.iconst 3, 1) := by decide +kernel
theorem dX8_entry_69 : decode cX8_entry 69 = .ok (.if_icmp .ne 13, 3) := by decide +kernel
theorem dX8_entry_72 : decode cX8_entry 72 = .ok (.aload_n 0, 1) := by decide +kernel
theorem dX8_entry_73 : decode cX8_entry 73 = .ok (.getfield 69, 3) := by decide +kernel
theorem dX8_entry_76 : decode cX8_entry 76 = .ok (.iload_n 1, 1) := by decide +kernel
theorem dX8_entry_77 : decode cX8_entry 77 = .ok (.iaload, 1) := by decide +kernel
theorem dX8_entry_78 : decode cX8_entry 78 = .ok (.i2l, 1) := by decide +kernel
theorem dX8_entry_79 : decode cX8_entry 79 = .ok (.goto 6, 3) := by decide +kernel
theorem dX8_entry_82 : decode cX8_entry 82 = .ok (.ldc2_w 158, 3) := by decide +kernel
theorem dX8_entry_85 : decode cX8_entry 85 = .ok (.lreturn, 1) := by decide +kernel
theorem dX8_entry_86 : decode cX8_entry 86 = .ok (.iload_n 2, 1) := by decide +kernel
theorem dX8_entry_87 : decode cX8_entry 87 = .ok (.ifCond .lt 13, 3) := by decide +kernel
theorem dX8_entry_90 : decode cX8_entry 90 = .ok (.iload_n 2, 1) := by decide +kernel
theorem dX8_entry_91 : decode cX8_entry 91 = .ok (.aload_n 0, 1) := by decide +kernel
theorem dX8_entry_92 : decode cX8_entry 92 = .ok (.getfield 63, 3) := by decide +kernel
theorem dX8_entry_95 : decode cX8_entry 95 = .ok (.iload_n 1, 1) := by decide +kernel
theorem dX8_entry_96 : decode cX8_entry 96 = .ok (.iaload, 1) := by decide +kernel
theorem dX8_entry_97 : decode cX8_entry 97 = .ok (.if_icmp .lt 7, 3) := by decide +kernel
theorem dX8_entry_100 : decode cX8_entry 100 = .ok (.ldc2_w 158, 3) := by decide +kernel
theorem dX8_entry_103 : decode cX8_entry 103 = .ok (.lreturn, 1) := by decide +kernel
theorem dX8_entry_104 : decode cX8_entry 104 = .ok (.iload_n 3, 1) := by decide +kernel
theorem dX8_entry_105 : decode cX8_entry 105 = .ok (.ifCond .ne 18, 3) := by decide +kernel
theorem dX8_entry_108 : decode cX8_entry 108 = .ok (.aload_n 0, 1) := by decide +kernel
theorem dX8_entry_109 : decode cX8_entry 109 = .ok (.getfield 72, 3) := by decide +kernel
theorem dX8_entry_112 : decode cX8_entry 112 = .ok (.bipush 8, 2) := by decide +kernel
theorem dX8_entry_114 : decode cX8_entry 114 = .ok (.iload_n 1, 1) := by decide +kernel
theorem dX8_entry_115 : decode cX8_entry 115 = .ok (.imul, 1) := by decide +kernel
theorem dX8_entry_116 : decode cX8_entry 116 = .ok (.iload_n 2, 1) := by decide +kernel
theorem dX8_entry_117 : decode cX8_entry 117 = .ok (.iadd, 1) := by decide +kernel
theorem dX8_entry_118 : decode cX8_entry 118 = .ok (.iaload, 1) := by decide +kernel
theorem dX8_entry_119 : decode cX8_entry 119 = .ok (.i2l, 1) := by decide +kernel
theorem dX8_entry_120 : decode cX8_entry 120 = .ok (.goto 25, 3) := by decide +kernel
theorem dX8_entry_123 : decode cX8_entry 123 = .ok (.iload_n 3, 1) := by decide +kernel
theorem dX8_entry_124 : decode cX8_entry 124 = .ok (.iconst 1, 1) := by decide +kernel
theorem dX8_entry_125 : decode cX8_entry 125 = .ok (.if_icmp .ne 17, 3) := by decide +kernel
theorem dX8_entry_128 : decode cX8_entry 128 = .ok (.aload_n 0, 1) := by decide +kernel
theorem dX8_entry_129 : decode cX8_entry 129 = .ok (.getfield 75, 3) := by decide +kernel
theorem dX8_entry_132 : decode cX8_entry 132 = .ok (.bipush 8, 2) := by decide +kernel
theorem dX8_entry_134 : decode cX8_entry 134 = .ok (.iload_n 1, 1) := by decide +kernel
theorem dX8_entry_135 : decode cX8_entry 135 = .ok (.imul, 1) := by decide +kernel
theorem dX8_entry_136 : decode cX8_entry 136 = .ok (.iload_n 2, 1) := by decide +kernel
theorem dX8_entry_137 : decode cX8_entry 137 = .ok (.iadd, 1) := by decide +kernel
theorem dX8_entry_138 : decode cX8_entry 138 = .ok (.laload, 1) := by decide +kernel
theorem dX8_entry_139 : decode cX8_entry 139 = .ok (.goto 6, 3) := by decide +kernel
theorem dX8_entry_142 : decode cX8_entry 142 = .ok (.ldc2_w 158, 3) := by decide +kernel
theorem dX8_entry_145 : decode cX8_entry 145 = .ok (.lreturn, 1) := by decide +kernel
theorem dJ9_max_7cf53_0 : decode cJ9_max_7cf53 0 = .ok (.iload_n 0, 1) := by decide +kernel
theorem dJ9_max_7cf53_1 : decode cJ9_max_7cf53 1 = .ok (.iload_n 1, 1) := by decide +kernel
theorem dJ9_max_7cf53_2 : decode cJ9_max_7cf53 2 = .ok (.if_icmp .lt 7, 3) := by decide +kernel
theorem dJ9_max_7cf53_5 : decode cJ9_max_7cf53 5 = .ok (.iload_n 0, 1) := by decide +kernel
theorem dJ9_max_7cf53_6 : decode cJ9_max_7cf53 6 = .ok (.goto 4, 3) := by decide +kernel
theorem dJ9_max_7cf53_9 : decode cJ9_max_7cf53 9 = .ok (.iload_n 1, 1) := by decide +kernel
theorem dJ9_max_7cf53_10 : decode cJ9_max_7cf53 10 = .ok (.ireturn, 1) := by decide +kernel
theorem dJ9_max_f86c9_0 : decode cJ9_max_f86c9 0 = .ok (.lload_n 0, 1) := by decide +kernel
theorem dJ9_max_f86c9_1 : decode cJ9_max_f86c9 1 = .ok (.lload_n 2, 1) := by decide +kernel
theorem dJ9_max_f86c9_2 : decode cJ9_max_f86c9 2 = .ok (.lcmp, 1) := by decide +kernel
theorem dJ9_max_f86c9_3 : decode cJ9_max_f86c9 3 = .ok (.ifCond .lt 7, 3) := by decide +kernel
theorem dJ9_max_f86c9_6 : decode cJ9_max_f86c9 6 = .ok (.lload_n 0, 1) := by decide +kernel
theorem dJ9_max_f86c9_7 : decode cJ9_max_f86c9 7 = .ok (.goto 4, 3) := by decide +kernel
theorem dJ9_max_f86c9_10 : decode cJ9_max_f86c9 10 = .ok (.lload_n 2, 1) := by decide +kernel
theorem dJ9_max_f86c9_11 : decode cJ9_max_f86c9 11 = .ok (.lreturn, 1) := by decide +kernel
theorem dJ9_min_f86c9_0 : decode cJ9_min_f86c9 0 = .ok (.lload_n 0, 1) := by decide +kernel
theorem dJ9_min_f86c9_1 : decode cJ9_min_f86c9 1 = .ok (.lload_n 2, 1) := by decide +kernel
theorem dJ9_min_f86c9_2 : decode cJ9_min_f86c9 2 = .ok (.lcmp, 1) := by decide +kernel
theorem dJ9_min_f86c9_3 : decode cJ9_min_f86c9 3 = .ok (.ifCond .gt 7, 3) := by decide +kernel
theorem dJ9_min_f86c9_6 : decode cJ9_min_f86c9 6 = .ok (.lload_n 0, 1) := by decide +kernel
theorem dJ9_min_f86c9_7 : decode cJ9_min_f86c9 7 = .ok (.goto 4, 3) := by decide +kernel
theorem dJ9_min_f86c9_10 : decode cJ9_min_f86c9 10 = .ok (.lload_n 2, 1) := by decide +kernel
theorem dJ9_min_f86c9_11 : decode cJ9_min_f86c9 11 = .ok (.lreturn, 1) := by decide +kernel
theorem dJ0_length_8abf5_0 : decode cJ0_length_8abf5 0 = .ok (.aload_n 0, 1) := by decide +kernel
theorem dJ0_length_8abf5_1 : decode cJ0_length_8abf5 1 = .ok (.getfield 9, 3) := by decide +kernel
theorem dJ0_length_8abf5_4 : decode cJ0_length_8abf5 4 = .ok (.arraylength, 1) := by decide +kernel
theorem dJ0_length_8abf5_5 : decode cJ0_length_8abf5 5 = .ok (.aload_n 0, 1) := by decide +kernel
theorem dJ0_length_8abf5_6 : decode cJ0_length_8abf5 6 = .ok (.invokevirtual 335, 3) := by decide +kernel
theorem dJ0_length_8abf5_9 : decode cJ0_length_8abf5 9 = .ok (.ishr, 1) := by decide +kernel
theorem dJ0_length_8abf5_10 : decode cJ0_length_8abf5 10 = .ok (.ireturn, 1) := by decide +kernel
theorem dJ0_charAt_5068e_0 : decode cJ0_charAt_5068e 0 = .ok (.aload_n 0, 1) := by decide +kernel
theorem dJ0_charAt_5068e_1 : decode cJ0_charAt_5068e 1 = .ok (.invokevirtual 492, 3) := by decide +kernel
theorem dJ0_charAt_5068e_4 : decode cJ0_charAt_5068e 4 = .ok (.ifCond .eq 12, 3) := by decide +kernel
theorem dJ0_charAt_5068e_7 : decode cJ0_charAt_5068e 7 = .ok (.aload_n 0, 1) := by decide +kernel
theorem dJ0_charAt_5068e_8 : decode cJ0_charAt_5068e 8 = .ok (.getfield 9, 3) := by decide +kernel
theorem dJ0_charAt_5068e_11 : decode cJ0_charAt_5068e 11 = .ok (.iload_n 1, 1) := by decide +kernel
theorem dJ0_charAt_5068e_12 : decode cJ0_charAt_5068e 12 = .ok (.invokestatic 495, 3) := by decide +kernel
theorem dJ0_charAt_5068e_15 : decode cJ0_charAt_5068e 15 = .ok (.ireturn, 1) := by decide +kernel
theorem dJ0_charAt_5068e_16 : decode cJ0_charAt_5068e 16 = .ok (.aload_n 0, 1) := by decide +kernel
theorem dJ0_charAt_5068e_17 : decode cJ0_charAt_5068e 17 = .ok (.getfield 9, 3) := by decide +kernel
theorem dJ0_charAt_5068e_20 : decode cJ0_charAt_5068e 20 = .ok (.iload_n 1, 1) := by decide +kernel
theorem dJ0_charAt_5068e_21 : decode cJ0_charAt_5068e 21 = .ok (.invokestatic 498, 3) := by decide +kernel
theorem dJ0_charAt_5068e_24 : decode cJ0_charAt_5068e 24 = .ok (.ireturn, 1) := by decide +kernel
theorem dJ0_coder_7d493_0 : decode cJ0_coder_7d493 0 = .ok (.getstatic 38, 3) := by decide +kernel
theorem dJ0_coder_7d493_3 : decode cJ0_coder_7d493 3 = .ok (.ifCond .eq 10, 3) := by decide +kernel
theorem dJ0_coder_7d493_6 : decode cJ0_coder_7d493 6 = .ok (.aload_n 0, 1) := by decide +kernel
theorem dJ0_coder_7d493_7 : decode cJ0_coder_7d493 7 = .ok (.getfield 15, 3) := by decide +kernel
theorem dJ0_coder_7d493_10 : decode cJ0_coder_7d493 10 = .ok (.goto 4, 3) := by decide +kernel
theorem dJ0_coder_7d493_13 : decode cJ0_coder_7d493 13 = .ok (.iconst 1, 1) := by decide +kernel
theorem dJ0_coder_7d493_14 : decode cJ0_coder_7d493 14 = .ok (.ireturn, 1) := by decide +kernel
theorem dJ0_isLatin1_aae02_0 : decode cJ0_isLatin1_aae02 0 = .ok (.getstatic 38, 3) := by decide +kernel
theorem dJ0_isLatin1_aae02_3 : decode cJ0_isLatin1_aae02 3 = .ok (.ifCond .eq 14, 3) := by decide +kernel
theorem dJ0_isLatin1_aae02_6 : decode cJ0_isLatin1_aae02 6 = .ok (.aload_n 0, 1) := by decide +kernel
theorem dJ0_isLatin1_aae02_7 : decode cJ0_isLatin1_aae02 7 = .ok (.getfield 15, 3) := by decide +kernel
theorem dJ0_isLatin1_aae02_10 : decode cJ0_isLatin1_aae02 10 = .ok (.ifCond .ne 7, 3) := by decide +kernel
theorem dJ0_isLatin1_aae02_13 : decode cJ0_isLatin1_aae02 13 = .ok (.iconst 1, 1) := by decide +kernel
theorem dJ0_isLatin1_aae02_14 : decode cJ0_isLatin1_aae02 14 = .ok (.goto 4, 3) := by decide +kernel
theorem dJ0_isLatin1_aae02_17 : decode cJ0_isLatin1_aae02 17 = .ok (.iconst 0, 1) := by decide +kernel
theorem dJ0_isLatin1_aae02_18 : decode cJ0_isLatin1_aae02 18 = .ok (.ireturn, 1) := by decide +kernel
theorem dJ0_checkIndex_df160_0 : decode cJ0_checkIndex_df160 0 = .ok (.iload_n 0, 1) := by decide +kernel
theorem dJ0_checkIndex_df160_1 : decode cJ0_checkIndex_df160 1 = .ok (.iload_n 1, 1) := by decide +kernel
theorem dJ0_checkIndex_df160_2 : decode cJ0_checkIndex_df160 2 = .ok (.getstatic 1053, 3) := by decide +kernel
theorem dJ0_checkIndex_df160_5 : decode cJ0_checkIndex_df160 5 = .ok (.invokestatic 1059, 3) := by decide +kernel
theorem dJ0_checkIndex_df160_8 : decode cJ0_checkIndex_df160 8 = .ok (.pop, 1) := by decide +kernel
theorem dJ0_checkIndex_df160_9 : decode cJ0_checkIndex_df160 9 = .ok (.return_, 1) := by decide +kernel
theorem dJ1_charAt_3b067_0 : decode cJ1_charAt_3b067 0 = .ok (.iload_n 1, 1) := by decide +kernel
theorem dJ1_charAt_3b067_1 : decode cJ1_charAt_3b067 1 = .ok (.aload_n 0, 1) := by decide +kernel
theorem dJ1_charAt_3b067_2 : decode cJ1_charAt_3b067 2 = .ok (.arraylength, 1) := by decide +kernel
theorem dJ1_charAt_3b067_3 : decode cJ1_charAt_3b067 3 = .ok (.invokestatic 9, 3) := by decide +kernel
theorem dJ1_charAt_3b067_6 : decode cJ1_charAt_3b067 6 = .ok (.aload_n 0, 1) := by decide +kernel
theorem dJ1_charAt_3b067_7 : decode cJ1_charAt_3b067 7 = .ok (.iload_n 1, 1) := by decide +kernel
theorem dJ1_charAt_3b067_8 : decode cJ1_charAt_3b067 8 = .ok (.baload, 1) := by decide +kernel
theorem dJ1_charAt_3b067_9 : decode cJ1_charAt_3b067 9 = .ok (.sipush 255, 3) := by decide +kernel
theorem dJ1_charAt_3b067_12 : decode cJ1_charAt_3b067 12 = .ok (.iand, 1) := by decide +kernel
theorem dJ1_charAt_3b067_13 : decode cJ1_charAt_3b067 13 = .ok (.i2c, 1) := by decide +kernel
theorem dJ1_charAt_3b067_14 : decode cJ1_charAt_3b067 14 = .ok (.ireturn, 1) := by decide +kernel
theorem dJ2_getChar_3b067_0 : decode cJ2_getChar_3b067 0 = .ok (.getstatic 44, 3) := by decide +kernel
theorem dJ2_getChar_3b067_3 : decode cJ2_getChar_3b067 3 = .ok (.ifCond .ne 25, 3) := by decide +kernel
theorem dJ2_getChar_3b067_6 : decode cJ2_getChar_3b067 6 = .ok (.iload_n 1, 1) := by decide +kernel
theorem dJ2_getChar_3b067_7 : decode cJ2_getChar_3b067 7 = .ok (.ifCond .lt 11, 3) := by decide +kernel
theorem dJ2_getChar_3b067_10 : decode cJ2_getChar_3b067 10 = .ok (.iload_n 1, 1) := by decide +kernel
theorem dJ2_getChar_3b067_11 : decode cJ2_getChar_3b067 11 = .ok (.aload_n 0, 1) := by decide +kernel
theorem dJ2_getChar_3b067_12 : decode cJ2_getChar_3b067 12 = .ok (.invokestatic 48, 3) := by decide +kernel
theorem dJ2_getChar_3b067_15 : decode cJ2_getChar_3b067 15 = .ok (.if_icmp .lt 13, 3) := by decide +kernel
theorem dJ2_getChar_3b067_18 : decode cJ2_getChar_3b067 18 = .ok (.new 52, 3) := by decide +kernel
theorem dJ2_getChar_3b067_21 : decode cJ2_getChar_3b067 21 = .ok (.dup, 1) := by decide +kernel
theorem dJ2_getChar_3b067_22 : decode cJ2_getChar_3b067 22 = .ok (.ldc 54, 2) := by decide +kernel
theorem dJ2_getChar_3b067_24 : decode cJ2_getChar_3b067 24 = .ok (.invokespecial 56, 3) := by decide +kernel
theorem dJ2_getChar_3b067_27 : decode cJ2_getChar_3b067 27 = .ok (.athrow, 1) := by decide +kernel
theorem dJ2_getChar_3b067_28 : decode cJ2_getChar_3b067 28 = .ok (.iload_n 1, 1) := by decide +kernel
theorem dJ2_getChar_3b067_29 : decode cJ2_getChar_3b067 29 = .ok (.iconst 1, 1) := by decide +kernel
theorem dJ2_getChar_3b067_30 : decode cJ2_getChar_3b067 30 = .ok (.ishl, 1) := by decide +kernel
theorem dJ2_getChar_3b067_31 : decode cJ2_getChar_3b067 31 = .ok (.istore_n 1, 1) := by decide +kernel
theorem dJ2_getChar_3b067_32 : decode cJ2_getChar_3b067 32 = .ok (.aload_n 0, 1) := by decide +kernel
theorem dJ2_getChar_3b067_33 : decode cJ2_getChar_3b067 33 = .ok (.iload_n 1, 1) := by decide +kernel
theorem dJ2_getChar_3b067_34 : decode cJ2_getChar_3b067 34 = .ok (.iinc 1 1, 3) := by decide +kernel
theorem dJ2_getChar_3b067_37 : decode cJ2_getChar_3b067 37 = .ok (.baload, 1) := by decide +kernel
theorem dJ2_getChar_3b067_38 : decode cJ2_getChar_3b067 38 = .ok (.sipush 255, 3) := by decide +kernel
theorem dJ2_getChar_3b067_41 : decode cJ2_getChar_3b067 41 = .ok (.iand, 1) := by decide +kernel
theorem dJ2_getChar_3b067_42 : decode cJ2_getChar_3b067 42 = .ok (.getstatic 59, 3) := by decide +kernel
theorem dJ2_getChar_3b067_45 : decode cJ2_getChar_3b067 45 = .ok (.ishl, 1) := by decide +kernel
theorem dJ2_getChar_3b067_46 : decode cJ2_getChar_3b067 46 = .ok (.aload_n 0, 1) := by decide +kernel
theorem dJ2_getChar_3b067_47 : decode cJ2_getChar_3b067 47 = .ok (.iload_n 1, 1) := by decide +kernel
theorem dJ2_getChar_3b067_48 : decode cJ2_getChar_3b067 48 = .ok (.baload, 1) := by decide +kernel
theorem dJ2_getChar_3b067_49 : decode cJ2_getChar_3b067 49 = .ok (.sipush 255, 3) := by decide +kernel
theorem dJ2_getChar_3b067_52 : decode cJ2_getChar_3b067 52 = .ok (.iand, 1) := by decide +kernel
theorem dJ2_getChar_3b067_53 : decode cJ2_getChar_3b067 53 = .ok (.getstatic 63, 3) := by decide +kernel
theorem dJ2_getChar_3b067_56 : decode cJ2_getChar_3b067 56 = .ok (.ishl, 1) := by decide +kernel
theorem dJ2_getChar_3b067_57 : decode cJ2_getChar_3b067 57 = .ok (.ior, 1) := by decide +kernel
theorem dJ2_getChar_3b067_58 : decode cJ2_getChar_3b067 58 = .ok (.i2c, 1) := by decide +kernel
theorem dJ2_getChar_3b067_59 : decode cJ2_getChar_3b067 59 = .ok (.ireturn, 1) := by decide +kernel
theorem dJ2_length_9d52b_0 : decode cJ2_length_9d52b 0 = .ok (.aload_n 0, 1) := by decide +kernel
theorem dJ2_length_9d52b_1 : decode cJ2_length_9d52b 1 = .ok (.arraylength, 1) := by decide +kernel
theorem dJ2_length_9d52b_2 : decode cJ2_length_9d52b 2 = .ok (.iconst 1, 1) := by decide +kernel
theorem dJ2_length_9d52b_3 : decode cJ2_length_9d52b 3 = .ok (.ishr, 1) := by decide +kernel
theorem dJ2_length_9d52b_4 : decode cJ2_length_9d52b 4 = .ok (.ireturn, 1) := by decide +kernel
theorem dJ2_charAt_3b067_0 : decode cJ2_charAt_3b067 0 = .ok (.iload_n 1, 1) := by decide +kernel
theorem dJ2_charAt_3b067_1 : decode cJ2_charAt_3b067 1 = .ok (.aload_n 0, 1) := by decide +kernel
theorem dJ2_charAt_3b067_2 : decode cJ2_charAt_3b067 2 = .ok (.invokestatic 67, 3) := by decide +kernel
theorem dJ2_charAt_3b067_5 : decode cJ2_charAt_3b067 5 = .ok (.aload_n 0, 1) := by decide +kernel
theorem dJ2_charAt_3b067_6 : decode cJ2_charAt_3b067 6 = .ok (.iload_n 1, 1) := by decide +kernel
theorem dJ2_charAt_3b067_7 : decode cJ2_charAt_3b067 7 = .ok (.invokestatic 71, 3) := by decide +kernel
theorem dJ2_charAt_3b067_10 : decode cJ2_charAt_3b067 10 = .ok (.ireturn, 1) := by decide +kernel
theorem dJ2_checkIndex_2214a_0 : decode cJ2_checkIndex_2214a 0 = .ok (.iload_n 0, 1) := by decide +kernel
theorem dJ2_checkIndex_2214a_1 : decode cJ2_checkIndex_2214a 1 = .ok (.aload_n 1, 1) := by decide +kernel
theorem dJ2_checkIndex_2214a_2 : decode cJ2_checkIndex_2214a 2 = .ok (.invokestatic 48, 3) := by decide +kernel
theorem dJ2_checkIndex_2214a_5 : decode cJ2_checkIndex_2214a 5 = .ok (.invokestatic 414, 3) := by decide +kernel
theorem dJ2_checkIndex_2214a_8 : decode cJ2_checkIndex_2214a 8 = .ok (.return_, 1) := by decide +kernel
theorem dJ7_fill_d0a16_0 : decode cJ7_fill_d0a16 0 = .ok (.iconst 0, 1) := by decide +kernel
theorem dJ7_fill_d0a16_1 : decode cJ7_fill_d0a16 1 = .ok (.istore_n 3, 1) := by decide +kernel
theorem dJ7_fill_d0a16_2 : decode cJ7_fill_d0a16 2 = .ok (.aload_n 0, 1) := by decide +kernel
theorem dJ7_fill_d0a16_3 : decode cJ7_fill_d0a16 3 = .ok (.arraylength, 1) := by decide +kernel
theorem dJ7_fill_d0a16_4 : decode cJ7_fill_d0a16 4 = .ok (.istore 4, 2) := by decide +kernel
theorem dJ7_fill_d0a16_6 : decode cJ7_fill_d0a16 6 = .ok (.iload_n 3, 1) := by decide +kernel
theorem dJ7_fill_d0a16_7 : decode cJ7_fill_d0a16 7 = .ok (.iload 4, 2) := by decide +kernel
theorem dJ7_fill_d0a16_9 : decode cJ7_fill_d0a16 9 = .ok (.if_icmp .ge 13, 3) := by decide +kernel
theorem dJ7_fill_d0a16_12 : decode cJ7_fill_d0a16 12 = .ok (.aload_n 0, 1) := by decide +kernel
theorem dJ7_fill_d0a16_13 : decode cJ7_fill_d0a16 13 = .ok (.iload_n 3, 1) := by decide +kernel
theorem dJ7_fill_d0a16_14 : decode cJ7_fill_d0a16 14 = .ok (.lload_n 1, 1) := by decide +kernel
theorem dJ7_fill_d0a16_15 : decode cJ7_fill_d0a16 15 = .ok (.lastore, 1) := by decide +kernel
theorem dJ7_fill_d0a16_16 : decode cJ7_fill_d0a16 16 = .ok (.iinc 3 1, 3) := by decide +kernel
theorem dJ7_fill_d0a16_19 : decode cJ7_fill_d0a16 19 = .ok (.goto (-13), 3) := by decide +kernel
theorem dJ7_fill_d0a16_22 : decode cJ7_fill_d0a16 22 = .ok (.return_, 1) := by decide +kernel
theorem dJ7_fill_53178_0 : decode cJ7_fill_53178 0 = .ok (.iconst 0, 1) := by decide +kernel
theorem dJ7_fill_53178_1 : decode cJ7_fill_53178 1 = .ok (.istore_n 2, 1) := by decide +kernel
theorem dJ7_fill_53178_2 : decode cJ7_fill_53178 2 = .ok (.aload_n 0, 1) := by decide +kernel
theorem dJ7_fill_53178_3 : decode cJ7_fill_53178 3 = .ok (.arraylength, 1) := by decide +kernel
theorem dJ7_fill_53178_4 : decode cJ7_fill_53178 4 = .ok (.istore_n 3, 1) := by decide +kernel
theorem dJ7_fill_53178_5 : decode cJ7_fill_53178 5 = .ok (.iload_n 2, 1) := by decide +kernel
theorem dJ7_fill_53178_6 : decode cJ7_fill_53178 6 = .ok (.iload_n 3, 1) := by decide +kernel
theorem dJ7_fill_53178_7 : decode cJ7_fill_53178 7 = .ok (.if_icmp .ge 13, 3) := by decide +kernel
theorem dJ7_fill_53178_10 : decode cJ7_fill_53178 10 = .ok (.aload_n 0, 1) := by decide +kernel
theorem dJ7_fill_53178_11 : decode cJ7_fill_53178 11 = .ok (.iload_n 2, 1) := by decide +kernel
theorem dJ7_fill_53178_12 : decode cJ7_fill_53178 12 = .ok (.iload_n 1, 1) := by decide +kernel
theorem dJ7_fill_53178_13 : decode cJ7_fill_53178 13 = .ok (.iastore, 1) := by decide +kernel
theorem dJ7_fill_53178_14 : decode cJ7_fill_53178 14 = .ok (.iinc 2 1, 3) := by decide +kernel
theorem dJ7_fill_53178_17 : decode cJ7_fill_53178 17 = .ok (.goto (-12), 3) := by decide +kernel
theorem dJ7_fill_53178_20 : decode cJ7_fill_53178 20 = .ok (.return_, 1) := by decide +kernel
theorem dJ3_checkIndex_8e157_0 : decode cJ3_checkIndex_8e157 0 = .ok (.iload_n 0, 1) := by decide +kernel
theorem dJ3_checkIndex_8e157_1 : decode cJ3_checkIndex_8e157 1 = .ok (.ifCond .lt 8, 3) := by decide +kernel
theorem dJ3_checkIndex_8e157_4 : decode cJ3_checkIndex_8e157 4 = .ok (.iload_n 0, 1) := by decide +kernel
theorem dJ3_checkIndex_8e157_5 : decode cJ3_checkIndex_8e157 5 = .ok (.iload_n 1, 1) := by decide +kernel
theorem dJ3_checkIndex_8e157_6 : decode cJ3_checkIndex_8e157 6 = .ok (.if_icmp .lt 10, 3) := by decide +kernel
theorem dJ3_checkIndex_8e157_9 : decode cJ3_checkIndex_8e157 9 = .ok (.aload_n 2, 1) := by decide +kernel
theorem dJ3_checkIndex_8e157_10 : decode cJ3_checkIndex_8e157 10 = .ok (.iload_n 0, 1) := by decide +kernel
theorem dJ3_checkIndex_8e157_11 : decode cJ3_checkIndex_8e157 11 = .ok (.iload_n 1, 1) := by decide +kernel
theorem dJ3_checkIndex_8e157_12 : decode cJ3_checkIndex_8e157 12 = .ok (.invokestatic 95, 3) := by decide +kernel
theorem dJ3_checkIndex_8e157_15 : decode cJ3_checkIndex_8e157 15 = .ok (.athrow, 1) := by decide +kernel
theorem dJ3_checkIndex_8e157_16 : decode cJ3_checkIndex_8e157 16 = .ok (.iload_n 0, 1) := by decide +kernel
theorem dJ3_checkIndex_8e157_17 : decode cJ3_checkIndex_8e157 17 = .ok (.ireturn, 1) := by decide +kernel
theorem dL_law_0 : decode cL_law 0 = .ok (.new 7, 3) := by decide +kernel
theorem dL_law_3 : decode cL_law 3 = .ok (.dup, 1) := by decide +kernel
theorem dL_law_4 : decode cL_law 4 = .ok (.invokespecial 9, 3) := by decide +kernel
theorem dL_law_7 : decode cL_law 7 = .ok (.astore_n 1, 1) := by decide +kernel
theorem dL_law_8 : decode cL_law 8 = .ok (.new 10, 3) := by decide +kernel
theorem dL_law_11 : decode cL_law 11 = .ok (.dup, 1) := by decide +kernel
theorem dL_law_12 : decode cL_law 12 = .ok (.invokespecial 12, 3) := by decide +kernel
theorem dL_law_15 : decode cL_law 15 = .ok (.astore_n 2, 1) := by decide +kernel
theorem dL_law_16 : decode cL_law 16 = .ok (.iconst 0, 1) := by decide +kernel
theorem dL_law_17 : decode cL_law 17 = .ok (.istore_n 3, 1) := by decide +kernel
theorem dL_law_18 : decode cL_law 18 = .ok (.iload_n 3, 1) := by decide +kernel
theorem dL_law_19 : decode cL_law 19 = .ok (.aload_n 0, 1) := by decide +kernel
theorem dL_law_20 : decode cL_law 20 = .ok (.arraylength, 1) := by decide +kernel
theorem dL_law_21 : decode cL_law 21 = .ok (.iconst 5, 1) := by decide +kernel
theorem dL_law_22 : decode cL_law 22 = .ok (.isub, 1) := by decide +kernel
theorem dL_law_23 : decode cL_law 23 = .ok (.if_icmp .gt 806, 3) := by decide +kernel
theorem dL_law_26 : decode cL_law 26 = .ok (.aload_n 0, 1) := by decide +kernel
theorem dL_law_27 : decode cL_law 27 = .ok (.iload_n 3, 1) := by decide +kernel
theorem dL_law_28 : decode cL_law 28 = .ok (.iaload, 1) := by decide +kernel
theorem dL_law_29 : decode cL_law 29 = .ok (.bipush 31, 2) := by decide +kernel
theorem dL_law_31 : decode cL_law 31 = .ok (.iand, 1) := by decide +kernel
theorem dL_law_32 : decode cL_law 32 = .ok (.tableswitch 791 0 19 #[96, 119, 132, 155, 218, 281, 354, 397, 420, 454, 498, 522, 545, 568, 631, 644, 657, 680, 713, 747], 96) := by decide +kernel
theorem dL_law_128 : decode cL_law 128 = .ok (.aload_n 1, 1) := by decide +kernel
theorem dL_law_129 : decode cL_law 129 = .ok (.aload_n 0, 1) := by decide +kernel
theorem dL_law_130 : decode cL_law 130 = .ok (.iload_n 3, 1) := by decide +kernel
theorem dL_law_131 : decode cL_law 131 = .ok (.iconst 1, 1) := by decide +kernel
theorem dL_law_132 : decode cL_law 132 = .ok (.iadd, 1) := by decide +kernel
theorem dL_law_133 : decode cL_law 133 = .ok (.iaload, 1) := by decide +kernel
theorem dL_law_134 : decode cL_law 134 = .ok (.invokevirtual 13, 3) := by decide +kernel
theorem dL_law_137 : decode cL_law 137 = .ok (.aload_n 2, 1) := by decide +kernel
theorem dL_law_138 : decode cL_law 138 = .ok (.aload_n 0, 1) := by decide +kernel
theorem dL_law_139 : decode cL_law 139 = .ok (.iload_n 3, 1) := by decide +kernel
theorem dL_law_140 : decode cL_law 140 = .ok (.iconst 1, 1) := by decide +kernel
theorem dL_law_141 : decode cL_law 141 = .ok (.iadd, 1) := by decide +kernel
theorem dL_law_142 : decode cL_law 142 = .ok (.iaload, 1) := by decide +kernel
theorem dL_law_143 : decode cL_law 143 = .ok (.invokevirtual 17, 3) := by decide +kernel
theorem dL_law_146 : decode cL_law 146 = .ok (.if_icmp .eq 677, 3) := by decide +kernel
theorem dL_law_149 : decode cL_law 149 = .ok (.iconst 0, 1) := by decide +kernel
theorem dL_law_150 : decode cL_law 150 = .ok (.ireturn, 1) := by decide +kernel
theorem dL_law_151 : decode cL_law 151 = .ok (.aload_n 1, 1) := by decide +kernel
theorem dL_law_152 : decode cL_law 152 = .ok (.invokevirtual 18, 3) := by decide +kernel
theorem dL_law_155 : decode cL_law 155 = .ok (.aload_n 2, 1) := by decide +kernel
theorem dL_law_156 : decode cL_law 156 = .ok (.invokevirtual 22, 3) := by decide +kernel
theorem dL_law_159 : decode cL_law 159 = .ok (.if_icmp .eq 664, 3) := by decide +kernel
theorem dL_law_162 : decode cL_law 162 = .ok (.iconst 0, 1) := by decide +kernel
theorem dL_law_163 : decode cL_law 163 = .ok (.ireturn, 1) := by decide +kernel
theorem dL_law_164 : decode cL_law 164 = .ok (.aload_n 1, 1) := by decide +kernel
theorem dL_law_165 : decode cL_law 165 = .ok (.aload_n 0, 1) := by decide +kernel
theorem dL_law_166 : decode cL_law 166 = .ok (.iload_n 3, 1) := by decide +kernel
theorem dL_law_167 : decode cL_law 167 = .ok (.iconst 1, 1) := by decide +kernel
theorem dL_law_168 : decode cL_law 168 = .ok (.iadd, 1) := by decide +kernel
theorem dL_law_169 : decode cL_law 169 = .ok (.iaload, 1) := by decide +kernel
theorem dL_law_170 : decode cL_law 170 = .ok (.invokevirtual 23, 3) := by decide +kernel
theorem dL_law_173 : decode cL_law 173 = .ok (.aload_n 2, 1) := by decide +kernel
theorem dL_law_174 : decode cL_law 174 = .ok (.aload_n 0, 1) := by decide +kernel
theorem dL_law_175 : decode cL_law 175 = .ok (.iload_n 3, 1) := by decide +kernel
theorem dL_law_176 : decode cL_law 176 = .ok (.iconst 1, 1) := by decide +kernel
theorem dL_law_177 : decode cL_law 177 = .ok (.iadd, 1) := by decide +kernel
theorem dL_law_178 : decode cL_law 178 = .ok (.iaload, 1) := by decide +kernel
theorem dL_law_179 : decode cL_law 179 = .ok (.invokevirtual 27, 3) := by decide +kernel
theorem dL_law_182 : decode cL_law 182 = .ok (.if_icmp .eq 641, 3) := by decide +kernel
theorem dL_law_185 : decode cL_law 185 = .ok (.iconst 0, 1) := by decide +kernel
theorem dL_law_186 : decode cL_law 186 = .ok (.ireturn, 1) := by decide +kernel
theorem dL_law_187 : decode cL_law 187 = .ok (.aload_n 1, 1) := by decide +kernel
theorem dL_law_188 : decode cL_law 188 = .ok (.aload_n 0, 1) := by decide +kernel
theorem dL_law_189 : decode cL_law 189 = .ok (.iload_n 3, 1) := by decide +kernel
theorem dL_law_190 : decode cL_law 190 = .ok (.iconst 1, 1) := by decide +kernel
theorem dL_law_191 : decode cL_law 191 = .ok (.iadd, 1) := by decide +kernel
theorem dL_law_192 : decode cL_law 192 = .ok (.iaload, 1) := by decide +kernel
theorem dL_law_193 : decode cL_law 193 = .ok (.aload_n 0, 1) := by decide +kernel
theorem dL_law_194 : decode cL_law 194 = .ok (.iload_n 3, 1) := by decide +kernel
theorem dL_law_195 : decode cL_law 195 = .ok (.iconst 2, 1) := by decide +kernel
theorem dL_law_196 : decode cL_law 196 = .ok (.iadd, 1) := by decide +kernel
theorem dL_law_197 : decode cL_law 197 = .ok (.iaload, 1) := by decide +kernel
theorem dL_law_198 : decode cL_law 198 = .ok (.i2l, 1) := by decide +kernel
theorem dL_law_199 : decode cL_law 199 = .ok (.bipush 32, 2) := by decide +kernel
theorem dL_law_201 : decode cL_law 201 = .ok (.lshl, 1) := by decide +kernel
theorem dL_law_202 : decode cL_law 202 = .ok (.aload_n 0, 1) := by decide +kernel
theorem dL_law_203 : decode cL_law 203 = .ok (.iload_n 3, 1) := by decide +kernel
theorem dL_law_204 : decode cL_law 204 = .ok (.iconst 3, 1) := by decide +kernel
theorem dL_law_205 : decode cL_law 205 = .ok (.iadd, 1) := by decide +kernel
theorem dL_law_206 : decode cL_law 206 = .ok (.iaload, 1) := by decide +kernel
theorem dL_law_207 : decode cL_law 207 = .ok (.i2l, 1) := by decide +kernel
theorem dL_law_208 : decode cL_law 208 = .ok (.ldc2_w 28, 3) := by decide +kernel
theorem dL_law_211 : decode cL_law 211 = .ok (.land, 1) := by decide +kernel
theorem dL_law_212 : decode cL_law 212 = .ok (.lor, 1) := by decide +kernel
theorem dL_law_213 : decode cL_law 213 = .ok (.invokevirtual 30, 3) := by decide +kernel
theorem dL_law_216 : decode cL_law 216 = .ok (.aload_n 2, 1) := by decide +kernel
theorem dL_law_217 : decode cL_law 217 = .ok (.aload_n 0, 1) := by decide +kernel
theorem dL_law_218 : decode cL_law 218 = .ok (.iload_n 3, 1) := by decide +kernel
theorem dL_law_219 : decode cL_law 219 = .ok (.iconst 1, 1) := by decide +kernel
theorem dL_law_220 : decode cL_law 220 = .ok (.iadd, 1) := by decide +kernel
theorem dL_law_221 : decode cL_law 221 = .ok (.iaload, 1) := by decide +kernel
theorem dL_law_222 : decode cL_law 222 = .ok (.aload_n 0, 1) := by decide +kernel
theorem dL_law_223 : decode cL_law 223 = .ok (.iload_n 3, 1) := by decide +kernel
theorem dL_law_224 : decode cL_law 224 = .ok (.iconst 2, 1) := by decide +kernel
theorem dL_law_225 : decode cL_law 225 = .ok (.iadd, 1) := by decide +kernel
theorem dL_law_226 : decode cL_law 226 = .ok (.iaload, 1) := by decide +kernel
theorem dL_law_227 : decode cL_law 227 = .ok (.i2l, 1) := by decide +kernel
theorem dL_law_228 : decode cL_law 228 = .ok (.bipush 32, 2) := by decide +kernel
theorem dL_law_230 : decode cL_law 230 = .ok (.lshl, 1) := by decide +kernel
theorem dL_law_231 : decode cL_law 231 = .ok (.aload_n 0, 1) := by decide +kernel
theorem dL_law_232 : decode cL_law 232 = .ok (.iload_n 3, 1) := by decide +kernel
theorem dL_law_233 : decode cL_law 233 = .ok (.iconst 3, 1) := by decide +kernel
theorem dL_law_234 : decode cL_law 234 = .ok (.iadd, 1) := by decide +kernel
theorem dL_law_235 : decode cL_law 235 = .ok (.iaload, 1) := by decide +kernel
theorem dL_law_236 : decode cL_law 236 = .ok (.i2l, 1) := by decide +kernel
theorem dL_law_237 : decode cL_law 237 = .ok (.ldc2_w 28, 3) := by decide +kernel
theorem dL_law_240 : decode cL_law 240 = .ok (.land, 1) := by decide +kernel
theorem dL_law_241 : decode cL_law 241 = .ok (.lor, 1) := by decide +kernel
theorem dL_law_242 : decode cL_law 242 = .ok (.invokevirtual 34, 3) := by decide +kernel
theorem dL_law_245 : decode cL_law 245 = .ok (.if_icmp .eq 578, 3) := by decide +kernel
theorem dL_law_248 : decode cL_law 248 = .ok (.iconst 0, 1) := by decide +kernel
theorem dL_law_249 : decode cL_law 249 = .ok (.ireturn, 1) := by decide +kernel
theorem dL_law_250 : decode cL_law 250 = .ok (.aload_n 1, 1) := by decide +kernel
theorem dL_law_251 : decode cL_law 251 = .ok (.aload_n 0, 1) := by decide +kernel
theorem dL_law_252 : decode cL_law 252 = .ok (.iload_n 3, 1) := by decide +kernel
theorem dL_law_253 : decode cL_law 253 = .ok (.iconst 1, 1) := by decide +kernel
theorem dL_law_254 : decode cL_law 254 = .ok (.iadd, 1) := by decide +kernel
theorem dL_law_255 : decode cL_law 255 = .ok (.iaload, 1) := by decide +kernel
theorem dL_law_256 : decode cL_law 256 = .ok (.aload_n 0, 1) := by decide +kernel
theorem dL_law_257 : decode cL_law 257 = .ok (.iload_n 3, 1) := by decide +kernel
theorem dL_law_258 : decode cL_law 258 = .ok (.iconst 2, 1) := by decide +kernel
theorem dL_law_259 : decode cL_law 259 = .ok (.iadd, 1) := by decide +kernel
theorem dL_law_260 : decode cL_law 260 = .ok (.iaload, 1) := by decide +kernel
theorem dL_law_261 : decode cL_law 261 = .ok (.i2l, 1) := by decide +kernel
theorem dL_law_262 : decode cL_law 262 = .ok (.bipush 32, 2) := by decide +kernel
theorem dL_law_264 : decode cL_law 264 = .ok (.lshl, 1) := by decide +kernel
theorem dL_law_265 : decode cL_law 265 = .ok (.aload_n 0, 1) := by decide +kernel
theorem dL_law_266 : decode cL_law 266 = .ok (.iload_n 3, 1) := by decide +kernel
theorem dL_law_267 : decode cL_law 267 = .ok (.iconst 3, 1) := by decide +kernel
theorem dL_law_268 : decode cL_law 268 = .ok (.iadd, 1) := by decide +kernel
theorem dL_law_269 : decode cL_law 269 = .ok (.iaload, 1) := by decide +kernel
theorem dL_law_270 : decode cL_law 270 = .ok (.i2l, 1) := by decide +kernel
theorem dL_law_271 : decode cL_law 271 = .ok (.ldc2_w 28, 3) := by decide +kernel
theorem dL_law_274 : decode cL_law 274 = .ok (.land, 1) := by decide +kernel
theorem dL_law_275 : decode cL_law 275 = .ok (.lor, 1) := by decide +kernel
theorem dL_law_276 : decode cL_law 276 = .ok (.invokevirtual 35, 3) := by decide +kernel
theorem dL_law_279 : decode cL_law 279 = .ok (.aload_n 2, 1) := by decide +kernel
theorem dL_law_280 : decode cL_law 280 = .ok (.aload_n 0, 1) := by decide +kernel
theorem dL_law_281 : decode cL_law 281 = .ok (.iload_n 3, 1) := by decide +kernel
theorem dL_law_282 : decode cL_law 282 = .ok (.iconst 1, 1) := by decide +kernel
theorem dL_law_283 : decode cL_law 283 = .ok (.iadd, 1) := by decide +kernel
theorem dL_law_284 : decode cL_law 284 = .ok (.iaload, 1) := by decide +kernel
theorem dL_law_285 : decode cL_law 285 = .ok (.aload_n 0, 1) := by decide +kernel
theorem dL_law_286 : decode cL_law 286 = .ok (.iload_n 3, 1) := by decide +kernel
theorem dL_law_287 : decode cL_law 287 = .ok (.iconst 2, 1) := by decide +kernel
theorem dL_law_288 : decode cL_law 288 = .ok (.iadd, 1) := by decide +kernel
theorem dL_law_289 : decode cL_law 289 = .ok (.iaload, 1) := by decide +kernel
theorem dL_law_290 : decode cL_law 290 = .ok (.i2l, 1) := by decide +kernel
theorem dL_law_291 : decode cL_law 291 = .ok (.bipush 32, 2) := by decide +kernel
theorem dL_law_293 : decode cL_law 293 = .ok (.lshl, 1) := by decide +kernel
theorem dL_law_294 : decode cL_law 294 = .ok (.aload_n 0, 1) := by decide +kernel
theorem dL_law_295 : decode cL_law 295 = .ok (.iload_n 3, 1) := by decide +kernel
theorem dL_law_296 : decode cL_law 296 = .ok (.iconst 3, 1) := by decide +kernel
theorem dL_law_297 : decode cL_law 297 = .ok (.iadd, 1) := by decide +kernel
theorem dL_law_298 : decode cL_law 298 = .ok (.iaload, 1) := by decide +kernel
theorem dL_law_299 : decode cL_law 299 = .ok (.i2l, 1) := by decide +kernel
theorem dL_law_300 : decode cL_law 300 = .ok (.ldc2_w 28, 3) := by decide +kernel
theorem dL_law_303 : decode cL_law 303 = .ok (.land, 1) := by decide +kernel
theorem dL_law_304 : decode cL_law 304 = .ok (.lor, 1) := by decide +kernel
theorem dL_law_305 : decode cL_law 305 = .ok (.invokevirtual 39, 3) := by decide +kernel
theorem dL_law_308 : decode cL_law 308 = .ok (.if_icmp .eq 515, 3) := by decide +kernel
theorem dL_law_311 : decode cL_law 311 = .ok (.iconst 0, 1) := by decide +kernel
theorem dL_law_312 : decode cL_law 312 = .ok (.ireturn, 1) := by decide +kernel
theorem dL_law_313 : decode cL_law 313 = .ok (.aload_n 1, 1) := by decide +kernel
theorem dL_law_314 : decode cL_law 314 = .ok (.aload_n 0, 1) := by decide +kernel
theorem dL_law_315 : decode cL_law 315 = .ok (.iload_n 3, 1) := by decide +kernel
theorem dL_law_316 : decode cL_law 316 = .ok (.iconst 1, 1) := by decide +kernel
theorem dL_law_317 : decode cL_law 317 = .ok (.iadd, 1) := by decide +kernel
theorem dL_law_318 : decode cL_law 318 = .ok (.iaload, 1) := by decide +kernel
theorem dL_law_319 : decode cL_law 319 = .ok (.aload_n 0, 1) := by decide +kernel
theorem dL_law_320 : decode cL_law 320 = .ok (.iload_n 3, 1) := by decide +kernel
theorem dL_law_321 : decode cL_law 321 = .ok (.iconst 2, 1) := by decide +kernel
theorem dL_law_322 : decode cL_law 322 = .ok (.iadd, 1) := by decide +kernel
theorem dL_law_323 : decode cL_law 323 = .ok (.iaload, 1) := by decide +kernel
theorem dL_law_324 : decode cL_law 324 = .ok (.aload_n 0, 1) := by decide +kernel
theorem dL_law_325 : decode cL_law 325 = .ok (.iload_n 3, 1) := by decide +kernel
theorem dL_law_326 : decode cL_law 326 = .ok (.iconst 3, 1) := by decide +kernel
theorem dL_law_327 : decode cL_law 327 = .ok (.iadd, 1) := by decide +kernel
theorem dL_law_328 : decode cL_law 328 = .ok (.iaload, 1) := by decide +kernel
theorem dL_law_329 : decode cL_law 329 = .ok (.i2l, 1) := by decide +kernel
theorem dL_law_330 : decode cL_law 330 = .ok (.bipush 32, 2) := by decide +kernel
theorem dL_law_332 : decode cL_law 332 = .ok (.lshl, 1) := by decide +kernel
theorem dL_law_333 : decode cL_law 333 = .ok (.aload_n 0, 1) := by decide +kernel
theorem dL_law_334 : decode cL_law 334 = .ok (.iload_n 3, 1) := by decide +kernel
theorem dL_law_335 : decode cL_law 335 = .ok (.iconst 4, 1) := by decide +kernel
theorem dL_law_336 : decode cL_law 336 = .ok (.iadd, 1) := by decide +kernel
theorem dL_law_337 : decode cL_law 337 = .ok (.iaload, 1) := by decide +kernel
theorem dL_law_338 : decode cL_law 338 = .ok (.i2l, 1) := by decide +kernel
theorem dL_law_339 : decode cL_law 339 = .ok (.ldc2_w 28, 3) := by decide +kernel
theorem dL_law_342 : decode cL_law 342 = .ok (.land, 1) := by decide +kernel
theorem dL_law_343 : decode cL_law 343 = .ok (.lor, 1) := by decide +kernel
theorem dL_law_344 : decode cL_law 344 = .ok (.invokevirtual 40, 3) := by decide +kernel
theorem dL_law_347 : decode cL_law 347 = .ok (.aload_n 2, 1) := by decide +kernel
theorem dL_law_348 : decode cL_law 348 = .ok (.aload_n 0, 1) := by decide +kernel
theorem dL_law_349 : decode cL_law 349 = .ok (.iload_n 3, 1) := by decide +kernel
theorem dL_law_350 : decode cL_law 350 = .ok (.iconst 1, 1) := by decide +kernel
theorem dL_law_351 : decode cL_law 351 = .ok (.iadd, 1) := by decide +kernel
theorem dL_law_352 : decode cL_law 352 = .ok (.iaload, 1) := by decide +kernel
theorem dL_law_353 : decode cL_law 353 = .ok (.aload_n 0, 1) := by decide +kernel
theorem dL_law_354 : decode cL_law 354 = .ok (.iload_n 3, 1) := by decide +kernel
theorem dL_law_355 : decode cL_law 355 = .ok (.iconst 2, 1) := by decide +kernel
theorem dL_law_356 : decode cL_law 356 = .ok (.iadd, 1) := by decide +kernel
theorem dL_law_357 : decode cL_law 357 = .ok (.iaload, 1) := by decide +kernel
theorem dL_law_358 : decode cL_law 358 = .ok (.aload_n 0, 1) := by decide +kernel
theorem dL_law_359 : decode cL_law 359 = .ok (.iload_n 3, 1) := by decide +kernel
theorem dL_law_360 : decode cL_law 360 = .ok (.iconst 3, 1) := by decide +kernel
theorem dL_law_361 : decode cL_law 361 = .ok (.iadd, 1) := by decide +kernel
theorem dL_law_362 : decode cL_law 362 = .ok (.iaload, 1) := by decide +kernel
theorem dL_law_363 : decode cL_law 363 = .ok (.i2l, 1) := by decide +kernel
theorem dL_law_364 : decode cL_law 364 = .ok (.bipush 32, 2) := by decide +kernel
theorem dL_law_366 : decode cL_law 366 = .ok (.lshl, 1) := by decide +kernel
theorem dL_law_367 : decode cL_law 367 = .ok (.aload_n 0, 1) := by decide +kernel
theorem dL_law_368 : decode cL_law 368 = .ok (.iload_n 3, 1) := by decide +kernel
theorem dL_law_369 : decode cL_law 369 = .ok (.iconst 4, 1) := by decide +kernel
theorem dL_law_370 : decode cL_law 370 = .ok (.iadd, 1) := by decide +kernel
theorem dL_law_371 : decode cL_law 371 = .ok (.iaload, 1) := by decide +kernel
theorem dL_law_372 : decode cL_law 372 = .ok (.i2l, 1) := by decide +kernel
theorem dL_law_373 : decode cL_law 373 = .ok (.ldc2_w 28, 3) := by decide +kernel
theorem dL_law_376 : decode cL_law 376 = .ok (.land, 1) := by decide +kernel
theorem dL_law_377 : decode cL_law 377 = .ok (.lor, 1) := by decide +kernel
theorem dL_law_378 : decode cL_law 378 = .ok (.invokevirtual 44, 3) := by decide +kernel
theorem dL_law_381 : decode cL_law 381 = .ok (.if_icmp .eq 442, 3) := by decide +kernel
theorem dL_law_384 : decode cL_law 384 = .ok (.iconst 0, 1) := by decide +kernel
theorem dL_law_385 : decode cL_law 385 = .ok (.ireturn, 1) := by decide +kernel
theorem dL_law_386 : decode cL_law 386 = .ok (.aload_n 1, 1) := by decide +kernel
theorem dL_law_387 : decode cL_law 387 = .ok (.aload_n 0, 1) := by decide +kernel
theorem dL_law_388 : decode cL_law 388 = .ok (.iload_n 3, 1) := by decide +kernel
theorem dL_law_389 : decode cL_law 389 = .ok (.iconst 1, 1) := by decide +kernel
theorem dL_law_390 : decode cL_law 390 = .ok (.iadd, 1) := by decide +kernel
theorem dL_law_391 : decode cL_law 391 = .ok (.iaload, 1) := by decide +kernel
theorem dL_law_392 : decode cL_law 392 = .ok (.aload_n 0, 1) := by decide +kernel
theorem dL_law_393 : decode cL_law 393 = .ok (.iload_n 3, 1) := by decide +kernel
theorem dL_law_394 : decode cL_law 394 = .ok (.iconst 2, 1) := by decide +kernel
theorem dL_law_395 : decode cL_law 395 = .ok (.iadd, 1) := by decide +kernel
theorem dL_law_396 : decode cL_law 396 = .ok (.iaload, 1) := by decide +kernel
theorem dL_law_397 : decode cL_law 397 = .ok (.aload_n 0, 1) := by decide +kernel
theorem dL_law_398 : decode cL_law 398 = .ok (.iload_n 3, 1) := by decide +kernel
theorem dL_law_399 : decode cL_law 399 = .ok (.iconst 3, 1) := by decide +kernel
theorem dL_law_400 : decode cL_law 400 = .ok (.iadd, 1) := by decide +kernel
theorem dL_law_401 : decode cL_law 401 = .ok (.iaload, 1) := by decide +kernel
theorem dL_law_402 : decode cL_law 402 = .ok (.invokevirtual 45, 3) := by decide +kernel
theorem dL_law_405 : decode cL_law 405 = .ok (.aload_n 2, 1) := by decide +kernel
theorem dL_law_406 : decode cL_law 406 = .ok (.aload_n 0, 1) := by decide +kernel
theorem dL_law_407 : decode cL_law 407 = .ok (.iload_n 3, 1) := by decide +kernel
theorem dL_law_408 : decode cL_law 408 = .ok (.iconst 1, 1) := by decide +kernel
theorem dL_law_409 : decode cL_law 409 = .ok (.iadd, 1) := by decide +kernel
theorem dL_law_410 : decode cL_law 410 = .ok (.iaload, 1) := by decide +kernel
theorem dL_law_411 : decode cL_law 411 = .ok (.aload_n 0, 1) := by decide +kernel
theorem dL_law_412 : decode cL_law 412 = .ok (.iload_n 3, 1) := by decide +kernel
theorem dL_law_413 : decode cL_law 413 = .ok (.iconst 2, 1) := by decide +kernel
theorem dL_law_414 : decode cL_law 414 = .ok (.iadd, 1) := by decide +kernel
theorem dL_law_415 : decode cL_law 415 = .ok (.iaload, 1) := by decide +kernel
theorem dL_law_416 : decode cL_law 416 = .ok (.aload_n 0, 1) := by decide +kernel
theorem dL_law_417 : decode cL_law 417 = .ok (.iload_n 3, 1) := by decide +kernel
theorem dL_law_418 : decode cL_law 418 = .ok (.iconst 3, 1) := by decide +kernel
theorem dL_law_419 : decode cL_law 419 = .ok (.iadd, 1) := by decide +kernel
theorem dL_law_420 : decode cL_law 420 = .ok (.iaload, 1) := by decide +kernel
theorem dL_law_421 : decode cL_law 421 = .ok (.invokevirtual 49, 3) := by decide +kernel
theorem dL_law_424 : decode cL_law 424 = .ok (.if_icmp .eq 399, 3) := by decide +kernel
theorem dL_law_427 : decode cL_law 427 = .ok (.iconst 0, 1) := by decide +kernel
theorem dL_law_428 : decode cL_law 428 = .ok (.ireturn, 1) := by decide +kernel
theorem dL_law_429 : decode cL_law 429 = .ok (.aload_n 1, 1) := by decide +kernel
theorem dL_law_430 : decode cL_law 430 = .ok (.aload_n 0, 1) := by decide +kernel
theorem dL_law_431 : decode cL_law 431 = .ok (.iload_n 3, 1) := by decide +kernel
theorem dL_law_432 : decode cL_law 432 = .ok (.iconst 1, 1) := by decide +kernel
theorem dL_law_433 : decode cL_law 433 = .ok (.iadd, 1) := by decide +kernel
theorem dL_law_434 : decode cL_law 434 = .ok (.iaload, 1) := by decide +kernel
theorem dL_law_435 : decode cL_law 435 = .ok (.invokevirtual 50, 3) := by decide +kernel
theorem dL_law_438 : decode cL_law 438 = .ok (.aload_n 2, 1) := by decide +kernel
theorem dL_law_439 : decode cL_law 439 = .ok (.aload_n 0, 1) := by decide +kernel
theorem dL_law_440 : decode cL_law 440 = .ok (.iload_n 3, 1) := by decide +kernel
theorem dL_law_441 : decode cL_law 441 = .ok (.iconst 1, 1) := by decide +kernel
theorem dL_law_442 : decode cL_law 442 = .ok (.iadd, 1) := by decide +kernel
theorem dL_law_443 : decode cL_law 443 = .ok (.iaload, 1) := by decide +kernel
theorem dL_law_444 : decode cL_law 444 = .ok (.invokevirtual 53, 3) := by decide +kernel
theorem dL_law_447 : decode cL_law 447 = .ok (.if_icmp .eq 376, 3) := by decide +kernel
theorem dL_law_450 : decode cL_law 450 = .ok (.iconst 0, 1) := by decide +kernel
theorem dL_law_451 : decode cL_law 451 = .ok (.ireturn, 1) := by decide +kernel
theorem dL_law_452 : decode cL_law 452 = .ok (.aload_n 1, 1) := by decide +kernel
theorem dL_law_453 : decode cL_law 453 = .ok (.aload_n 0, 1) := by decide +kernel
theorem dL_law_454 : decode cL_law 454 = .ok (.iload_n 3, 1) := by decide +kernel
theorem dL_law_455 : decode cL_law 455 = .ok (.iconst 1, 1) := by decide +kernel
theorem dL_law_456 : decode cL_law 456 = .ok (.iadd, 1) := by decide +kernel
theorem dL_law_457 : decode cL_law 457 = .ok (.iaload, 1) := by decide +kernel
theorem dL_law_458 : decode cL_law 458 = .ok (.aload_n 0, 1) := by decide +kernel
theorem dL_law_459 : decode cL_law 459 = .ok (.iload_n 3, 1) := by decide +kernel
theorem dL_law_460 : decode cL_law 460 = .ok (.iconst 2, 1) := by decide +kernel
theorem dL_law_461 : decode cL_law 461 = .ok (.iadd, 1) := by decide +kernel
theorem dL_law_462 : decode cL_law 462 = .ok (.iaload, 1) := by decide +kernel
theorem dL_law_463 : decode cL_law 463 = .ok (.invokevirtual 54, 3) := by decide +kernel
theorem dL_law_466 : decode cL_law 466 = .ok (.aload_n 2, 1) := by decide +kernel
theorem dL_law_467 : decode cL_law 467 = .ok (.aload_n 0, 1) := by decide +kernel
theorem dL_law_468 : decode cL_law 468 = .ok (.iload_n 3, 1) := by decide +kernel
theorem dL_law_469 : decode cL_law 469 = .ok (.iconst 1, 1) := by decide +kernel
theorem dL_law_470 : decode cL_law 470 = .ok (.iadd, 1) := by decide +kernel
theorem dL_law_471 : decode cL_law 471 = .ok (.iaload, 1) := by decide +kernel
theorem dL_law_472 : decode cL_law 472 = .ok (.aload_n 0, 1) := by decide +kernel
theorem dL_law_473 : decode cL_law 473 = .ok (.iload_n 3, 1) := by decide +kernel
theorem dL_law_474 : decode cL_law 474 = .ok (.iconst 2, 1) := by decide +kernel
theorem dL_law_475 : decode cL_law 475 = .ok (.iadd, 1) := by decide +kernel
theorem dL_law_476 : decode cL_law 476 = .ok (.iaload, 1) := by decide +kernel
theorem dL_law_477 : decode cL_law 477 = .ok (.invokevirtual 58, 3) := by decide +kernel
theorem dL_law_480 : decode cL_law 480 = .ok (.lcmp, 1) := by decide +kernel
theorem dL_law_481 : decode cL_law 481 = .ok (.ifCond .eq 342, 3) := by decide +kernel
theorem dL_law_484 : decode cL_law 484 = .ok (.iconst 0, 1) := by decide +kernel
theorem dL_law_485 : decode cL_law 485 = .ok (.ireturn, 1) := by decide +kernel
theorem dL_law_486 : decode cL_law 486 = .ok (.aload_n 1, 1) := by decide +kernel
theorem dL_law_487 : decode cL_law 487 = .ok (.aload_n 0, 1) := by decide +kernel
theorem dL_law_488 : decode cL_law 488 = .ok (.iload_n 3, 1) := by decide +kernel
theorem dL_law_489 : decode cL_law 489 = .ok (.iconst 1, 1) := by decide +kernel
theorem dL_law_490 : decode cL_law 490 = .ok (.iadd, 1) := by decide +kernel
theorem dL_law_491 : decode cL_law 491 = .ok (.iaload, 1) := by decide +kernel
theorem dL_law_492 : decode cL_law 492 = .ok (.aload_n 0, 1) := by decide +kernel
theorem dL_law_493 : decode cL_law 493 = .ok (.iload_n 3, 1) := by decide +kernel
theorem dL_law_494 : decode cL_law 494 = .ok (.iconst 2, 1) := by decide +kernel
theorem dL_law_495 : decode cL_law 495 = .ok (.iadd, 1) := by decide +kernel
theorem dL_law_496 : decode cL_law 496 = .ok (.iaload, 1) := by decide +kernel
theorem dL_law_497 : decode cL_law 497 = .ok (.aload_n 0, 1) := by decide +kernel
theorem dL_law_498 : decode cL_law 498 = .ok (.iload_n 3, 1) := by decide +kernel
theorem dL_law_499 : decode cL_law 499 = .ok (.iconst 3, 1) := by decide +kernel
theorem dL_law_500 : decode cL_law 500 = .ok (.iadd, 1) := by decide +kernel
theorem dL_law_501 : decode cL_law 501 = .ok (.iaload, 1) := by decide +kernel
theorem dL_law_502 : decode cL_law 502 = .ok (.invokevirtual 59, 3) := by decide +kernel
theorem dL_law_505 : decode cL_law 505 = .ok (.aload_n 2, 1) := by decide +kernel
theorem dL_law_506 : decode cL_law 506 = .ok (.aload_n 0, 1) := by decide +kernel
theorem dL_law_507 : decode cL_law 507 = .ok (.iload_n 3, 1) := by decide +kernel
theorem dL_law_508 : decode cL_law 508 = .ok (.iconst 1, 1) := by decide +kernel
theorem dL_law_509 : decode cL_law 509 = .ok (.iadd, 1) := by decide +kernel
theorem dL_law_510 : decode cL_law 510 = .ok (.iaload, 1) := by decide +kernel
theorem dL_law_511 : decode cL_law 511 = .ok (.aload_n 0, 1) := by decide +kernel
theorem dL_law_512 : decode cL_law 512 = .ok (.iload_n 3, 1) := by decide +kernel
theorem dL_law_513 : decode cL_law 513 = .ok (.iconst 2, 1) := by decide +kernel
theorem dL_law_514 : decode cL_law 514 = .ok (.iadd, 1) := by decide +kernel
theorem dL_law_515 : decode cL_law 515 = .ok (.iaload, 1) := by decide +kernel
theorem dL_law_516 : decode cL_law 516 = .ok (.aload_n 0, 1) := by decide +kernel
theorem dL_law_517 : decode cL_law 517 = .ok (.iload_n 3, 1) := by decide +kernel
theorem dL_law_518 : decode cL_law 518 = .ok (.iconst 3, 1) := by decide +kernel
theorem dL_law_519 : decode cL_law 519 = .ok (.iadd, 1) := by decide +kernel
theorem dL_law_520 : decode cL_law 520 = .ok (.iaload, 1) := by decide +kernel
theorem dL_law_521 : decode cL_law 521 = .ok (.invokevirtual 63, 3) := by decide +kernel
theorem dL_law_524 : decode cL_law 524 = .ok (.lcmp, 1) := by decide +kernel
theorem dL_law_525 : decode cL_law 525 = .ok (.ifCond .eq 298, 3) := by decide +kernel
theorem dL_law_528 : decode cL_law 528 = .ok (.iconst 0, 1) := by decide +kernel
theorem dL_law_529 : decode cL_law 529 = .ok (.ireturn, 1) := by decide +kernel
theorem dL_law_530 : decode cL_law 530 = .ok (.aload_n 1, 1) := by decide +kernel
theorem dL_law_531 : decode cL_law 531 = .ok (.aload_n 0, 1) := by decide +kernel
theorem dL_law_532 : decode cL_law 532 = .ok (.iload_n 3, 1) := by decide +kernel
theorem dL_law_533 : decode cL_law 533 = .ok (.iconst 1, 1) := by decide +kernel
theorem dL_law_534 : decode cL_law 534 = .ok (.iadd, 1) := by decide +kernel
theorem dL_law_535 : decode cL_law 535 = .ok (.iaload, 1) := by decide +kernel
theorem dL_law_536 : decode cL_law 536 = .ok (.invokevirtual 64, 3) := by decide +kernel
theorem dL_law_539 : decode cL_law 539 = .ok (.aload_n 2, 1) := by decide +kernel
theorem dL_law_540 : decode cL_law 540 = .ok (.aload_n 0, 1) := by decide +kernel
theorem dL_law_541 : decode cL_law 541 = .ok (.iload_n 3, 1) := by decide +kernel
theorem dL_law_542 : decode cL_law 542 = .ok (.iconst 1, 1) := by decide +kernel
theorem dL_law_543 : decode cL_law 543 = .ok (.iadd, 1) := by decide +kernel
theorem dL_law_544 : decode cL_law 544 = .ok (.iaload, 1) := by decide +kernel
theorem dL_law_545 : decode cL_law 545 = .ok (.invokevirtual 68, 3) := by decide +kernel
theorem dL_law_548 : decode cL_law 548 = .ok (.lcmp, 1) := by decide +kernel
theorem dL_law_549 : decode cL_law 549 = .ok (.ifCond .eq 274, 3) := by decide +kernel
theorem dL_law_552 : decode cL_law 552 = .ok (.iconst 0, 1) := by decide +kernel
theorem dL_law_553 : decode cL_law 553 = .ok (.ireturn, 1) := by decide +kernel
theorem dL_law_554 : decode cL_law 554 = .ok (.aload_n 1, 1) := by decide +kernel
theorem dL_law_555 : decode cL_law 555 = .ok (.aload_n 0, 1) := by decide +kernel
theorem dL_law_556 : decode cL_law 556 = .ok (.iload_n 3, 1) := by decide +kernel
theorem dL_law_557 : decode cL_law 557 = .ok (.iconst 1, 1) := by decide +kernel
theorem dL_law_558 : decode cL_law 558 = .ok (.iadd, 1) := by decide +kernel
theorem dL_law_559 : decode cL_law 559 = .ok (.iaload, 1) := by decide +kernel
theorem dL_law_560 : decode cL_law 560 = .ok (.invokevirtual 69, 3) := by decide +kernel
theorem dL_law_563 : decode cL_law 563 = .ok (.aload_n 2, 1) := by decide +kernel
theorem dL_law_564 : decode cL_law 564 = .ok (.aload_n 0, 1) := by decide +kernel
theorem dL_law_565 : decode cL_law 565 = .ok (.iload_n 3, 1) := by decide +kernel
theorem dL_law_566 : decode cL_law 566 = .ok (.iconst 1, 1) := by decide +kernel
theorem dL_law_567 : decode cL_law 567 = .ok (.iadd, 1) := by decide +kernel
theorem dL_law_568 : decode cL_law 568 = .ok (.iaload, 1) := by decide +kernel
theorem dL_law_569 : decode cL_law 569 = .ok (.invokevirtual 72, 3) := by decide +kernel
theorem dL_law_572 : decode cL_law 572 = .ok (.if_icmp .eq 251, 3) := by decide +kernel
theorem dL_law_575 : decode cL_law 575 = .ok (.iconst 0, 1) := by decide +kernel
theorem dL_law_576 : decode cL_law 576 = .ok (.ireturn, 1) := by decide +kernel
theorem dL_law_577 : decode cL_law 577 = .ok (.aload_n 1, 1) := by decide +kernel
theorem dL_law_578 : decode cL_law 578 = .ok (.aload_n 0, 1) := by decide +kernel
theorem dL_law_579 : decode cL_law 579 = .ok (.iload_n 3, 1) := by decide +kernel
theorem dL_law_580 : decode cL_law 580 = .ok (.iconst 1, 1) := by decide +kernel
theorem dL_law_581 : decode cL_law 581 = .ok (.iadd, 1) := by decide +kernel
theorem dL_law_582 : decode cL_law 582 = .ok (.iaload, 1) := by decide +kernel
theorem dL_law_583 : decode cL_law 583 = .ok (.invokevirtual 73, 3) := by decide +kernel
theorem dL_law_586 : decode cL_law 586 = .ok (.aload_n 2, 1) := by decide +kernel
theorem dL_law_587 : decode cL_law 587 = .ok (.aload_n 0, 1) := by decide +kernel
theorem dL_law_588 : decode cL_law 588 = .ok (.iload_n 3, 1) := by decide +kernel
theorem dL_law_589 : decode cL_law 589 = .ok (.iconst 1, 1) := by decide +kernel
theorem dL_law_590 : decode cL_law 590 = .ok (.iadd, 1) := by decide +kernel
theorem dL_law_591 : decode cL_law 591 = .ok (.iaload, 1) := by decide +kernel
theorem dL_law_592 : decode cL_law 592 = .ok (.invokevirtual 76, 3) := by decide +kernel
theorem dL_law_595 : decode cL_law 595 = .ok (.if_icmp .eq 228, 3) := by decide +kernel
theorem dL_law_598 : decode cL_law 598 = .ok (.iconst 0, 1) := by decide +kernel
theorem dL_law_599 : decode cL_law 599 = .ok (.ireturn, 1) := by decide +kernel
theorem dL_law_600 : decode cL_law 600 = .ok (.aload_n 1, 1) := by decide +kernel
theorem dL_law_601 : decode cL_law 601 = .ok (.aload_n 0, 1) := by decide +kernel
theorem dL_law_602 : decode cL_law 602 = .ok (.iload_n 3, 1) := by decide +kernel
theorem dL_law_603 : decode cL_law 603 = .ok (.iconst 1, 1) := by decide +kernel
theorem dL_law_604 : decode cL_law 604 = .ok (.iadd, 1) := by decide +kernel
theorem dL_law_605 : decode cL_law 605 = .ok (.iaload, 1) := by decide +kernel
theorem dL_law_606 : decode cL_law 606 = .ok (.aload_n 0, 1) := by decide +kernel
theorem dL_law_607 : decode cL_law 607 = .ok (.iload_n 3, 1) := by decide +kernel
theorem dL_law_608 : decode cL_law 608 = .ok (.iconst 2, 1) := by decide +kernel
theorem dL_law_609 : decode cL_law 609 = .ok (.iadd, 1) := by decide +kernel
theorem dL_law_610 : decode cL_law 610 = .ok (.iaload, 1) := by decide +kernel
theorem dL_law_611 : decode cL_law 611 = .ok (.i2l, 1) := by decide +kernel
theorem dL_law_612 : decode cL_law 612 = .ok (.bipush 32, 2) := by decide +kernel
theorem dL_law_614 : decode cL_law 614 = .ok (.lshl, 1) := by decide +kernel
theorem dL_law_615 : decode cL_law 615 = .ok (.aload_n 0, 1) := by decide +kernel
theorem dL_law_616 : decode cL_law 616 = .ok (.iload_n 3, 1) := by decide +kernel
theorem dL_law_617 : decode cL_law 617 = .ok (.iconst 3, 1) := by decide +kernel
theorem dL_law_618 : decode cL_law 618 = .ok (.iadd, 1) := by decide +kernel
theorem dL_law_619 : decode cL_law 619 = .ok (.iaload, 1) := by decide +kernel
theorem dL_law_620 : decode cL_law 620 = .ok (.i2l, 1) := by decide +kernel
theorem dL_law_621 : decode cL_law 621 = .ok (.ldc2_w 28, 3) := by decide +kernel
theorem dL_law_624 : decode cL_law 624 = .ok (.land, 1) := by decide +kernel
theorem dL_law_625 : decode cL_law 625 = .ok (.lor, 1) := by decide +kernel
theorem dL_law_626 : decode cL_law 626 = .ok (.invokevirtual 77, 3) := by decide +kernel
theorem dL_law_629 : decode cL_law 629 = .ok (.aload_n 2, 1) := by decide +kernel
theorem dL_law_630 : decode cL_law 630 = .ok (.aload_n 0, 1) := by decide +kernel
theorem dL_law_631 : decode cL_law 631 = .ok (.iload_n 3, 1) := by decide +kernel
theorem dL_law_632 : decode cL_law 632 = .ok (.iconst 1, 1) := by decide +kernel
theorem dL_law_633 : decode cL_law 633 = .ok (.iadd, 1) := by decide +kernel
theorem dL_law_634 : decode cL_law 634 = .ok (.iaload, 1) := by decide +kernel
theorem dL_law_635 : decode cL_law 635 = .ok (.aload_n 0, 1) := by decide +kernel
theorem dL_law_636 : decode cL_law 636 = .ok (.iload_n 3, 1) := by decide +kernel
theorem dL_law_637 : decode cL_law 637 = .ok (.iconst 2, 1) := by decide +kernel
theorem dL_law_638 : decode cL_law 638 = .ok (.iadd, 1) := by decide +kernel
theorem dL_law_639 : decode cL_law 639 = .ok (.iaload, 1) := by decide +kernel
theorem dL_law_640 : decode cL_law 640 = .ok (.i2l, 1) := by decide +kernel
theorem dL_law_641 : decode cL_law 641 = .ok (.bipush 32, 2) := by decide +kernel
theorem dL_law_643 : decode cL_law 643 = .ok (.lshl, 1) := by decide +kernel
theorem dL_law_644 : decode cL_law 644 = .ok (.aload_n 0, 1) := by decide +kernel
theorem dL_law_645 : decode cL_law 645 = .ok (.iload_n 3, 1) := by decide +kernel
theorem dL_law_646 : decode cL_law 646 = .ok (.iconst 3, 1) := by decide +kernel
theorem dL_law_647 : decode cL_law 647 = .ok (.iadd, 1) := by decide +kernel
theorem dL_law_648 : decode cL_law 648 = .ok (.iaload, 1) := by decide +kernel
theorem dL_law_649 : decode cL_law 649 = .ok (.i2l, 1) := by decide +kernel
theorem dL_law_650 : decode cL_law 650 = .ok (.ldc2_w 28, 3) := by decide +kernel
theorem dL_law_653 : decode cL_law 653 = .ok (.land, 1) := by decide +kernel
theorem dL_law_654 : decode cL_law 654 = .ok (.lor, 1) := by decide +kernel
theorem dL_law_655 : decode cL_law 655 = .ok (.invokevirtual 80, 3) := by decide +kernel
theorem dL_law_658 : decode cL_law 658 = .ok (.if_icmp .eq 165, 3) := by decide +kernel
theorem dL_law_661 : decode cL_law 661 = .ok (.iconst 0, 1) := by decide +kernel
theorem dL_law_662 : decode cL_law 662 = .ok (.ireturn, 1) := by decide +kernel
theorem dL_law_663 : decode cL_law 663 = .ok (.aload_n 1, 1) := by decide +kernel
theorem dL_law_664 : decode cL_law 664 = .ok (.invokevirtual 81, 3) := by decide +kernel
theorem dL_law_667 : decode cL_law 667 = .ok (.aload_n 2, 1) := by decide +kernel
theorem dL_law_668 : decode cL_law 668 = .ok (.invokevirtual 84, 3) := by decide +kernel
theorem dL_law_671 : decode cL_law 671 = .ok (.if_icmp .eq 152, 3) := by decide +kernel
theorem dL_law_674 : decode cL_law 674 = .ok (.iconst 0, 1) := by decide +kernel
theorem dL_law_675 : decode cL_law 675 = .ok (.ireturn, 1) := by decide +kernel
theorem dL_law_676 : decode cL_law 676 = .ok (.aload_n 1, 1) := by decide +kernel
theorem dL_law_677 : decode cL_law 677 = .ok (.invokevirtual 85, 3) := by decide +kernel
theorem dL_law_680 : decode cL_law 680 = .ok (.aload_n 2, 1) := by decide +kernel
theorem dL_law_681 : decode cL_law 681 = .ok (.invokevirtual 88, 3) := by decide +kernel
theorem dL_law_684 : decode cL_law 684 = .ok (.if_icmp .eq 139, 3) := by decide +kernel
theorem dL_law_687 : decode cL_law 687 = .ok (.iconst 0, 1) := by decide +kernel
theorem dL_law_688 : decode cL_law 688 = .ok (.ireturn, 1) := by decide +kernel
theorem dL_law_689 : decode cL_law 689 = .ok (.aload_n 1, 1) := by decide +kernel
theorem dL_law_690 : decode cL_law 690 = .ok (.aload_n 0, 1) := by decide +kernel
theorem dL_law_691 : decode cL_law 691 = .ok (.iload_n 3, 1) := by decide +kernel
theorem dL_law_692 : decode cL_law 692 = .ok (.iconst 1, 1) := by decide +kernel
theorem dL_law_693 : decode cL_law 693 = .ok (.iadd, 1) := by decide +kernel
theorem dL_law_694 : decode cL_law 694 = .ok (.iaload, 1) := by decide +kernel
theorem dL_law_695 : decode cL_law 695 = .ok (.invokevirtual 89, 3) := by decide +kernel
theorem dL_law_698 : decode cL_law 698 = .ok (.aload_n 2, 1) := by decide +kernel
theorem dL_law_699 : decode cL_law 699 = .ok (.aload_n 0, 1) := by decide +kernel
theorem dL_law_700 : decode cL_law 700 = .ok (.iload_n 3, 1) := by decide +kernel
theorem dL_law_701 : decode cL_law 701 = .ok (.iconst 1, 1) := by decide +kernel
theorem dL_law_702 : decode cL_law 702 = .ok (.iadd, 1) := by decide +kernel
theorem dL_law_703 : decode cL_law 703 = .ok (.iaload, 1) := by decide +kernel
theorem dL_law_704 : decode cL_law 704 = .ok (.invokevirtual 92, 3) := by decide +kernel
theorem dL_law_707 : decode cL_law 707 = .ok (.if_icmp .eq 116, 3) := by decide +kernel
theorem dL_law_710 : decode cL_law 710 = .ok (.iconst 0, 1) := by decide +kernel
theorem dL_law_711 : decode cL_law 711 = .ok (.ireturn, 1) := by decide +kernel
theorem dL_law_712 : decode cL_law 712 = .ok (.aload_n 1, 1) := by decide +kernel
theorem dL_law_713 : decode cL_law 713 = .ok (.aload_n 0, 1) := by decide +kernel
theorem dL_law_714 : decode cL_law 714 = .ok (.iload_n 3, 1) := by decide +kernel
theorem dL_law_715 : decode cL_law 715 = .ok (.iconst 1, 1) := by decide +kernel
theorem dL_law_716 : decode cL_law 716 = .ok (.iadd, 1) := by decide +kernel
theorem dL_law_717 : decode cL_law 717 = .ok (.iaload, 1) := by decide +kernel
theorem dL_law_718 : decode cL_law 718 = .ok (.aload_n 0, 1) := by decide +kernel
theorem dL_law_719 : decode cL_law 719 = .ok (.iload_n 3, 1) := by decide +kernel
theorem dL_law_720 : decode cL_law 720 = .ok (.iconst 2, 1) := by decide +kernel
theorem dL_law_721 : decode cL_law 721 = .ok (.iadd, 1) := by decide +kernel
theorem dL_law_722 : decode cL_law 722 = .ok (.iaload, 1) := by decide +kernel
theorem dL_law_723 : decode cL_law 723 = .ok (.invokevirtual 93, 3) := by decide +kernel
theorem dL_law_726 : decode cL_law 726 = .ok (.aload_n 2, 1) := by decide +kernel
theorem dL_law_727 : decode cL_law 727 = .ok (.aload_n 0, 1) := by decide +kernel
theorem dL_law_728 : decode cL_law 728 = .ok (.iload_n 3, 1) := by decide +kernel
theorem dL_law_729 : decode cL_law 729 = .ok (.iconst 1, 1) := by decide +kernel
theorem dL_law_730 : decode cL_law 730 = .ok (.iadd, 1) := by decide +kernel
theorem dL_law_731 : decode cL_law 731 = .ok (.iaload, 1) := by decide +kernel
theorem dL_law_732 : decode cL_law 732 = .ok (.aload_n 0, 1) := by decide +kernel
theorem dL_law_733 : decode cL_law 733 = .ok (.iload_n 3, 1) := by decide +kernel
theorem dL_law_734 : decode cL_law 734 = .ok (.iconst 2, 1) := by decide +kernel
theorem dL_law_735 : decode cL_law 735 = .ok (.iadd, 1) := by decide +kernel
theorem dL_law_736 : decode cL_law 736 = .ok (.iaload, 1) := by decide +kernel
theorem dL_law_737 : decode cL_law 737 = .ok (.invokevirtual 97, 3) := by decide +kernel
theorem dL_law_740 : decode cL_law 740 = .ok (.if_icmp .eq 83, 3) := by decide +kernel
theorem dL_law_743 : decode cL_law 743 = .ok (.iconst 0, 1) := by decide +kernel
theorem dL_law_744 : decode cL_law 744 = .ok (.ireturn, 1) := by decide +kernel
theorem dL_law_745 : decode cL_law 745 = .ok (.aload_n 1, 1) := by decide +kernel
theorem dL_law_746 : decode cL_law 746 = .ok (.aload_n 0, 1) := by decide +kernel
theorem dL_law_747 : decode cL_law 747 = .ok (.iload_n 3, 1) := by decide +kernel
theorem dL_law_748 : decode cL_law 748 = .ok (.iconst 1, 1) := by decide +kernel
theorem dL_law_749 : decode cL_law 749 = .ok (.iadd, 1) := by decide +kernel
theorem dL_law_750 : decode cL_law 750 = .ok (.iaload, 1) := by decide +kernel
theorem dL_law_751 : decode cL_law 751 = .ok (.aload_n 0, 1) := by decide +kernel
theorem dL_law_752 : decode cL_law 752 = .ok (.iload_n 3, 1) := by decide +kernel
theorem dL_law_753 : decode cL_law 753 = .ok (.iconst 2, 1) := by decide +kernel
theorem dL_law_754 : decode cL_law 754 = .ok (.iadd, 1) := by decide +kernel
theorem dL_law_755 : decode cL_law 755 = .ok (.iaload, 1) := by decide +kernel
theorem dL_law_756 : decode cL_law 756 = .ok (.invokevirtual 98, 3) := by decide +kernel
theorem dL_law_759 : decode cL_law 759 = .ok (.aload_n 2, 1) := by decide +kernel
theorem dL_law_760 : decode cL_law 760 = .ok (.aload_n 0, 1) := by decide +kernel
theorem dL_law_761 : decode cL_law 761 = .ok (.iload_n 3, 1) := by decide +kernel
theorem dL_law_762 : decode cL_law 762 = .ok (.iconst 1, 1) := by decide +kernel
theorem dL_law_763 : decode cL_law 763 = .ok (.iadd, 1) := by decide +kernel
theorem dL_law_764 : decode cL_law 764 = .ok (.iaload, 1) := by decide +kernel
theorem dL_law_765 : decode cL_law 765 = .ok (.aload_n 0, 1) := by decide +kernel
theorem dL_law_766 : decode cL_law 766 = .ok (.iload_n 3, 1) := by decide +kernel
theorem dL_law_767 : decode cL_law 767 = .ok (.iconst 2, 1) := by decide +kernel
theorem dL_law_768 : decode cL_law 768 = .ok (.iadd, 1) := by decide +kernel
theorem dL_law_769 : decode cL_law 769 = .ok (.iaload, 1) := by decide +kernel
theorem dL_law_770 : decode cL_law 770 = .ok (.invokevirtual 101, 3) := by decide +kernel
theorem dL_law_773 : decode cL_law 773 = .ok (.lcmp, 1) := by decide +kernel
theorem dL_law_774 : decode cL_law 774 = .ok (.ifCond .eq 49, 3) := by decide +kernel
theorem dL_law_777 : decode cL_law 777 = .ok (.iconst 0, 1) := by decide +kernel
theorem dL_law_778 : decode cL_law 778 = .ok (.ireturn, 1) := by decide +kernel
theorem dL_law_779 : decode cL_law 779 = .ok (.aload_n 1, 1) := by decide +kernel
theorem dL_law_780 : decode cL_law 780 = .ok (.aload_n 0, 1) := by decide +kernel
theorem dL_law_781 : decode cL_law 781 = .ok (.iload_n 3, 1) := by decide +kernel
theorem dL_law_782 : decode cL_law 782 = .ok (.iconst 1, 1) := by decide +kernel
theorem dL_law_783 : decode cL_law 783 = .ok (.iadd, 1) := by decide +kernel
theorem dL_law_784 : decode cL_law 784 = .ok (.iaload, 1) := by decide +kernel
theorem dL_law_785 : decode cL_law 785 = .ok (.aload_n 0, 1) := by decide +kernel
theorem dL_law_786 : decode cL_law 786 = .ok (.iload_n 3, 1) := by decide +kernel
theorem dL_law_787 : decode cL_law 787 = .ok (.iconst 2, 1) := by decide +kernel
theorem dL_law_788 : decode cL_law 788 = .ok (.iadd, 1) := by decide +kernel
theorem dL_law_789 : decode cL_law 789 = .ok (.iaload, 1) := by decide +kernel
theorem dL_law_790 : decode cL_law 790 = .ok (.aload_n 0, 1) := by decide +kernel
theorem dL_law_791 : decode cL_law 791 = .ok (.iload_n 3, 1) := by decide +kernel
theorem dL_law_792 : decode cL_law 792 = .ok (.iconst 3, 1) := by decide +kernel
theorem dL_law_793 : decode cL_law 793 = .ok (.iadd, 1) := by decide +kernel
theorem dL_law_794 : decode cL_law 794 = .ok (.iaload, 1) := by decide +kernel
theorem dL_law_795 : decode cL_law 795 = .ok (.invokevirtual 102, 3) := by decide +kernel
theorem dL_law_798 : decode cL_law 798 = .ok (.aload_n 2, 1) := by decide +kernel
theorem dL_law_799 : decode cL_law 799 = .ok (.aload_n 0, 1) := by decide +kernel
theorem dL_law_800 : decode cL_law 800 = .ok (.iload_n 3, 1) := by decide +kernel
theorem dL_law_801 : decode cL_law 801 = .ok (.iconst 1, 1) := by decide +kernel
theorem dL_law_802 : decode cL_law 802 = .ok (.iadd, 1) := by decide +kernel
theorem dL_law_803 : decode cL_law 803 = .ok (.iaload, 1) := by decide +kernel
theorem dL_law_804 : decode cL_law 804 = .ok (.aload_n 0, 1) := by decide +kernel
theorem dL_law_805 : decode cL_law 805 = .ok (.iload_n 3, 1) := by decide +kernel
theorem dL_law_806 : decode cL_law 806 = .ok (.iconst 2, 1) := by decide +kernel
theorem dL_law_807 : decode cL_law 807 = .ok (.iadd, 1) := by decide +kernel
theorem dL_law_808 : decode cL_law 808 = .ok (.iaload, 1) := by decide +kernel
theorem dL_law_809 : decode cL_law 809 = .ok (.aload_n 0, 1) := by decide +kernel
theorem dL_law_810 : decode cL_law 810 = .ok (.iload_n 3, 1) := by decide +kernel
theorem dL_law_811 : decode cL_law 811 = .ok (.iconst 3, 1) := by decide +kernel
theorem dL_law_812 : decode cL_law 812 = .ok (.iadd, 1) := by decide +kernel
theorem dL_law_813 : decode cL_law 813 = .ok (.iaload, 1) := by decide +kernel
theorem dL_law_814 : decode cL_law 814 = .ok (.invokevirtual 105, 3) := by decide +kernel
theorem dL_law_817 : decode cL_law 817 = .ok (.lcmp, 1) := by decide +kernel
theorem dL_law_818 : decode cL_law 818 = .ok (.ifCond .eq 5, 3) := by decide +kernel
theorem dL_law_821 : decode cL_law 821 = .ok (.iconst 0, 1) := by decide +kernel
theorem dL_law_822 : decode cL_law 822 = .ok (.ireturn, 1) := by decide +kernel
theorem dL_law_823 : decode cL_law 823 = .ok (.iinc 3 5, 3) := by decide +kernel
theorem dL_law_826 : decode cL_law 826 = .ok (.goto (-808), 3) := by decide +kernel
theorem dL_law_829 : decode cL_law 829 = .ok (.iconst 1, 1) := by decide +kernel
theorem dL_law_830 : decode cL_law 830 = .ok (.ireturn, 1) := by decide +kernel
end
section
/-- the words that stay true while a method runs -/
def jWS : List Cond := lw_tbl.filter goodWord
theorem jWS_in {w : Cond} (h : w ∈ jWS) : w ∈ lw_tbl := (List.mem_filter.mp h).1
theorem jWS_of {w : Cond} (h : w ∈ tables_1) (hg : goodWord w = true) : w ∈ jWS := List.mem_filter.mpr ⟨List.mem_append_right _ h, hg⟩
theorem jWS_good : ∀ w ∈ jWS, goodWord w = true := fun w h => (List.mem_filter.mp h).2
/-- the links to nest mates -/
def jNW : List Cond := [.methodLinkNest "CrewShares" 11 ⟨"CrewShares$RulesText", "<init>", "()V"⟩ "CrewShares", .fieldLinkNest "CrewShares$Rules" 46 "CrewShares$RulesText" "wordNumber" "I" "CrewShares", .methodLinkNest "CrewShares" 20 ⟨"CrewShares$Crew", "<init>", "()V"⟩ "CrewShares", .fieldLinkNest "CrewShares$Trip" 65 "CrewShares$Crew" "roles" "[I" "CrewShares", .fieldLinkNest "CrewShares" 81 "CrewShares$Crew" "advances" "[J" "CrewShares", .fieldLinkNest "CrewShares$Trip" 115 "CrewShares$Crew" "advances" "[J" "CrewShares", .fieldLinkNest "CrewShares$Trip" 55 "CrewShares$Crew" "size" "I" "CrewShares", .methodLinkNest "CrewShares" 37 ⟨"CrewShares$Parting", "<init>", "()V"⟩ "CrewShares", .fieldLinkNest "CrewShares$Trip" 103 "CrewShares$Parting" "shares" "[J" "CrewShares", .methodLinkNest "CrewShares" 44 ⟨"CrewShares$Book", "<init>", "()V"⟩ "CrewShares", .methodLinkNest "CrewShares$Book" 17 ⟨"CrewShares$Entry", "<init>", "()V"⟩ "CrewShares", .fieldLinkNest "CrewShares$Book" 50 "CrewShares$Entry" "size" "I" "CrewShares", .fieldLinkNest "CrewShares$Book" 65 "CrewShares$Entry" "day" "I" "CrewShares", .fieldLinkNest "CrewShares$Book" 98 "CrewShares$Entry" "takesBack" "I" "CrewShares", .fieldLinkNest "CrewShares$Book" 101 "CrewShares$Entry" "takenBackBy" "I" "CrewShares", .fieldLinkNest "CrewShares$Trip" 118 "CrewShares$Rules" "places" "[I" "CrewShares", .fieldLinkNest "CrewShares$Trip" 108 "CrewShares$Rules" "weights" "[I" "CrewShares", .fieldLinkNest "CrewShares$Trip" 60 "CrewShares$Rules" "leasts" "[I" "CrewShares", .fieldLinkNest "CrewShares" 97 "CrewShares$Trip" "costs" "[J" "CrewShares", .fieldLinkNest "CrewShares" 100 "CrewShares$Trip" "daysOf" "[I" "CrewShares", .fieldLinkNest "CrewShares" 117 "CrewShares$Trip" "parts" "[J" "CrewShares", .fieldLinkNest "CrewShares" 120 "CrewShares$Trip" "shares" "[[J" "CrewShares", .fieldLinkNest "CrewShares" 163 "CrewShares$Trip" "settled" "Z" "CrewShares"]
/-- an array class over arrays of long is there -/
def va_AOL (U : State) : Prop := ∃ (comp c : ClassId) (k kc : Class) (cc : ClassId), U.vm.findClass (FieldType.array .long).toString = some comp ∧ U.vm.classes[c]? = some k ∧ k.kind = .array comp (.array .long) ∧ U.vm.findClass ("[" ++ (FieldType.array .long).toString) = some c ∧ U.vm.classes[comp]? = some kc ∧ kc.kind = .array cc .long
theorem va_AOL.moved {u U : State} (hvm : u.vm.Alike U.vm) (h : va_AOL u) : va_AOL U := by
  obtain ⟨comp, c, k, kc, cc, h1, h2, h3, h4, h5, h6⟩ := h
  obtain ⟨k', hk', he⟩ := hvm.2.2 _ _ h2
  obtain ⟨k2, hk2, he2⟩ := hvm.2.2 _ _ h5
  exact ⟨comp, c, k', k2, cc, by rw [hvm.findClass]; exact h1, hk', by rw [he]; exact h3, by rw [hvm.findClass]; exact h4, hk2, by rw [he2]; exact h6⟩

/-! THE J LAYER. A cell: an array (kind of its class, length, contents) or an object (its class's number in vwCl, fields). An address here is counted from the heap's size at the law's start. -/
abbrev jE : Type := (Nat × Nat × (Nat → Value)) ⊕ (Nat × List Value)
/-- how many cells there are; what each is -/
abbrev jH : Type := Nat × (Nat → Option jE)
/-- the heap at the law's start; numbers of classes and slots; array classes; addresses of what was there before; what is known of it -/
abbrev jG : Type := Heap × va_G × (Nat → ClassId) × (Nat → Nat) × (State → Prop)
/-- a method: name, code, locals, return type, room -/
abbrev jM : Type := MethodName × ByteArray × Nat × Option FieldType × Room
def jv (G : jG) : Value → Value
  | .ref a => .ref (G.1.size + a)
  | .float x => .ref (G.2.2.2.1 x.toNat)
  | v => v
def jr (o : Option Nat) : Value := match o with
  | none => .null
  | some a => .ref a
def jI (n : Nat) (a : Nat → Int32) : jE := .inl (0, n, fun j => .int (a j))
def jL (n : Nat) (a : Nat → Int64) : jE := .inl (1, n, fun j => .long (a j))
def jC (n : Nat) (a : Nat → Int32) : jE := .inl (2, n, fun j => .int (a j))
def jZ (n : Nat) (a : Nat → Int32) : jE := .inl (3, n, fun j => .int (a j))
def jQ (t n : Nat) (a : Nat → Option Nat) : jE := .inl (t, n, fun j => jr (a j))
def jO (ci : Nat) (fs : List Value) : jE := .inr (ci, fs)
def j_set (h : jH) (k : Nat) (e : jE) : jH := (h.1, fun j => if j = k then some e else h.2 j)
def j_new (h : jH) (e : jE) : jH := (h.1 + 1, fun j => if j = h.1 then some e else h.2 j)
def j_tys (G : jG) : List (ClassId × FieldType) := [(G.2.2.1 0, .int), (G.2.2.1 1, .long), (G.2.2.1 2, .char), (G.2.2.1 3, .boolean), (G.2.2.1 4, .object RX6), (G.2.2.1 5, .object RX2), (G.2.2.1 6, .array .long)]
def j_at (G : jG) (a : Nat) (e : jE) (H : Heap) : Prop := match e with
  | .inl q => H[a]? = some (arrV (G.2.2.1 q.1) q.2.1 (fun j => jv G (q.2.2 j)))
  | .inr q => ∃ r : vw_C, vwCl[q.1]? = some r ∧ t_OB a (G.2.1.1 q.1) r.2.2 (G.2.1.2 q.1) H (fun k => jv G (vp_V q.2 k))
theorem j_at.kept {G : jG} {a : Nat} {e : jE} {H H1 : Heap} (h : j_at G a e H) (hq : H1[a]? = H[a]?) : j_at G a e H1 := by
  cases e with
  | inl x => exact hq.trans h
  | inr o =>
    obtain ⟨r, h1, h2⟩ := h
    exact ⟨r, h1, h2.kept hq⟩
def j_rep (G : jG) (h : jH) (H : Heap) : Prop := H.size = G.1.size + h.1 ∧ (∀ q : Nat, q < G.1.size → H[q]? = G.1[q]?) ∧ (∀ k : Nat, h.1 ≤ k → h.2 k = none) ∧ ∀ (k : Nat) (e : jE), h.2 k = some e → j_at G (G.1.size + k) e H
theorem j_rep.lt {G : jG} {h : jH} {H : Heap} (hR : j_rep G h H) {k : Nat} {e : jE} (hk : h.2 k = some e) : k < h.1 := by
  rcases Nat.lt_or_ge k h.1 with q | q
  · exact q
  · rw [hR.2.2.1 k q] at hk; cases hk
theorem j_rep.set {G : jG} {h : jH} {H H1 : Heap} (hR : j_rep G h H) {k : Nat} {e0 e : jE} (hk : h.2 k = some e0) (he : j_at G (G.1.size + k) e H1) (hz : H1.size = H.size) (oq : ∀ q : Nat, q ≠ G.1.size + k → H1[q]? = H[q]?) : j_rep G (j_set h k e) H1 := by
  have hlt := hR.lt hk
  refine ⟨hz.trans hR.1, fun q hq => (oq q (by omega)).trans (hR.2.1 q hq), fun j hj => ?_, fun j e1 hj => ?_⟩
  · have hj' : h.1 ≤ j := hj
    show (if j = k then some e else h.2 j) = none
    rw [if_neg (by omega)]
    exact hR.2.2.1 j hj
  · have hj' : (if j = k then some e else h.2 j) = some e1 := hj
    by_cases q : j = k
    · rw [if_pos q] at hj'
      cases hj'
      rw [q]
      exact he
    · rw [if_neg q] at hj'
      exact (hR.2.2.2 j e1 hj').kept (oq _ (by omega))
theorem j_rep.new {G : jG} {h : jH} {H H1 : Heap} (hR : j_rep G h H) {e : jE} (he : j_at G (G.1.size + h.1) e H1) (hz : H1.size = H.size + 1) (oq : ∀ q : Nat, q < H.size → H1[q]? = H[q]?) : j_rep G (j_new h e) H1 := by
  have h1 := hR.1
  refine ⟨by show H1.size = G.1.size + (h.1 + 1); omega, fun q hq => (oq q (by omega)).trans (hR.2.1 q hq), fun j hj => ?_, fun j e1 hj => ?_⟩
  · have hj' : h.1 + 1 ≤ j := hj
    show (if j = h.1 then some e else h.2 j) = none
    rw [if_neg (by omega)]
    exact hR.2.2.1 j (by omega)
  · have hj' : (if j = h.1 then some e else h.2 j) = some e1 := hj
    by_cases q : j = h.1
    · rw [if_pos q] at hj'
      cases hj'
      rw [q]
      exact he
    · rw [if_neg q] at hj'
      have := hR.lt hj'
      exact (hR.2.2.2 j e1 hj').kept (oq _ (by omega))
/-- what is known of what was there before stays known -/
def j_ok (G : jG) : Prop := ∀ u U : State, u.vm = U.vm ∨ u.WarmedH U.vm → (∀ q : Nat, q < G.1.size → U.heap[q]? = u.heap[q]?) → G.2.2.2.2 u → G.2.2.2.2 U
def j_nw (w : Cond) : Prop := match w with
  | .fieldLinkNest _ _ _ _ _ _ => True
  | .methodLinkNest _ _ _ _ => True
  | _ => False
def j_env (G : jG) (U : State) : Prop := j_ok G ∧ va_K G.2.1 vwCl (j_tys G) U ∧ (∀ w ∈ jNW, va_Nw w U) ∧ va_AO RX6 U ∧ va_AO RX2 U ∧ va_AOL U ∧ G.2.2.2.2 U
theorem jNW_ok : ∀ w ∈ jNW, j_nw w := by
  intro w hw
  simp only [jNW, List.mem_cons, List.not_mem_nil, or_false] at hw
  rcases hw with rfl | rfl | rfl | rfl | rfl | rfl | rfl | rfl | rfl | rfl | rfl | rfl | rfl | rfl | rfl | rfl | rfl | rfl | rfl | rfl | rfl | rfl | rfl <;> trivial
theorem j_env.warm {G : jG} {s U : State} (hW : s.WarmedH U.vm) (hH : ∀ q : Nat, q < G.1.size → U.heap[q]? = s.heap[q]?) (h : j_env G s) : j_env G U := by
  obtain ⟨h1, h2, h3, h4, h5, h6, h7⟩ := h
  refine ⟨h1, h2.moved hW.alike, fun w hw => ?_, h4.moved hW.alike, h5.moved hW.alike, h6.moved hW.alike, h1 s U (Or.inr hW) hH h7⟩
  have hz := h3 w hw
  have hn := jNW_ok w hw
  revert hn hz
  cases w <;> intro hz hn <;> first | exact va_Nw.warmF hW hz | exact va_Nw.warmM hW hz | exact absurd hn (fun q => q)
theorem j_nw_tab {w : Cond} (h : j_nw w) : w.onTables = true := by
  revert h
  cases w <;> intro h <;> first | rfl | exact absurd h (fun q => q)
theorem j_env.same {G : jG} {u U : State} (hv : u.vm = U.vm) (hH : u.heap = U.heap) (h : j_env G u) : j_env G U := by
  obtain ⟨h1, h2, h3, h4, h5, h6, h7⟩ := h
  have ha : u.vm.Alike U.vm := by rw [hv]; exact Vm.Alike.refl _
  refine ⟨h1, h2.moved ha, fun w hw => va_Nw.same (j_nw_tab (jNW_ok w hw)) hv (h3 w hw), h4.moved ha, h5.moved ha, h6.moved ha, h1 u U (Or.inl hv) (fun q _ => by rw [hH]) h7⟩
/-- a method's locals that are known -/
def jlk (i : Nat) : List (Nat × Value) → Option Value
  | [] => none
  | q :: t => cond (Nat.beq q.1 i) (some q.2) (jlk i t)
def j_c (G : jG) (lv : List (Nat × Value)) : List (Nat × Value) := lv.map (fun q => (q.1, jv G q.2))
theorem jlk_mem {i : Nat} {v : Value} : ∀ {lv : List (Nat × Value)}, jlk i lv = some v → (i, v) ∈ lv
  | [], h => by cases h
  | q :: t, h => by
    simp only [jlk] at h
    cases hb : Nat.beq q.1 i with
    | true =>
      rw [hb] at h
      simp only [cond_true, Option.some.injEq] at h
      have e : q.1 = i := Nat.eq_of_beq_eq_true hb
      rw [← e, ← h]
      exact List.mem_cons_self
    | false =>
      rw [hb] at h
      simp only [cond_false] at h
      exact List.mem_cons_of_mem _ (jlk_mem h)
theorem j_lv {G : jG} {ls : Array Slot} {n i : Nat} {v : Value} {lv : List (Nat × Value)} (hV : lv_has ls n (j_c G lv)) (h : jlk i lv = some v) : ls[i]? = some (.val (jv G v)) :=
  hV.2.2 (i, jv G v) (List.mem_map.mpr ⟨(i, v), jlk_mem h, rfl⟩)
def jst1 (i : Nat) (v : Value) (lv : List (Nat × Value)) : List (Nat × Value) := (i, v) :: lv.filter (fun q => !(q.1 == i) && !(q.1 + 1 == i && q.2.category == 2))
def jst2 (i : Nat) (v : Value) (lv : List (Nat × Value)) : List (Nat × Value) := (i, v) :: lv.filter (fun q => !(q.1 == i) && (!(q.1 == i + 1) && !(q.1 + 1 == i && q.2.category == 2)))
theorem jv_cat (G : jG) (v : Value) : (jv G v).category = v.category := by cases v <;> rfl
theorem jst1_c (G : jG) (i : Nat) (v : Value) (lv : List (Nat × Value)) : (i, jv G v) :: (j_c G lv).filter (fun q => !(q.1 == i) && !(q.1 + 1 == i && q.2.category == 2)) = j_c G (jst1 i v lv) := by
  simp only [j_c, jst1, List.map_cons, List.filter_map]
  congr 2
  apply List.filter_congr
  intro q _
  simp [jv_cat]
theorem jst2_c (G : jG) (i : Nat) (v : Value) (lv : List (Nat × Value)) : (i, jv G v) :: (j_c G lv).filter (fun q => !(q.1 == i) && (!(q.1 == i + 1) && !(q.1 + 1 == i && q.2.category == 2))) = j_c G (jst2 i v lv) := by
  simp only [j_c, jst2, List.map_cons, List.filter_map]
  congr 2
  apply List.filter_congr
  intro q _
  simp [jv_cat]
/-- what holds of the machine throughout a method -/
def JF (G : jG) (M : jM) (p : Program) (s : State) (m : MethodId) (args : Array Value) (meth : Method) (c : Code) : Prop :=
  p.tables.exec = Jvm.exec ∧ c.code = M.2.1 ∧ c.maxLocals = M.2.2.1 ∧ meth.sig.returnType = M.2.2.2.1 ∧ meth.locks = false ∧ meth.name = M.1.name ∧ s.vm.findClass M.1.cls = some m.cls ∧ (∀ w ∈ jWS, w.before args s = true) ∧ j_env G s ∧ (∀ q : Nat, q < G.1.size → s.heap[q]? = G.1[q]?) ∧ G.1.size ≤ s.heap.size
def j_Q (G : jG) (Q : Option Value → jH → Prop) : Array Value → State → Outcome → State → Prop := fun _ _ oc t => ∃ (v : Option Value) (h' : jH), oc = .returned (v.map (jv G)) ∧ Q v h' ∧ j_rep G h' t.heap
/-- from pc of method M on, with these locals, this stack and this heap: it returns, with Q -/
def J (l : Launch) (G : jG) (M : jM) (nc ns pc : Nat) (lv : List (Nat × Value)) (st : List Value) (h : jH) (Q : Option Value → jH → Prop) : Prop :=
  ∀ (p : Program) (e : Env) (s : State) (m : MethodId) (args : Array Value) (below : List Frame) (meth : Method) (c : Code) (H : Heap) (locs : List Loc) (ls : Array Slot),
    JF G M p s m args meth c → j_rep G h H → (∀ q ∈ locs, G.1.size ≤ q.base) → lv_has ls M.2.2.1 (j_c G lv) →
    W p l e M.2.2.2.2 s m args below meth c H locs nc ns (MQ below (j_Q G Q) args s M.2.2.2.2.cells M.2.2.2.2.slots (fun q => G.1.size ≤ q)) (F0 m pc ls (st.map (jv G)))
end
section
section JR
variable {l : Launch} {G : jG} {y : MethodName} {cc : ByteArray} {n : Nat} {r : Option FieldType} {rm : Room} {nc ns pc : Nat} {lv : List (Nat × Value)} {st : List Value} {h : jH} {Q : Option Value → jH → Prop}
theorem j_iconst {i : Int} {v : Int32} (hd : decode cc pc = .ok (.iconst i, 1)) (hv : Int32.ofInt i = v) (k : J l G (y, cc, n, r, rm) nc ns (pc + 1) lv (.int v :: st) h Q) : J l G (y, cc, n, r, rm) nc ns pc lv (st) h Q :=
  fun p e s m args below meth c H locs ls hF hR hL hV => lv_iconst hF.1 hF.2.1 hd hv (k p e s m args below meth c H locs ls hF hR hL hV)
theorem j_bipush {i : Int} {v : Int32} (hd : decode cc pc = .ok (.bipush i, 2)) (hv : (Int8.ofInt i).toInt32 = v) (k : J l G (y, cc, n, r, rm) nc ns (pc + 2) lv (.int v :: st) h Q) : J l G (y, cc, n, r, rm) nc ns pc lv (st) h Q :=
  fun p e s m args below meth c H locs ls hF hR hL hV => lv_bipush hF.1 hF.2.1 hd hv (k p e s m args below meth c H locs ls hF hR hL hV)
theorem j_sipush {i : Int} {v : Int32} (hd : decode cc pc = .ok (.sipush i, 3)) (hv : (Int16.ofInt i).toInt32 = v) (k : J l G (y, cc, n, r, rm) nc ns (pc + 3) lv (.int v :: st) h Q) : J l G (y, cc, n, r, rm) nc ns pc lv (st) h Q :=
  fun p e s m args below meth c H locs ls hF hR hL hV => lv_sipush hF.1 hF.2.1 hd hv (k p e s m args below meth c H locs ls hF hR hL hV)
theorem j_lconst {i : Fin 2} {v : Int64} (hd : decode cc pc = .ok (.lconst i, 1)) (hv : Int64.ofNat (i : Nat) = v) (k : J l G (y, cc, n, r, rm) nc ns (pc + 1) lv (.long v :: st) h Q) : J l G (y, cc, n, r, rm) nc ns pc lv (st) h Q :=
  fun p e s m args below meth c H locs ls hF hR hL hV => lv_lconst hF.1 hF.2.1 hd hv (k p e s m args below meth c H locs ls hF hR hL hV)
theorem j_iload_n {i : Fin 4} {x : Int32} (hd : decode cc pc = .ok (.iload_n i, 1)) (hl : jlk (i : Nat) lv = some (.int x)) (k : J l G (y, cc, n, r, rm) nc ns (pc + 1) lv (.int x :: st) h Q) : J l G (y, cc, n, r, rm) nc ns pc lv (st) h Q :=
  fun p e s m args below meth c H locs ls hF hR hL hV => lv_iload_n hF.1 hF.2.1 hd rfl (j_lv hV hl) (k p e s m args below meth c H locs ls hF hR hL hV)
theorem j_iload {i : Nat} {x : Int32} (hd : decode cc pc = .ok (.iload i, 2)) (hl : jlk i lv = some (.int x)) (k : J l G (y, cc, n, r, rm) nc ns (pc + 2) lv (.int x :: st) h Q) : J l G (y, cc, n, r, rm) nc ns pc lv (st) h Q :=
  fun p e s m args below meth c H locs ls hF hR hL hV => lv_iload hF.1 hF.2.1 hd (j_lv hV hl) (k p e s m args below meth c H locs ls hF hR hL hV)
theorem j_lload_n {i : Fin 4} {x : Int64} (hd : decode cc pc = .ok (.lload_n i, 1)) (hl : jlk (i : Nat) lv = some (.long x)) (k : J l G (y, cc, n, r, rm) nc ns (pc + 1) lv (.long x :: st) h Q) : J l G (y, cc, n, r, rm) nc ns pc lv (st) h Q :=
  fun p e s m args below meth c H locs ls hF hR hL hV => lv_lload_n hF.1 hF.2.1 hd rfl (j_lv hV hl) (k p e s m args below meth c H locs ls hF hR hL hV)
theorem j_lload {i : Nat} {x : Int64} (hd : decode cc pc = .ok (.lload i, 2)) (hl : jlk i lv = some (.long x)) (k : J l G (y, cc, n, r, rm) nc ns (pc + 2) lv (.long x :: st) h Q) : J l G (y, cc, n, r, rm) nc ns pc lv (st) h Q :=
  fun p e s m args below meth c H locs ls hF hR hL hV => lv_lload hF.1 hF.2.1 hd (j_lv hV hl) (k p e s m args below meth c H locs ls hF hR hL hV)
theorem j_aload_n {i : Fin 4} {x : Nat} (hd : decode cc pc = .ok (.aload_n i, 1)) (hl : jlk (i : Nat) lv = some (.ref x)) (k : J l G (y, cc, n, r, rm) nc ns (pc + 1) lv (.ref x :: st) h Q) : J l G (y, cc, n, r, rm) nc ns pc lv (st) h Q :=
  fun p e s m args below meth c H locs ls hF hR hL hV => lv_aload_n hF.1 hF.2.1 hd rfl (j_lv hV hl) (k p e s m args below meth c H locs ls hF hR hL hV)
theorem j_aload {i : Nat} {x : Nat} (hd : decode cc pc = .ok (.aload i, 2)) (hl : jlk i lv = some (.ref x)) (k : J l G (y, cc, n, r, rm) nc ns (pc + 2) lv (.ref x :: st) h Q) : J l G (y, cc, n, r, rm) nc ns pc lv (st) h Q :=
  fun p e s m args below meth c H locs ls hF hR hL hV => lv_aload hF.1 hF.2.1 hd (j_lv hV hl) (k p e s m args below meth c H locs ls hF hR hL hV)
theorem j_xload_n {i : Fin 4} {x : UInt32} (hd : decode cc pc = .ok (.aload_n i, 1)) (hl : jlk (i : Nat) lv = some (.float x)) (k : J l G (y, cc, n, r, rm) nc ns (pc + 1) lv (.float x :: st) h Q) : J l G (y, cc, n, r, rm) nc ns pc lv (st) h Q :=
  fun p e s m args below meth c H locs ls hF hR hL hV => lv_aload_n hF.1 hF.2.1 hd rfl (j_lv hV hl) (k p e s m args below meth c H locs ls hF hR hL hV)
theorem j_xload {i : Nat} {x : UInt32} (hd : decode cc pc = .ok (.aload i, 2)) (hl : jlk i lv = some (.float x)) (k : J l G (y, cc, n, r, rm) nc ns (pc + 2) lv (.float x :: st) h Q) : J l G (y, cc, n, r, rm) nc ns pc lv (st) h Q :=
  fun p e s m args below meth c H locs ls hF hR hL hV => lv_aload hF.1 hF.2.1 hd (j_lv hV hl) (k p e s m args below meth c H locs ls hF hR hL hV)
theorem j_nload_n {i : Fin 4} (hd : decode cc pc = .ok (.aload_n i, 1)) (hl : jlk (i : Nat) lv = some .null) (k : J l G (y, cc, n, r, rm) nc ns (pc + 1) lv (.null :: st) h Q) : J l G (y, cc, n, r, rm) nc ns pc lv (st) h Q :=
  fun p e s m args below meth c H locs ls hF hR hL hV => lv_aload_nN hF.1 hF.2.1 hd rfl (j_lv hV hl) (k p e s m args below meth c H locs ls hF hR hL hV)
theorem j_nload {i : Nat} (hd : decode cc pc = .ok (.aload i, 2)) (hl : jlk i lv = some .null) (k : J l G (y, cc, n, r, rm) nc ns (pc + 2) lv (.null :: st) h Q) : J l G (y, cc, n, r, rm) nc ns pc lv (st) h Q :=
  fun p e s m args below meth c H locs ls hF hR hL hV => lv_aloadN hF.1 hF.2.1 hd (j_lv hV hl) (k p e s m args below meth c H locs ls hF hR hL hV)
theorem j_aconst_null (hd : decode cc pc = .ok (.aconst_null, 1)) (k : J l G (y, cc, n, r, rm) nc ns (pc + 1) lv (.null :: st) h Q) : J l G (y, cc, n, r, rm) nc ns pc lv (st) h Q :=
  fun p e s m args below meth c H locs ls hF hR hL hV => lv_null hF.1 hF.2.1 hd (k p e s m args below meth c H locs ls hF hR hL hV)
theorem j_istore_n {i : Fin 4} {x : Int32} (hd : decode cc pc = .ok (.istore_n i, 1)) (hn : (i : Nat) < n) (k : J l G (y, cc, n, r, rm) nc ns (pc + 1) (jst1 (i : Nat) (.int x) lv) (st) h Q) : J l G (y, cc, n, r, rm) nc ns pc lv (.int x :: st) h Q :=
  fun p e s m args below meth c H locs ls hF hR hL hV => lv_istore_n hF.1 hF.2.1 hd rfl hV hn rfl (fun ls1 h1 => k p e s m args below meth c H locs ls1 hF hR hL (by rw [← jst1_c]; exact h1))
theorem j_istore {i : Nat} {x : Int32} (hd : decode cc pc = .ok (.istore i, 2)) (hn : i < n) (k : J l G (y, cc, n, r, rm) nc ns (pc + 2) (jst1 i (.int x) lv) (st) h Q) : J l G (y, cc, n, r, rm) nc ns pc lv (.int x :: st) h Q :=
  fun p e s m args below meth c H locs ls hF hR hL hV => lv_istore hF.1 hF.2.1 hd hV hn rfl (fun ls1 h1 => k p e s m args below meth c H locs ls1 hF hR hL (by rw [← jst1_c]; exact h1))
theorem j_lstore_n {i : Fin 4} {x : Int64} (hd : decode cc pc = .ok (.lstore_n i, 1)) (hn : (i : Nat) + 1 < n) (k : J l G (y, cc, n, r, rm) nc ns (pc + 1) (jst2 (i : Nat) (.long x) lv) (st) h Q) : J l G (y, cc, n, r, rm) nc ns pc lv (.long x :: st) h Q :=
  fun p e s m args below meth c H locs ls hF hR hL hV => lv_lstore_n hF.1 hF.2.1 hd rfl hV hn rfl (fun ls1 h1 => k p e s m args below meth c H locs ls1 hF hR hL (by rw [← jst2_c]; exact h1))
theorem j_lstore {i : Nat} {x : Int64} (hd : decode cc pc = .ok (.lstore i, 2)) (hn : i + 1 < n) (k : J l G (y, cc, n, r, rm) nc ns (pc + 2) (jst2 i (.long x) lv) (st) h Q) : J l G (y, cc, n, r, rm) nc ns pc lv (.long x :: st) h Q :=
  fun p e s m args below meth c H locs ls hF hR hL hV => lv_lstore hF.1 hF.2.1 hd hV hn rfl (fun ls1 h1 => k p e s m args below meth c H locs ls1 hF hR hL (by rw [← jst2_c]; exact h1))
theorem j_astore_n {i : Fin 4} {x : Nat} (hd : decode cc pc = .ok (.astore_n i, 1)) (hn : (i : Nat) < n) (k : J l G (y, cc, n, r, rm) nc ns (pc + 1) (jst1 (i : Nat) (.ref x) lv) (st) h Q) : J l G (y, cc, n, r, rm) nc ns pc lv (.ref x :: st) h Q :=
  fun p e s m args below meth c H locs ls hF hR hL hV => lv_astore_n hF.1 hF.2.1 hd rfl hV hn rfl (fun ls1 h1 => k p e s m args below meth c H locs ls1 hF hR hL (by rw [← jst1_c]; exact h1))
theorem j_astore {i : Nat} {x : Nat} (hd : decode cc pc = .ok (.astore i, 2)) (hn : i < n) (k : J l G (y, cc, n, r, rm) nc ns (pc + 2) (jst1 i (.ref x) lv) (st) h Q) : J l G (y, cc, n, r, rm) nc ns pc lv (.ref x :: st) h Q :=
  fun p e s m args below meth c H locs ls hF hR hL hV => lv_astore hF.1 hF.2.1 hd hV hn rfl (fun ls1 h1 => k p e s m args below meth c H locs ls1 hF hR hL (by rw [← jst1_c]; exact h1))
theorem j_nstore_n {i : Fin 4} (hd : decode cc pc = .ok (.astore_n i, 1)) (hn : (i : Nat) < n) (k : J l G (y, cc, n, r, rm) nc ns (pc + 1) (jst1 (i : Nat) (.null) lv) (st) h Q) : J l G (y, cc, n, r, rm) nc ns pc lv (.null :: st) h Q :=
  fun p e s m args below meth c H locs ls hF hR hL hV => lv_astore_nN hF.1 hF.2.1 hd rfl hV hn rfl (fun ls1 h1 => k p e s m args below meth c H locs ls1 hF hR hL (by rw [← jst1_c]; exact h1))
theorem j_nstore {i : Nat} (hd : decode cc pc = .ok (.astore i, 2)) (hn : i < n) (k : J l G (y, cc, n, r, rm) nc ns (pc + 2) (jst1 i (.null) lv) (st) h Q) : J l G (y, cc, n, r, rm) nc ns pc lv (.null :: st) h Q :=
  fun p e s m args below meth c H locs ls hF hR hL hV => lv_astoreN hF.1 hF.2.1 hd hV hn rfl (fun ls1 h1 => k p e s m args below meth c H locs ls1 hF hR hL (by rw [← jst1_c]; exact h1))
theorem j_iinc {i : Nat} {d : Int} {x v : Int32} (hd : decode cc pc = .ok (.iinc i d, 3)) (hl : jlk i lv = some (.int x)) (hv : x + Int32.ofInt d = v) (hn : i < n) (k : J l G (y, cc, n, r, rm) nc ns (pc + 3) (jst1 i (.int v) lv) st h Q) : J l G (y, cc, n, r, rm) nc ns pc lv st h Q := by
  intro p e s m args below meth c H locs ls hF hR hL hV
  obtain ⟨a, ha⟩ := List.getElem?_of_mem (jlk_mem hl)
  have ha' : (j_c G lv)[a]? = some (i, .int x) := by
    simp only [j_c, List.getElem?_map, ha]
    rfl
  exact lv_iinc hF.1 hF.2.1 hd hV ha' hv hn rfl (fun ls1 h1 => k p e s m args below meth c H locs ls1 hF hR hL (by rw [← jst1_c]; exact h1))
theorem j_iadd {x w : Int32} (hd : decode cc pc = .ok (.iadd, 1)) (k : J l G (y, cc, n, r, rm) nc ns (pc + 1) lv (.int (x + w) :: st) h Q) : J l G (y, cc, n, r, rm) nc ns pc lv (.int w :: .int x :: st) h Q :=
  fun p e s m args below meth c H locs ls hF hR hL hV => lv_iadd hF.1 hF.2.1 hd (k p e s m args below meth c H locs ls hF hR hL hV)
theorem j_isub {x w : Int32} (hd : decode cc pc = .ok (.isub, 1)) (k : J l G (y, cc, n, r, rm) nc ns (pc + 1) lv (.int (x - w) :: st) h Q) : J l G (y, cc, n, r, rm) nc ns pc lv (.int w :: .int x :: st) h Q :=
  fun p e s m args below meth c H locs ls hF hR hL hV => lv_isub hF.1 hF.2.1 hd (k p e s m args below meth c H locs ls hF hR hL hV)
theorem j_imul {x w : Int32} (hd : decode cc pc = .ok (.imul, 1)) (k : J l G (y, cc, n, r, rm) nc ns (pc + 1) lv (.int (x * w) :: st) h Q) : J l G (y, cc, n, r, rm) nc ns pc lv (.int w :: .int x :: st) h Q :=
  fun p e s m args below meth c H locs ls hF hR hL hV => lv_imul hF.1 hF.2.1 hd (k p e s m args below meth c H locs ls hF hR hL hV)
theorem j_iand {x w : Int32} (hd : decode cc pc = .ok (.iand, 1)) (k : J l G (y, cc, n, r, rm) nc ns (pc + 1) lv (.int (x &&& w) :: st) h Q) : J l G (y, cc, n, r, rm) nc ns pc lv (.int w :: .int x :: st) h Q :=
  fun p e s m args below meth c H locs ls hF hR hL hV => lv_iand hF.1 hF.2.1 hd (k p e s m args below meth c H locs ls hF hR hL hV)
theorem j_ladd {x w : Int64} (hd : decode cc pc = .ok (.ladd, 1)) (k : J l G (y, cc, n, r, rm) nc ns (pc + 1) lv (.long (x + w) :: st) h Q) : J l G (y, cc, n, r, rm) nc ns pc lv (.long w :: .long x :: st) h Q :=
  fun p e s m args below meth c H locs ls hF hR hL hV => lv_ladd hF.1 hF.2.1 hd (k p e s m args below meth c H locs ls hF hR hL hV)
theorem j_lsub {x w : Int64} (hd : decode cc pc = .ok (.lsub, 1)) (k : J l G (y, cc, n, r, rm) nc ns (pc + 1) lv (.long (x - w) :: st) h Q) : J l G (y, cc, n, r, rm) nc ns pc lv (.long w :: .long x :: st) h Q :=
  fun p e s m args below meth c H locs ls hF hR hL hV => lv_lsub hF.1 hF.2.1 hd (k p e s m args below meth c H locs ls hF hR hL hV)
theorem j_lmul {x w : Int64} (hd : decode cc pc = .ok (.lmul, 1)) (k : J l G (y, cc, n, r, rm) nc ns (pc + 1) lv (.long (x * w) :: st) h Q) : J l G (y, cc, n, r, rm) nc ns pc lv (.long w :: .long x :: st) h Q :=
  fun p e s m args below meth c H locs ls hF hR hL hV => lv_lmul hF.1 hF.2.1 hd (k p e s m args below meth c H locs ls hF hR hL hV)
theorem j_land {x w : Int64} (hd : decode cc pc = .ok (.land, 1)) (k : J l G (y, cc, n, r, rm) nc ns (pc + 1) lv (.long (x &&& w) :: st) h Q) : J l G (y, cc, n, r, rm) nc ns pc lv (.long w :: .long x :: st) h Q :=
  fun p e s m args below meth c H locs ls hF hR hL hV => lv_land hF.1 hF.2.1 hd (k p e s m args below meth c H locs ls hF hR hL hV)
theorem j_lor {x w : Int64} (hd : decode cc pc = .ok (.lor, 1)) (k : J l G (y, cc, n, r, rm) nc ns (pc + 1) lv (.long (x ||| w) :: st) h Q) : J l G (y, cc, n, r, rm) nc ns pc lv (.long w :: .long x :: st) h Q :=
  fun p e s m args below meth c H locs ls hF hR hL hV => lv_lor hF.1 hF.2.1 hd (k p e s m args below meth c H locs ls hF hR hL hV)
theorem j_idiv {x w : Int32} (hd : decode cc pc = .ok (.idiv, 1)) (hne : ¬ w = 0) (k : J l G (y, cc, n, r, rm) nc ns (pc + 1) lv (.int (x / w) :: st) h Q) : J l G (y, cc, n, r, rm) nc ns pc lv (.int w :: .int x :: st) h Q :=
  fun p e s m args below meth c H locs ls hF hR hL hV => lv_idiv hF.1 hF.2.1 hd hne (k p e s m args below meth c H locs ls hF hR hL hV)
theorem j_irem {x w : Int32} (hd : decode cc pc = .ok (.irem, 1)) (hne : ¬ w = 0) (k : J l G (y, cc, n, r, rm) nc ns (pc + 1) lv (.int (x - x / w * w) :: st) h Q) : J l G (y, cc, n, r, rm) nc ns pc lv (.int w :: .int x :: st) h Q :=
  fun p e s m args below meth c H locs ls hF hR hL hV => lv_irem hF.1 hF.2.1 hd hne (k p e s m args below meth c H locs ls hF hR hL hV)
theorem j_ldiv {x w : Int64} (hd : decode cc pc = .ok (.ldiv, 1)) (hne : ¬ w = 0) (k : J l G (y, cc, n, r, rm) nc ns (pc + 1) lv (.long (x / w) :: st) h Q) : J l G (y, cc, n, r, rm) nc ns pc lv (.long w :: .long x :: st) h Q :=
  fun p e s m args below meth c H locs ls hF hR hL hV => lv_ldiv hF.1 hF.2.1 hd hne (k p e s m args below meth c H locs ls hF hR hL hV)
theorem j_lrem {x w : Int64} (hd : decode cc pc = .ok (.lrem, 1)) (hne : ¬ w = 0) (k : J l G (y, cc, n, r, rm) nc ns (pc + 1) lv (.long (x - x / w * w) :: st) h Q) : J l G (y, cc, n, r, rm) nc ns pc lv (.long w :: .long x :: st) h Q :=
  fun p e s m args below meth c H locs ls hF hR hL hV => lv_lrem hF.1 hF.2.1 hd hne (k p e s m args below meth c H locs ls hF hR hL hV)
theorem j_ineg {x : Int32} (hd : decode cc pc = .ok (.ineg, 1)) (k : J l G (y, cc, n, r, rm) nc ns (pc + 1) lv (.int (-x) :: st) h Q) : J l G (y, cc, n, r, rm) nc ns pc lv (.int x :: st) h Q :=
  fun p e s m args below meth c H locs ls hF hR hL hV => lv_ineg hF.1 hF.2.1 hd (k p e s m args below meth c H locs ls hF hR hL hV)
theorem j_lneg {x : Int64} (hd : decode cc pc = .ok (.lneg, 1)) (k : J l G (y, cc, n, r, rm) nc ns (pc + 1) lv (.long (-x) :: st) h Q) : J l G (y, cc, n, r, rm) nc ns pc lv (.long x :: st) h Q :=
  fun p e s m args below meth c H locs ls hF hR hL hV => lv_lneg hF.1 hF.2.1 hd (k p e s m args below meth c H locs ls hF hR hL hV)
theorem j_i2l {x : Int32} (hd : decode cc pc = .ok (.i2l, 1)) (k : J l G (y, cc, n, r, rm) nc ns (pc + 1) lv (.long x.toInt64 :: st) h Q) : J l G (y, cc, n, r, rm) nc ns pc lv (.int x :: st) h Q :=
  fun p e s m args below meth c H locs ls hF hR hL hV => lv_i2l hF.1 hF.2.1 hd rfl (k p e s m args below meth c H locs ls hF hR hL hV)
theorem j_l2i {x : Int64} (hd : decode cc pc = .ok (.l2i, 1)) (k : J l G (y, cc, n, r, rm) nc ns (pc + 1) lv (.int x.toInt32 :: st) h Q) : J l G (y, cc, n, r, rm) nc ns pc lv (.long x :: st) h Q :=
  fun p e s m args below meth c H locs ls hF hR hL hV => lv_l2i hF.1 hF.2.1 hd rfl (k p e s m args below meth c H locs ls hF hR hL hV)
theorem j_i2c {x : Int32} (hd : decode cc pc = .ok (.i2c, 1)) (k : J l G (y, cc, n, r, rm) nc ns (pc + 1) lv (.int (x.toUInt32 % 65536).toInt32 :: st) h Q) : J l G (y, cc, n, r, rm) nc ns pc lv (.int x :: st) h Q :=
  fun p e s m args below meth c H locs ls hF hR hL hV => lv_i2c hF.1 hF.2.1 hd rfl (k p e s m args below meth c H locs ls hF hR hL hV)
theorem j_lshl {x : Int64} {w : Int32} (hd : decode cc pc = .ok (.lshl, 1)) (k : J l G (y, cc, n, r, rm) nc ns (pc + 1) lv (.long (x <<< (w.toInt64 &&& 63)) :: st) h Q) : J l G (y, cc, n, r, rm) nc ns pc lv (.int w :: .long x :: st) h Q :=
  fun p e s m args below meth c H locs ls hF hR hL hV => lv_lshl hF.1 hF.2.1 hd rfl (k p e s m args below meth c H locs ls hF hR hL hV)
theorem j_lshr {x : Int64} {w : Int32} (hd : decode cc pc = .ok (.lshr, 1)) (k : J l G (y, cc, n, r, rm) nc ns (pc + 1) lv (.long (x >>> (w.toInt64 &&& 63)) :: st) h Q) : J l G (y, cc, n, r, rm) nc ns pc lv (.int w :: .long x :: st) h Q :=
  fun p e s m args below meth c H locs ls hF hR hL hV => lv_lshr hF.1 hF.2.1 hd rfl (k p e s m args below meth c H locs ls hF hR hL hV)
theorem j_ishr {x w : Int32} (hd : decode cc pc = .ok (.ishr, 1)) (k : J l G (y, cc, n, r, rm) nc ns (pc + 1) lv (.int (x >>> (w &&& 31)) :: st) h Q) : J l G (y, cc, n, r, rm) nc ns pc lv (.int w :: .int x :: st) h Q :=
  fun p e s m args below meth c H locs ls hF hR hL hV => lv_ishr hF.1 hF.2.1 hd (k p e s m args below meth c H locs ls hF hR hL hV)
theorem j_lcmp {x w : Int64} (hd : decode cc pc = .ok (.lcmp, 1)) (k : J l G (y, cc, n, r, rm) nc ns (pc + 1) lv (.int (lg_cmp x w) :: st) h Q) : J l G (y, cc, n, r, rm) nc ns pc lv (.long w :: .long x :: st) h Q :=
  fun p e s m args below meth c H locs ls hF hR hL hV => W.lcmp hF.1 hF.2.1 hd (k p e s m args below meth c H locs ls hF hR hL hV)
theorem j_dup {v : Value} (hd : decode cc pc = .ok (.dup, 1)) (h1 : v.category = 1) (k : J l G (y, cc, n, r, rm) nc ns (pc + 1) lv (v :: v :: st) h Q) : J l G (y, cc, n, r, rm) nc ns pc lv (v :: st) h Q :=
  fun p e s m args below meth c H locs ls hF hR hL hV => lv_dup hF.1 hF.2.1 hd ((jv_cat G _).trans h1) (k p e s m args below meth c H locs ls hF hR hL hV)
theorem j_pop {v : Value} (hd : decode cc pc = .ok (.pop, 1)) (h1 : v.category = 1) (k : J l G (y, cc, n, r, rm) nc ns (pc + 1) lv (st) h Q) : J l G (y, cc, n, r, rm) nc ns pc lv (v :: st) h Q :=
  fun p e s m args below meth c H locs ls hF hR hL hV => lv_pop hF.1 hF.2.1 hd ((jv_cat G _).trans h1) (k p e s m args below meth c H locs ls hF hR hL hV)
theorem j_dup_x1 {v w : Value} (hd : decode cc pc = .ok (.dup_x1, 1)) (h1 : v.category = 1) (h2 : w.category = 1) (k : J l G (y, cc, n, r, rm) nc ns (pc + 1) lv (v :: w :: v :: st) h Q) : J l G (y, cc, n, r, rm) nc ns pc lv (v :: w :: st) h Q :=
  fun p e s m args below meth c H locs ls hF hR hL hV => lv_dup_x1 hF.1 hF.2.1 hd ((jv_cat G _).trans h1) ((jv_cat G _).trans h2) (k p e s m args below meth c H locs ls hF hR hL hV)
theorem j_dup_x2 {v w u : Value} (hd : decode cc pc = .ok (.dup_x2, 1)) (h1 : v.category = 1) (h2 : w.category = 1) (h3 : u.category = 1) (k : J l G (y, cc, n, r, rm) nc ns (pc + 1) lv (v :: w :: u :: v :: st) h Q) : J l G (y, cc, n, r, rm) nc ns pc lv (v :: w :: u :: st) h Q :=
  fun p e s m args below meth c H locs ls hF hR hL hV => lv_dup_x2 hF.1 hF.2.1 hd ((jv_cat G _).trans h1) ((jv_cat G _).trans h2) ((jv_cat G _).trans h3) (k p e s m args below meth c H locs ls hF hR hL hV)
theorem j_dup2 {v w : Value} (hd : decode cc pc = .ok (.dup2, 1)) (h1 : v.category = 1) (h2 : w.category = 1) (k : J l G (y, cc, n, r, rm) nc ns (pc + 1) lv (v :: w :: v :: w :: st) h Q) : J l G (y, cc, n, r, rm) nc ns pc lv (v :: w :: st) h Q :=
  fun p e s m args below meth c H locs ls hF hR hL hV => lv_dup2_11 hF.1 hF.2.1 hd ((jv_cat G _).trans h1) ((jv_cat G _).trans h2) (k p e s m args below meth c H locs ls hF hR hL hV)
theorem j_dup2L {v : Value} (hd : decode cc pc = .ok (.dup2, 1)) (h1 : v.category = 2) (k : J l G (y, cc, n, r, rm) nc ns (pc + 1) lv (v :: v :: st) h Q) : J l G (y, cc, n, r, rm) nc ns pc lv (v :: st) h Q :=
  fun p e s m args below meth c H locs ls hF hR hL hV => lv_dup2_2 hF.1 hF.2.1 hd ((jv_cat G _).trans h1) (k p e s m args below meth c H locs ls hF hR hL hV)
theorem j_dup2_x1L {v w : Value} (hd : decode cc pc = .ok (.dup2_x1, 1)) (h1 : v.category = 2) (h2 : w.category = 1) (k : J l G (y, cc, n, r, rm) nc ns (pc + 1) lv (v :: w :: v :: st) h Q) : J l G (y, cc, n, r, rm) nc ns pc lv (v :: w :: st) h Q :=
  fun p e s m args below meth c H locs ls hF hR hL hV => lv_dup2_x1_2 hF.1 hF.2.1 hd ((jv_cat G _).trans h1) ((jv_cat G _).trans h2) (k p e s m args below meth c H locs ls hF hR hL hV)
theorem j_dup2_x2L {v w u : Value} (hd : decode cc pc = .ok (.dup2_x2, 1)) (h1 : v.category = 2) (h2 : w.category = 1) (h3 : u.category = 1) (k : J l G (y, cc, n, r, rm) nc ns (pc + 1) lv (v :: w :: u :: v :: st) h Q) : J l G (y, cc, n, r, rm) nc ns pc lv (v :: w :: u :: st) h Q :=
  fun p e s m args below meth c H locs ls hF hR hL hV => lv_dup2_x2_2 hF.1 hF.2.1 hd ((jv_cat G _).trans h1) ((jv_cat G _).trans h2) ((jv_cat G _).trans h3) (k p e s m args below meth c H locs ls hF hR hL hV)
theorem j_if_eq {x : Int32} {off : Int} {tgt : Nat} (hd : decode cc pc = .ok (.ifCond .eq off, 3)) (ht : (pc : Int) + off = (tgt : Int)) (kt : x = 0 → J l G (y, cc, n, r, rm) nc ns tgt lv (st) h Q) (kf : ¬ (x = 0) → J l G (y, cc, n, r, rm) nc ns (pc + 3) lv (st) h Q) : J l G (y, cc, n, r, rm) nc ns pc lv (.int x :: st) h Q :=
  fun p e s m args below meth c H locs ls hF hR hL hV => lv_if_eq hF.1 hF.2.1 hd ht (fun q => kt q p e s m args below meth c H locs ls hF hR hL hV) (fun q => kf q p e s m args below meth c H locs ls hF hR hL hV)
theorem j_icmp_eq {x w : Int32} {off : Int} {tgt : Nat} (hd : decode cc pc = .ok (.if_icmp .eq off, 3)) (ht : (pc : Int) + off = (tgt : Int)) (kt : x = w → J l G (y, cc, n, r, rm) nc ns tgt lv (st) h Q) (kf : ¬ (x = w) → J l G (y, cc, n, r, rm) nc ns (pc + 3) lv (st) h Q) : J l G (y, cc, n, r, rm) nc ns pc lv (.int w :: .int x :: st) h Q :=
  fun p e s m args below meth c H locs ls hF hR hL hV => lv_icmp_eq hF.1 hF.2.1 hd ht (fun q => kt q p e s m args below meth c H locs ls hF hR hL hV) (fun q => kf q p e s m args below meth c H locs ls hF hR hL hV)
theorem j_if_ne {x : Int32} {off : Int} {tgt : Nat} (hd : decode cc pc = .ok (.ifCond .ne off, 3)) (ht : (pc : Int) + off = (tgt : Int)) (kt : ¬ x = 0 → J l G (y, cc, n, r, rm) nc ns tgt lv (st) h Q) (kf : x = 0 → J l G (y, cc, n, r, rm) nc ns (pc + 3) lv (st) h Q) : J l G (y, cc, n, r, rm) nc ns pc lv (.int x :: st) h Q :=
  fun p e s m args below meth c H locs ls hF hR hL hV => lv_if_ne hF.1 hF.2.1 hd ht (fun q => kt q p e s m args below meth c H locs ls hF hR hL hV) (fun q => kf q p e s m args below meth c H locs ls hF hR hL hV)
theorem j_icmp_ne {x w : Int32} {off : Int} {tgt : Nat} (hd : decode cc pc = .ok (.if_icmp .ne off, 3)) (ht : (pc : Int) + off = (tgt : Int)) (kt : ¬ x = w → J l G (y, cc, n, r, rm) nc ns tgt lv (st) h Q) (kf : x = w → J l G (y, cc, n, r, rm) nc ns (pc + 3) lv (st) h Q) : J l G (y, cc, n, r, rm) nc ns pc lv (.int w :: .int x :: st) h Q :=
  fun p e s m args below meth c H locs ls hF hR hL hV => lv_icmp_ne hF.1 hF.2.1 hd ht (fun q => kt q p e s m args below meth c H locs ls hF hR hL hV) (fun q => kf q p e s m args below meth c H locs ls hF hR hL hV)
theorem j_if_lt {x : Int32} {off : Int} {tgt : Nat} (hd : decode cc pc = .ok (.ifCond .lt off, 3)) (ht : (pc : Int) + off = (tgt : Int)) (kt : x < 0 → J l G (y, cc, n, r, rm) nc ns tgt lv (st) h Q) (kf : ¬ (x < 0) → J l G (y, cc, n, r, rm) nc ns (pc + 3) lv (st) h Q) : J l G (y, cc, n, r, rm) nc ns pc lv (.int x :: st) h Q :=
  fun p e s m args below meth c H locs ls hF hR hL hV => lv_if_lt hF.1 hF.2.1 hd ht (fun q => kt q p e s m args below meth c H locs ls hF hR hL hV) (fun q => kf q p e s m args below meth c H locs ls hF hR hL hV)
theorem j_icmp_lt {x w : Int32} {off : Int} {tgt : Nat} (hd : decode cc pc = .ok (.if_icmp .lt off, 3)) (ht : (pc : Int) + off = (tgt : Int)) (kt : x < w → J l G (y, cc, n, r, rm) nc ns tgt lv (st) h Q) (kf : ¬ (x < w) → J l G (y, cc, n, r, rm) nc ns (pc + 3) lv (st) h Q) : J l G (y, cc, n, r, rm) nc ns pc lv (.int w :: .int x :: st) h Q :=
  fun p e s m args below meth c H locs ls hF hR hL hV => lv_icmp_lt hF.1 hF.2.1 hd ht (fun q => kt q p e s m args below meth c H locs ls hF hR hL hV) (fun q => kf q p e s m args below meth c H locs ls hF hR hL hV)
theorem j_if_ge {x : Int32} {off : Int} {tgt : Nat} (hd : decode cc pc = .ok (.ifCond .ge off, 3)) (ht : (pc : Int) + off = (tgt : Int)) (kt : 0 ≤ x → J l G (y, cc, n, r, rm) nc ns tgt lv (st) h Q) (kf : ¬ (0 ≤ x) → J l G (y, cc, n, r, rm) nc ns (pc + 3) lv (st) h Q) : J l G (y, cc, n, r, rm) nc ns pc lv (.int x :: st) h Q :=
  fun p e s m args below meth c H locs ls hF hR hL hV => lv_if_ge hF.1 hF.2.1 hd ht (fun q => kt q p e s m args below meth c H locs ls hF hR hL hV) (fun q => kf q p e s m args below meth c H locs ls hF hR hL hV)
theorem j_icmp_ge {x w : Int32} {off : Int} {tgt : Nat} (hd : decode cc pc = .ok (.if_icmp .ge off, 3)) (ht : (pc : Int) + off = (tgt : Int)) (kt : w ≤ x → J l G (y, cc, n, r, rm) nc ns tgt lv (st) h Q) (kf : ¬ (w ≤ x) → J l G (y, cc, n, r, rm) nc ns (pc + 3) lv (st) h Q) : J l G (y, cc, n, r, rm) nc ns pc lv (.int w :: .int x :: st) h Q :=
  fun p e s m args below meth c H locs ls hF hR hL hV => lv_icmp_ge hF.1 hF.2.1 hd ht (fun q => kt q p e s m args below meth c H locs ls hF hR hL hV) (fun q => kf q p e s m args below meth c H locs ls hF hR hL hV)
theorem j_if_gt {x : Int32} {off : Int} {tgt : Nat} (hd : decode cc pc = .ok (.ifCond .gt off, 3)) (ht : (pc : Int) + off = (tgt : Int)) (kt : 0 < x → J l G (y, cc, n, r, rm) nc ns tgt lv (st) h Q) (kf : ¬ (0 < x) → J l G (y, cc, n, r, rm) nc ns (pc + 3) lv (st) h Q) : J l G (y, cc, n, r, rm) nc ns pc lv (.int x :: st) h Q :=
  fun p e s m args below meth c H locs ls hF hR hL hV => lv_if_gt hF.1 hF.2.1 hd ht (fun q => kt q p e s m args below meth c H locs ls hF hR hL hV) (fun q => kf q p e s m args below meth c H locs ls hF hR hL hV)
theorem j_icmp_gt {x w : Int32} {off : Int} {tgt : Nat} (hd : decode cc pc = .ok (.if_icmp .gt off, 3)) (ht : (pc : Int) + off = (tgt : Int)) (kt : w < x → J l G (y, cc, n, r, rm) nc ns tgt lv (st) h Q) (kf : ¬ (w < x) → J l G (y, cc, n, r, rm) nc ns (pc + 3) lv (st) h Q) : J l G (y, cc, n, r, rm) nc ns pc lv (.int w :: .int x :: st) h Q :=
  fun p e s m args below meth c H locs ls hF hR hL hV => lv_icmp_gt hF.1 hF.2.1 hd ht (fun q => kt q p e s m args below meth c H locs ls hF hR hL hV) (fun q => kf q p e s m args below meth c H locs ls hF hR hL hV)
theorem j_if_le {x : Int32} {off : Int} {tgt : Nat} (hd : decode cc pc = .ok (.ifCond .le off, 3)) (ht : (pc : Int) + off = (tgt : Int)) (kt : x ≤ 0 → J l G (y, cc, n, r, rm) nc ns tgt lv (st) h Q) (kf : ¬ (x ≤ 0) → J l G (y, cc, n, r, rm) nc ns (pc + 3) lv (st) h Q) : J l G (y, cc, n, r, rm) nc ns pc lv (.int x :: st) h Q :=
  fun p e s m args below meth c H locs ls hF hR hL hV => lv_if_le hF.1 hF.2.1 hd ht (fun q => kt q p e s m args below meth c H locs ls hF hR hL hV) (fun q => kf q p e s m args below meth c H locs ls hF hR hL hV)
theorem j_icmp_le {x w : Int32} {off : Int} {tgt : Nat} (hd : decode cc pc = .ok (.if_icmp .le off, 3)) (ht : (pc : Int) + off = (tgt : Int)) (kt : x ≤ w → J l G (y, cc, n, r, rm) nc ns tgt lv (st) h Q) (kf : ¬ (x ≤ w) → J l G (y, cc, n, r, rm) nc ns (pc + 3) lv (st) h Q) : J l G (y, cc, n, r, rm) nc ns pc lv (.int w :: .int x :: st) h Q :=
  fun p e s m args below meth c H locs ls hF hR hL hV => lv_icmp_le hF.1 hF.2.1 hd ht (fun q => kt q p e s m args below meth c H locs ls hF hR hL hV) (fun q => kf q p e s m args below meth c H locs ls hF hR hL hV)
theorem j_goto {off : Int} {tgt : Nat} (hd : decode cc pc = .ok (.goto off, 3)) (ht : (pc : Int) + off = (tgt : Int)) (k : J l G (y, cc, n, r, rm) nc ns tgt lv (st) h Q) : J l G (y, cc, n, r, rm) nc ns pc lv (st) h Q :=
  fun p e s m args below meth c H locs ls hF hR hL hV => lv_goto hF.1 hF.2.1 hd ht (k p e s m args below meth c H locs ls hF hR hL hV)
theorem j_ifnull {x : Nat} {off : Int} (hd : decode cc pc = .ok (.ifnull off, 3)) (k : J l G (y, cc, n, r, rm) nc ns (pc + 3) lv (st) h Q) : J l G (y, cc, n, r, rm) nc ns pc lv (.ref x :: st) h Q :=
  fun p e s m args below meth c H locs ls hF hR hL hV => lv_ifnull hF.1 hF.2.1 hd (k p e s m args below meth c H locs ls hF hR hL hV)
theorem j_ifnullN {off : Int} {tgt : Nat} (hd : decode cc pc = .ok (.ifnull off, 3)) (ht : (pc : Int) + off = (tgt : Int)) (k : J l G (y, cc, n, r, rm) nc ns tgt lv (st) h Q) : J l G (y, cc, n, r, rm) nc ns pc lv (.null :: st) h Q :=
  fun p e s m args below meth c H locs ls hF hR hL hV => lv_ifnullN hF.1 hF.2.1 hd ht (k p e s m args below meth c H locs ls hF hR hL hV)
theorem j_ifnonnullN {off : Int} (hd : decode cc pc = .ok (.ifnonnull off, 3)) (k : J l G (y, cc, n, r, rm) nc ns (pc + 3) lv (st) h Q) : J l G (y, cc, n, r, rm) nc ns pc lv (.null :: st) h Q :=
  fun p e s m args below meth c H locs ls hF hR hL hV => lv_ifnonnullN hF.1 hF.2.1 hd (k p e s m args below meth c H locs ls hF hR hL hV)
theorem j_ifnonnull {x : Nat} {off : Int} {tgt : Nat} (hd : decode cc pc = .ok (.ifnonnull off, 3)) (ht : (pc : Int) + off = (tgt : Int)) (k : J l G (y, cc, n, r, rm) nc ns tgt lv (st) h Q) : J l G (y, cc, n, r, rm) nc ns pc lv (.ref x :: st) h Q :=
  fun p e s m args below meth c H locs ls hF hR hL hV => lv_ifnonnull hF.1 hF.2.1 hd ht (k p e s m args below meth c H locs ls hF hR hL hV)
theorem j_tableOut {dflt lo hi : Int} {offs : Array Int} {len : Nat} {x : Int32} {tgt : Nat} (hd : decode cc pc = .ok (.tableswitch dflt lo hi offs, len)) (hx : x.toInt < lo ∨ hi < x.toInt) (ht : (pc : Int) + dflt = (tgt : Int)) (k : J l G (y, cc, n, r, rm) nc ns tgt lv (st) h Q) : J l G (y, cc, n, r, rm) nc ns pc lv (.int x :: st) h Q :=
  fun p e s m args below meth c H locs ls hF hR hL hV => lv_tableOut hF.1 hF.2.1 hd hx ht (k p e s m args below meth c H locs ls hF hR hL hV)
theorem j_tableIn {dflt lo hi : Int} {offs : Array Int} {len : Nat} {x : Int32} {off : Int} {tgt : Nat} (hd : decode cc pc = .ok (.tableswitch dflt lo hi offs, len)) (h1 : ¬ x.toInt < lo) (h2 : ¬ hi < x.toInt) (ho : offs[(x.toInt - lo).toNat]? = some off) (ht : (pc : Int) + off = (tgt : Int)) (k : J l G (y, cc, n, r, rm) nc ns tgt lv (st) h Q) : J l G (y, cc, n, r, rm) nc ns pc lv (.int x :: st) h Q :=
  fun p e s m args below meth c H locs ls hF hR hL hV => lv_tableIn hF.1 hF.2.1 hd h1 h2 ho ht (k p e s m args below meth c H locs ls hF hR hL hV)
theorem j_ldc {idx : Nat} {v : Int32} (hd : decode cc pc = .ok (.ldc idx, 2)) (hw : Cond.constant y.cls idx v ∈ jWS) (k : J l G (y, cc, n, r, rm) nc ns (pc + 2) lv (.int v :: st) h Q) : J l G (y, cc, n, r, rm) nc ns pc lv (st) h Q :=
  fun p e s m args below meth c H locs ls hF hR hL hV => lv_ldc hF.1 hF.2.1 hF.2.2.2.2.2.2.1 (hF.2.2.2.2.2.2.2.1 _ hw) hd (k p e s m args below meth c H locs ls hF hR hL hV)
theorem j_ldc2 {idx : Nat} {v : Int64} (hd : decode cc pc = .ok (.ldc2_w idx, 3)) (hw : Cond.constantLong y.cls idx v ∈ jWS) (k : J l G (y, cc, n, r, rm) nc ns (pc + 3) lv (.long v :: st) h Q) : J l G (y, cc, n, r, rm) nc ns pc lv (st) h Q :=
  fun p e s m args below meth c H locs ls hF hR hL hV => lv_ldc2 hF.1 hF.2.1 hF.2.2.2.2.2.2.1 (hF.2.2.2.2.2.2.2.1 _ hw) hd (k p e s m args below meth c H locs ls hF hR hL hV)
theorem j_sub {lv' : List (Nat × Value)} (hs : lv'.map (fun q => jlk q.1 lv) = lv'.map (fun q => some q.2)) (k : J l G (y, cc, n, r, rm) nc ns pc lv' st h Q) : J l G (y, cc, n, r, rm) nc ns pc lv st h Q := by
  intro p e s m args below meth c H locs ls hF hR hL hV
  refine k p e s m args below meth c H locs ls hF hR hL ⟨hV.1, hV.2.1, fun q hq => ?_⟩
  obtain ⟨x, hx, rfl⟩ := List.mem_map.mp hq
  obtain ⟨i, hi⟩ := List.getElem?_of_mem hx
  have h1 : (lv'.map (fun q => jlk q.1 lv))[i]? = (lv'.map (fun q => some q.2))[i]? := by rw [hs]
  rw [List.getElem?_map, List.getElem?_map, hi] at h1
  exact j_lv hV (Option.some.inj h1)
theorem j_widen {k1 n1 : Nat} (h1 : nc ≤ k1) (h2 : ns ≤ n1) (k : J l G (y, cc, n, r, rm) k1 n1 pc lv st h Q) : J l G (y, cc, n, r, rm) nc ns pc lv st h Q :=
  fun p e s m args below meth c H locs ls hF hR hL hV => W.widen h1 h2 (k p e s m args below meth c H locs ls hF hR hL hV)
theorem j_mono {Q1 : Option Value → jH → Prop} (hQ : ∀ v h', Q1 v h' → Q v h') (k : J l G (y, cc, n, r, rm) nc ns pc lv st h Q1) : J l G (y, cc, n, r, rm) nc ns pc lv st h Q := by
  intro p e s m args below meth c H locs ls hF hR hL hV T hT X
  obtain ⟨t, a1, o, b1, b2, ⟨v, h', c1, c2, c3⟩, b4⟩ := k p e s m args below meth c H locs ls hF hR hL hV T hT X
  exact ⟨t, a1, o, b1, b2, ⟨v, h', c1, hQ v h' c2, c3⟩, b4⟩
theorem j_iret {v : Int32} {ty : FieldType} (hd : decode cc pc = .ok (.ireturn, 1)) (hr : r = some ty) (hn : narrow ty (.int v) = .int v) (h1 : nc ≤ rm.cells) (h2 : ns ≤ rm.slots) (hq : Q (some (.int v)) h) : J l G (y, cc, n, r, rm) nc ns pc lv [.int v] h Q := by
  intro p e s m args below meth c H locs ls hF hR hL hV
  refine W.widen h1 h2 ?_
  exact W.zret hF.1 hF.2.1 (hF.2.2.2.1.trans hr) hn (fun t ht _ => ⟨some (.int v), h, rfl, hq, by rw [ht]; exact hR⟩) hL hd hF.2.2.2.2.1
theorem j_lret {v : Int64} (hd : decode cc pc = .ok (.lreturn, 1)) (hr : r = some .long) (h1 : nc ≤ rm.cells) (h2 : ns ≤ rm.slots) (hq : Q (some (.long v)) h) : J l G (y, cc, n, r, rm) nc ns pc lv [.long v] h Q := by
  intro p e s m args below meth c H locs ls hF hR hL hV
  refine W.widen h1 h2 ?_
  exact W.lret hF.1 hF.2.1 (hF.2.2.2.1.trans hr) (fun t ht _ => ⟨some (.long v), h, rfl, hq, by rw [ht]; exact hR⟩) hL hd hF.2.2.2.2.1
theorem j_vret (hd : decode cc pc = .ok (.return_, 1)) (hr : r = none) (h1 : nc ≤ rm.cells) (h2 : ns ≤ rm.slots) (hq : Q none h) : J l G (y, cc, n, r, rm) nc ns pc lv [] h Q := by
  intro p e s m args below meth c H locs ls hF hR hL hV
  refine W.widen h1 h2 ?_
  exact W.vret hF.1 hF.2.1 (hF.2.2.2.1.trans hr) (fun t ht _ => ⟨none, h, rfl, hq, by rw [ht]; exact hR⟩) hL hd hF.2.2.2.2.1
theorem j_aret {v : Value} {C : String} (hd : decode cc pc = .ok (.areturn, 1)) (hr : r = some (.object C)) (hv : v = .null ∨ ∃ a, v = .ref a) (h1 : nc ≤ rm.cells) (h2 : ns ≤ rm.slots) (hq : Q (some v) h) : J l G (y, cc, n, r, rm) nc ns pc lv [v] h Q := by
  intro p e s m args below meth c H locs ls hF hR hL hV
  refine W.widen h1 h2 ?_
  exact W.aret hF.1 hF.2.1 (hF.2.2.2.1.trans hr) (Or.inl ⟨_, rfl⟩) (by rcases hv with rfl | ⟨a, rfl⟩; exact Or.inl rfl; exact Or.inr ⟨_, rfl⟩) (fun t ht _ => ⟨some v, h, rfl, hq, by rw [ht]; exact hR⟩) hL hd hF.2.2.2.2.1
end JR
end
section
section JHP
variable {l : Launch} {G : jG} {y : MethodName} {cc : ByteArray} {n : Nat} {r : Option FieldType} {rm : Room} {nc ns pc : Nat} {lv : List (Nat × Value)} {st : List Value} {h : jH} {Q : Option Value → jH → Prop}
/-- field fi of class ci, as own's pool entry idx names it -/
def jFld (own : String) (idx ci fi : Nat) (ty : FieldType) (fin : Bool) : Prop :=
  ∃ (C : String) (T : u_T) (N : Nat) (tyf : Nat → FieldType), vwCl[ci]? = some (C, T, N) ∧ fi < N ∧ (∀ w ∈ u_ws C T N, w ∈ jWS) ∧ (∀ k, k < N → parseFieldDescriptor (T k).2.2.1 = some (tyf k)) ∧ (∀ a, a < N → ∀ b, b < N → a ≠ b → (T a).2.1 ≠ (T b).2.1) ∧ (T fi).1 = C ∧ tyf fi = ty ∧ (T fi).2.2.2 = fin ∧ (Cond.fieldLink own idx C (T fi).2.1 (T fi).2.2.1 ∈ jWS ∨ ∃ host, Cond.fieldLinkNest own idx C (T fi).2.1 (T fi).2.2.1 host ∈ jNW)
theorem j_getf {k ci fi idx : Nat} {fs : List Value} {v : Value} {ty : FieldType} {fin : Bool} (hd : decode cc pc = .ok (.getfield idx, 3)) (hw : jFld y.cls idx ci fi ty fin) (hk : h.2 k = some (jO ci fs)) (hv : fs[fi]? = some v) (kk : J l G (y, cc, n, r, rm) nc ns (pc + 3) lv (v :: st) h Q) : J l G (y, cc, n, r, rm) nc ns pc lv (.ref k :: st) h Q := by
  intro p e s m args below meth c H locs ls hF hR hL hV
  obtain ⟨C, T, N, tyf, hc, hlt, hin, hty, hnm, hT1, hty1, hfin, hlink⟩ := hw
  obtain ⟨hx, hb, hml, hret, hlk, hnm2, hown, hts, henv, hs0, hz⟩ := id hF
  obtain ⟨r0, h1, cell, q1, q2, q3, q4⟩ := hR.2.2.2 k _ hk
  have hr : r0 = (C, T, N) := Option.some.inj (h1.symm.trans hc)
  subst hr
  obtain ⟨hS, hfc, kC, hkC, hkind⟩ := henv.2.1.1 ci _ hc
  obtain ⟨cf, kf, fi', f, hi, hsl⟩ := hS fi hlt
  have hst := (u_facts hfc hkC (u_lays hts hin hlt) hi).1
  have hslot : cell.slots[f.slot]? = some (jv G v) := by
    rw [hsl, q4 fi hlt]
    simp [vp_V, hv]
  rw [hT1] at hi
  rcases hlink with hl | ⟨host, hl⟩
  · exact W.getf hx hb hown (hts _ hl) hi hst q1 (by rw [q3]; exact fun h => by cases h) (v := jv G v) hslot rfl rfl hd (kk p e s m args below meth c H locs ls hF hR hL hV)
  · exact va_Wgetf hx hb hown (va_Nw.use rfl (henv.2.2.1 _ hl)) hi hst q1 (by rw [q3]; exact fun h => by cases h) (v := jv G v) hslot rfl rfl hd (kk p e s m args below meth c H locs ls hF hR hL hV)
theorem j_fset {fs : List Value} {fi : Nat} (hl : fi < fs.length) (v : Value) (j : Nat) : updV (fun k => jv G (vp_V fs k)) fi (jv G v) j = jv G (vp_V (fs.set fi v) j) := by
  rw [← vp_updV_set hl v j]
  by_cases e : j = fi <;> simp [updV, e]
theorem j_locs {locs : List Loc} {a i : Nat} (hL : ∀ q ∈ locs, G.1.size ≤ q.base) : ∀ q ∈ locs ++ [⟨G.1.size + a, i⟩], G.1.size ≤ q.base := by
  intro q hq
  rcases List.mem_append.mp hq with h1 | h1
  · exact hL q h1
  · rw [List.mem_singleton.mp h1]
    exact Nat.le_add_right _ _
theorem j_putf {k ci fi idx : Nat} {fs : List Value} {v : Value} {ty : FieldType} (hd : decode cc pc = .ok (.putfield idx, 3)) (hw : jFld y.cls idx ci fi ty false) (hk : h.2 k = some (jO ci fs)) (hn : narrow ty (jv G v) = jv G v) (hft : fits ty (jv G v) = true) (hl : fi < fs.length) (kk : J l G (y, cc, n, r, rm) nc ns (pc + 3) lv st (j_set h k (jO ci (fs.set fi v))) Q) : J l G (y, cc, n, r, rm) nc ns pc lv (v :: .ref k :: st) h Q := by
  intro p e s m args below meth c H locs ls hF hR hL hV
  obtain ⟨C, T, N, tyf, hc, hlt, hin, hty, hnm, hT1, hty1, hfin, hlink⟩ := hw
  obtain ⟨hx, hb, hml, hret, hlk, hnm2, hown, hts, henv, hs0, hz⟩ := id hF
  obtain ⟨r0, h1, cell, q1, q2, q3, q4⟩ := hR.2.2.2 k _ hk
  have hr : r0 = (C, T, N) := Option.some.inj (h1.symm.trans hc)
  subst hr
  have hap := va_apart (own := y.cls) hts hin tyf hty hnm henv.2.1 hc
  obtain ⟨hS, hfc, kC, hkC, hkind⟩ := henv.2.1.1 ci _ hc
  obtain ⟨cf, kf, fi', f, hi, hsl⟩ := hS fi hlt
  have hlay := hts _ (hin _ (u_in_lay hlt))
  unfold u_lay at hlay
  rw [if_neg (by rw [hfin]; decide)] at hlay
  have hst := (u_facts hfc hkC (u_lays hts hin hlt) hi).1
  have h6 := u_store hfc hkC hkind hlay hi ((hty fi hlt).trans (congrArg some hty1)) hn hft
  rw [hT1] at hi
  have key : ∀ H' : Heap, H'[G.1.size + k]? = some (cell.setSlot f.slot (jv G v)) → H'.size = H.size → (∀ q, q ≠ G.1.size + k → H'[q]? = H[q]?) → W p l e rm s m args below meth c H' (locs ++ [⟨G.1.size + k, f.slot⟩]) nc ns (MQ below (j_Q G Q) args s rm.cells rm.slots (fun q => G.1.size ≤ q)) (F0 m (pc + 3) ls (st.map (jv G))) := by
    intro H' e1 e2 e3
    rw [hsl] at e1
    exact kk p e s m args below meth c H' _ ls hF (hR.set hk ⟨_, hc, t_OB.to (V := updV (fun k => jv G (vp_V fs k)) fi (jv G v)) ⟨_, e1, q2, q3, t_set q4 hap hlt (jv G v)⟩ (fun j _ => j_fset hl v j)⟩ e2 e3) (j_locs hL) hV
  rcases hlink with hl2 | ⟨host, hl2⟩
  · exact W.putK hx hb (f := f) ⟨hown, hts _ hl2, ⟨_, _, _, hi⟩, hst⟩ (by rw [q2]; exact h6) q1 q3 (by rw [hsl]; exact k2_hasslot (q4 fi hlt)) rfl rfl hd key
  · exact va_WputK hx hb (f := f) hown (va_Nw.use rfl (henv.2.2.1 _ hl2)) hi hst (by rw [q2]; exact h6) q1 q3 (by rw [hsl]; exact k2_hasslot (q4 fi hlt)) rfl rfl hd key
/-- a final field, in its class's constructor -/
theorem j_putF {k ci fi idx : Nat} {fs : List Value} {v : Value} {ty : FieldType} (hd : decode cc pc = .ok (.putfield idx, 3)) (hw : jFld y.cls idx ci fi ty true) (hC : (vwCl[ci]?).map (fun q => q.1) = some y.cls) (hy : y.name = "<init>") (hlk : ∃ (C : String) (T : u_T) (N : Nat), vwCl[ci]? = some (C, T, N) ∧ Cond.fieldLink y.cls idx C (T fi).2.1 (T fi).2.2.1 ∈ jWS) (hk : h.2 k = some (jO ci fs)) (hn : narrow ty (jv G v) = jv G v) (hft : fits ty (jv G v) = true) (hl : fi < fs.length) (kk : J l G (y, cc, n, r, rm) nc ns (pc + 3) lv st (j_set h k (jO ci (fs.set fi v))) Q) : J l G (y, cc, n, r, rm) nc ns pc lv (v :: .ref k :: st) h Q := by
  intro p e s m args below meth c H locs ls hF hR hL hV
  obtain ⟨C, T, N, tyf, hc, hlt, hin, hty, hnm, hT1, hty1, hfin, -⟩ := hw
  obtain ⟨C2, T2, N2, hc2, hlink⟩ := hlk
  cases hc.symm.trans hc2
  have hyC : C = y.cls := by
    rw [hc] at hC
    exact Option.some.inj hC
  obtain ⟨hx, hb, hml, hret, hlk, hnm2, hown, hts, henv, hs0, hz⟩ := id hF
  obtain ⟨r0, h1, cell, q1, q2, q3, q4⟩ := hR.2.2.2 k _ hk
  have hr : r0 = (C, T, N) := Option.some.inj (h1.symm.trans hc)
  subst hr
  have hap := va_apart (own := y.cls) hts hin tyf hty hnm henv.2.1 hc
  obtain ⟨hS, hfc, kC, hkC, hkind⟩ := henv.2.1.1 ci _ hc
  obtain ⟨cf, kf, fi', f, hi, hsl⟩ := hS fi hlt
  have hlay := hts _ (hin _ (u_in_lay hlt))
  unfold u_lay at hlay
  rw [if_pos hfin] at hlay
  have hst := (u_facts hfc hkC (u_lays hts hin hlt) hi).1
  have h6 := u_fits hfc hkC hkind (u_lays hts hin hlt) hi ((hty fi hlt).trans (congrArg some hty1)) hn hft
  have hcf : m.cls = cf := by
    rw [hT1] at hi hlay
    rw [hyC] at hi hlay
    exact laid_decl hown hlay hi
  rw [hT1] at hi
  refine W.putFinK hx hb hown (hts _ hlink) hi hst hcf (hnm2.trans hy) (by rw [q2]; exact h6) q1 q3 (by rw [hsl]; exact k2_hasslot (q4 fi hlt)) rfl rfl hd fun H' e1 e2 e3 => ?_
  rw [hsl] at e1
  exact kk p e s m args below meth c H' _ ls hF (hR.set hk ⟨_, hc, t_OB.to (V := updV (fun k => jv G (vp_V fs k)) fi (jv G v)) ⟨_, e1, q2, q3, t_set q4 hap hlt (jv G v)⟩ (fun j _ => j_fset hl v j)⟩ e2 e3) (j_locs hL) hV
/-- an index: what it is, and that it is within -/
def jix (i : Int32) (q N : Nat) : Prop := ¬ i < 0 ∧ i.toNatClampNeg = q ∧ q < N
theorem jix_in {i : Int32} {q N : Nat} (hx : jix i q N) {cA : ClassId} {f : Nat → Value} : ¬ (i < 0 ∨ (arrV cA N f).slots.size ≤ i.toNatClampNeg) := by
  rw [arrV_size, hx.2.1]
  intro z
  rcases z with z | z
  · exact hx.1 z
  · exact absurd hx.2.2 (Nat.not_lt.mpr z)
theorem jix_rd {i : Int32} {q N : Nat} (hx : jix i q N) {cA : ClassId} {f : Nat → Value} : (arrV cA N f).slots[i.toNatClampNeg]? = some (f q) := by
  rw [hx.2.1]
  exact arrV_read cA f hx.2.2
theorem jix_nI {q N : Nat} (h : q < N) (hN : N < 2 ^ 31) : jix (nI q) q N := ⟨nI_pos (by omega), nI_clamp (by omega), h⟩
theorem jix_st {cA : ClassId} {N q : Nat} {f : Nat → Value} {v : Value} : (arrV cA N (fun j => jv G (f j))).setSlot q (jv G v) = arrV cA N (fun j => jv G (va_up f q v j)) := by
  rw [arrV_store]
  refine congrArg (arrV cA N) (funext fun j => ?_)
  by_cases e : j = q <;> simp [updV, va_up, e]
theorem j_ty (t : Nat) {U : State} (henv : j_env G U) {ty : FieldType} (ht : (j_tys G)[t]? = some (G.2.2.1 t, ty)) (N : Nat) (f : Nat → Value) : U.isArrayOf (arrV (G.2.2.1 t) N f) ty := (henv.2.1.2 t _ ht).1 N f
theorem j_iald {k N q : Nat} {a : Nat → Int32} {i : Int32} (hd : decode cc pc = .ok (.iaload, 1)) (hk : h.2 k = some (jI N a)) (hx : jix i q N) (kk : J l G (y, cc, n, r, rm) nc ns (pc + 1) lv (.int (a q) :: st) h Q) : J l G (y, cc, n, r, rm) nc ns pc lv (.int i :: .ref k :: st) h Q :=
  fun p e s m args below meth c H locs ls hF hR hL hV => W.iald (v := .int (a q)) hF.1 hF.2.1 (hR.2.2.2 k _ hk) (j_ty 0 hF.2.2.2.2.2.2.2.2.1 rfl _ _) (fun q => by cases q) (jix_in hx) (jix_rd hx) rfl rfl hd (kk p e s m args below meth c H locs ls hF hR hL hV)
theorem j_lald {k N q : Nat} {a : Nat → Int64} {i : Int32} (hd : decode cc pc = .ok (.laload, 1)) (hk : h.2 k = some (jL N a)) (hx : jix i q N) (kk : J l G (y, cc, n, r, rm) nc ns (pc + 1) lv (.long (a q) :: st) h Q) : J l G (y, cc, n, r, rm) nc ns pc lv (.int i :: .ref k :: st) h Q :=
  fun p e s m args below meth c H locs ls hF hR hL hV => W.lald (v := .long (a q)) hF.1 hF.2.1 (hR.2.2.2 k _ hk) (j_ty 1 hF.2.2.2.2.2.2.2.2.1 rfl _ _) (fun q => by cases q) (jix_in hx) (jix_rd hx) rfl rfl hd (kk p e s m args below meth c H locs ls hF hR hL hV)
theorem j_cald {k N q : Nat} {a : Nat → Int32} {i : Int32} (hd : decode cc pc = .ok (.caload, 1)) (hk : h.2 k = some (jC N a)) (hx : jix i q N) (kk : J l G (y, cc, n, r, rm) nc ns (pc + 1) lv (.int (a q) :: st) h Q) : J l G (y, cc, n, r, rm) nc ns pc lv (.int i :: .ref k :: st) h Q :=
  fun p e s m args below meth c H locs ls hF hR hL hV => W.cald (v := .int (a q)) hF.1 hF.2.1 (hR.2.2.2 k _ hk) (j_ty 2 hF.2.2.2.2.2.2.2.2.1 rfl _ _) (fun q => by cases q) (jix_in hx) (jix_rd hx) rfl rfl hd (kk p e s m args below meth c H locs ls hF hR hL hV)
theorem j_zald {k N q : Nat} {a : Nat → Int32} {i : Int32} (hd : decode cc pc = .ok (.baload, 1)) (hk : h.2 k = some (jZ N a)) (hx : jix i q N) (kk : J l G (y, cc, n, r, rm) nc ns (pc + 1) lv (.int (a q) :: st) h Q) : J l G (y, cc, n, r, rm) nc ns pc lv (.int i :: .ref k :: st) h Q :=
  fun p e s m args below meth c H locs ls hF hR hL hV => W.zald (v := .int (a q)) hF.1 hF.2.1 (hR.2.2.2 k _ hk) (j_ty 3 hF.2.2.2.2.2.2.2.2.1 rfl _ _) (fun q => by cases q) (jix_in hx) (jix_rd hx) rfl rfl hd (kk p e s m args below meth c H locs ls hF hR hL hV)
theorem jv_jr (o : Option Nat) : jv G (jr o) = .null ∨ ∃ a, jv G (jr o) = .ref a := by
  cases o with
  | none => exact Or.inl rfl
  | some a => exact Or.inr ⟨_, rfl⟩
theorem j_aald {t k N q : Nat} {a : Nat → Option Nat} {i : Int32} {ty : FieldType} (hd : decode cc pc = .ok (.aaload, 1)) (ht : (j_tys G)[t]? = some (G.2.2.1 t, ty)) (hty : ty.isReference = true) (hk : h.2 k = some (jQ t N a)) (hx : jix i q N) (kk : J l G (y, cc, n, r, rm) nc ns (pc + 1) lv (jr (a q) :: st) h Q) : J l G (y, cc, n, r, rm) nc ns pc lv (.int i :: .ref k :: st) h Q :=
  fun p e s m args below meth c H locs ls hF hR hL hV => W.aald (v := jv G (jr (a q))) (ty := ty) hF.1 hF.2.1 (hR.2.2.2 k _ hk) (j_ty t hF.2.2.2.2.2.2.2.2.1 ht _ _) hty (fun q => by cases q) (jix_in hx) (jix_rd hx) rfl rfl hd (kk p e s m args below meth c H locs ls hF hR hL hV)
theorem j_alen {t k N : Nat} {f : Nat → Value} {ty : FieldType} (hd : decode cc pc = .ok (.arraylength, 1)) (ht : (j_tys G)[t]? = some (G.2.2.1 t, ty)) (hk : h.2 k = some (.inl (t, N, f))) (kk : J l G (y, cc, n, r, rm) nc ns (pc + 1) lv (.int (nI N) :: st) h Q) : J l G (y, cc, n, r, rm) nc ns pc lv (.ref k :: st) h Q :=
  fun p e s m args below meth c H locs ls hF hR hL hV => W.alen (n := nI N) hF.1 hF.2.1 (hR.2.2.2 k _ hk) (j_ty t hF.2.2.2.2.2.2.2.2.1 ht _ _) (by rw [arrV_size]; rfl) rfl rfl hd (kk p e s m args below meth c H locs ls hF hR hL hV)
theorem j_iast {k N q : Nat} {a : Nat → Int32} {i x : Int32} (hd : decode cc pc = .ok (.iastore, 1)) (hk : h.2 k = some (jI N a)) (hx : jix i q N) (kk : J l G (y, cc, n, r, rm) nc ns (pc + 1) lv st (j_set h k (jI N (va_up a q x))) Q) : J l G (y, cc, n, r, rm) nc ns pc lv (.int x :: .int i :: .ref k :: st) h Q := by
  intro p e s m args below meth c H locs ls hF hR hL hV
  refine W.iast hF.1 hF.2.1 (hR.2.2.2 k _ hk) (j_ty 0 hF.2.2.2.2.2.2.2.2.1 rfl _ _) (fun q => by cases q) (jix_in hx) rfl rfl hd fun H' e1 e2 e3 => ?_
  refine kk p e s m args below meth c H' _ ls hF (hR.set hk ?_ e2 e3) (j_locs hL) hV
  show H'[G.1.size + k]? = _
  rw [e1, hx.2.1]
  refine congrArg some ((jix_st (v := .int x)).trans (congrArg (arrV _ N) (funext fun j => ?_)))
  by_cases e : j = q <;> simp [va_up, e]
theorem j_last {k N q : Nat} {a : Nat → Int64} {i : Int32} {x : Int64} (hd : decode cc pc = .ok (.lastore, 1)) (hk : h.2 k = some (jL N a)) (hx : jix i q N) (kk : J l G (y, cc, n, r, rm) nc ns (pc + 1) lv st (j_set h k (jL N (va_up a q x))) Q) : J l G (y, cc, n, r, rm) nc ns pc lv (.long x :: .int i :: .ref k :: st) h Q := by
  intro p e s m args below meth c H locs ls hF hR hL hV
  refine W.last hF.1 hF.2.1 (hR.2.2.2 k _ hk) (j_ty 1 hF.2.2.2.2.2.2.2.2.1 rfl _ _) (fun q => by cases q) (jix_in hx) rfl rfl hd fun H' e1 e2 e3 => ?_
  refine kk p e s m args below meth c H' _ ls hF (hR.set hk ?_ e2 e3) (j_locs hL) hV
  show H'[G.1.size + k]? = _
  rw [e1, hx.2.1]
  refine congrArg some ((jix_st (v := .long x)).trans (congrArg (arrV _ N) (funext fun j => ?_)))
  by_cases e : j = q <;> simp [va_up, e]
theorem j_cast {k N q : Nat} {a : Nat → Int32} {i x : Int32} (hd : decode cc pc = .ok (.castore, 1)) (hk : h.2 k = some (jC N a)) (hx : jix i q N) (hn : narrow .char (.int x) = .int x) (kk : J l G (y, cc, n, r, rm) nc ns (pc + 1) lv st (j_set h k (jC N (va_up a q x))) Q) : J l G (y, cc, n, r, rm) nc ns pc lv (.int x :: .int i :: .ref k :: st) h Q := by
  intro p e s m args below meth c H locs ls hF hR hL hV
  refine W.cast hF.1 hF.2.1 (hR.2.2.2 k _ hk) (j_ty 2 hF.2.2.2.2.2.2.2.2.1 rfl _ _) (fun q => by cases q) (jix_in hx) rfl rfl hd fun H' e1 e2 e3 => ?_
  refine kk p e s m args below meth c H' _ ls hF (hR.set hk ?_ e2 e3) (j_locs hL) hV
  show H'[G.1.size + k]? = _
  rw [e1, hx.2.1, hn]
  refine congrArg some ((jix_st (v := .int x)).trans (congrArg (arrV _ N) (funext fun j => ?_)))
  by_cases e : j = q <;> simp [va_up, e]
theorem j_zast {k N q : Nat} {a : Nat → Int32} {i x : Int32} (hd : decode cc pc = .ok (.bastore, 1)) (hk : h.2 k = some (jZ N a)) (hx : jix i q N) (hn : narrow .boolean (.int x) = .int x) (kk : J l G (y, cc, n, r, rm) nc ns (pc + 1) lv st (j_set h k (jZ N (va_up a q x))) Q) : J l G (y, cc, n, r, rm) nc ns pc lv (.int x :: .int i :: .ref k :: st) h Q := by
  intro p e s m args below meth c H locs ls hF hR hL hV
  refine W.zast hF.1 hF.2.1 (hR.2.2.2 k _ hk) (j_ty 3 hF.2.2.2.2.2.2.2.2.1 rfl _ _) (fun q => by cases q) (jix_in hx) rfl rfl hd fun H' e1 e2 e3 => ?_
  refine kk p e s m args below meth c H' _ ls hF (hR.set hk ?_ e2 e3) (j_locs hL) hV
  show H'[G.1.size + k]? = _
  rw [e1, hx.2.1, hn]
  refine congrArg some ((jix_st (v := .int x)).trans (congrArg (arrV _ N) (funext fun j => ?_)))
  by_cases e : j = q <;> simp [va_up, e]
/-- an object into an array of its class -/
theorem j_aast {t k N q x ci : Nat} {a : Nat → Option Nat} {i : Int32} {fs : List Value} {C : String} {T : u_T} {N1 : Nat} (hd : decode cc pc = .ok (.aastore, 1)) (ht : (j_tys G)[t]? = some (G.2.2.1 t, .object C)) (hc : vwCl[ci]? = some (C, T, N1)) (hk : h.2 k = some (jQ t N a)) (hk2 : h.2 x = some (jO ci fs)) (hx : jix i q N) (kk : J l G (y, cc, n, r, rm) nc ns (pc + 1) lv st (j_set h k (jQ t N (va_up a q (some x)))) Q) : J l G (y, cc, n, r, rm) nc ns pc lv (.ref x :: .int i :: .ref k :: st) h Q := by
  intro p e s m args below meth c H locs ls hF hR hL hV
  have henv := hF.2.2.2.2.2.2.2.2.1
  obtain ⟨kA, comp, a1, a2, a3, a4⟩ := (henv.2.1.2 t _ ht).2
  obtain ⟨r0, h1, cell, q1, q2, q3, q4⟩ := hR.2.2.2 x _ hk2
  obtain ⟨-, hCA⟩ := henv.2.1.1 ci _ hc
  obtain ⟨hfc, kC, hkC, hkind⟩ := id hCA
  have hcomp : comp = G.2.1.1 ci := Option.some.inj (a3.symm.trans hfc)
  refine W.aast hF.1 hF.2.1 (hR.2.2.2 k _ hk) (fun q z => by cases z) (fun z => by cases z) a1 a2 rfl (by rw [hcomp]; exact hkC) ⟨hx.1, by rw [hx.2.1, arrV_size]; exact hx.2.2⟩ q1 (fun q z => by rw [q3] at z; cases z) (by rw [q2]; exact hkC) (by rw [q2, hcomp]; exact va_assign hCA) rfl rfl hd fun H' e1 e2 e3 => ?_
  refine kk p e s m args below meth c H' _ ls hF (hR.set hk ?_ e2 e3) (j_locs hL) hV
  show H'[G.1.size + k]? = _
  rw [e1, hx.2.1]
  refine congrArg some ((jix_st (v := .ref x)).trans (congrArg (arrV _ N) (funext fun j => ?_)))
  by_cases e : j = q <;> simp [va_up, e, jr]
/-- a new object -/
theorem j_newc {idx ci N : Nat} {C : String} {T : u_T} {tyf : Nat → FieldType} {fs : List Value} (hd : decode cc pc = .ok (.new idx, 3)) (hc : vwCl[ci]? = some (C, T, N)) (hin : ∀ w ∈ u_ws C T N, w ∈ jWS) (hty : ∀ k, k < N → parseFieldDescriptor (T k).2.2.1 = some (tyf k)) (hcl : Cond.classLink y.cls idx C ∈ jWS) (hins : Cond.instantiable C N ∈ jWS) (hini : Cond.initialized C ∈ jWS) (hfs : ∀ j, j < N → defaultValue (tyf j) = jv G (vp_V fs j)) (h1 : nc + 1 ≤ rm.cells) (h2 : ns + N ≤ rm.slots)
    (kk : J l G (y, cc, n, r, rm) (nc + 1) (ns + N) (pc + 3) lv (.ref h.1 :: st) (j_new h (jO ci fs)) Q) : J l G (y, cc, n, r, rm) nc ns pc lv st h Q := by
  intro p e s m args below meth c H locs ls hF hR hL hV
  obtain ⟨hx, hb, hml, hret, hlk, hnm2, hown, hts, henv, hs0, hz⟩ := id hF
  have hKn := henv.2.1.1 ci _ hc
  refine W.newcK hx hb hown (hts _ hcl) (hts _ hins) (hts _ hini) rfl hd h1 h2 hKn.2.1 hR.1 fun H1 kC hkC e1 z1 o1 => ?_
  exact kk p e s m args below meth c H1 locs ls hF (hR.new ⟨_, hc, (u_born tyf hts hin hKn hkC e1 hty).to hfs⟩ (by rw [z1, hR.1]) (fun q hq => o1 q (by rw [← hR.1]; exact hq))) hL hV
/-- a new array of numbers -/
theorem j_newa {atype : ArrayType} {ty : FieldType} {d : Value} (t : Nat) {i : Int32} {N : Nat} (hd : decode cc pc = .ok (.newarray atype, 2)) (hty : newarray.typeOf atype = ty) (ht : (j_tys G)[t]? = some (G.2.2.1 t, ty)) (hra : ∀ (U : State) (cA : ClassId), va_RA U cA ty → U.vm.findClass ("[" ++ ty.toString) = some cA) (hdv : defaultValue ty = d) (hjd : jv G d = d) (hw : Cond.arrayClass ty ∈ jWS) (hi : ¬ i < 0) (hN : i.toNatClampNeg = N) (hby : N * componentBytes ty ≤ 536870912) (h1 : nc + 1 ≤ rm.cells) (h2 : ns + N ≤ rm.slots)
    (kk : J l G (y, cc, n, r, rm) (nc + 1) (ns + N) (pc + 2) lv (.ref h.1 :: st) (j_new h (.inl (t, N, fun _ => d))) Q) : J l G (y, cc, n, r, rm) nc ns pc lv (.int i :: st) h Q := by
  intro p e s m args below meth c H locs ls hF hR hL hV
  obtain ⟨hx, hb, hml, hret, hlk, hnm2, hown, hts, henv, hs0, hz⟩ := id hF
  subst hty
  refine va_newaK hx hb (hts _ hw) rfl hd rfl hi hN hby h1 h2 hR.1 fun H1 cA e1 z1 o1 hAr hNm => ?_
  have hcA : cA = G.2.2.1 t := Option.some.inj (hNm.symm.trans (hra s _ (henv.2.1.2 t _ ht).2))
  refine kk p e s m args below meth c H1 locs ls hF (hR.new ?_ (by rw [z1, hR.1]) (fun q hq => o1 q (by rw [← hR.1]; exact hq))) hL hV
  show H1[G.1.size + h.1]? = some (arrV (G.2.2.1 t) N (fun _ => jv G d))
  rw [e1, hcA, hdv, hjd]
theorem j_newI {i : Int32} {N : Nat} (hd : decode cc pc = .ok (.newarray .int, 2)) (hw : Cond.arrayClass .int ∈ jWS) (hi : ¬ i < 0) (hN : i.toNatClampNeg = N) (hby : N * 4 ≤ 536870912) (h1 : nc + 1 ≤ rm.cells) (h2 : ns + N ≤ rm.slots) (kk : J l G (y, cc, n, r, rm) (nc + 1) (ns + N) (pc + 2) lv (.ref h.1 :: st) (j_new h (jI N (fun _ => 0))) Q) : J l G (y, cc, n, r, rm) nc ns pc lv (.int i :: st) h Q :=
  j_newa 0 (d := .int 0) hd rfl rfl (fun _ _ h => h) rfl rfl hw hi hN hby h1 h2 kk
theorem j_newL {i : Int32} {N : Nat} (hd : decode cc pc = .ok (.newarray .long, 2)) (hw : Cond.arrayClass .long ∈ jWS) (hi : ¬ i < 0) (hN : i.toNatClampNeg = N) (hby : N * 8 ≤ 536870912) (h1 : nc + 1 ≤ rm.cells) (h2 : ns + N ≤ rm.slots) (kk : J l G (y, cc, n, r, rm) (nc + 1) (ns + N) (pc + 2) lv (.ref h.1 :: st) (j_new h (jL N (fun _ => 0))) Q) : J l G (y, cc, n, r, rm) nc ns pc lv (.int i :: st) h Q :=
  j_newa 1 (d := .long 0) hd rfl rfl (fun _ _ h => h) rfl rfl hw hi hN hby h1 h2 kk
theorem j_newC {i : Int32} {N : Nat} (hd : decode cc pc = .ok (.newarray .char, 2)) (hw : Cond.arrayClass .char ∈ jWS) (hi : ¬ i < 0) (hN : i.toNatClampNeg = N) (hby : N * 2 ≤ 536870912) (h1 : nc + 1 ≤ rm.cells) (h2 : ns + N ≤ rm.slots) (kk : J l G (y, cc, n, r, rm) (nc + 1) (ns + N) (pc + 2) lv (.ref h.1 :: st) (j_new h (jC N (fun _ => 0))) Q) : J l G (y, cc, n, r, rm) nc ns pc lv (.int i :: st) h Q :=
  j_newa 2 (d := .int 0) hd rfl rfl (fun _ _ h => h) rfl rfl hw hi hN hby h1 h2 kk
theorem j_newZ {i : Int32} {N : Nat} (hd : decode cc pc = .ok (.newarray .boolean, 2)) (hw : Cond.arrayClass .boolean ∈ jWS) (hi : ¬ i < 0) (hN : i.toNatClampNeg = N) (hby : N * 1 ≤ 536870912) (h1 : nc + 1 ≤ rm.cells) (h2 : ns + N ≤ rm.slots) (kk : J l G (y, cc, n, r, rm) (nc + 1) (ns + N) (pc + 2) lv (.ref h.1 :: st) (j_new h (jZ N (fun _ => 0))) Q) : J l G (y, cc, n, r, rm) nc ns pc lv (.int i :: st) h Q :=
  j_newa 3 (d := .int 0) hd rfl rfl (fun _ _ h => h) rfl rfl hw hi hN hby h1 h2 kk
/-- a new array of objects -/
theorem j_newq {idx : Nat} {C : String} (t : Nat) {i : Int32} {N : Nat} (hd : decode cc pc = .ok (.anewarray idx, 3)) (ht : (j_tys G)[t]? = some (G.2.2.1 t, .object C)) (hcl : Cond.classLink y.cls idx C ∈ jWS) (hao : ∀ U, j_env G U → va_AO C U) (hi : ¬ i < 0) (hN : i.toNatClampNeg = N) (hby : N * 4 ≤ 536870912) (h1 : nc + 1 ≤ rm.cells) (h2 : ns + N ≤ rm.slots)
    (kk : J l G (y, cc, n, r, rm) (nc + 1) (ns + N) (pc + 3) lv (.ref h.1 :: st) (j_new h (jQ t N (fun _ => none))) Q) : J l G (y, cc, n, r, rm) nc ns pc lv (.int i :: st) h Q := by
  intro p e s m args below meth c H locs ls hF hR hL hV
  obtain ⟨hx, hb, hml, hret, hlk, hnm2, hown, hts, henv, hs0, hz⟩ := id hF
  subst hN
  refine W.anew hx hb hown (hts _ hcl) (va_AO.use (hao s henv)) rfl hd rfl hi hby h1 h2 fun cA kA comp g1 g2 g3 g4 => ?_
  obtain ⟨kA2, comp2, a1, a2, a3, a4⟩ := (henv.2.1.2 t _ ht).2
  have hcA : cA = G.2.2.1 t := Option.some.inj (g1.symm.trans a4)
  have hst : (((.ref h.1 : Value) :: st).map (jv G)) = .ref H.size :: st.map (jv G) := by
    rw [hR.1]
    rfl
  show W p l e rm s m args below meth c _ locs _ _ _ (F0 m (pc + 3) ls (.ref H.size :: st.map (jv G)))
  rw [← hst]
  refine kk p e s m args below meth c _ locs ls hF (hR.new ?_ (by simp) (fun q hq => by rw [Array.getElem?_push, if_neg (Nat.ne_of_lt hq)])) hL hV
  show _ = some (arrV (G.2.2.1 t) _ (fun _ => jv G .null))
  rw [← hR.1, hcA, ← arrV_new]
  simp [jv]
/-- Object's constructor -/
theorem j_objInit {idx k : Nat} (hd : decode cc pc = .ok (.invokespecial idx, 3)) (hw : Cond.methodLink y.cls idx objectInit ∈ jWS) (hw2 : Cond.instanceMethod objectInit ∈ jWS) (hw3 : Cond.code objectInit ⟨#[0xb1]⟩ 1 none ∈ jWS) (h1 : 1 ≤ rm.frames) (h2 : (st.map fun v => v.category).sum + 12 ≤ rm.locals) (kk : J l G (y, cc, n, r, rm) nc ns (pc + 3) lv st h Q) : J l G (y, cc, n, r, rm) nc ns pc lv (.ref k :: st) h Q := by
  intro p e s m args below meth c H locs ls hF hR hL hV
  obtain ⟨hx, hb, hml, hret, hlk, hnm2, hown, hts, henv, hs0, hz⟩ := id hF
  have hcat : ((st.map (jv G)).map fun v => v.category).sum = (st.map fun v => v.category).sum := by
    rw [List.map_map]
    exact congrArg List.sum (List.map_congr_left (fun v _ => jv_cat G v))
  refine W.objInit hx hb hown (hts _ hw) (hts _ hw2) (hts _ hw3) rfl (by rw [hml]; exact hV.1) rfl hd h1 ?_ (kk p e s m args below meth c H locs ls hF hR hL hV)
  show 2 * 0 + ((st.map (jv G)).map fun v => v.category).sum + 12 ≤ rm.locals
  rw [hcat]
  omega
end JHP
end
section
section JCL
variable {l : Launch} {G : jG} {y : MethodName} {cc : ByteArray} {n : Nat} {r : Option FieldType} {rm : Room} {nc ns pc : Nat} {lv : List (Nat × Value)} {st : List Value} {h : jH} {Q : Option Value → jH → Prop}
theorem j_args (G : jG) : ∀ (As : List Value) (i : Nat), lv_args i (As.map (jv G)) = j_c G (lv_args i As)
  | [], _ => rfl
  | v :: t, i => by
    show (i, jv G v) :: lv_args _ (t.map (jv G)) = (i, jv G v) :: j_c G (lv_args _ t)
    rw [j_args G t, jv_cat]
def j_Pc (G : jG) (h : jH) (As : List Value) : Array Value → State → Prop := va_Pc (As.map (jv G)) (fun U => j_rep G h U.heap ∧ j_env G U)
/-- a method's walk from its entry is a contract of it -/
theorem j_met (As : List Value) (hp : plainFor y = true) (hlen : (lg_sl (As.map (jv G))).length ≤ n) (k : J l G (y, cc, n, r, rm) 0 0 0 (lv_args 0 As) [] h Q) : Met l y (.code y cc n r :: jWS) rm (j_Pc G h As) (j_Q G Q) rm.cells rm.slots (fun q => G.1.size ≤ q) := by
  refine va_MetF (cc := cc) (maxL := n) (ret := r) hp rfl ?_
  intro p e s m args below meth c s₁ B hml hv
  obtain ⟨rfl, hR, henv⟩ := hv
  have hts := atoms_spec (ws := .code y cc n r :: jWS) B.pre
  rw [lg_entry_eq]
  have hl := lv_entry (As.map (jv G)) (n := n) hlen
  rw [j_args] at hl
  exact k p e s m _ below meth c s.heap [] _ ⟨B.exec, B.bytes, hml, B.returns, B.notSynchronized, (name_of_methodNamed B.named B.method).1, findClass_of_methodNamed B.named, fun w hw => hts w (List.mem_cons_of_mem _ hw), henv, hR.2.1, by rw [hR.1]; omega⟩ hR (fun q h => by cases h) hl
theorem j_blind (As : List Value) : FrameBlind (j_Pc G h As) := fun a U g mk q => ⟨q.1, q.2.1, j_env.same (u := U) (U := U.calling g mk a) rfl rfl q.2.2⟩
theorem j_goes {p : Program} {e : Env} {R : Room} {s : State} {m : MethodId} {args : Array Value} {below : List Frame} {meth : Method} {c : Code} {H : Heap} {locs : List Loc} {cells slots mc ms : Nat} {ls : Array Slot} {st0 rest : List Value} {a : Array Value} {Q1 : Option Value → jH → Prop} {Q2 : State → Prop} (hr : va_Run p l e R s m args below meth c H locs cells slots mc ms (F0 m pc ls st0) rest (j_Q G Q1 a) (fun q => G.1.size ≤ q)) (hL : ∀ q ∈ locs, G.1.size ≤ q.base)
    (kk : ∀ (v : Option Value) (h' : jH) (H' : Heap) (locs' : List Loc), Q1 v h' → j_rep G h' H' → (∀ q ∈ locs', G.1.size ≤ q.base) → W p l e R s m args below meth c H' locs' (cells + mc) (slots + ms) Q2 (F0 m (pc + 3) ls (v.toList.map (jv G) ++ rest))) : W p l e R s m args below meth c H locs cells slots Q2 (F0 m pc ls st0) := by
  intro T hT X
  obtain ⟨v, st₀, t, T', L, h0, X', hLL, e1, e2, ⟨v', h', hv, hq, hrep⟩, stp⟩ := hr T hT X
  cases hv
  obtain ⟨t2, a1, b1⟩ := kk v' h' T'.heap (locs ++ L) hq (by rw [e1]; exact hrep) (fun q hq2 => (List.mem_append.mp hq2).elim (hL q) (hLL q)) T' rfl X'
  refine ⟨t2, stp t2 ?_, b1⟩
  cases v' <;> exact a1
theorem j_good {c0 : Cond} (h0 : c0 ∈ jWS) : GoodIn jWS (c0 :: jWS) := by
  intro w hw
  have hw' : w ∈ jWS := by
    rcases List.mem_cons.mp hw with rfl | h1
    · exact h0
    · exact h1
  exact ⟨hw', good_of_word (jWS_good w hw')⟩
/-- a call: what is known of the link, of the callee, and that its room fits -/
def j_lk (own : String) (idx : Nat) (y' : MethodName) (cc' : ByteArray) (n' : Nat) (r' : Option FieldType) (k : Nat) : Prop :=
  Cond.code y' cc' n' r' ∈ jWS ∧ Cond.initialized y'.cls ∈ jWS ∧ Cond.methodLink own idx y' ∈ jWS ∧ plainFor y' = true ∧ (y'.cls ≠ "java/lang/invoke/MethodHandle" ∧ y'.cls ≠ "java/lang/invoke/VarHandle" ∧ (parseMethodDescriptor y'.desc).map (fun d => d.parameters.length) = some k)
def j_lv2 (own : String) (idx : Nat) (y' : MethodName) (cc' : ByteArray) (n' : Nat) (r' : Option FieldType) (k : Nat) : Prop :=
  j_lk own idx y' cc' n' r' k ∧ Cond.instanceMethod y' ∈ jWS ∧ Cond.selects y'.cls y' y' ∈ jWS
def j_ls (own : String) (idx : Nat) (y' : MethodName) (cc' : ByteArray) (n' : Nat) (r' : Option FieldType) (k : Nat) : Prop :=
  j_lk own idx y' cc' n' r' k ∧ Cond.static y' ∈ jWS
def j_li (own : String) (idx : Nat) (y' : MethodName) (cc' : ByteArray) (n' : Nat) (k : Nat) : Prop :=
  (j_lk own idx y' cc' n' none k ∨ (Cond.code y' cc' n' none ∈ jWS ∧ Cond.initialized y'.cls ∈ jWS ∧ (∃ host, Cond.methodLinkNest own idx y' host ∈ jNW) ∧ plainFor y' = true ∧ (y'.cls ≠ "java/lang/invoke/MethodHandle" ∧ y'.cls ≠ "java/lang/invoke/VarHandle" ∧ (parseMethodDescriptor y'.desc).map (fun d => d.parameters.length) = some k))) ∧ Cond.instanceMethod y' ∈ jWS ∧ y'.name = "<init>"
/-- the callee's room fits the caller's -/
def j_fit (rm rm' : Room) (n' nc ns : Nat) (As st : List Value) : Prop := rm'.frames + 1 ≤ rm.frames ∧ 8 + (n' + 11) + rm'.locals ≤ rm.locals ∧ nc + rm'.cells ≤ rm.cells ∧ ns + rm'.slots ≤ rm.slots ∧ (st.map fun v => v.category).sum ≤ 8 ∧ (lg_sl As).length ≤ n'
theorem j_sl (As : List Value) : (lg_sl (As.map (jv G))).length = (lg_sl As).length := by
  induction As with
  | nil => rfl
  | cons v t ih =>
    show (lg_sl (jv G v :: t.map (jv G))).length = (lg_sl (v :: t)).length
    simp only [lg_sl, List.flatMap_cons, List.length_append] at ih ⊢
    rw [jv_cat, ih]
    congr 1
    split <;> rfl
theorem j_rm {m : MethodId} {ls : Array Slot} {st1 : List Value} (hs : (st.map fun v => v.category).sum ≤ 8) : 2 * (F0 m pc ls st1).monitorRoom + ((st.map (jv G)).map fun v => v.category).sum ≤ 8 := by
  have hcat : ((st.map (jv G)).map fun v => v.category).sum = (st.map fun v => v.category).sum := by
    rw [List.map_map]
    exact congrArg List.sum (List.map_congr_left (fun v _ => jv_cat G v))
  show 2 * 0 + ((st.map (jv G)).map fun v => v.category).sum ≤ 8
  rw [hcat]
  omega
theorem j_mapA (v : Option Value) : (v.toList ++ st).map (jv G) = v.toList.map (jv G) ++ st.map (jv G) := List.map_append
variable {idx : Nat} {y' : MethodName} {cc' : ByteArray} {n' : Nat} {r' : Option FieldType} {rm' : Room}
/-- invokevirtual -/
theorem j_callV (As : List Value) {b ci : Nat} {fs : List Value} {st1 : List Value} (hd : decode cc pc = .ok (.invokevirtual idx, 3)) (hw : j_lv2 y.cls idx y' cc' n' r' As.length) (hk : h.2 b = some (jO ci fs)) (hc : (vwCl[ci]?).map (fun q => q.1) = some y'.cls) (hf : j_fit rm rm' n' nc ns (.ref b :: As) st) (hst : st1 = As.reverse ++ .ref b :: st)
    (kk : J l G (y', cc', n', r', rm') 0 0 0 (lv_args 0 (.ref b :: As)) [] h (fun v h' => J l G (y, cc, n, r, rm) (nc + rm'.cells) (ns + rm'.slots) (pc + 3) lv (v.toList ++ st) h' Q)) : J l G (y, cc, n, r, rm) nc ns pc lv st1 h Q := by
  subst hst
  intro p e s m args below meth c H locs ls hF hR hL hV
  obtain ⟨hx, hb, hml, hret, hlk, hnm2, hown, hts, henv, hs0, hz⟩ := id hF
  obtain ⟨⟨w1, w2, w3, w4, w5⟩, w6, w7⟩ := hw
  obtain ⟨f1, f2, f3, f4, f5, f6⟩ := hf
  obtain ⟨r0, g1, cell, q1, q2, q3, q4⟩ := hR.2.2.2 b _ hk
  have hr0 : vwCl[ci]? = some r0 := g1
  have hCc : r0.1 = y'.cls := by
    rw [hr0] at hc
    exact Option.some.inj hc
  have hfc := (henv.2.1.1 ci r0 hr0).2.1
  rw [hCc] at hfc
  have hM := j_met (.ref b :: As) w4 (by rw [j_sl]; exact f6) kk
  have cw : CallW rm s args y.cls y'.cls idx y' cc' n' r' (.code y' cc' n' r' :: jWS) rm' rm'.cells rm'.slots As.length := ⟨callB_of As.length hts (j_good w1) rfl rfl rfl (hts _ w2) (hts _ w3) w5 ⟨f1, f2⟩, hts _ w6, hts _ w7⟩
  refine j_goes (va_runV (As := As.map (jv G)) (rest := st.map (jv G)) (b := G.1.size + b) ⟨hx, hb, hml, hown, hts⟩ hM cw ⟨j_blind _, ⟨cell, q1, by rw [q3]; rfl, by rw [q2]; exact hfc⟩, fun U hU hW => ⟨rfl, by rw [hU]; exact hR, henv.warm hW (fun q hq => by rw [hU, hR.2.1 q hq, hs0 q hq])⟩⟩ rfl (by simp) hV.1 (by simp [List.map_reverse, jv]) (j_rm f5) hd ⟨f3, f4⟩) hL ?_
  intro v h' H' locs' hq hR' hL'
  rw [← j_mapA]
  exact hq p e s m args below meth c H' locs' ls hF hR' hL' hV
/-- invokestatic -/
theorem j_callS (As : List Value) {st1 : List Value} (hd : decode cc pc = .ok (.invokestatic idx, 3)) (hw : j_ls y.cls idx y' cc' n' r' As.length) (hf : j_fit rm rm' n' nc ns As st) (hst : st1 = As.reverse ++ st)
    (kk : J l G (y', cc', n', r', rm') 0 0 0 (lv_args 0 As) [] h (fun v h' => J l G (y, cc, n, r, rm) (nc + rm'.cells) (ns + rm'.slots) (pc + 3) lv (v.toList ++ st) h' Q)) : J l G (y, cc, n, r, rm) nc ns pc lv st1 h Q := by
  subst hst
  intro p e s m args below meth c H locs ls hF hR hL hV
  obtain ⟨hx, hb, hml, hret, hlk, hnm2, hown, hts, henv, hs0, hz⟩ := id hF
  obtain ⟨⟨w1, w2, w3, w4, w5⟩, w6⟩ := hw
  obtain ⟨f1, f2, f3, f4, f5, f6⟩ := hf
  have hM := j_met As w4 (by rw [j_sl]; exact f6) kk
  refine j_goes (va_runS (As := As.map (jv G)) (rest := st.map (jv G)) (n := As.length) ⟨hx, hb, hml, hown, hts⟩ hM ⟨callB_of As.length hts (j_good w1) rfl rfl rfl (hts _ w2) (hts _ w3) w5 ⟨f1, f2⟩, hts _ w6⟩ ⟨j_blind _, fun U hU hW => ⟨rfl, by rw [hU]; exact hR, henv.warm hW (fun q hq => by rw [hU, hR.2.1 q hq, hs0 q hq])⟩⟩ rfl (by simp) hV.1 (by simp [List.map_reverse]) (j_rm f5) hd ⟨f3, f4⟩) hL ?_
  intro v h' H' locs' hq hR' hL'
  rw [← j_mapA]
  exact hq p e s m args below meth c H' locs' ls hF hR' hL' hV
/-- invokespecial of a constructor -/
theorem j_callI (As : List Value) {b : Nat} {st1 : List Value} (hd : decode cc pc = .ok (.invokespecial idx, 3)) (hw : j_li y.cls idx y' cc' n' As.length) (hf : j_fit rm rm' n' nc ns (.ref b :: As) st) (hst : st1 = As.reverse ++ .ref b :: st)
    (kk : J l G (y', cc', n', none, rm') 0 0 0 (lv_args 0 (.ref b :: As)) [] h (fun v h' => J l G (y, cc, n, r, rm) (nc + rm'.cells) (ns + rm'.slots) (pc + 3) lv (v.toList ++ st) h' Q)) : J l G (y, cc, n, r, rm) nc ns pc lv st1 h Q := by
  subst hst
  intro p e s m args below meth c H locs ls hF hR hL hV
  obtain ⟨hx, hb, hml, hret, hlk, hnm2, hown, hts, henv, hs0, hz⟩ := id hF
  obtain ⟨hw, w6, w7⟩ := hw
  obtain ⟨f1, f2, f3, f4, f5, f6⟩ := hf
  have go : ∀ (v : Option Value) (h' : jH) (H' : Heap) (locs' : List Loc), J l G (y, cc, n, r, rm) (nc + rm'.cells) (ns + rm'.slots) (pc + 3) lv (v.toList ++ st) h' Q → j_rep G h' H' → (∀ q ∈ locs', G.1.size ≤ q.base) → W p l e rm s m args below meth c H' locs' (nc + rm'.cells) (ns + rm'.slots) (MQ below (j_Q G Q) args s rm.cells rm.slots (fun q => G.1.size ≤ q)) (F0 m (pc + 3) ls (v.toList.map (jv G) ++ st.map (jv G))) := by
    intro v h' H' locs' hq hR' hL'
    rw [← j_mapA]
    exact hq p e s m args below meth c H' locs' ls hF hR' hL' hV
  rcases hw with ⟨w1, w2, w3, w4, w5⟩ | ⟨w1, w2, ⟨host, w3⟩, w4, w5⟩
  · have hM := j_met (.ref b :: As) w4 (by rw [j_sl]; exact f6) kk
    exact j_goes (va_runI (As := As.map (jv G)) (rest := st.map (jv G)) (b := G.1.size + b) (n := As.length) ⟨hx, hb, hml, hown, hts⟩ hM ⟨callB_of As.length hts (j_good w1) rfl rfl rfl (hts _ w2) (hts _ w3) w5 ⟨f1, f2⟩, w7, hts _ w6⟩ ⟨j_blind _, fun U hU hW => ⟨rfl, by rw [hU]; exact hR, henv.warm hW (fun q hq => by rw [hU, hR.2.1 q hq, hs0 q hq])⟩⟩ rfl (by simp) hV.1 (by simp [List.map_reverse, jv]) (j_rm f5) hd ⟨f3, f4⟩) hL go
  · have hM := j_met (.ref b :: As) w4 (by rw [j_sl]; exact f6) kk
    exact j_goes (va_runIN (As := As.map (jv G)) (rest := st.map (jv G)) (b := G.1.size + b) (n := As.length) ⟨hx, hb, hml, hown, hts⟩ hM ⟨va_cnB As.length hts (j_good w1) rfl rfl rfl (henv.2.2.1 _ w3) (hts _ w2) w5 ⟨f1, f2⟩, w7, hts _ w6⟩ ⟨j_blind _, fun U hU hW => ⟨rfl, by rw [hU]; exact hR, henv.warm hW (fun q hq => by rw [hU, hR.2.1 q hq, hs0 q hq])⟩⟩ rfl (by simp) hV.1 (by simp [List.map_reverse, jv]) (j_rm f5) hd ⟨f3, f4⟩) hL go
/-- Math.max, Math.min -/
theorem j_maxI {x w : Int32} (hd : decode cc pc = .ok (.invokestatic idx, 3)) (w1 : Cond.methodLink y.cls idx Lib.Math.max.name ∈ jWS) (w2 : Cond.static Lib.Math.max.name ∈ jWS) (w3 : Cond.initialized "java/lang/Math" ∈ jWS) (w4 : Cond.code Lib.Math.max.name Lib.Math.max.code 2 (some .int) ∈ jWS) (f1 : 1 ≤ rm.frames) (f2 : (st.map fun v => v.category).sum + 13 ≤ rm.locals) (f3 : nc ≤ rm.cells) (f4 : ns ≤ rm.slots) (k : J l G (y, cc, n, r, rm) nc ns (pc + 3) lv (.int (if x < w then w else x) :: st) h Q) : J l G (y, cc, n, r, rm) nc ns pc lv (.int w :: .int x :: st) h Q := by
  intro p e s m args below meth c H locs ls hF hR hL hV
  obtain ⟨hx, hb, hml, hret, hlk, hnm2, hown, hts, henv, hs0, hz⟩ := id hF
  have hcat : ((st.map (jv G)).map fun v => v.category).sum = (st.map fun v => v.category).sum := by
    rw [List.map_map]
    exact congrArg List.sum (List.map_congr_left (fun v _ => jv_cat G v))
  exact va_mmax hx hb (hml.trans hV.1.symm) hown (hts _ w1) (hts _ w2) (hts _ w3) (hts _ w4) f1 (by rw [hcat]; exact f2) f3 f4 hd (k p e s m args below meth c H locs ls hF hR hL hV)
theorem j_maxL {x w : Int64} (hd : decode cc pc = .ok (.invokestatic idx, 3)) (w1 : Cond.methodLink y.cls idx Lib.MathLoose.max_long.x ∈ jWS) (w2 : Cond.static Lib.MathLoose.max_long.x ∈ jWS) (w3 : Cond.initialized "java/lang/Math" ∈ jWS) (w4 : Cond.code Lib.MathLoose.max_long.x Lib.MathLoose.max_long.code 4 (some .long) ∈ jWS) (f1 : 1 ≤ rm.frames) (f2 : (st.map fun v => v.category).sum + 15 ≤ rm.locals) (f3 : nc ≤ rm.cells) (f4 : ns ≤ rm.slots) (k : J l G (y, cc, n, r, rm) nc ns (pc + 3) lv (.long (if w < x then x else w) :: st) h Q) : J l G (y, cc, n, r, rm) nc ns pc lv (.long w :: .long x :: st) h Q := by
  intro p e s m args below meth c H locs ls hF hR hL hV
  obtain ⟨hx, hb, hml, hret, hlk, hnm2, hown, hts, henv, hs0, hz⟩ := id hF
  have hcat : ((st.map (jv G)).map fun v => v.category).sum = (st.map fun v => v.category).sum := by
    rw [List.map_map]
    exact congrArg List.sum (List.map_congr_left (fun v _ => jv_cat G v))
  exact va_mmax_long hx hb (hml.trans hV.1.symm) hown (hts _ w1) (hts _ w2) (hts _ w3) (hts _ w4) f1 (by rw [hcat]; exact f2) f3 f4 hd (k p e s m args below meth c H locs ls hF hR hL hV)
theorem j_minL {x w : Int64} (hd : decode cc pc = .ok (.invokestatic idx, 3)) (w1 : Cond.methodLink y.cls idx Lib.MathLoose.min_long.x ∈ jWS) (w2 : Cond.static Lib.MathLoose.min_long.x ∈ jWS) (w3 : Cond.initialized "java/lang/Math" ∈ jWS) (w4 : Cond.code Lib.MathLoose.min_long.x Lib.MathLoose.min_long.code 4 (some .long) ∈ jWS) (f1 : 1 ≤ rm.frames) (f2 : (st.map fun v => v.category).sum + 15 ≤ rm.locals) (f3 : nc ≤ rm.cells) (f4 : ns ≤ rm.slots) (k : J l G (y, cc, n, r, rm) nc ns (pc + 3) lv (.long (if w < x then w else x) :: st) h Q) : J l G (y, cc, n, r, rm) nc ns pc lv (.long w :: .long x :: st) h Q := by
  intro p e s m args below meth c H locs ls hF hR hL hV
  obtain ⟨hx, hb, hml, hret, hlk, hnm2, hown, hts, henv, hs0, hz⟩ := id hF
  have hcat : ((st.map (jv G)).map fun v => v.category).sum = (st.map fun v => v.category).sum := by
    rw [List.map_map]
    exact congrArg List.sum (List.map_congr_left (fun v _ => jv_cat G v))
  exact va_mmin_long hx hb (hml.trans hV.1.symm) hown (hts _ w1) (hts _ w2) (hts _ w3) (hts _ w4) f1 (by rw [hcat]; exact f2) f3 f4 hd (k p e s m args below meth c H locs ls hF hR hL hV)
end JCL
end
section
section JMO
variable {l : Launch} {G : jG} {y : MethodName} {cc : ByteArray} {n : Nat} {r : Option FieldType} {rm : Room} {nc ns pc : Nat} {lv : List (Nat × Value)} {st : List Value} {h : jH} {Q : Option Value → jH → Prop}
/-- what stands at an address after a write -/
theorem j_hs {h : jH} {k : Nat} {e : jE} : (j_set h k e).2 k = some e := if_pos rfl
theorem j_hn {h : jH} {k j : Nat} {e e1 : jE} (hne : j ≠ k) (hj : h.2 j = some e1) : (j_set h k e).2 j = some e1 := (if_neg hne).trans hj
theorem j_ns {h : jH} {e : jE} : (j_new h e).2 h.1 = some e := if_pos rfl
theorem j_nn {h : jH} {j : Nat} {e e1 : jE} (hne : j ≠ h.1) (hj : h.2 j = some e1) : (j_new h e).2 j = some e1 := (if_neg hne).trans hj
theorem jix_lt {i b : Int32} {N : Nat} (h0 : ¬ i < 0) (h1 : i < b) (hb : b.toInt = N) : jix i i.toNatClampNeg N := by
  refine ⟨h0, rfl, ?_⟩
  have h2 := Int32.lt_iff_toInt_lt.mp h1
  have h3 : ¬ i.toInt < 0 := fun z => h0 (Int32.lt_iff_toInt_lt.mpr (by simpa using z))
  show i.toInt.toNat < N
  omega
theorem jix_ge {i b : Int32} {N : Nat} (h0 : ¬ i < 0) (h1 : ¬ b ≤ i) (hb : b.toInt = N) : jix i i.toNatClampNeg N := by
  refine ⟨h0, rfl, ?_⟩
  have h2 : ¬ b.toInt ≤ i.toInt := fun z => h1 (Int32.le_iff_toInt_le.mpr z)
  have h3 : ¬ i.toInt < 0 := fun z => h0 (Int32.lt_iff_toInt_lt.mpr (by simpa using z))
  show i.toInt.toNat < N
  omega
theorem j_lc_eq {x w : Int64} {off : Int} {tgt : Nat} (hd : decode cc pc = .ok (.lcmp, 1)) (hd2 : decode cc (pc + 1) = .ok (.ifCond .eq off, 3)) (ht : ((pc + 1 : Nat) : Int) + off = (tgt : Int)) (kt : x = w → J l G (y, cc, n, r, rm) nc ns tgt lv (st) h Q) (kf : ¬ (x = w) → J l G (y, cc, n, r, rm) nc ns (pc + 4) lv (st) h Q) : J l G (y, cc, n, r, rm) nc ns pc lv (.long w :: .long x :: st) h Q :=
  j_lcmp hd (j_if_eq hd2 ht (fun q => kt ((lg_cmp_eq x w).mp q)) (fun q => kf (fun z => q ((lg_cmp_eq x w).mpr z))))
theorem j_lc_ne {x w : Int64} {off : Int} {tgt : Nat} (hd : decode cc pc = .ok (.lcmp, 1)) (hd2 : decode cc (pc + 1) = .ok (.ifCond .ne off, 3)) (ht : ((pc + 1 : Nat) : Int) + off = (tgt : Int)) (kt : ¬ x = w → J l G (y, cc, n, r, rm) nc ns tgt lv (st) h Q) (kf : x = w → J l G (y, cc, n, r, rm) nc ns (pc + 4) lv (st) h Q) : J l G (y, cc, n, r, rm) nc ns pc lv (.long w :: .long x :: st) h Q :=
  j_lcmp hd (j_if_ne hd2 ht (fun q => kt (fun z => q ((lg_cmp_eq x w).mpr z))) (fun q => kf ((lg_cmp_eq x w).mp q)))
theorem j_lc_lt {x w : Int64} {off : Int} {tgt : Nat} (hd : decode cc pc = .ok (.lcmp, 1)) (hd2 : decode cc (pc + 1) = .ok (.ifCond .lt off, 3)) (ht : ((pc + 1 : Nat) : Int) + off = (tgt : Int)) (kt : x < w → J l G (y, cc, n, r, rm) nc ns tgt lv (st) h Q) (kf : ¬ (x < w) → J l G (y, cc, n, r, rm) nc ns (pc + 4) lv (st) h Q) : J l G (y, cc, n, r, rm) nc ns pc lv (.long w :: .long x :: st) h Q :=
  j_lcmp hd (j_if_lt hd2 ht (fun q => kt ((lg_cmp_lt x w).mp q)) (fun q => kf (fun z => q ((lg_cmp_lt x w).mpr z))))
theorem j_lc_ge {x w : Int64} {off : Int} {tgt : Nat} (hd : decode cc pc = .ok (.lcmp, 1)) (hd2 : decode cc (pc + 1) = .ok (.ifCond .ge off, 3)) (ht : ((pc + 1 : Nat) : Int) + off = (tgt : Int)) (kt : w ≤ x → J l G (y, cc, n, r, rm) nc ns tgt lv (st) h Q) (kf : ¬ (w ≤ x) → J l G (y, cc, n, r, rm) nc ns (pc + 4) lv (st) h Q) : J l G (y, cc, n, r, rm) nc ns pc lv (.long w :: .long x :: st) h Q :=
  j_lcmp hd (j_if_ge hd2 ht (fun q => kt ((lg_cmp_ge x w).mp q)) (fun q => kf (fun z => q ((lg_cmp_ge x w).mpr z))))
theorem j_lc_gt {x w : Int64} {off : Int} {tgt : Nat} (hd : decode cc pc = .ok (.lcmp, 1)) (hd2 : decode cc (pc + 1) = .ok (.ifCond .gt off, 3)) (ht : ((pc + 1 : Nat) : Int) + off = (tgt : Int)) (kt : w < x → J l G (y, cc, n, r, rm) nc ns tgt lv (st) h Q) (kf : ¬ (w < x) → J l G (y, cc, n, r, rm) nc ns (pc + 4) lv (st) h Q) : J l G (y, cc, n, r, rm) nc ns pc lv (.long w :: .long x :: st) h Q :=
  j_lcmp hd (j_if_gt hd2 ht (fun q => kt ((lg_cmp_gt x w).mp q)) (fun q => kf (fun z => q ((lg_cmp_gt x w).mpr z))))
theorem j_lc_le {x w : Int64} {off : Int} {tgt : Nat} (hd : decode cc pc = .ok (.lcmp, 1)) (hd2 : decode cc (pc + 1) = .ok (.ifCond .le off, 3)) (ht : ((pc + 1 : Nat) : Int) + off = (tgt : Int)) (kt : x ≤ w → J l G (y, cc, n, r, rm) nc ns tgt lv (st) h Q) (kf : ¬ (x ≤ w) → J l G (y, cc, n, r, rm) nc ns (pc + 4) lv (st) h Q) : J l G (y, cc, n, r, rm) nc ns pc lv (.long w :: .long x :: st) h Q :=
  j_lcmp hd (j_if_le hd2 ht (fun q => kt ((lg_cmp_le x w).mp q)) (fun q => kf (fun z => q ((lg_cmp_le x w).mpr z))))
theorem j_V0 {idx : Nat} {y' : MethodName} {cc' : ByteArray} {n' : Nat} {r' : Option FieldType} {rm' : Room} {b ci : Nat} {fs : List Value} (hd : decode cc pc = .ok (.invokevirtual idx, 3)) (hw : j_lv2 y.cls idx y' cc' n' r' 0) (hk : h.2 b = some (jO ci fs)) (hc : (vwCl[ci]?).map (fun q => q.1) = some y'.cls) (hf : j_fit rm rm' n' nc ns [.ref b] st) (kk : J l G (y', cc', n', r', rm') 0 0 0 (lv_args 0 [.ref b]) [] h (fun v h' => J l G (y, cc, n, r, rm) (nc + rm'.cells) (ns + rm'.slots) (pc + 3) lv (v.toList ++ st) h' Q)) : J l G (y, cc, n, r, rm) nc ns pc lv (.ref b :: st) h Q :=
  j_callV [] hd hw hk hc hf rfl kk
theorem j_S0 {idx : Nat} {y' : MethodName} {cc' : ByteArray} {n' : Nat} {r' : Option FieldType} {rm' : Room} (hd : decode cc pc = .ok (.invokestatic idx, 3)) (hw : j_ls y.cls idx y' cc' n' r' 0) (hf : j_fit rm rm' n' nc ns [] st) (kk : J l G (y', cc', n', r', rm') 0 0 0 (lv_args 0 []) [] h (fun v h' => J l G (y, cc, n, r, rm) (nc + rm'.cells) (ns + rm'.slots) (pc + 3) lv (v.toList ++ st) h' Q)) : J l G (y, cc, n, r, rm) nc ns pc lv (st) h Q :=
  j_callS [] hd hw hf rfl kk
theorem j_I0 {idx : Nat} {y' : MethodName} {cc' : ByteArray} {n' : Nat} {rm' : Room} {b : Nat} (hd : decode cc pc = .ok (.invokespecial idx, 3)) (hw : j_li y.cls idx y' cc' n' 0) (hf : j_fit rm rm' n' nc ns [.ref b] st) (kk : J l G (y', cc', n', none, rm') 0 0 0 (lv_args 0 [.ref b]) [] h (fun v h' => J l G (y, cc, n, r, rm) (nc + rm'.cells) (ns + rm'.slots) (pc + 3) lv (v.toList ++ st) h' Q)) : J l G (y, cc, n, r, rm) nc ns pc lv (.ref b :: st) h Q :=
  j_callI [] hd hw hf rfl kk
theorem j_V1 {a1 : Value} {idx : Nat} {y' : MethodName} {cc' : ByteArray} {n' : Nat} {r' : Option FieldType} {rm' : Room} {b ci : Nat} {fs : List Value} (hd : decode cc pc = .ok (.invokevirtual idx, 3)) (hw : j_lv2 y.cls idx y' cc' n' r' 1) (hk : h.2 b = some (jO ci fs)) (hc : (vwCl[ci]?).map (fun q => q.1) = some y'.cls) (hf : j_fit rm rm' n' nc ns [.ref b, a1] st) (kk : J l G (y', cc', n', r', rm') 0 0 0 (lv_args 0 [.ref b, a1]) [] h (fun v h' => J l G (y, cc, n, r, rm) (nc + rm'.cells) (ns + rm'.slots) (pc + 3) lv (v.toList ++ st) h' Q)) : J l G (y, cc, n, r, rm) nc ns pc lv (a1 :: .ref b :: st) h Q :=
  j_callV [a1] hd hw hk hc hf rfl kk
theorem j_S1 {a1 : Value} {idx : Nat} {y' : MethodName} {cc' : ByteArray} {n' : Nat} {r' : Option FieldType} {rm' : Room} (hd : decode cc pc = .ok (.invokestatic idx, 3)) (hw : j_ls y.cls idx y' cc' n' r' 1) (hf : j_fit rm rm' n' nc ns [a1] st) (kk : J l G (y', cc', n', r', rm') 0 0 0 (lv_args 0 [a1]) [] h (fun v h' => J l G (y, cc, n, r, rm) (nc + rm'.cells) (ns + rm'.slots) (pc + 3) lv (v.toList ++ st) h' Q)) : J l G (y, cc, n, r, rm) nc ns pc lv (a1 :: st) h Q :=
  j_callS [a1] hd hw hf rfl kk
theorem j_I1 {a1 : Value} {idx : Nat} {y' : MethodName} {cc' : ByteArray} {n' : Nat} {rm' : Room} {b : Nat} (hd : decode cc pc = .ok (.invokespecial idx, 3)) (hw : j_li y.cls idx y' cc' n' 1) (hf : j_fit rm rm' n' nc ns [.ref b, a1] st) (kk : J l G (y', cc', n', none, rm') 0 0 0 (lv_args 0 [.ref b, a1]) [] h (fun v h' => J l G (y, cc, n, r, rm) (nc + rm'.cells) (ns + rm'.slots) (pc + 3) lv (v.toList ++ st) h' Q)) : J l G (y, cc, n, r, rm) nc ns pc lv (a1 :: .ref b :: st) h Q :=
  j_callI [a1] hd hw hf rfl kk
theorem j_V2 {a1 a2 : Value} {idx : Nat} {y' : MethodName} {cc' : ByteArray} {n' : Nat} {r' : Option FieldType} {rm' : Room} {b ci : Nat} {fs : List Value} (hd : decode cc pc = .ok (.invokevirtual idx, 3)) (hw : j_lv2 y.cls idx y' cc' n' r' 2) (hk : h.2 b = some (jO ci fs)) (hc : (vwCl[ci]?).map (fun q => q.1) = some y'.cls) (hf : j_fit rm rm' n' nc ns [.ref b, a1, a2] st) (kk : J l G (y', cc', n', r', rm') 0 0 0 (lv_args 0 [.ref b, a1, a2]) [] h (fun v h' => J l G (y, cc, n, r, rm) (nc + rm'.cells) (ns + rm'.slots) (pc + 3) lv (v.toList ++ st) h' Q)) : J l G (y, cc, n, r, rm) nc ns pc lv (a2 :: a1 :: .ref b :: st) h Q :=
  j_callV [a1, a2] hd hw hk hc hf rfl kk
theorem j_S2 {a1 a2 : Value} {idx : Nat} {y' : MethodName} {cc' : ByteArray} {n' : Nat} {r' : Option FieldType} {rm' : Room} (hd : decode cc pc = .ok (.invokestatic idx, 3)) (hw : j_ls y.cls idx y' cc' n' r' 2) (hf : j_fit rm rm' n' nc ns [a1, a2] st) (kk : J l G (y', cc', n', r', rm') 0 0 0 (lv_args 0 [a1, a2]) [] h (fun v h' => J l G (y, cc, n, r, rm) (nc + rm'.cells) (ns + rm'.slots) (pc + 3) lv (v.toList ++ st) h' Q)) : J l G (y, cc, n, r, rm) nc ns pc lv (a2 :: a1 :: st) h Q :=
  j_callS [a1, a2] hd hw hf rfl kk
theorem j_I2 {a1 a2 : Value} {idx : Nat} {y' : MethodName} {cc' : ByteArray} {n' : Nat} {rm' : Room} {b : Nat} (hd : decode cc pc = .ok (.invokespecial idx, 3)) (hw : j_li y.cls idx y' cc' n' 2) (hf : j_fit rm rm' n' nc ns [.ref b, a1, a2] st) (kk : J l G (y', cc', n', none, rm') 0 0 0 (lv_args 0 [.ref b, a1, a2]) [] h (fun v h' => J l G (y, cc, n, r, rm) (nc + rm'.cells) (ns + rm'.slots) (pc + 3) lv (v.toList ++ st) h' Q)) : J l G (y, cc, n, r, rm) nc ns pc lv (a2 :: a1 :: .ref b :: st) h Q :=
  j_callI [a1, a2] hd hw hf rfl kk
theorem j_V3 {a1 a2 a3 : Value} {idx : Nat} {y' : MethodName} {cc' : ByteArray} {n' : Nat} {r' : Option FieldType} {rm' : Room} {b ci : Nat} {fs : List Value} (hd : decode cc pc = .ok (.invokevirtual idx, 3)) (hw : j_lv2 y.cls idx y' cc' n' r' 3) (hk : h.2 b = some (jO ci fs)) (hc : (vwCl[ci]?).map (fun q => q.1) = some y'.cls) (hf : j_fit rm rm' n' nc ns [.ref b, a1, a2, a3] st) (kk : J l G (y', cc', n', r', rm') 0 0 0 (lv_args 0 [.ref b, a1, a2, a3]) [] h (fun v h' => J l G (y, cc, n, r, rm) (nc + rm'.cells) (ns + rm'.slots) (pc + 3) lv (v.toList ++ st) h' Q)) : J l G (y, cc, n, r, rm) nc ns pc lv (a3 :: a2 :: a1 :: .ref b :: st) h Q :=
  j_callV [a1, a2, a3] hd hw hk hc hf rfl kk
theorem j_S3 {a1 a2 a3 : Value} {idx : Nat} {y' : MethodName} {cc' : ByteArray} {n' : Nat} {r' : Option FieldType} {rm' : Room} (hd : decode cc pc = .ok (.invokestatic idx, 3)) (hw : j_ls y.cls idx y' cc' n' r' 3) (hf : j_fit rm rm' n' nc ns [a1, a2, a3] st) (kk : J l G (y', cc', n', r', rm') 0 0 0 (lv_args 0 [a1, a2, a3]) [] h (fun v h' => J l G (y, cc, n, r, rm) (nc + rm'.cells) (ns + rm'.slots) (pc + 3) lv (v.toList ++ st) h' Q)) : J l G (y, cc, n, r, rm) nc ns pc lv (a3 :: a2 :: a1 :: st) h Q :=
  j_callS [a1, a2, a3] hd hw hf rfl kk
theorem j_I3 {a1 a2 a3 : Value} {idx : Nat} {y' : MethodName} {cc' : ByteArray} {n' : Nat} {rm' : Room} {b : Nat} (hd : decode cc pc = .ok (.invokespecial idx, 3)) (hw : j_li y.cls idx y' cc' n' 3) (hf : j_fit rm rm' n' nc ns [.ref b, a1, a2, a3] st) (kk : J l G (y', cc', n', none, rm') 0 0 0 (lv_args 0 [.ref b, a1, a2, a3]) [] h (fun v h' => J l G (y, cc, n, r, rm) (nc + rm'.cells) (ns + rm'.slots) (pc + 3) lv (v.toList ++ st) h' Q)) : J l G (y, cc, n, r, rm) nc ns pc lv (a3 :: a2 :: a1 :: .ref b :: st) h Q :=
  j_callI [a1, a2, a3] hd hw hf rfl kk
theorem j_V4 {a1 a2 a3 a4 : Value} {idx : Nat} {y' : MethodName} {cc' : ByteArray} {n' : Nat} {r' : Option FieldType} {rm' : Room} {b ci : Nat} {fs : List Value} (hd : decode cc pc = .ok (.invokevirtual idx, 3)) (hw : j_lv2 y.cls idx y' cc' n' r' 4) (hk : h.2 b = some (jO ci fs)) (hc : (vwCl[ci]?).map (fun q => q.1) = some y'.cls) (hf : j_fit rm rm' n' nc ns [.ref b, a1, a2, a3, a4] st) (kk : J l G (y', cc', n', r', rm') 0 0 0 (lv_args 0 [.ref b, a1, a2, a3, a4]) [] h (fun v h' => J l G (y, cc, n, r, rm) (nc + rm'.cells) (ns + rm'.slots) (pc + 3) lv (v.toList ++ st) h' Q)) : J l G (y, cc, n, r, rm) nc ns pc lv (a4 :: a3 :: a2 :: a1 :: .ref b :: st) h Q :=
  j_callV [a1, a2, a3, a4] hd hw hk hc hf rfl kk
theorem j_S4 {a1 a2 a3 a4 : Value} {idx : Nat} {y' : MethodName} {cc' : ByteArray} {n' : Nat} {r' : Option FieldType} {rm' : Room} (hd : decode cc pc = .ok (.invokestatic idx, 3)) (hw : j_ls y.cls idx y' cc' n' r' 4) (hf : j_fit rm rm' n' nc ns [a1, a2, a3, a4] st) (kk : J l G (y', cc', n', r', rm') 0 0 0 (lv_args 0 [a1, a2, a3, a4]) [] h (fun v h' => J l G (y, cc, n, r, rm) (nc + rm'.cells) (ns + rm'.slots) (pc + 3) lv (v.toList ++ st) h' Q)) : J l G (y, cc, n, r, rm) nc ns pc lv (a4 :: a3 :: a2 :: a1 :: st) h Q :=
  j_callS [a1, a2, a3, a4] hd hw hf rfl kk
theorem j_I4 {a1 a2 a3 a4 : Value} {idx : Nat} {y' : MethodName} {cc' : ByteArray} {n' : Nat} {rm' : Room} {b : Nat} (hd : decode cc pc = .ok (.invokespecial idx, 3)) (hw : j_li y.cls idx y' cc' n' 4) (hf : j_fit rm rm' n' nc ns [.ref b, a1, a2, a3, a4] st) (kk : J l G (y', cc', n', none, rm') 0 0 0 (lv_args 0 [.ref b, a1, a2, a3, a4]) [] h (fun v h' => J l G (y, cc, n, r, rm) (nc + rm'.cells) (ns + rm'.slots) (pc + 3) lv (v.toList ++ st) h' Q)) : J l G (y, cc, n, r, rm) nc ns pc lv (a4 :: a3 :: a2 :: a1 :: .ref b :: st) h Q :=
  j_callI [a1, a2, a3, a4] hd hw hf rfl kk
end JMO
end
section
theorem jin_of {C : String} {T : u_T} {N : Nat} (ps : List Nat) (hp : u_ws C T N = ps.filterMap (fun i => tables_1[i]?)) (hg : (u_ws C T N).all goodWord = true) : ∀ w ∈ u_ws C T N, w ∈ jWS := by
  intro w hw
  have h1 := List.all_eq_true.mp hg w hw
  rw [hp] at hw
  obtain ⟨i, -, hi⟩ := List.mem_filterMap.mp hw
  exact jWS_of (List.mem_of_getElem? hi) h1
theorem jWS_sel {w : Cond} (h : w ∈ k2_sels lw_privs) (hg : goodWord w = true) : w ∈ jWS := List.mem_filter.mpr ⟨List.mem_append_left _ h, hg⟩
theorem jinX0 : ∀ w ∈ u_ws RX0 TX0 5, w ∈ jWS := jin_of [133, 135, 137, 139, 141] (by decide +kernel) (by decide +kernel)
theorem jiiX0 : Cond.instantiable RX0 5 ∈ jWS := jWS_of (List.mem_of_getElem? (i := 93) (by decide +kernel)) rfl
theorem jinX1 : ∀ w ∈ u_ws RX1 TX1 3, w ∈ jWS := jin_of [61, 63, 65] (by decide +kernel) (by decide +kernel)
theorem jiiX1 : Cond.instantiable RX1 3 ∈ jWS := jWS_of (List.mem_of_getElem? (i := 49) (by decide +kernel)) rfl
theorem jinX2 : ∀ w ∈ u_ws RX2 TX2 6, w ∈ jWS := jin_of [115, 117, 119, 121, 123, 125] (by decide +kernel) (by decide +kernel)
theorem jiiX2 : Cond.instantiable RX2 6 ∈ jWS := jWS_of (List.mem_of_getElem? (i := 100) (by decide +kernel)) rfl
theorem jinX3 : ∀ w ∈ u_ws RX3 TX3 4, w ∈ jWS := jin_of [83, 85, 87, 89] (by decide +kernel) (by decide +kernel)
theorem jiiX3 : Cond.instantiable RX3 4 ∈ jWS := jWS_of (List.mem_of_getElem? (i := 73) (by decide +kernel)) rfl
theorem jinX4 : ∀ w ∈ u_ws RX4 TX4 4, w ∈ jWS := jin_of [164, 166, 168, 170] (by decide +kernel) (by decide +kernel)
theorem jiiX4 : Cond.instantiable RX4 4 ∈ jWS := jWS_of (List.mem_of_getElem? (i := 145) (by decide +kernel)) rfl
theorem jinX5 : ∀ w ∈ u_ws RX5 TX5 5, w ∈ jWS := jin_of [36, 38, 40, 42, 44] (by decide +kernel) (by decide +kernel)
theorem jiiX5 : Cond.instantiable RX5 5 ∈ jWS := jWS_of (List.mem_of_getElem? (i := 25) (by decide +kernel)) rfl
theorem jinX6 : ∀ w ∈ u_ws RX6 TX6 7, w ∈ jWS := jin_of [358, 360, 362, 364, 366, 368, 370] (by decide +kernel) (by decide +kernel)
theorem jiiX6 : Cond.instantiable RX6 7 ∈ jWS := jWS_of (List.mem_of_getElem? (i := 339) (by decide +kernel)) rfl
theorem jinX7 : ∀ w ∈ u_ws RX7 TX7 9, w ∈ jWS := jin_of [182, 184, 186, 188, 190, 192, 194, 196, 198] (by decide +kernel) (by decide +kernel)
theorem jiiX7 : Cond.instantiable RX7 9 ∈ jWS := jWS_of (List.mem_of_getElem? (i := 17) (by decide +kernel)) rfl
theorem jinX8 : ∀ w ∈ u_ws RX8 TX8 31, w ∈ jWS := jin_of [671, 673, 675, 677, 679, 681, 683, 685, 687, 689, 691, 693, 695, 697, 699, 701, 703, 705, 707, 709, 711, 713, 715, 717, 719, 721, 723, 725, 727, 729, 731] (by decide +kernel) (by decide +kernel)
theorem jiiX8 : Cond.instantiable RX8 31 ∈ jWS := jWS_of (List.mem_of_getElem? (i := 635) (by decide +kernel)) rfl
theorem jitL : Cond.initialized RL ∈ jWS := jWS_of (List.mem_of_getElem? (i := 0) (by decide +kernel)) rfl
theorem jitX7 : Cond.initialized RX7 ∈ jWS := jWS_of (List.mem_of_getElem? (i := 1) (by decide +kernel)) rfl
theorem jitX5 : Cond.initialized RX5 ∈ jWS := jWS_of (List.mem_of_getElem? (i := 2) (by decide +kernel)) rfl
theorem jitX1 : Cond.initialized RX1 ∈ jWS := jWS_of (List.mem_of_getElem? (i := 3) (by decide +kernel)) rfl
theorem jitX3 : Cond.initialized RX3 ∈ jWS := jWS_of (List.mem_of_getElem? (i := 4) (by decide +kernel)) rfl
theorem jitX0 : Cond.initialized RX0 ∈ jWS := jWS_of (List.mem_of_getElem? (i := 5) (by decide +kernel)) rfl
theorem jitX2 : Cond.initialized RX2 ∈ jWS := jWS_of (List.mem_of_getElem? (i := 6) (by decide +kernel)) rfl
theorem jitX4 : Cond.initialized RX4 ∈ jWS := jWS_of (List.mem_of_getElem? (i := 7) (by decide +kernel)) rfl
theorem jitJ7 : Cond.initialized RJ7 ∈ jWS := jWS_of (List.mem_of_getElem? (i := 8) (by decide +kernel)) rfl
theorem jitX8 : Cond.initialized RX8 ∈ jWS := jWS_of (List.mem_of_getElem? (i := 9) (by decide +kernel)) rfl
theorem jitJ0 : Cond.initialized RJ0 ∈ jWS := jWS_of (List.mem_of_getElem? (i := 10) (by decide +kernel)) rfl
theorem jitJ1 : Cond.initialized RJ1 ∈ jWS := jWS_of (List.mem_of_getElem? (i := 11) (by decide +kernel)) rfl
theorem jitJ3 : Cond.initialized RJ3 ∈ jWS := jWS_of (List.mem_of_getElem? (i := 12) (by decide +kernel)) rfl
theorem jitJ2 : Cond.initialized RJ2 ∈ jWS := jWS_of (List.mem_of_getElem? (i := 13) (by decide +kernel)) rfl
theorem jitJ9 : Cond.initialized RJ9 ∈ jWS := jWS_of (List.mem_of_getElem? (i := 14) (by decide +kernel)) rfl
theorem jitX6 : Cond.initialized RX6 ∈ jWS := jWS_of (List.mem_of_getElem? (i := 15) (by decide +kernel)) rfl
theorem jac_char : Cond.arrayClass .char ∈ jWS := jWS_of (List.mem_of_getElem? (i := 47) (by decide +kernel)) rfl
theorem jac_int : Cond.arrayClass .int ∈ jWS := jWS_of (List.mem_of_getElem? (i := 68) (by decide +kernel)) rfl
theorem jac_long : Cond.arrayClass .long ∈ jWS := jWS_of (List.mem_of_getElem? (i := 69) (by decide +kernel)) rfl
theorem jac_byte : Cond.arrayClass .byte ∈ jWS := jWS_of (List.mem_of_getElem? (i := 313) (by decide +kernel)) rfl
theorem jac_boolean : Cond.arrayClass .boolean ∈ jWS := jWS_of (List.mem_of_getElem? (i := 734) (by decide +kernel)) rfl
theorem job1 : Cond.instanceMethod objectInit ∈ jWS := jWS_of (List.mem_of_getElem? (i := 22) (by decide +kernel)) rfl
theorem job2 : Cond.code objectInit ⟨#[0xb1]⟩ 1 none ∈ jWS := jWS_of (List.mem_of_getElem? (i := 23) (by decide +kernel)) rfl
theorem jfX7_12 : jFld RX7 12 7 0 (.object "CrewShares$RulesText") true := ⟨RX7, TX7, 9, tyX7, rfl, by decide, jinX7, tyX7_ok, nmX7, rfl, rfl, rfl, Or.inl (jWS_of (List.mem_of_getElem? (i := 173) (by decide +kernel)) rfl)⟩
theorem jgX7_12 : ∃ (C : String) (T : u_T) (N : Nat), vwCl[7]? = some (C, T, N) ∧ Cond.fieldLink RX7 12 C (T 0).2.1 (T 0).2.2.1 ∈ jWS := ⟨RX7, TX7, 9, rfl, jWS_of (List.mem_of_getElem? (i := 173) (by decide +kernel)) rfl⟩
theorem jfX7_21 : jFld RX7 21 7 1 (.object "CrewShares$Crew") true := ⟨RX7, TX7, 9, tyX7, rfl, by decide, jinX7, tyX7_ok, nmX7, rfl, rfl, rfl, Or.inl (jWS_of (List.mem_of_getElem? (i := 174) (by decide +kernel)) rfl)⟩
theorem jgX7_21 : ∃ (C : String) (T : u_T) (N : Nat), vwCl[7]? = some (C, T, N) ∧ Cond.fieldLink RX7 21 C (T 1).2.1 (T 1).2.2.1 ∈ jWS := ⟨RX7, TX7, 9, rfl, jWS_of (List.mem_of_getElem? (i := 174) (by decide +kernel)) rfl⟩
theorem jfX7_25 : jFld RX7 25 7 2 (.array .long) true := ⟨RX7, TX7, 9, tyX7, rfl, by decide, jinX7, tyX7_ok, nmX7, rfl, rfl, rfl, Or.inl (jWS_of (List.mem_of_getElem? (i := 175) (by decide +kernel)) rfl)⟩
theorem jgX7_25 : ∃ (C : String) (T : u_T) (N : Nat), vwCl[7]? = some (C, T, N) ∧ Cond.fieldLink RX7 25 C (T 2).2.1 (T 2).2.2.1 ∈ jWS := ⟨RX7, TX7, 9, rfl, jWS_of (List.mem_of_getElem? (i := 175) (by decide +kernel)) rfl⟩
theorem jfX7_31 : jFld RX7 31 7 3 (.array (.object "CrewShares$Trip")) true := ⟨RX7, TX7, 9, tyX7, rfl, by decide, jinX7, tyX7_ok, nmX7, rfl, rfl, rfl, Or.inl (jWS_of (List.mem_of_getElem? (i := 176) (by decide +kernel)) rfl)⟩
theorem jgX7_31 : ∃ (C : String) (T : u_T) (N : Nat), vwCl[7]? = some (C, T, N) ∧ Cond.fieldLink RX7 31 C (T 3).2.1 (T 3).2.2.1 ∈ jWS := ⟨RX7, TX7, 9, rfl, jWS_of (List.mem_of_getElem? (i := 176) (by decide +kernel)) rfl⟩
theorem jfX7_38 : jFld RX7 38 7 4 (.object "CrewShares$Parting") true := ⟨RX7, TX7, 9, tyX7, rfl, by decide, jinX7, tyX7_ok, nmX7, rfl, rfl, rfl, Or.inl (jWS_of (List.mem_of_getElem? (i := 177) (by decide +kernel)) rfl)⟩
theorem jgX7_38 : ∃ (C : String) (T : u_T) (N : Nat), vwCl[7]? = some (C, T, N) ∧ Cond.fieldLink RX7 38 C (T 4).2.1 (T 4).2.2.1 ∈ jWS := ⟨RX7, TX7, 9, rfl, jWS_of (List.mem_of_getElem? (i := 177) (by decide +kernel)) rfl⟩
theorem jfX7_45 : jFld RX7 45 7 5 (.object "CrewShares$Book") true := ⟨RX7, TX7, 9, tyX7, rfl, by decide, jinX7, tyX7_ok, nmX7, rfl, rfl, rfl, Or.inl (jWS_of (List.mem_of_getElem? (i := 178) (by decide +kernel)) rfl)⟩
theorem jgX7_45 : ∃ (C : String) (T : u_T) (N : Nat), vwCl[7]? = some (C, T, N) ∧ Cond.fieldLink RX7 45 C (T 5).2.1 (T 5).2.2.1 ∈ jWS := ⟨RX7, TX7, 9, rfl, jWS_of (List.mem_of_getElem? (i := 178) (by decide +kernel)) rfl⟩
theorem jfX7_52 : jFld RX7 52 7 6 (.object "CrewShares$Rules") false := ⟨RX7, TX7, 9, tyX7, rfl, by decide, jinX7, tyX7_ok, nmX7, rfl, rfl, rfl, Or.inl (jWS_of (List.mem_of_getElem? (i := 179) (by decide +kernel)) rfl)⟩
theorem jfX7_56 : jFld RX7 56 7 7 (.object "CrewShares$Rules") false := ⟨RX7, TX7, 9, tyX7, rfl, by decide, jinX7, tyX7_ok, nmX7, rfl, rfl, rfl, Or.inl (jWS_of (List.mem_of_getElem? (i := 180) (by decide +kernel)) rfl)⟩
theorem jfX7_86 : jFld RX7 86 7 8 (.int) false := ⟨RX7, TX7, 9, tyX7, rfl, by decide, jinX7, tyX7_ok, nmX7, rfl, rfl, rfl, Or.inl (jWS_of (List.mem_of_getElem? (i := 181) (by decide +kernel)) rfl)⟩
theorem jfX0_13 : jFld RX0 13 0 0 (.array (.object "CrewShares$Entry")) true := ⟨RX0, TX0, 5, tyX0, rfl, by decide, jinX0, tyX0_ok, nmX0, rfl, rfl, rfl, Or.inl (jWS_of (List.mem_of_getElem? (i := 128) (by decide +kernel)) rfl)⟩
theorem jgX0_13 : ∃ (C : String) (T : u_T) (N : Nat), vwCl[0]? = some (C, T, N) ∧ Cond.fieldLink RX0 13 C (T 0).2.1 (T 0).2.2.1 ∈ jWS := ⟨RX0, TX0, 5, rfl, jWS_of (List.mem_of_getElem? (i := 128) (by decide +kernel)) rfl⟩
theorem jfX0_18 : jFld RX0 18 0 2 (.object "CrewShares$Entry") false := ⟨RX0, TX0, 5, tyX0, rfl, by decide, jinX0, tyX0_ok, nmX0, rfl, rfl, rfl, Or.inl (jWS_of (List.mem_of_getElem? (i := 130) (by decide +kernel)) rfl)⟩
theorem jfX0_22 : jFld RX0 22 0 3 (.boolean) false := ⟨RX0, TX0, 5, tyX0, rfl, by decide, jinX0, tyX0_ok, nmX0, rfl, rfl, rfl, Or.inl (jWS_of (List.mem_of_getElem? (i := 131) (by decide +kernel)) rfl)⟩
theorem jfX0_72 : jFld RX0 72 0 4 (.int) false := ⟨RX0, TX0, 5, tyX0, rfl, by decide, jinX0, tyX0_ok, nmX0, rfl, rfl, rfl, Or.inl (jWS_of (List.mem_of_getElem? (i := 132) (by decide +kernel)) rfl)⟩
theorem jfX0_106 : jFld RX0 106 0 1 (.int) false := ⟨RX0, TX0, 5, tyX0, rfl, by decide, jinX0, tyX0_ok, nmX0, rfl, rfl, rfl, Or.inl (jWS_of (List.mem_of_getElem? (i := 129) (by decide +kernel)) rfl)⟩
theorem jfX1_9 : jFld RX1 9 1 0 (.array .int) true := ⟨RX1, TX1, 3, tyX1, rfl, by decide, jinX1, tyX1_ok, nmX1, rfl, rfl, rfl, Or.inl (jWS_of (List.mem_of_getElem? (i := 54) (by decide +kernel)) rfl)⟩
theorem jgX1_9 : ∃ (C : String) (T : u_T) (N : Nat), vwCl[1]? = some (C, T, N) ∧ Cond.fieldLink RX1 9 C (T 0).2.1 (T 0).2.2.1 ∈ jWS := ⟨RX1, TX1, 3, rfl, jWS_of (List.mem_of_getElem? (i := 54) (by decide +kernel)) rfl⟩
theorem jfX1_15 : jFld RX1 15 1 1 (.array .long) true := ⟨RX1, TX1, 3, tyX1, rfl, by decide, jinX1, tyX1_ok, nmX1, rfl, rfl, rfl, Or.inl (jWS_of (List.mem_of_getElem? (i := 56) (by decide +kernel)) rfl)⟩
theorem jgX1_15 : ∃ (C : String) (T : u_T) (N : Nat), vwCl[1]? = some (C, T, N) ∧ Cond.fieldLink RX1 15 C (T 1).2.1 (T 1).2.2.1 ∈ jWS := ⟨RX1, TX1, 3, rfl, jWS_of (List.mem_of_getElem? (i := 56) (by decide +kernel)) rfl⟩
theorem jfX1_19 : jFld RX1 19 1 2 (.int) false := ⟨RX1, TX1, 3, tyX1, rfl, by decide, jinX1, tyX1_ok, nmX1, rfl, rfl, rfl, Or.inl (jWS_of (List.mem_of_getElem? (i := 59) (by decide +kernel)) rfl)⟩
theorem jfX2_11 : jFld RX2 11 2 0 (.array .int) true := ⟨RX2, TX2, 6, tyX2, rfl, by decide, jinX2, tyX2_ok, nmX2, rfl, rfl, rfl, Or.inl (jWS_of (List.mem_of_getElem? (i := 105) (by decide +kernel)) rfl)⟩
theorem jgX2_11 : ∃ (C : String) (T : u_T) (N : Nat), vwCl[2]? = some (C, T, N) ∧ Cond.fieldLink RX2 11 C (T 0).2.1 (T 0).2.2.1 ∈ jWS := ⟨RX2, TX2, 6, rfl, jWS_of (List.mem_of_getElem? (i := 105) (by decide +kernel)) rfl⟩
theorem jfX2_15 : jFld RX2 15 2 1 (.array .long) true := ⟨RX2, TX2, 6, tyX2, rfl, by decide, jinX2, tyX2_ok, nmX2, rfl, rfl, rfl, Or.inl (jWS_of (List.mem_of_getElem? (i := 106) (by decide +kernel)) rfl)⟩
theorem jgX2_15 : ∃ (C : String) (T : u_T) (N : Nat), vwCl[2]? = some (C, T, N) ∧ Cond.fieldLink RX2 15 C (T 1).2.1 (T 1).2.2.1 ∈ jWS := ⟨RX2, TX2, 6, rfl, jWS_of (List.mem_of_getElem? (i := 106) (by decide +kernel)) rfl⟩
theorem jfX2_19 : jFld RX2 19 2 3 (.int) false := ⟨RX2, TX2, 6, tyX2, rfl, by decide, jinX2, tyX2_ok, nmX2, rfl, rfl, rfl, Or.inl (jWS_of (List.mem_of_getElem? (i := 109) (by decide +kernel)) rfl)⟩
theorem jfX2_23 : jFld RX2 23 2 2 (.int) false := ⟨RX2, TX2, 6, tyX2, rfl, by decide, jinX2, tyX2_ok, nmX2, rfl, rfl, rfl, Or.inl (jWS_of (List.mem_of_getElem? (i := 107) (by decide +kernel)) rfl)⟩
theorem jfX2_34 : jFld RX2 34 2 5 (.int) false := ⟨RX2, TX2, 6, tyX2, rfl, by decide, jinX2, tyX2_ok, nmX2, rfl, rfl, rfl, Or.inl (jWS_of (List.mem_of_getElem? (i := 113) (by decide +kernel)) rfl)⟩
theorem jfX2_37 : jFld RX2 37 2 4 (.int) false := ⟨RX2, TX2, 6, tyX2, rfl, by decide, jinX2, tyX2_ok, nmX2, rfl, rfl, rfl, Or.inl (jWS_of (List.mem_of_getElem? (i := 111) (by decide +kernel)) rfl)⟩
theorem jfX3_9 : jFld RX3 9 3 0 (.array .long) true := ⟨RX3, TX3, 4, tyX3, rfl, by decide, jinX3, tyX3_ok, nmX3, rfl, rfl, rfl, Or.inl (jWS_of (List.mem_of_getElem? (i := 78) (by decide +kernel)) rfl)⟩
theorem jgX3_9 : ∃ (C : String) (T : u_T) (N : Nat), vwCl[3]? = some (C, T, N) ∧ Cond.fieldLink RX3 9 C (T 0).2.1 (T 0).2.2.1 ∈ jWS := ⟨RX3, TX3, 4, rfl, jWS_of (List.mem_of_getElem? (i := 78) (by decide +kernel)) rfl⟩
theorem jfX3_15 : jFld RX3 15 3 1 (.array .long) true := ⟨RX3, TX3, 4, tyX3, rfl, by decide, jinX3, tyX3_ok, nmX3, rfl, rfl, rfl, Or.inl (jWS_of (List.mem_of_getElem? (i := 79) (by decide +kernel)) rfl)⟩
theorem jgX3_15 : ∃ (C : String) (T : u_T) (N : Nat), vwCl[3]? = some (C, T, N) ∧ Cond.fieldLink RX3 15 C (T 1).2.1 (T 1).2.2.1 ∈ jWS := ⟨RX3, TX3, 4, rfl, jWS_of (List.mem_of_getElem? (i := 79) (by decide +kernel)) rfl⟩
theorem jfX3_18 : jFld RX3 18 3 2 (.array .long) true := ⟨RX3, TX3, 4, tyX3, rfl, by decide, jinX3, tyX3_ok, nmX3, rfl, rfl, rfl, Or.inl (jWS_of (List.mem_of_getElem? (i := 81) (by decide +kernel)) rfl)⟩
theorem jgX3_18 : ∃ (C : String) (T : u_T) (N : Nat), vwCl[3]? = some (C, T, N) ∧ Cond.fieldLink RX3 18 C (T 2).2.1 (T 2).2.2.1 ∈ jWS := ⟨RX3, TX3, 4, rfl, jWS_of (List.mem_of_getElem? (i := 81) (by decide +kernel)) rfl⟩
theorem jfX3_21 : jFld RX3 21 3 3 (.int) false := ⟨RX3, TX3, 4, tyX3, rfl, by decide, jinX3, tyX3_ok, nmX3, rfl, rfl, rfl, Or.inl (jWS_of (List.mem_of_getElem? (i := 82) (by decide +kernel)) rfl)⟩
theorem jfX4_9 : jFld RX4 9 4 0 (.array .int) true := ⟨RX4, TX4, 4, tyX4, rfl, by decide, jinX4, tyX4_ok, nmX4, rfl, rfl, rfl, Or.inl (jWS_of (List.mem_of_getElem? (i := 157) (by decide +kernel)) rfl)⟩
theorem jgX4_9 : ∃ (C : String) (T : u_T) (N : Nat), vwCl[4]? = some (C, T, N) ∧ Cond.fieldLink RX4 9 C (T 0).2.1 (T 0).2.2.1 ∈ jWS := ⟨RX4, TX4, 4, rfl, jWS_of (List.mem_of_getElem? (i := 157) (by decide +kernel)) rfl⟩
theorem jfX4_15 : jFld RX4 15 4 1 (.array .int) true := ⟨RX4, TX4, 4, tyX4, rfl, by decide, jinX4, tyX4_ok, nmX4, rfl, rfl, rfl, Or.inl (jWS_of (List.mem_of_getElem? (i := 158) (by decide +kernel)) rfl)⟩
theorem jgX4_15 : ∃ (C : String) (T : u_T) (N : Nat), vwCl[4]? = some (C, T, N) ∧ Cond.fieldLink RX4 15 C (T 1).2.1 (T 1).2.2.1 ∈ jWS := ⟨RX4, TX4, 4, rfl, jWS_of (List.mem_of_getElem? (i := 158) (by decide +kernel)) rfl⟩
theorem jfX4_18 : jFld RX4 18 4 2 (.array .int) true := ⟨RX4, TX4, 4, tyX4, rfl, by decide, jinX4, tyX4_ok, nmX4, rfl, rfl, rfl, Or.inl (jWS_of (List.mem_of_getElem? (i := 160) (by decide +kernel)) rfl)⟩
theorem jgX4_18 : ∃ (C : String) (T : u_T) (N : Nat), vwCl[4]? = some (C, T, N) ∧ Cond.fieldLink RX4 18 C (T 2).2.1 (T 2).2.2.1 ∈ jWS := ⟨RX4, TX4, 4, rfl, jWS_of (List.mem_of_getElem? (i := 160) (by decide +kernel)) rfl⟩
theorem jfX4_21 : jFld RX4 21 4 3 (.array .int) true := ⟨RX4, TX4, 4, tyX4, rfl, by decide, jinX4, tyX4_ok, nmX4, rfl, rfl, rfl, Or.inl (jWS_of (List.mem_of_getElem? (i := 162) (by decide +kernel)) rfl)⟩
theorem jgX4_21 : ∃ (C : String) (T : u_T) (N : Nat), vwCl[4]? = some (C, T, N) ∧ Cond.fieldLink RX4 21 C (T 3).2.1 (T 3).2.2.1 ∈ jWS := ⟨RX4, TX4, 4, rfl, jWS_of (List.mem_of_getElem? (i := 162) (by decide +kernel)) rfl⟩
theorem jfX5_11 : jFld RX5 11 5 0 (.array .char) true := ⟨RX5, TX5, 5, tyX5, rfl, by decide, jinX5, tyX5_ok, nmX5, rfl, rfl, rfl, Or.inl (jWS_of (List.mem_of_getElem? (i := 30) (by decide +kernel)) rfl)⟩
theorem jgX5_11 : ∃ (C : String) (T : u_T) (N : Nat), vwCl[5]? = some (C, T, N) ∧ Cond.fieldLink RX5 11 C (T 0).2.1 (T 0).2.2.1 ∈ jWS := ⟨RX5, TX5, 5, rfl, jWS_of (List.mem_of_getElem? (i := 30) (by decide +kernel)) rfl⟩
theorem jfX5_15 : jFld RX5 15 5 1 (.int) false := ⟨RX5, TX5, 5, tyX5, rfl, by decide, jinX5, tyX5_ok, nmX5, rfl, rfl, rfl, Or.inl (jWS_of (List.mem_of_getElem? (i := 31) (by decide +kernel)) rfl)⟩
theorem jfX5_19 : jFld RX5 19 5 3 (.int) false := ⟨RX5, TX5, 5, tyX5, rfl, by decide, jinX5, tyX5_ok, nmX5, rfl, rfl, rfl, Or.inl (jWS_of (List.mem_of_getElem? (i := 33) (by decide +kernel)) rfl)⟩
theorem jfX5_22 : jFld RX5 22 5 4 (.int) false := ⟨RX5, TX5, 5, tyX5, rfl, by decide, jinX5, tyX5_ok, nmX5, rfl, rfl, rfl, Or.inl (jWS_of (List.mem_of_getElem? (i := 35) (by decide +kernel)) rfl)⟩
theorem jfX5_25 : jFld RX5 25 5 2 (.int) false := ⟨RX5, TX5, 5, tyX5, rfl, by decide, jinX5, tyX5_ok, nmX5, rfl, rfl, rfl, Or.inl (jWS_of (List.mem_of_getElem? (i := 32) (by decide +kernel)) rfl)⟩
theorem jfX6_9 : jFld RX6 9 6 2 (.array .long) true := ⟨RX6, TX6, 7, tyX6, rfl, by decide, jinX6, tyX6_ok, nmX6, rfl, rfl, rfl, Or.inl (jWS_of (List.mem_of_getElem? (i := 348) (by decide +kernel)) rfl)⟩
theorem jgX6_9 : ∃ (C : String) (T : u_T) (N : Nat), vwCl[6]? = some (C, T, N) ∧ Cond.fieldLink RX6 9 C (T 2).2.1 (T 2).2.2.1 ∈ jWS := ⟨RX6, TX6, 7, rfl, jWS_of (List.mem_of_getElem? (i := 348) (by decide +kernel)) rfl⟩
theorem jfX6_15 : jFld RX6 15 6 3 (.array .int) true := ⟨RX6, TX6, 7, tyX6, rfl, by decide, jinX6, tyX6_ok, nmX6, rfl, rfl, rfl, Or.inl (jWS_of (List.mem_of_getElem? (i := 350) (by decide +kernel)) rfl)⟩
theorem jgX6_15 : ∃ (C : String) (T : u_T) (N : Nat), vwCl[6]? = some (C, T, N) ∧ Cond.fieldLink RX6 15 C (T 3).2.1 (T 3).2.2.1 ∈ jWS := ⟨RX6, TX6, 7, rfl, jWS_of (List.mem_of_getElem? (i := 350) (by decide +kernel)) rfl⟩
theorem jfX6_19 : jFld RX6 19 6 4 (.array .long) true := ⟨RX6, TX6, 7, tyX6, rfl, by decide, jinX6, tyX6_ok, nmX6, rfl, rfl, rfl, Or.inl (jWS_of (List.mem_of_getElem? (i := 352) (by decide +kernel)) rfl)⟩
theorem jgX6_19 : ∃ (C : String) (T : u_T) (N : Nat), vwCl[6]? = some (C, T, N) ∧ Cond.fieldLink RX6 19 C (T 4).2.1 (T 4).2.2.1 ∈ jWS := ⟨RX6, TX6, 7, rfl, jWS_of (List.mem_of_getElem? (i := 352) (by decide +kernel)) rfl⟩
theorem jfX6_24 : jFld RX6 24 6 5 (.array (.array .long)) true := ⟨RX6, TX6, 7, tyX6, rfl, by decide, jinX6, tyX6_ok, nmX6, rfl, rfl, rfl, Or.inl (jWS_of (List.mem_of_getElem? (i := 354) (by decide +kernel)) rfl)⟩
theorem jgX6_24 : ∃ (C : String) (T : u_T) (N : Nat), vwCl[6]? = some (C, T, N) ∧ Cond.fieldLink RX6 24 C (T 5).2.1 (T 5).2.2.1 ∈ jWS := ⟨RX6, TX6, 7, rfl, jWS_of (List.mem_of_getElem? (i := 354) (by decide +kernel)) rfl⟩
theorem jfX6_27 : jFld RX6 27 6 0 (.int) true := ⟨RX6, TX6, 7, tyX6, rfl, by decide, jinX6, tyX6_ok, nmX6, rfl, rfl, rfl, Or.inl (jWS_of (List.mem_of_getElem? (i := 346) (by decide +kernel)) rfl)⟩
theorem jgX6_27 : ∃ (C : String) (T : u_T) (N : Nat), vwCl[6]? = some (C, T, N) ∧ Cond.fieldLink RX6 27 C (T 0).2.1 (T 0).2.2.1 ∈ jWS := ⟨RX6, TX6, 7, rfl, jWS_of (List.mem_of_getElem? (i := 346) (by decide +kernel)) rfl⟩
theorem jfX6_31 : jFld RX6 31 6 1 (.long) true := ⟨RX6, TX6, 7, tyX6, rfl, by decide, jinX6, tyX6_ok, nmX6, rfl, rfl, rfl, Or.inl (jWS_of (List.mem_of_getElem? (i := 347) (by decide +kernel)) rfl)⟩
theorem jgX6_31 : ∃ (C : String) (T : u_T) (N : Nat), vwCl[6]? = some (C, T, N) ∧ Cond.fieldLink RX6 31 C (T 1).2.1 (T 1).2.2.1 ∈ jWS := ⟨RX6, TX6, 7, rfl, jWS_of (List.mem_of_getElem? (i := 347) (by decide +kernel)) rfl⟩
theorem jfX6_35 : jFld RX6 35 6 6 (.boolean) false := ⟨RX6, TX6, 7, tyX6, rfl, by decide, jinX6, tyX6_ok, nmX6, rfl, rfl, rfl, Or.inl (jWS_of (List.mem_of_getElem? (i := 356) (by decide +kernel)) rfl)⟩
theorem jfX8_7 : jFld RX8 7 8 0 (.array .int) true := ⟨RX8, TX8, 31, tyX8, rfl, by decide, jinX8, tyX8_ok, nmX8, rfl, rfl, rfl, Or.inl (jWS_of (List.mem_of_getElem? (i := 640) (by decide +kernel)) rfl)⟩
theorem jgX8_7 : ∃ (C : String) (T : u_T) (N : Nat), vwCl[8]? = some (C, T, N) ∧ Cond.fieldLink RX8 7 C (T 0).2.1 (T 0).2.2.1 ∈ jWS := ⟨RX8, TX8, 31, rfl, jWS_of (List.mem_of_getElem? (i := 640) (by decide +kernel)) rfl⟩
theorem jfX8_13 : jFld RX8 13 8 2 (.array .int) true := ⟨RX8, TX8, 31, tyX8, rfl, by decide, jinX8, tyX8_ok, nmX8, rfl, rfl, rfl, Or.inl (jWS_of (List.mem_of_getElem? (i := 642) (by decide +kernel)) rfl)⟩
theorem jgX8_13 : ∃ (C : String) (T : u_T) (N : Nat), vwCl[8]? = some (C, T, N) ∧ Cond.fieldLink RX8 13 C (T 2).2.1 (T 2).2.2.1 ∈ jWS := ⟨RX8, TX8, 31, rfl, jWS_of (List.mem_of_getElem? (i := 642) (by decide +kernel)) rfl⟩
theorem jfX8_16 : jFld RX8 16 8 3 (.array .int) true := ⟨RX8, TX8, 31, tyX8, rfl, by decide, jinX8, tyX8_ok, nmX8, rfl, rfl, rfl, Or.inl (jWS_of (List.mem_of_getElem? (i := 643) (by decide +kernel)) rfl)⟩
theorem jgX8_16 : ∃ (C : String) (T : u_T) (N : Nat), vwCl[8]? = some (C, T, N) ∧ Cond.fieldLink RX8 16 C (T 3).2.1 (T 3).2.2.1 ∈ jWS := ⟨RX8, TX8, 31, rfl, jWS_of (List.mem_of_getElem? (i := 643) (by decide +kernel)) rfl⟩
theorem jfX8_19 : jFld RX8 19 8 7 (.array .long) true := ⟨RX8, TX8, 31, tyX8, rfl, by decide, jinX8, tyX8_ok, nmX8, rfl, rfl, rfl, Or.inl (jWS_of (List.mem_of_getElem? (i := 647) (by decide +kernel)) rfl)⟩
theorem jgX8_19 : ∃ (C : String) (T : u_T) (N : Nat), vwCl[8]? = some (C, T, N) ∧ Cond.fieldLink RX8 19 C (T 7).2.1 (T 7).2.2.1 ∈ jWS := ⟨RX8, TX8, 31, rfl, jWS_of (List.mem_of_getElem? (i := 647) (by decide +kernel)) rfl⟩
theorem jfX8_23 : jFld RX8 23 8 9 (.array .int) true := ⟨RX8, TX8, 31, tyX8, rfl, by decide, jinX8, tyX8_ok, nmX8, rfl, rfl, rfl, Or.inl (jWS_of (List.mem_of_getElem? (i := 649) (by decide +kernel)) rfl)⟩
theorem jgX8_23 : ∃ (C : String) (T : u_T) (N : Nat), vwCl[8]? = some (C, T, N) ∧ Cond.fieldLink RX8 23 C (T 9).2.1 (T 9).2.2.1 ∈ jWS := ⟨RX8, TX8, 31, rfl, jWS_of (List.mem_of_getElem? (i := 649) (by decide +kernel)) rfl⟩
theorem jfX8_26 : jFld RX8 26 8 10 (.array .long) true := ⟨RX8, TX8, 31, tyX8, rfl, by decide, jinX8, tyX8_ok, nmX8, rfl, rfl, rfl, Or.inl (jWS_of (List.mem_of_getElem? (i := 650) (by decide +kernel)) rfl)⟩
theorem jgX8_26 : ∃ (C : String) (T : u_T) (N : Nat), vwCl[8]? = some (C, T, N) ∧ Cond.fieldLink RX8 26 C (T 10).2.1 (T 10).2.2.1 ∈ jWS := ⟨RX8, TX8, 31, rfl, jWS_of (List.mem_of_getElem? (i := 650) (by decide +kernel)) rfl⟩
theorem jfX8_29 : jFld RX8 29 8 12 (.array .int) true := ⟨RX8, TX8, 31, tyX8, rfl, by decide, jinX8, tyX8_ok, nmX8, rfl, rfl, rfl, Or.inl (jWS_of (List.mem_of_getElem? (i := 652) (by decide +kernel)) rfl)⟩
theorem jgX8_29 : ∃ (C : String) (T : u_T) (N : Nat), vwCl[8]? = some (C, T, N) ∧ Cond.fieldLink RX8 29 C (T 12).2.1 (T 12).2.2.1 ∈ jWS := ⟨RX8, TX8, 31, rfl, jWS_of (List.mem_of_getElem? (i := 652) (by decide +kernel)) rfl⟩
theorem jfX8_32 : jFld RX8 32 8 13 (.array .long) true := ⟨RX8, TX8, 31, tyX8, rfl, by decide, jinX8, tyX8_ok, nmX8, rfl, rfl, rfl, Or.inl (jWS_of (List.mem_of_getElem? (i := 653) (by decide +kernel)) rfl)⟩
theorem jgX8_32 : ∃ (C : String) (T : u_T) (N : Nat), vwCl[8]? = some (C, T, N) ∧ Cond.fieldLink RX8 32 C (T 13).2.1 (T 13).2.2.1 ∈ jWS := ⟨RX8, TX8, 31, rfl, jWS_of (List.mem_of_getElem? (i := 653) (by decide +kernel)) rfl⟩
theorem jfX8_35 : jFld RX8 35 8 14 (.array .long) true := ⟨RX8, TX8, 31, tyX8, rfl, by decide, jinX8, tyX8_ok, nmX8, rfl, rfl, rfl, Or.inl (jWS_of (List.mem_of_getElem? (i := 654) (by decide +kernel)) rfl)⟩
theorem jgX8_35 : ∃ (C : String) (T : u_T) (N : Nat), vwCl[8]? = some (C, T, N) ∧ Cond.fieldLink RX8 35 C (T 14).2.1 (T 14).2.2.1 ∈ jWS := ⟨RX8, TX8, 31, rfl, jWS_of (List.mem_of_getElem? (i := 654) (by decide +kernel)) rfl⟩
theorem jfX8_38 : jFld RX8 38 8 15 (.array .int) true := ⟨RX8, TX8, 31, tyX8, rfl, by decide, jinX8, tyX8_ok, nmX8, rfl, rfl, rfl, Or.inl (jWS_of (List.mem_of_getElem? (i := 655) (by decide +kernel)) rfl)⟩
theorem jgX8_38 : ∃ (C : String) (T : u_T) (N : Nat), vwCl[8]? = some (C, T, N) ∧ Cond.fieldLink RX8 38 C (T 15).2.1 (T 15).2.2.1 ∈ jWS := ⟨RX8, TX8, 31, rfl, jWS_of (List.mem_of_getElem? (i := 655) (by decide +kernel)) rfl⟩
theorem jfX8_41 : jFld RX8 41 8 16 (.array .boolean) true := ⟨RX8, TX8, 31, tyX8, rfl, by decide, jinX8, tyX8_ok, nmX8, rfl, rfl, rfl, Or.inl (jWS_of (List.mem_of_getElem? (i := 656) (by decide +kernel)) rfl)⟩
theorem jgX8_41 : ∃ (C : String) (T : u_T) (N : Nat), vwCl[8]? = some (C, T, N) ∧ Cond.fieldLink RX8 41 C (T 16).2.1 (T 16).2.2.1 ∈ jWS := ⟨RX8, TX8, 31, rfl, jWS_of (List.mem_of_getElem? (i := 656) (by decide +kernel)) rfl⟩
theorem jfX8_45 : jFld RX8 45 8 17 (.array .long) true := ⟨RX8, TX8, 31, tyX8, rfl, by decide, jinX8, tyX8_ok, nmX8, rfl, rfl, rfl, Or.inl (jWS_of (List.mem_of_getElem? (i := 657) (by decide +kernel)) rfl)⟩
theorem jgX8_45 : ∃ (C : String) (T : u_T) (N : Nat), vwCl[8]? = some (C, T, N) ∧ Cond.fieldLink RX8 45 C (T 17).2.1 (T 17).2.2.1 ∈ jWS := ⟨RX8, TX8, 31, rfl, jWS_of (List.mem_of_getElem? (i := 657) (by decide +kernel)) rfl⟩
theorem jfX8_48 : jFld RX8 48 8 18 (.array .long) true := ⟨RX8, TX8, 31, tyX8, rfl, by decide, jinX8, tyX8_ok, nmX8, rfl, rfl, rfl, Or.inl (jWS_of (List.mem_of_getElem? (i := 658) (by decide +kernel)) rfl)⟩
theorem jgX8_48 : ∃ (C : String) (T : u_T) (N : Nat), vwCl[8]? = some (C, T, N) ∧ Cond.fieldLink RX8 48 C (T 18).2.1 (T 18).2.2.1 ∈ jWS := ⟨RX8, TX8, 31, rfl, jWS_of (List.mem_of_getElem? (i := 658) (by decide +kernel)) rfl⟩
theorem jfX8_51 : jFld RX8 51 8 19 (.array .long) true := ⟨RX8, TX8, 31, tyX8, rfl, by decide, jinX8, tyX8_ok, nmX8, rfl, rfl, rfl, Or.inl (jWS_of (List.mem_of_getElem? (i := 659) (by decide +kernel)) rfl)⟩
theorem jgX8_51 : ∃ (C : String) (T : u_T) (N : Nat), vwCl[8]? = some (C, T, N) ∧ Cond.fieldLink RX8 51 C (T 19).2.1 (T 19).2.2.1 ∈ jWS := ⟨RX8, TX8, 31, rfl, jWS_of (List.mem_of_getElem? (i := 659) (by decide +kernel)) rfl⟩
theorem jfX8_54 : jFld RX8 54 8 20 (.array .long) true := ⟨RX8, TX8, 31, tyX8, rfl, by decide, jinX8, tyX8_ok, nmX8, rfl, rfl, rfl, Or.inl (jWS_of (List.mem_of_getElem? (i := 660) (by decide +kernel)) rfl)⟩
theorem jgX8_54 : ∃ (C : String) (T : u_T) (N : Nat), vwCl[8]? = some (C, T, N) ∧ Cond.fieldLink RX8 54 C (T 20).2.1 (T 20).2.2.1 ∈ jWS := ⟨RX8, TX8, 31, rfl, jWS_of (List.mem_of_getElem? (i := 660) (by decide +kernel)) rfl⟩
theorem jfX8_57 : jFld RX8 57 8 21 (.array .long) true := ⟨RX8, TX8, 31, tyX8, rfl, by decide, jinX8, tyX8_ok, nmX8, rfl, rfl, rfl, Or.inl (jWS_of (List.mem_of_getElem? (i := 661) (by decide +kernel)) rfl)⟩
theorem jgX8_57 : ∃ (C : String) (T : u_T) (N : Nat), vwCl[8]? = some (C, T, N) ∧ Cond.fieldLink RX8 57 C (T 21).2.1 (T 21).2.2.1 ∈ jWS := ⟨RX8, TX8, 31, rfl, jWS_of (List.mem_of_getElem? (i := 661) (by decide +kernel)) rfl⟩
theorem jfX8_60 : jFld RX8 60 8 24 (.array .int) true := ⟨RX8, TX8, 31, tyX8, rfl, by decide, jinX8, tyX8_ok, nmX8, rfl, rfl, rfl, Or.inl (jWS_of (List.mem_of_getElem? (i := 664) (by decide +kernel)) rfl)⟩
theorem jgX8_60 : ∃ (C : String) (T : u_T) (N : Nat), vwCl[8]? = some (C, T, N) ∧ Cond.fieldLink RX8 60 C (T 24).2.1 (T 24).2.2.1 ∈ jWS := ⟨RX8, TX8, 31, rfl, jWS_of (List.mem_of_getElem? (i := 664) (by decide +kernel)) rfl⟩
theorem jfX8_63 : jFld RX8 63 8 25 (.array .int) true := ⟨RX8, TX8, 31, tyX8, rfl, by decide, jinX8, tyX8_ok, nmX8, rfl, rfl, rfl, Or.inl (jWS_of (List.mem_of_getElem? (i := 665) (by decide +kernel)) rfl)⟩
theorem jgX8_63 : ∃ (C : String) (T : u_T) (N : Nat), vwCl[8]? = some (C, T, N) ∧ Cond.fieldLink RX8 63 C (T 25).2.1 (T 25).2.2.1 ∈ jWS := ⟨RX8, TX8, 31, rfl, jWS_of (List.mem_of_getElem? (i := 665) (by decide +kernel)) rfl⟩
theorem jfX8_66 : jFld RX8 66 8 26 (.array .int) true := ⟨RX8, TX8, 31, tyX8, rfl, by decide, jinX8, tyX8_ok, nmX8, rfl, rfl, rfl, Or.inl (jWS_of (List.mem_of_getElem? (i := 666) (by decide +kernel)) rfl)⟩
theorem jgX8_66 : ∃ (C : String) (T : u_T) (N : Nat), vwCl[8]? = some (C, T, N) ∧ Cond.fieldLink RX8 66 C (T 26).2.1 (T 26).2.2.1 ∈ jWS := ⟨RX8, TX8, 31, rfl, jWS_of (List.mem_of_getElem? (i := 666) (by decide +kernel)) rfl⟩
theorem jfX8_69 : jFld RX8 69 8 27 (.array .int) true := ⟨RX8, TX8, 31, tyX8, rfl, by decide, jinX8, tyX8_ok, nmX8, rfl, rfl, rfl, Or.inl (jWS_of (List.mem_of_getElem? (i := 667) (by decide +kernel)) rfl)⟩
theorem jgX8_69 : ∃ (C : String) (T : u_T) (N : Nat), vwCl[8]? = some (C, T, N) ∧ Cond.fieldLink RX8 69 C (T 27).2.1 (T 27).2.2.1 ∈ jWS := ⟨RX8, TX8, 31, rfl, jWS_of (List.mem_of_getElem? (i := 667) (by decide +kernel)) rfl⟩
theorem jfX8_72 : jFld RX8 72 8 28 (.array .int) true := ⟨RX8, TX8, 31, tyX8, rfl, by decide, jinX8, tyX8_ok, nmX8, rfl, rfl, rfl, Or.inl (jWS_of (List.mem_of_getElem? (i := 668) (by decide +kernel)) rfl)⟩
theorem jgX8_72 : ∃ (C : String) (T : u_T) (N : Nat), vwCl[8]? = some (C, T, N) ∧ Cond.fieldLink RX8 72 C (T 28).2.1 (T 28).2.2.1 ∈ jWS := ⟨RX8, TX8, 31, rfl, jWS_of (List.mem_of_getElem? (i := 668) (by decide +kernel)) rfl⟩
theorem jfX8_75 : jFld RX8 75 8 29 (.array .long) true := ⟨RX8, TX8, 31, tyX8, rfl, by decide, jinX8, tyX8_ok, nmX8, rfl, rfl, rfl, Or.inl (jWS_of (List.mem_of_getElem? (i := 669) (by decide +kernel)) rfl)⟩
theorem jgX8_75 : ∃ (C : String) (T : u_T) (N : Nat), vwCl[8]? = some (C, T, N) ∧ Cond.fieldLink RX8 75 C (T 29).2.1 (T 29).2.2.1 ∈ jWS := ⟨RX8, TX8, 31, rfl, jWS_of (List.mem_of_getElem? (i := 669) (by decide +kernel)) rfl⟩
theorem jfX8_84 : jFld RX8 84 8 1 (.int) false := ⟨RX8, TX8, 31, tyX8, rfl, by decide, jinX8, tyX8_ok, nmX8, rfl, rfl, rfl, Or.inl (jWS_of (List.mem_of_getElem? (i := 641) (by decide +kernel)) rfl)⟩
theorem jfX8_88 : jFld RX8 88 8 4 (.int) false := ⟨RX8, TX8, 31, tyX8, rfl, by decide, jinX8, tyX8_ok, nmX8, rfl, rfl, rfl, Or.inl (jWS_of (List.mem_of_getElem? (i := 644) (by decide +kernel)) rfl)⟩
theorem jfX8_91 : jFld RX8 91 8 5 (.int) false := ⟨RX8, TX8, 31, tyX8, rfl, by decide, jinX8, tyX8_ok, nmX8, rfl, rfl, rfl, Or.inl (jWS_of (List.mem_of_getElem? (i := 645) (by decide +kernel)) rfl)⟩
theorem jfX8_98 : jFld RX8 98 8 6 (.int) false := ⟨RX8, TX8, 31, tyX8, rfl, by decide, jinX8, tyX8_ok, nmX8, rfl, rfl, rfl, Or.inl (jWS_of (List.mem_of_getElem? (i := 646) (by decide +kernel)) rfl)⟩
theorem jfX8_123 : jFld RX8 123 8 8 (.int) false := ⟨RX8, TX8, 31, tyX8, rfl, by decide, jinX8, tyX8_ok, nmX8, rfl, rfl, rfl, Or.inl (jWS_of (List.mem_of_getElem? (i := 648) (by decide +kernel)) rfl)⟩
theorem jfX8_126 : jFld RX8 126 8 11 (.int) false := ⟨RX8, TX8, 31, tyX8, rfl, by decide, jinX8, tyX8_ok, nmX8, rfl, rfl, rfl, Or.inl (jWS_of (List.mem_of_getElem? (i := 651) (by decide +kernel)) rfl)⟩
theorem jfX8_160 : jFld RX8 160 8 23 (.boolean) false := ⟨RX8, TX8, 31, tyX8, rfl, by decide, jinX8, tyX8_ok, nmX8, rfl, rfl, rfl, Or.inl (jWS_of (List.mem_of_getElem? (i := 663) (by decide +kernel)) rfl)⟩
theorem jfX8_166 : jFld RX8 166 8 30 (.int) false := ⟨RX8, TX8, 31, tyX8, rfl, by decide, jinX8, tyX8_ok, nmX8, rfl, rfl, rfl, Or.inl (jWS_of (List.mem_of_getElem? (i := 670) (by decide +kernel)) rfl)⟩
theorem jfX8_169 : jFld RX8 169 8 22 (.int) false := ⟨RX8, TX8, 31, tyX8, rfl, by decide, jinX8, tyX8_ok, nmX8, rfl, rfl, rfl, Or.inl (jWS_of (List.mem_of_getElem? (i := 662) (by decide +kernel)) rfl)⟩
theorem jfX7_81 : jFld RX7 81 1 1 (.array .long) true := ⟨RX1, TX1, 3, tyX1, rfl, by decide, jinX1, tyX1_ok, nmX1, rfl, rfl, rfl, Or.inr ⟨_, List.mem_of_getElem? (i := 4) rfl⟩⟩
theorem jfX7_97 : jFld RX7 97 6 2 (.array .long) true := ⟨RX6, TX6, 7, tyX6, rfl, by decide, jinX6, tyX6_ok, nmX6, rfl, rfl, rfl, Or.inr ⟨_, List.mem_of_getElem? (i := 18) rfl⟩⟩
theorem jfX7_100 : jFld RX7 100 6 3 (.array .int) true := ⟨RX6, TX6, 7, tyX6, rfl, by decide, jinX6, tyX6_ok, nmX6, rfl, rfl, rfl, Or.inr ⟨_, List.mem_of_getElem? (i := 19) rfl⟩⟩
theorem jfX7_117 : jFld RX7 117 6 4 (.array .long) true := ⟨RX6, TX6, 7, tyX6, rfl, by decide, jinX6, tyX6_ok, nmX6, rfl, rfl, rfl, Or.inr ⟨_, List.mem_of_getElem? (i := 20) rfl⟩⟩
theorem jfX7_120 : jFld RX7 120 6 5 (.array (.array .long)) true := ⟨RX6, TX6, 7, tyX6, rfl, by decide, jinX6, tyX6_ok, nmX6, rfl, rfl, rfl, Or.inr ⟨_, List.mem_of_getElem? (i := 21) rfl⟩⟩
theorem jfX7_163 : jFld RX7 163 6 6 (.boolean) false := ⟨RX6, TX6, 7, tyX6, rfl, by decide, jinX6, tyX6_ok, nmX6, rfl, rfl, rfl, Or.inr ⟨_, List.mem_of_getElem? (i := 22) rfl⟩⟩
theorem jfX0_50 : jFld RX0 50 2 2 (.int) false := ⟨RX2, TX2, 6, tyX2, rfl, by decide, jinX2, tyX2_ok, nmX2, rfl, rfl, rfl, Or.inr ⟨_, List.mem_of_getElem? (i := 11) rfl⟩⟩
theorem jfX0_65 : jFld RX0 65 2 3 (.int) false := ⟨RX2, TX2, 6, tyX2, rfl, by decide, jinX2, tyX2_ok, nmX2, rfl, rfl, rfl, Or.inr ⟨_, List.mem_of_getElem? (i := 12) rfl⟩⟩
theorem jfX0_98 : jFld RX0 98 2 4 (.int) false := ⟨RX2, TX2, 6, tyX2, rfl, by decide, jinX2, tyX2_ok, nmX2, rfl, rfl, rfl, Or.inr ⟨_, List.mem_of_getElem? (i := 13) rfl⟩⟩
theorem jfX0_101 : jFld RX0 101 2 5 (.int) false := ⟨RX2, TX2, 6, tyX2, rfl, by decide, jinX2, tyX2_ok, nmX2, rfl, rfl, rfl, Or.inr ⟨_, List.mem_of_getElem? (i := 14) rfl⟩⟩
theorem jfX4_46 : jFld RX4 46 5 4 (.int) false := ⟨RX5, TX5, 5, tyX5, rfl, by decide, jinX5, tyX5_ok, nmX5, rfl, rfl, rfl, Or.inr ⟨_, List.mem_of_getElem? (i := 1) rfl⟩⟩
theorem jfX6_55 : jFld RX6 55 1 2 (.int) false := ⟨RX1, TX1, 3, tyX1, rfl, by decide, jinX1, tyX1_ok, nmX1, rfl, rfl, rfl, Or.inr ⟨_, List.mem_of_getElem? (i := 6) rfl⟩⟩
theorem jfX6_60 : jFld RX6 60 4 3 (.array .int) true := ⟨RX4, TX4, 4, tyX4, rfl, by decide, jinX4, tyX4_ok, nmX4, rfl, rfl, rfl, Or.inr ⟨_, List.mem_of_getElem? (i := 17) rfl⟩⟩
theorem jfX6_65 : jFld RX6 65 1 0 (.array .int) true := ⟨RX1, TX1, 3, tyX1, rfl, by decide, jinX1, tyX1_ok, nmX1, rfl, rfl, rfl, Or.inr ⟨_, List.mem_of_getElem? (i := 3) rfl⟩⟩
theorem jfX6_103 : jFld RX6 103 3 1 (.array .long) true := ⟨RX3, TX3, 4, tyX3, rfl, by decide, jinX3, tyX3_ok, nmX3, rfl, rfl, rfl, Or.inr ⟨_, List.mem_of_getElem? (i := 8) rfl⟩⟩
theorem jfX6_108 : jFld RX6 108 4 2 (.array .int) true := ⟨RX4, TX4, 4, tyX4, rfl, by decide, jinX4, tyX4_ok, nmX4, rfl, rfl, rfl, Or.inr ⟨_, List.mem_of_getElem? (i := 16) rfl⟩⟩
theorem jfX6_115 : jFld RX6 115 1 1 (.array .long) true := ⟨RX1, TX1, 3, tyX1, rfl, by decide, jinX1, tyX1_ok, nmX1, rfl, rfl, rfl, Or.inr ⟨_, List.mem_of_getElem? (i := 5) rfl⟩⟩
theorem jfX6_118 : jFld RX6 118 4 1 (.array .int) true := ⟨RX4, TX4, 4, tyX4, rfl, by decide, jinX4, tyX4_ok, nmX4, rfl, rfl, rfl, Or.inr ⟨_, List.mem_of_getElem? (i := 15) rfl⟩⟩
theorem joX7_3 : Cond.methodLink RX7 3 objectInit ∈ jWS := jWS_of (List.mem_of_getElem? (i := 21) (by decide +kernel)) rfl
theorem jcX5_init : Cond.code yX5_init cX5_init 1 none ∈ jWS := jWS_of (List.mem_of_getElem? (i := 28) (by decide +kernel)) rfl
theorem jiX5_init : Cond.instanceMethod yX5_init ∈ jWS := jWS_of (List.mem_of_getElem? (i := 27) (by decide +kernel)) rfl
theorem jlX7_11 : j_li RX7 11 yX5_init cX5_init 1 0 := ⟨Or.inr ⟨jcX5_init, jitX5, ⟨_, List.mem_of_getElem? (i := 0) rfl⟩, by decide +kernel, by decide +kernel⟩, jiX5_init, rfl⟩
theorem jcX1_init : Cond.code yX1_init cX1_init 1 none ∈ jWS := jWS_of (List.mem_of_getElem? (i := 52) (by decide +kernel)) rfl
theorem jiX1_init : Cond.instanceMethod yX1_init ∈ jWS := jWS_of (List.mem_of_getElem? (i := 51) (by decide +kernel)) rfl
theorem jlX7_20 : j_li RX7 20 yX1_init cX1_init 1 0 := ⟨Or.inr ⟨jcX1_init, jitX1, ⟨_, List.mem_of_getElem? (i := 2) rfl⟩, by decide +kernel, by decide +kernel⟩, jiX1_init, rfl⟩
theorem jcX3_init : Cond.code yX3_init cX3_init 1 none ∈ jWS := jWS_of (List.mem_of_getElem? (i := 76) (by decide +kernel)) rfl
theorem jiX3_init : Cond.instanceMethod yX3_init ∈ jWS := jWS_of (List.mem_of_getElem? (i := 75) (by decide +kernel)) rfl
theorem jlX7_37 : j_li RX7 37 yX3_init cX3_init 1 0 := ⟨Or.inr ⟨jcX3_init, jitX3, ⟨_, List.mem_of_getElem? (i := 7) rfl⟩, by decide +kernel, by decide +kernel⟩, jiX3_init, rfl⟩
theorem jcX0_init : Cond.code yX0_init cX0_init 1 none ∈ jWS := jWS_of (List.mem_of_getElem? (i := 96) (by decide +kernel)) rfl
theorem jiX0_init : Cond.instanceMethod yX0_init ∈ jWS := jWS_of (List.mem_of_getElem? (i := 95) (by decide +kernel)) rfl
theorem jlX7_44 : j_li RX7 44 yX0_init cX0_init 1 0 := ⟨Or.inr ⟨jcX0_init, jitX0, ⟨_, List.mem_of_getElem? (i := 9) rfl⟩, by decide +kernel, by decide +kernel⟩, jiX0_init, rfl⟩
theorem jcX4_init : Cond.code yX4_init cX4_init 1 none ∈ jWS := jWS_of (List.mem_of_getElem? (i := 148) (by decide +kernel)) rfl
theorem jiX4_init : Cond.instanceMethod yX4_init ∈ jWS := jWS_of (List.mem_of_getElem? (i := 147) (by decide +kernel)) rfl
theorem jlX7_51 : j_li RX7 51 yX4_init cX4_init 1 0 := ⟨Or.inl ⟨jcX4_init, jitX4, jWS_of (List.mem_of_getElem? (i := 146) (by decide +kernel)) rfl, by decide +kernel, by decide +kernel⟩, jiX4_init, rfl⟩
theorem jcX5_append : Cond.code yX5_append cX5_append 2 (some FieldType.boolean) ∈ jWS := jWS_of (List.mem_of_getElem? (i := 208) (by decide +kernel)) rfl
theorem jiX5_append : Cond.instanceMethod yX5_append ∈ jWS := jWS_of (List.mem_of_getElem? (i := 206) (by decide +kernel)) rfl
theorem jvX5_append : Cond.selects yX5_append.cls yX5_append yX5_append ∈ jWS := jWS_of (List.mem_of_getElem? (i := 207) (by decide +kernel)) rfl
theorem jlX7_59 : j_lv2 RX7 59 yX5_append cX5_append 2 (some FieldType.boolean) 1 := ⟨⟨jcX5_append, jitX5, jWS_of (List.mem_of_getElem? (i := 205) (by decide +kernel)) rfl, by decide +kernel, by decide +kernel⟩, jiX5_append, jvX5_append⟩
theorem jcX4_takeText : Cond.code yX4_takeText cX4_takeText 3 (some FieldType.int) ∈ jWS := jWS_of (List.mem_of_getElem? (i := 216) (by decide +kernel)) rfl
theorem jiX4_takeText : Cond.instanceMethod yX4_takeText ∈ jWS := jWS_of (List.mem_of_getElem? (i := 214) (by decide +kernel)) rfl
theorem jvX4_takeText : Cond.selects yX4_takeText.cls yX4_takeText yX4_takeText ∈ jWS := jWS_of (List.mem_of_getElem? (i := 215) (by decide +kernel)) rfl
theorem jlX7_63 : j_lv2 RX7 63 yX4_takeText cX4_takeText 3 (some FieldType.int) 1 := ⟨⟨jcX4_takeText, jitX4, jWS_of (List.mem_of_getElem? (i := 213) (by decide +kernel)) rfl, by decide +kernel, by decide +kernel⟩, jiX4_takeText, jvX4_takeText⟩
theorem jcX5_empty : Cond.code yX5_empty cX5_empty 1 none ∈ jWS := jWS_of (List.mem_of_getElem? (i := 312) (by decide +kernel)) rfl
theorem jiX5_empty : Cond.instanceMethod yX5_empty ∈ jWS := jWS_of (List.mem_of_getElem? (i := 310) (by decide +kernel)) rfl
theorem jvX5_empty : Cond.selects yX5_empty.cls yX5_empty yX5_empty ∈ jWS := jWS_of (List.mem_of_getElem? (i := 311) (by decide +kernel)) rfl
theorem jlX7_67 : j_lv2 RX7 67 yX5_empty cX5_empty 1 none 0 := ⟨⟨jcX5_empty, jitX5, jWS_of (List.mem_of_getElem? (i := 309) (by decide +kernel)) rfl, by decide +kernel, by decide +kernel⟩, jiX5_empty, jvX5_empty⟩
theorem jcX1_join : Cond.code yX1_join cX1_join 2 (some FieldType.int) ∈ jWS := jWS_of (List.mem_of_getElem? (i := 321) (by decide +kernel)) rfl
theorem jiX1_join : Cond.instanceMethod yX1_join ∈ jWS := jWS_of (List.mem_of_getElem? (i := 319) (by decide +kernel)) rfl
theorem jvX1_join : Cond.selects yX1_join.cls yX1_join yX1_join ∈ jWS := jWS_of (List.mem_of_getElem? (i := 320) (by decide +kernel)) rfl
theorem jlX7_70 : j_lv2 RX7 70 yX1_join cX1_join 2 (some FieldType.int) 1 := ⟨⟨jcX1_join, jitX1, jWS_of (List.mem_of_getElem? (i := 318) (by decide +kernel)) rfl, by decide +kernel, by decide +kernel⟩, jiX1_join, jvX1_join⟩
theorem jcX1_has : Cond.code yX1_has cX1_has 2 (some FieldType.boolean) ∈ jWS := jWS_of (List.mem_of_getElem? (i := 329) (by decide +kernel)) rfl
theorem jiX1_has : Cond.instanceMethod yX1_has ∈ jWS := jWS_of (List.mem_of_getElem? (i := 327) (by decide +kernel)) rfl
theorem jvX1_has : Cond.selects yX1_has.cls yX1_has yX1_has ∈ jWS := jWS_of (List.mem_of_getElem? (i := 328) (by decide +kernel)) rfl
theorem jlX7_74 : j_lv2 RX7 74 yX1_has cX1_has 2 (some FieldType.boolean) 1 := ⟨⟨jcX1_has, jitX1, jWS_of (List.mem_of_getElem? (i := 326) (by decide +kernel)) rfl, by decide +kernel, by decide +kernel⟩, jiX1_has, jvX1_has⟩
theorem jcX7_areCents : Cond.code yX7_areCents cX7_areCents 2 (some FieldType.boolean) ∈ jWS := jWS_of (List.mem_of_getElem? (i := 332) (by decide +kernel)) rfl
theorem jsX7_areCents : Cond.static yX7_areCents ∈ jWS := jWS_of (List.mem_of_getElem? (i := 331) (by decide +kernel)) rfl
theorem jlX7_77 : j_ls RX7 77 yX7_areCents cX7_areCents 2 (some FieldType.boolean) 1 := ⟨⟨jcX7_areCents, jitX7, jWS_of (List.mem_of_getElem? (i := 330) (by decide +kernel)) rfl, by decide +kernel, by decide +kernel⟩, jsX7_areCents⟩
theorem jcX6_init : Cond.code yX6_init cX6_init 4 none ∈ jWS := jWS_of (List.mem_of_getElem? (i := 342) (by decide +kernel)) rfl
theorem jiX6_init : Cond.instanceMethod yX6_init ∈ jWS := jWS_of (List.mem_of_getElem? (i := 341) (by decide +kernel)) rfl
theorem jlX7_90 : j_li RX7 90 yX6_init cX6_init 4 2 := ⟨Or.inl ⟨jcX6_init, jitX6, jWS_of (List.mem_of_getElem? (i := 340) (by decide +kernel)) rfl, by decide +kernel, by decide +kernel⟩, jiX6_init, rfl⟩
theorem jcX7_tripToSettle : Cond.code yX7_tripToSettle cX7_tripToSettle 3 (some (FieldType.object "CrewShares$Trip")) ∈ jWS := jWS_of (List.mem_of_getElem? (i := 380) (by decide +kernel)) rfl
theorem jiX7_tripToSettle : Cond.instanceMethod yX7_tripToSettle ∈ jWS := jWS_of (List.mem_of_getElem? (i := 379) (by decide +kernel)) rfl
theorem jvX7_tripToSettle : Cond.selects yX7_tripToSettle.cls yX7_tripToSettle yX7_tripToSettle ∈ jWS := jWS_sel (List.mem_of_getElem? (i := 3) (by decide +kernel)) rfl
theorem jlX7_93 : j_lv2 RX7 93 yX7_tripToSettle cX7_tripToSettle 3 (some (FieldType.object "CrewShares$Trip")) 1 := ⟨⟨jcX7_tripToSettle, jitX7, jWS_of (List.mem_of_getElem? (i := 377) (by decide +kernel)) rfl, by decide +kernel, by decide +kernel⟩, jiX7_tripToSettle, jvX7_tripToSettle⟩
theorem jcX6_shareOut : Cond.code yX6_shareOut cX6_shareOut 6 none ∈ jWS := jWS_of (List.mem_of_getElem? (i := 396) (by decide +kernel)) rfl
theorem jiX6_shareOut : Cond.instanceMethod yX6_shareOut ∈ jWS := jWS_of (List.mem_of_getElem? (i := 394) (by decide +kernel)) rfl
theorem jvX6_shareOut : Cond.selects yX6_shareOut.cls yX6_shareOut yX6_shareOut ∈ jWS := jWS_of (List.mem_of_getElem? (i := 395) (by decide +kernel)) rfl
theorem jlX7_104 : j_lv2 RX7 104 yX6_shareOut cX6_shareOut 6 none 4 := ⟨⟨jcX6_shareOut, jitX6, jWS_of (List.mem_of_getElem? (i := 393) (by decide +kernel)) rfl, by decide +kernel, by decide +kernel⟩, jiX6_shareOut, jvX6_shareOut⟩
theorem jcX6_countAboard : Cond.code yX6_countAboard cX6_countAboard 3 (some FieldType.int) ∈ jWS := jWS_of (List.mem_of_getElem? (i := 467) (by decide +kernel)) rfl
theorem jiX6_countAboard : Cond.instanceMethod yX6_countAboard ∈ jWS := jWS_of (List.mem_of_getElem? (i := 465) (by decide +kernel)) rfl
theorem jvX6_countAboard : Cond.selects yX6_countAboard.cls yX6_countAboard yX6_countAboard ∈ jWS := jWS_of (List.mem_of_getElem? (i := 466) (by decide +kernel)) rfl
theorem jlX7_108 : j_lv2 RX7 108 yX6_countAboard cX6_countAboard 3 (some FieldType.int) 0 := ⟨⟨jcX6_countAboard, jitX6, jWS_of (List.mem_of_getElem? (i := 464) (by decide +kernel)) rfl, by decide +kernel, by decide +kernel⟩, jiX6_countAboard, jvX6_countAboard⟩
theorem jcX7_settledTrip : Cond.code yX7_settledTrip cX7_settledTrip 3 (some (FieldType.object "CrewShares$Trip")) ∈ jWS := jWS_of (List.mem_of_getElem? (i := 475) (by decide +kernel)) rfl
theorem jiX7_settledTrip : Cond.instanceMethod yX7_settledTrip ∈ jWS := jWS_of (List.mem_of_getElem? (i := 474) (by decide +kernel)) rfl
theorem jvX7_settledTrip : Cond.selects yX7_settledTrip.cls yX7_settledTrip yX7_settledTrip ∈ jWS := jWS_sel (List.mem_of_getElem? (i := 16) (by decide +kernel)) rfl
theorem jlX7_112 : j_lv2 RX7 112 yX7_settledTrip cX7_settledTrip 3 (some (FieldType.object "CrewShares$Trip")) 1 := ⟨⟨jcX7_settledTrip, jitX7, jWS_of (List.mem_of_getElem? (i := 472) (by decide +kernel)) rfl, by decide +kernel, by decide +kernel⟩, jiX7_settledTrip, jvX7_settledTrip⟩
theorem jcX6_isEven : Cond.code yX6_isEven cX6_isEven 6 (some FieldType.boolean) ∈ jWS := jWS_of (List.mem_of_getElem? (i := 493) (by decide +kernel)) rfl
theorem jiX6_isEven : Cond.instanceMethod yX6_isEven ∈ jWS := jWS_of (List.mem_of_getElem? (i := 491) (by decide +kernel)) rfl
theorem jvX6_isEven : Cond.selects yX6_isEven.cls yX6_isEven yX6_isEven ∈ jWS := jWS_of (List.mem_of_getElem? (i := 492) (by decide +kernel)) rfl
theorem jlX7_126 : j_lv2 RX7 126 yX6_isEven cX6_isEven 6 (some FieldType.boolean) 0 := ⟨⟨jcX6_isEven, jitX6, jWS_of (List.mem_of_getElem? (i := 490) (by decide +kernel)) rfl, by decide +kernel, by decide +kernel⟩, jiX6_isEven, jvX6_isEven⟩
theorem jcX0_begin : Cond.code yX0_begin cX0_begin 2 (some FieldType.boolean) ∈ jWS := jWS_of (List.mem_of_getElem? (i := 501) (by decide +kernel)) rfl
theorem jiX0_begin : Cond.instanceMethod yX0_begin ∈ jWS := jWS_of (List.mem_of_getElem? (i := 499) (by decide +kernel)) rfl
theorem jvX0_begin : Cond.selects yX0_begin.cls yX0_begin yX0_begin ∈ jWS := jWS_of (List.mem_of_getElem? (i := 500) (by decide +kernel)) rfl
theorem jlX7_130 : j_lv2 RX7 130 yX0_begin cX0_begin 2 (some FieldType.boolean) 1 := ⟨⟨jcX0_begin, jitX0, jWS_of (List.mem_of_getElem? (i := 498) (by decide +kernel)) rfl, by decide +kernel, by decide +kernel⟩, jiX0_begin, jvX0_begin⟩
theorem jcX0_addRow : Cond.code yX0_addRow cX0_addRow 4 (some FieldType.int) ∈ jWS := jWS_of (List.mem_of_getElem? (i := 528) (by decide +kernel)) rfl
theorem jiX0_addRow : Cond.instanceMethod yX0_addRow ∈ jWS := jWS_of (List.mem_of_getElem? (i := 526) (by decide +kernel)) rfl
theorem jvX0_addRow : Cond.selects yX0_addRow.cls yX0_addRow yX0_addRow ∈ jWS := jWS_of (List.mem_of_getElem? (i := 527) (by decide +kernel)) rfl
theorem jlX7_133 : j_lv2 RX7 133 yX0_addRow cX0_addRow 4 (some FieldType.int) 2 := ⟨⟨jcX0_addRow, jitX0, jWS_of (List.mem_of_getElem? (i := 525) (by decide +kernel)) rfl, by decide +kernel, by decide +kernel⟩, jiX0_addRow, jvX0_addRow⟩
theorem jcX0_takeIn : Cond.code yX0_takeIn cX0_takeIn 2 (some FieldType.int) ∈ jWS := jWS_of (List.mem_of_getElem? (i := 550) (by decide +kernel)) rfl
theorem jiX0_takeIn : Cond.instanceMethod yX0_takeIn ∈ jWS := jWS_of (List.mem_of_getElem? (i := 548) (by decide +kernel)) rfl
theorem jvX0_takeIn : Cond.selects yX0_takeIn.cls yX0_takeIn yX0_takeIn ∈ jWS := jWS_of (List.mem_of_getElem? (i := 549) (by decide +kernel)) rfl
theorem jlX7_137 : j_lv2 RX7 137 yX0_takeIn cX0_takeIn 2 (some FieldType.int) 0 := ⟨⟨jcX0_takeIn, jitX0, jWS_of (List.mem_of_getElem? (i := 547) (by decide +kernel)) rfl, by decide +kernel, by decide +kernel⟩, jiX0_takeIn, jvX0_takeIn⟩
theorem jcX0_giveUp : Cond.code yX0_giveUp cX0_giveUp 1 (some FieldType.int) ∈ jWS := jWS_of (List.mem_of_getElem? (i := 566) (by decide +kernel)) rfl
theorem jiX0_giveUp : Cond.instanceMethod yX0_giveUp ∈ jWS := jWS_of (List.mem_of_getElem? (i := 564) (by decide +kernel)) rfl
theorem jvX0_giveUp : Cond.selects yX0_giveUp.cls yX0_giveUp yX0_giveUp ∈ jWS := jWS_of (List.mem_of_getElem? (i := 565) (by decide +kernel)) rfl
theorem jlX7_140 : j_lv2 RX7 140 yX0_giveUp cX0_giveUp 1 (some FieldType.int) 0 := ⟨⟨jcX0_giveUp, jitX0, jWS_of (List.mem_of_getElem? (i := 563) (by decide +kernel)) rfl, by decide +kernel, by decide +kernel⟩, jiX0_giveUp, jvX0_giveUp⟩
theorem jcX0_closeUpTo : Cond.code yX0_closeUpTo cX0_closeUpTo 3 (some FieldType.int) ∈ jWS := jWS_of (List.mem_of_getElem? (i := 574) (by decide +kernel)) rfl
theorem jiX0_closeUpTo : Cond.instanceMethod yX0_closeUpTo ∈ jWS := jWS_of (List.mem_of_getElem? (i := 572) (by decide +kernel)) rfl
theorem jvX0_closeUpTo : Cond.selects yX0_closeUpTo.cls yX0_closeUpTo yX0_closeUpTo ∈ jWS := jWS_of (List.mem_of_getElem? (i := 573) (by decide +kernel)) rfl
theorem jlX7_143 : j_lv2 RX7 143 yX0_closeUpTo cX0_closeUpTo 3 (some FieldType.int) 1 := ⟨⟨jcX0_closeUpTo, jitX0, jWS_of (List.mem_of_getElem? (i := 571) (by decide +kernel)) rfl, by decide +kernel, by decide +kernel⟩, jiX0_closeUpTo, jvX0_closeUpTo⟩
theorem jcX0_takeBack : Cond.code yX0_takeBack cX0_takeBack 5 (some FieldType.int) ∈ jWS := jWS_of (List.mem_of_getElem? (i := 586) (by decide +kernel)) rfl
theorem jiX0_takeBack : Cond.instanceMethod yX0_takeBack ∈ jWS := jWS_of (List.mem_of_getElem? (i := 584) (by decide +kernel)) rfl
theorem jvX0_takeBack : Cond.selects yX0_takeBack.cls yX0_takeBack yX0_takeBack ∈ jWS := jWS_of (List.mem_of_getElem? (i := 585) (by decide +kernel)) rfl
theorem jlX7_146 : j_lv2 RX7 146 yX0_takeBack cX0_takeBack 5 (some FieldType.int) 2 := ⟨⟨jcX0_takeBack, jitX0, jWS_of (List.mem_of_getElem? (i := 583) (by decide +kernel)) rfl, by decide +kernel, by decide +kernel⟩, jiX0_takeBack, jvX0_takeBack⟩
theorem jcX0_totalOf : Cond.code yX0_totalOf cX0_totalOf 7 (some FieldType.long) ∈ jWS := jWS_of (List.mem_of_getElem? (i := 611) (by decide +kernel)) rfl
theorem jiX0_totalOf : Cond.instanceMethod yX0_totalOf ∈ jWS := jWS_of (List.mem_of_getElem? (i := 609) (by decide +kernel)) rfl
theorem jvX0_totalOf : Cond.selects yX0_totalOf.cls yX0_totalOf yX0_totalOf ∈ jWS := jWS_of (List.mem_of_getElem? (i := 610) (by decide +kernel)) rfl
theorem jlX7_150 : j_lv2 RX7 150 yX0_totalOf cX0_totalOf 7 (some FieldType.long) 2 := ⟨⟨jcX0_totalOf, jitX0, jWS_of (List.mem_of_getElem? (i := 608) (by decide +kernel)) rfl, by decide +kernel, by decide +kernel⟩, jiX0_totalOf, jvX0_totalOf⟩
theorem jcX0_tell : Cond.code yX0_tell cX0_tell 5 (some FieldType.long) ∈ jWS := jWS_of (List.mem_of_getElem? (i := 624) (by decide +kernel)) rfl
theorem jiX0_tell : Cond.instanceMethod yX0_tell ∈ jWS := jWS_of (List.mem_of_getElem? (i := 622) (by decide +kernel)) rfl
theorem jvX0_tell : Cond.selects yX0_tell.cls yX0_tell yX0_tell ∈ jWS := jWS_of (List.mem_of_getElem? (i := 623) (by decide +kernel)) rfl
theorem jlX7_154 : j_lv2 RX7 154 yX0_tell cX0_tell 5 (some FieldType.long) 3 := ⟨⟨jcX0_tell, jitX0, jWS_of (List.mem_of_getElem? (i := 621) (by decide +kernel)) rfl, by decide +kernel, by decide +kernel⟩, jiX0_tell, jvX0_tell⟩
theorem jcX7_tripAt : Cond.code yX7_tripAt cX7_tripAt 2 (some (FieldType.object "CrewShares$Trip")) ∈ jWS := jWS_of (List.mem_of_getElem? (i := 384) (by decide +kernel)) rfl
theorem jiX7_tripAt : Cond.instanceMethod yX7_tripAt ∈ jWS := jWS_of (List.mem_of_getElem? (i := 383) (by decide +kernel)) rfl
theorem jvX7_tripAt : Cond.selects yX7_tripAt.cls yX7_tripAt yX7_tripAt ∈ jWS := jWS_sel (List.mem_of_getElem? (i := 4) (by decide +kernel)) rfl
theorem jlX7_160 : j_lv2 RX7 160 yX7_tripAt cX7_tripAt 2 (some (FieldType.object "CrewShares$Trip")) 1 := ⟨⟨jcX7_tripAt, jitX7, jWS_of (List.mem_of_getElem? (i := 381) (by decide +kernel)) rfl, by decide +kernel, by decide +kernel⟩, jiX7_tripAt, jvX7_tripAt⟩
theorem joX0_3 : Cond.methodLink RX0 3 objectInit ∈ jWS := jWS_of (List.mem_of_getElem? (i := 97) (by decide +kernel)) rfl
theorem jcX2_init : Cond.code yX2_init cX2_init 1 none ∈ jWS := jWS_of (List.mem_of_getElem? (i := 103) (by decide +kernel)) rfl
theorem jiX2_init : Cond.instanceMethod yX2_init ∈ jWS := jWS_of (List.mem_of_getElem? (i := 102) (by decide +kernel)) rfl
theorem jlX0_17 : j_li RX0 17 yX2_init cX2_init 1 0 := ⟨Or.inr ⟨jcX2_init, jitX2, ⟨_, List.mem_of_getElem? (i := 10) rfl⟩, by decide +kernel, by decide +kernel⟩, jiX2_init, rfl⟩
theorem jcX0_takesDay : Cond.code yX0_takesDay cX0_takesDay 2 (some FieldType.boolean) ∈ jWS := jWS_of (List.mem_of_getElem? (i := 505) (by decide +kernel)) rfl
theorem jiX0_takesDay : Cond.instanceMethod yX0_takesDay ∈ jWS := jWS_of (List.mem_of_getElem? (i := 504) (by decide +kernel)) rfl
theorem jvX0_takesDay : Cond.selects yX0_takesDay.cls yX0_takesDay yX0_takesDay ∈ jWS := jWS_sel (List.mem_of_getElem? (i := 17) (by decide +kernel)) rfl
theorem jlX0_26 : j_lv2 RX0 26 yX0_takesDay cX0_takesDay 2 (some FieldType.boolean) 1 := ⟨⟨jcX0_takesDay, jitX0, jWS_of (List.mem_of_getElem? (i := 502) (by decide +kernel)) rfl, by decide +kernel, by decide +kernel⟩, jiX0_takesDay, jvX0_takesDay⟩
theorem jcX0_isFull : Cond.code yX0_isFull cX0_isFull 1 (some FieldType.boolean) ∈ jWS := jWS_of (List.mem_of_getElem? (i := 516) (by decide +kernel)) rfl
theorem jiX0_isFull : Cond.instanceMethod yX0_isFull ∈ jWS := jWS_of (List.mem_of_getElem? (i := 515) (by decide +kernel)) rfl
theorem jvX0_isFull : Cond.selects yX0_isFull.cls yX0_isFull yX0_isFull ∈ jWS := jWS_sel (List.mem_of_getElem? (i := 19) (by decide +kernel)) rfl
theorem jlX0_30 : j_lv2 RX0 30 yX0_isFull cX0_isFull 1 (some FieldType.boolean) 0 := ⟨⟨jcX0_isFull, jitX0, jWS_of (List.mem_of_getElem? (i := 513) (by decide +kernel)) rfl, by decide +kernel, by decide +kernel⟩, jiX0_isFull, jvX0_isFull⟩
theorem jcX2_startOn : Cond.code yX2_startOn cX2_startOn 2 none ∈ jWS := jWS_of (List.mem_of_getElem? (i := 520) (by decide +kernel)) rfl
theorem jiX2_startOn : Cond.instanceMethod yX2_startOn ∈ jWS := jWS_of (List.mem_of_getElem? (i := 518) (by decide +kernel)) rfl
theorem jvX2_startOn : Cond.selects yX2_startOn.cls yX2_startOn yX2_startOn ∈ jWS := jWS_of (List.mem_of_getElem? (i := 519) (by decide +kernel)) rfl
theorem jlX0_34 : j_lv2 RX0 34 yX2_startOn cX2_startOn 2 none 1 := ⟨⟨jcX2_startOn, jitX2, jWS_of (List.mem_of_getElem? (i := 517) (by decide +kernel)) rfl, by decide +kernel, by decide +kernel⟩, jiX2_startOn, jvX2_startOn⟩
theorem jcX0_isAccount : Cond.code yX0_isAccount cX0_isAccount 1 (some FieldType.boolean) ∈ jWS := jWS_of (List.mem_of_getElem? (i := 531) (by decide +kernel)) rfl
theorem jsX0_isAccount : Cond.static yX0_isAccount ∈ jWS := jWS_of (List.mem_of_getElem? (i := 530) (by decide +kernel)) rfl
theorem jlX0_38 : j_ls RX0 38 yX0_isAccount cX0_isAccount 1 (some FieldType.boolean) 1 := ⟨⟨jcX0_isAccount, jitX0, jWS_of (List.mem_of_getElem? (i := 529) (by decide +kernel)) rfl, by decide +kernel, by decide +kernel⟩, jsX0_isAccount⟩
theorem jcX2_isFull : Cond.code yX2_isFull cX2_isFull 1 (some FieldType.boolean) ∈ jWS := jWS_of (List.mem_of_getElem? (i := 537) (by decide +kernel)) rfl
theorem jiX2_isFull : Cond.instanceMethod yX2_isFull ∈ jWS := jWS_of (List.mem_of_getElem? (i := 535) (by decide +kernel)) rfl
theorem jvX2_isFull : Cond.selects yX2_isFull.cls yX2_isFull yX2_isFull ∈ jWS := jWS_of (List.mem_of_getElem? (i := 536) (by decide +kernel)) rfl
theorem jlX0_45 : j_lv2 RX0 45 yX2_isFull cX2_isFull 1 (some FieldType.boolean) 0 := ⟨⟨jcX2_isFull, jitX2, jWS_of (List.mem_of_getElem? (i := 534) (by decide +kernel)) rfl, by decide +kernel, by decide +kernel⟩, jiX2_isFull, jvX2_isFull⟩
theorem jcX2_add : Cond.code yX2_add cX2_add 4 none ∈ jWS := jWS_of (List.mem_of_getElem? (i := 541) (by decide +kernel)) rfl
theorem jiX2_add : Cond.instanceMethod yX2_add ∈ jWS := jWS_of (List.mem_of_getElem? (i := 539) (by decide +kernel)) rfl
theorem jvX2_add : Cond.selects yX2_add.cls yX2_add yX2_add ∈ jWS := jWS_of (List.mem_of_getElem? (i := 540) (by decide +kernel)) rfl
theorem jlX0_46 : j_lv2 RX0 46 yX2_add cX2_add 4 none 2 := ⟨⟨jcX2_add, jitX2, jWS_of (List.mem_of_getElem? (i := 538) (by decide +kernel)) rfl, by decide +kernel, by decide +kernel⟩, jiX2_add, jvX2_add⟩
theorem jcX2_total : Cond.code yX2_total cX2_total 4 (some FieldType.long) ∈ jWS := jWS_of (List.mem_of_getElem? (i := 554) (by decide +kernel)) rfl
theorem jiX2_total : Cond.instanceMethod yX2_total ∈ jWS := jWS_of (List.mem_of_getElem? (i := 552) (by decide +kernel)) rfl
theorem jvX2_total : Cond.selects yX2_total.cls yX2_total yX2_total ∈ jWS := jWS_of (List.mem_of_getElem? (i := 553) (by decide +kernel)) rfl
theorem jlX0_54 : j_lv2 RX0 54 yX2_total cX2_total 4 (some FieldType.long) 0 := ⟨⟨jcX2_total, jitX2, jWS_of (List.mem_of_getElem? (i := 551) (by decide +kernel)) rfl, by decide +kernel, by decide +kernel⟩, jiX2_total, jvX2_total⟩
theorem jcX0_putIn : Cond.code yX0_putIn cX0_putIn 2 (some FieldType.int) ∈ jWS := jWS_of (List.mem_of_getElem? (i := 558) (by decide +kernel)) rfl
theorem jiX0_putIn : Cond.instanceMethod yX0_putIn ∈ jWS := jWS_of (List.mem_of_getElem? (i := 557) (by decide +kernel)) rfl
theorem jvX0_putIn : Cond.selects yX0_putIn.cls yX0_putIn yX0_putIn ∈ jWS := jWS_sel (List.mem_of_getElem? (i := 20) (by decide +kernel)) rfl
theorem jlX0_58 : j_lv2 RX0 58 yX0_putIn cX0_putIn 2 (some FieldType.int) 1 := ⟨⟨jcX0_putIn, jitX0, jWS_of (List.mem_of_getElem? (i := 555) (by decide +kernel)) rfl, by decide +kernel, by decide +kernel⟩, jiX0_putIn, jvX0_putIn⟩
theorem jcX0_isMonth : Cond.code yX0_isMonth cX0_isMonth 1 (some FieldType.boolean) ∈ jWS := jWS_of (List.mem_of_getElem? (i := 577) (by decide +kernel)) rfl
theorem jsX0_isMonth : Cond.static yX0_isMonth ∈ jWS := jWS_of (List.mem_of_getElem? (i := 576) (by decide +kernel)) rfl
theorem jlX0_62 : j_ls RX0 62 yX0_isMonth cX0_isMonth 1 (some FieldType.boolean) 1 := ⟨⟨jcX0_isMonth, jitX0, jWS_of (List.mem_of_getElem? (i := 575) (by decide +kernel)) rfl, by decide +kernel, by decide +kernel⟩, jsX0_isMonth⟩
theorem jcX0_monthOf : Cond.code yX0_monthOf cX0_monthOf 1 (some FieldType.int) ∈ jWS := jWS_of (List.mem_of_getElem? (i := 512) (by decide +kernel)) rfl
theorem jsX0_monthOf : Cond.static yX0_monthOf ∈ jWS := jWS_of (List.mem_of_getElem? (i := 511) (by decide +kernel)) rfl
theorem jlX0_68 : j_ls RX0 68 yX0_monthOf cX0_monthOf 1 (some FieldType.int) 1 := ⟨⟨jcX0_monthOf, jitX0, jWS_of (List.mem_of_getElem? (i := 510) (by decide +kernel)) rfl, by decide +kernel, by decide +kernel⟩, jsX0_monthOf⟩
theorem jmX0_75 : Cond.methodLink RX0 75 Lib.Math.max.name ∈ jWS := jWS_of (List.mem_of_getElem? (i := 578) (by decide +kernel)) rfl
theorem jms_maxI : Cond.static Lib.Math.max.name ∈ jWS := jWS_of (List.mem_of_getElem? (i := 294) (by decide +kernel)) rfl
theorem jmc_maxI : Cond.code Lib.Math.max.name Lib.Math.max.code 2 (some .int) ∈ jWS := jWS_of (List.mem_of_getElem? (i := 295) (by decide +kernel)) rfl
theorem jcX0_entryAt : Cond.code yX0_entryAt cX0_entryAt 2 (some (FieldType.object "CrewShares$Entry")) ∈ jWS := jWS_of (List.mem_of_getElem? (i := 590) (by decide +kernel)) rfl
theorem jiX0_entryAt : Cond.instanceMethod yX0_entryAt ∈ jWS := jWS_of (List.mem_of_getElem? (i := 589) (by decide +kernel)) rfl
theorem jvX0_entryAt : Cond.selects yX0_entryAt.cls yX0_entryAt yX0_entryAt ∈ jWS := jWS_sel (List.mem_of_getElem? (i := 21) (by decide +kernel)) rfl
theorem jlX0_81 : j_lv2 RX0 81 yX0_entryAt cX0_entryAt 2 (some (FieldType.object "CrewShares$Entry")) 1 := ⟨⟨jcX0_entryAt, jitX0, jWS_of (List.mem_of_getElem? (i := 587) (by decide +kernel)) rfl, by decide +kernel, by decide +kernel⟩, jiX0_entryAt, jvX0_entryAt⟩
theorem jcX0_isClosed : Cond.code yX0_isClosed cX0_isClosed 2 (some FieldType.boolean) ∈ jWS := jWS_of (List.mem_of_getElem? (i := 509) (by decide +kernel)) rfl
theorem jiX0_isClosed : Cond.instanceMethod yX0_isClosed ∈ jWS := jWS_of (List.mem_of_getElem? (i := 508) (by decide +kernel)) rfl
theorem jvX0_isClosed : Cond.selects yX0_isClosed.cls yX0_isClosed yX0_isClosed ∈ jWS := jWS_sel (List.mem_of_getElem? (i := 18) (by decide +kernel)) rfl
theorem jlX0_85 : j_lv2 RX0 85 yX0_isClosed cX0_isClosed 2 (some FieldType.boolean) 1 := ⟨⟨jcX0_isClosed, jitX0, jWS_of (List.mem_of_getElem? (i := 506) (by decide +kernel)) rfl, by decide +kernel, by decide +kernel⟩, jiX0_isClosed, jvX0_isClosed⟩
theorem jcX2_isTakenBack : Cond.code yX2_isTakenBack cX2_isTakenBack 1 (some FieldType.boolean) ∈ jWS := jWS_of (List.mem_of_getElem? (i := 594) (by decide +kernel)) rfl
theorem jiX2_isTakenBack : Cond.instanceMethod yX2_isTakenBack ∈ jWS := jWS_of (List.mem_of_getElem? (i := 592) (by decide +kernel)) rfl
theorem jvX2_isTakenBack : Cond.selects yX2_isTakenBack.cls yX2_isTakenBack yX2_isTakenBack ∈ jWS := jWS_of (List.mem_of_getElem? (i := 593) (by decide +kernel)) rfl
theorem jlX0_88 : j_lv2 RX0 88 yX2_isTakenBack cX2_isTakenBack 1 (some FieldType.boolean) 0 := ⟨⟨jcX2_isTakenBack, jitX2, jWS_of (List.mem_of_getElem? (i := 591) (by decide +kernel)) rfl, by decide +kernel, by decide +kernel⟩, jiX2_isTakenBack, jvX2_isTakenBack⟩
theorem jcX2_takesOneBack : Cond.code yX2_takesOneBack cX2_takesOneBack 1 (some FieldType.boolean) ∈ jWS := jWS_of (List.mem_of_getElem? (i := 598) (by decide +kernel)) rfl
theorem jiX2_takesOneBack : Cond.instanceMethod yX2_takesOneBack ∈ jWS := jWS_of (List.mem_of_getElem? (i := 596) (by decide +kernel)) rfl
theorem jvX2_takesOneBack : Cond.selects yX2_takesOneBack.cls yX2_takesOneBack yX2_takesOneBack ∈ jWS := jWS_of (List.mem_of_getElem? (i := 597) (by decide +kernel)) rfl
theorem jlX0_91 : j_lv2 RX0 91 yX2_takesOneBack cX2_takesOneBack 1 (some FieldType.boolean) 0 := ⟨⟨jcX2_takesOneBack, jitX2, jWS_of (List.mem_of_getElem? (i := 595) (by decide +kernel)) rfl, by decide +kernel, by decide +kernel⟩, jiX2_takesOneBack, jvX2_takesOneBack⟩
theorem jcX2_addReversed : Cond.code yX2_addReversed cX2_addReversed 3 none ∈ jWS := jWS_of (List.mem_of_getElem? (i := 602) (by decide +kernel)) rfl
theorem jiX2_addReversed : Cond.instanceMethod yX2_addReversed ∈ jWS := jWS_of (List.mem_of_getElem? (i := 600) (by decide +kernel)) rfl
end
section
theorem jvX2_addReversed : Cond.selects yX2_addReversed.cls yX2_addReversed yX2_addReversed ∈ jWS := jWS_of (List.mem_of_getElem? (i := 601) (by decide +kernel)) rfl
theorem jlX0_94 : j_lv2 RX0 94 yX2_addReversed cX2_addReversed 3 none 1 := ⟨⟨jcX2_addReversed, jitX2, jWS_of (List.mem_of_getElem? (i := 599) (by decide +kernel)) rfl, by decide +kernel, by decide +kernel⟩, jiX2_addReversed, jvX2_addReversed⟩
set_option maxRecDepth 20000 in
theorem jcX2_totalOf : Cond.code yX2_totalOf cX2_totalOf 5 (some FieldType.long) ∈ jWS := jWS_of (List.mem_of_getElem? (i := 616) rfl) rfl
theorem jiX2_totalOf : Cond.instanceMethod yX2_totalOf ∈ jWS := jWS_of (List.mem_of_getElem? (i := 614) (by decide +kernel)) rfl
theorem jvX2_totalOf : Cond.selects yX2_totalOf.cls yX2_totalOf yX2_totalOf ∈ jWS := jWS_of (List.mem_of_getElem? (i := 615) (by decide +kernel)) rfl
theorem jlX0_107 : j_lv2 RX0 107 yX2_totalOf cX2_totalOf 5 (some FieldType.long) 1 := ⟨⟨jcX2_totalOf, jitX2, jWS_of (List.mem_of_getElem? (i := 613) (by decide +kernel)) rfl, by decide +kernel, by decide +kernel⟩, jiX2_totalOf, jvX2_totalOf⟩
set_option maxRecDepth 20000 in
theorem jcX2_tellHead : Cond.code yX2_tellHead cX2_tellHead 2 (some FieldType.long) ∈ jWS := jWS_of (List.mem_of_getElem? (i := 628) rfl) rfl
theorem jiX2_tellHead : Cond.instanceMethod yX2_tellHead ∈ jWS := jWS_of (List.mem_of_getElem? (i := 626) (by decide +kernel)) rfl
theorem jvX2_tellHead : Cond.selects yX2_tellHead.cls yX2_tellHead yX2_tellHead ∈ jWS := jWS_of (List.mem_of_getElem? (i := 627) (by decide +kernel)) rfl
theorem jlX0_111 : j_lv2 RX0 111 yX2_tellHead cX2_tellHead 2 (some FieldType.long) 1 := ⟨⟨jcX2_tellHead, jitX2, jWS_of (List.mem_of_getElem? (i := 625) (by decide +kernel)) rfl, by decide +kernel, by decide +kernel⟩, jiX2_tellHead, jvX2_tellHead⟩
set_option maxRecDepth 20000 in
theorem jcX2_tellRow : Cond.code yX2_tellRow cX2_tellRow 3 (some FieldType.long) ∈ jWS := jWS_of (List.mem_of_getElem? (i := 633) rfl) rfl
theorem jiX2_tellRow : Cond.instanceMethod yX2_tellRow ∈ jWS := jWS_of (List.mem_of_getElem? (i := 631) (by decide +kernel)) rfl
theorem jvX2_tellRow : Cond.selects yX2_tellRow.cls yX2_tellRow yX2_tellRow ∈ jWS := jWS_of (List.mem_of_getElem? (i := 632) (by decide +kernel)) rfl
theorem jlX0_114 : j_lv2 RX0 114 yX2_tellRow cX2_tellRow 3 (some FieldType.long) 2 := ⟨⟨jcX2_tellRow, jitX2, jWS_of (List.mem_of_getElem? (i := 630) (by decide +kernel)) rfl, by decide +kernel, by decide +kernel⟩, jiX2_tellRow, jvX2_tellRow⟩
theorem joX1_3 : Cond.methodLink RX1 3 objectInit ∈ jWS := jWS_of (List.mem_of_getElem? (i := 53) (by decide +kernel)) rfl
theorem joX2_3 : Cond.methodLink RX2 3 objectInit ∈ jWS := jWS_of (List.mem_of_getElem? (i := 104) (by decide +kernel)) rfl
theorem jlX2_26 : j_lv2 RX2 26 yX2_isFull cX2_isFull 1 (some FieldType.boolean) 0 := ⟨⟨jcX2_isFull, jitX2, jWS_of (List.mem_of_getElem? (i := 542) (by decide +kernel)) rfl, by decide +kernel, by decide +kernel⟩, jiX2_isFull, jvX2_isFull⟩
theorem jlX2_30 : j_lv2 RX2 30 yX2_add cX2_add 4 none 2 := ⟨⟨jcX2_add, jitX2, jWS_of (List.mem_of_getElem? (i := 603) (by decide +kernel)) rfl, by decide +kernel, by decide +kernel⟩, jiX2_add, jvX2_add⟩
theorem joX3_3 : Cond.methodLink RX3 3 objectInit ∈ jWS := jWS_of (List.mem_of_getElem? (i := 77) (by decide +kernel)) rfl
set_option maxRecDepth 20000 in
theorem jcJ7_fill_d0a16 : Cond.code yJ7_fill_d0a16 cJ7_fill_d0a16 5 none ∈ jWS := jWS_of (List.mem_of_getElem? (i := 427) rfl) rfl
theorem jsJ7_fill_d0a16 : Cond.static yJ7_fill_d0a16 ∈ jWS := jWS_of (List.mem_of_getElem? (i := 426) (by decide +kernel)) rfl
theorem jlX3_25 : j_ls RX3 25 yJ7_fill_d0a16 cJ7_fill_d0a16 5 none 2 := ⟨⟨jcJ7_fill_d0a16, jitJ7, jWS_of (List.mem_of_getElem? (i := 425) (by decide +kernel)) rfl, by decide +kernel, by decide +kernel⟩, jsJ7_fill_d0a16⟩
set_option maxRecDepth 20000 in
theorem jcX3_wholeWeight : Cond.code yX3_wholeWeight cX3_wholeWeight 4 (some FieldType.long) ∈ jWS := jWS_of (List.mem_of_getElem? (i := 431) rfl) rfl
theorem jiX3_wholeWeight : Cond.instanceMethod yX3_wholeWeight ∈ jWS := jWS_of (List.mem_of_getElem? (i := 430) (by decide +kernel)) rfl
theorem jvX3_wholeWeight : Cond.selects yX3_wholeWeight.cls yX3_wholeWeight yX3_wholeWeight ∈ jWS := jWS_sel (List.mem_of_getElem? (i := 8) (by decide +kernel)) rfl
theorem jlX3_31 : j_lv2 RX3 31 yX3_wholeWeight cX3_wholeWeight 4 (some FieldType.long) 0 := ⟨⟨jcX3_wholeWeight, jitX3, jWS_of (List.mem_of_getElem? (i := 428) (by decide +kernel)) rfl, by decide +kernel, by decide +kernel⟩, jiX3_wholeWeight, jvX3_wholeWeight⟩
set_option maxRecDepth 20000 in
theorem jcX3_giveCents : Cond.code yX3_giveCents cX3_giveCents 5 none ∈ jWS := jWS_of (List.mem_of_getElem? (i := 435) rfl) rfl
theorem jiX3_giveCents : Cond.instanceMethod yX3_giveCents ∈ jWS := jWS_of (List.mem_of_getElem? (i := 434) (by decide +kernel)) rfl
theorem jvX3_giveCents : Cond.selects yX3_giveCents.cls yX3_giveCents yX3_giveCents ∈ jWS := jWS_sel (List.mem_of_getElem? (i := 9) (by decide +kernel)) rfl
theorem jlX3_35 : j_lv2 RX3 35 yX3_giveCents cX3_giveCents 5 none 1 := ⟨⟨jcX3_giveCents, jitX3, jWS_of (List.mem_of_getElem? (i := 432) (by decide +kernel)) rfl, by decide +kernel, by decide +kernel⟩, jiX3_giveCents, jvX3_giveCents⟩
set_option maxRecDepth 20000 in
theorem jcX3_mostCut : Cond.code yX3_mostCut cX3_mostCut 3 (some FieldType.int) ∈ jWS := jWS_of (List.mem_of_getElem? (i := 439) rfl) rfl
theorem jiX3_mostCut : Cond.instanceMethod yX3_mostCut ∈ jWS := jWS_of (List.mem_of_getElem? (i := 438) (by decide +kernel)) rfl
theorem jvX3_mostCut : Cond.selects yX3_mostCut.cls yX3_mostCut yX3_mostCut ∈ jWS := jWS_sel (List.mem_of_getElem? (i := 10) (by decide +kernel)) rfl
theorem jlX3_39 : j_lv2 RX3 39 yX3_mostCut cX3_mostCut 3 (some FieldType.int) 0 := ⟨⟨jcX3_mostCut, jitX3, jWS_of (List.mem_of_getElem? (i := 436) (by decide +kernel)) rfl, by decide +kernel, by decide +kernel⟩, jiX3_mostCut, jvX3_mostCut⟩
theorem joX4_3 : Cond.methodLink RX4 3 objectInit ∈ jWS := jWS_of (List.mem_of_getElem? (i := 149) (by decide +kernel)) rfl
set_option maxRecDepth 20000 in
theorem jcX4_forget : Cond.code yX4_forget cX4_forget 1 none ∈ jWS := jWS_of (List.mem_of_getElem? (i := 153) rfl) rfl
theorem jiX4_forget : Cond.instanceMethod yX4_forget ∈ jWS := jWS_of (List.mem_of_getElem? (i := 152) (by decide +kernel)) rfl
theorem jvX4_forget : Cond.selects yX4_forget.cls yX4_forget yX4_forget ∈ jWS := jWS_sel (List.mem_of_getElem? (i := 0) (by decide +kernel)) rfl
theorem jlX4_24 : j_lv2 RX4 24 yX4_forget cX4_forget 1 none 0 := ⟨⟨jcX4_forget, jitX4, jWS_of (List.mem_of_getElem? (i := 150) (by decide +kernel)) rfl, by decide +kernel, by decide +kernel⟩, jiX4_forget, jvX4_forget⟩
set_option maxRecDepth 20000 in
theorem jcJ7_fill_53178 : Cond.code yJ7_fill_53178 cJ7_fill_53178 4 none ∈ jWS := jWS_of (List.mem_of_getElem? (i := 156) rfl) rfl
theorem jsJ7_fill_53178 : Cond.static yJ7_fill_53178 ∈ jWS := jWS_of (List.mem_of_getElem? (i := 155) (by decide +kernel)) rfl
theorem jlX4_27 : j_ls RX4 27 yJ7_fill_53178 cJ7_fill_53178 4 none 2 := ⟨⟨jcJ7_fill_53178, jitJ7, jWS_of (List.mem_of_getElem? (i := 154) (by decide +kernel)) rfl, by decide +kernel, by decide +kernel⟩, jsJ7_fill_53178⟩
set_option maxRecDepth 20000 in
theorem jcX5_rewind : Cond.code yX5_rewind cX5_rewind 1 none ∈ jWS := jWS_of (List.mem_of_getElem? (i := 220) rfl) rfl
theorem jiX5_rewind : Cond.instanceMethod yX5_rewind ∈ jWS := jWS_of (List.mem_of_getElem? (i := 218) (by decide +kernel)) rfl
theorem jvX5_rewind : Cond.selects yX5_rewind.cls yX5_rewind yX5_rewind ∈ jWS := jWS_of (List.mem_of_getElem? (i := 219) (by decide +kernel)) rfl
theorem jlX4_33 : j_lv2 RX4 33 yX5_rewind cX5_rewind 1 none 0 := ⟨⟨jcX5_rewind, jitX5, jWS_of (List.mem_of_getElem? (i := 217) (by decide +kernel)) rfl, by decide +kernel, by decide +kernel⟩, jiX5_rewind, jvX5_rewind⟩
set_option maxRecDepth 20000 in
theorem jcX5_nextWord : Cond.code yX5_nextWord cX5_nextWord 1 (some FieldType.boolean) ∈ jWS := jWS_of (List.mem_of_getElem? (i := 224) rfl) rfl
theorem jiX5_nextWord : Cond.instanceMethod yX5_nextWord ∈ jWS := jWS_of (List.mem_of_getElem? (i := 222) (by decide +kernel)) rfl
theorem jvX5_nextWord : Cond.selects yX5_nextWord.cls yX5_nextWord yX5_nextWord ∈ jWS := jWS_of (List.mem_of_getElem? (i := 223) (by decide +kernel)) rfl
theorem jlX4_38 : j_lv2 RX4 38 yX5_nextWord cX5_nextWord 1 (some FieldType.boolean) 0 := ⟨⟨jcX5_nextWord, jitX5, jWS_of (List.mem_of_getElem? (i := 221) (by decide +kernel)) rfl, by decide +kernel, by decide +kernel⟩, jiX5_nextWord, jvX5_nextWord⟩
set_option maxRecDepth 20000 in
theorem jcX4_takeSentence : Cond.code yX4_takeSentence cX4_takeSentence 2 (some FieldType.boolean) ∈ jWS := jWS_of (List.mem_of_getElem? (i := 231) rfl) rfl
theorem jiX4_takeSentence : Cond.instanceMethod yX4_takeSentence ∈ jWS := jWS_of (List.mem_of_getElem? (i := 230) (by decide +kernel)) rfl
theorem jvX4_takeSentence : Cond.selects yX4_takeSentence.cls yX4_takeSentence yX4_takeSentence ∈ jWS := jWS_sel (List.mem_of_getElem? (i := 1) (by decide +kernel)) rfl
theorem jlX4_42 : j_lv2 RX4 42 yX4_takeSentence cX4_takeSentence 2 (some FieldType.boolean) 1 := ⟨⟨jcX4_takeSentence, jitX4, jWS_of (List.mem_of_getElem? (i := 228) (by decide +kernel)) rfl, by decide +kernel, by decide +kernel⟩, jiX4_takeSentence, jvX4_takeSentence⟩
set_option maxRecDepth 20000 in
theorem jcX5_wordIs : Cond.code yX5_wordIs cX5_wordIs 3 (some FieldType.boolean) ∈ jWS := jWS_of (List.mem_of_getElem? (i := 236) rfl) rfl
theorem jiX5_wordIs : Cond.instanceMethod yX5_wordIs ∈ jWS := jWS_of (List.mem_of_getElem? (i := 234) (by decide +kernel)) rfl
theorem jvX5_wordIs : Cond.selects yX5_wordIs.cls yX5_wordIs yX5_wordIs ∈ jWS := jWS_of (List.mem_of_getElem? (i := 235) (by decide +kernel)) rfl
theorem jlX4_52 : j_lv2 RX4 52 yX5_wordIs cX5_wordIs 3 (some FieldType.boolean) 1 := ⟨⟨jcX5_wordIs, jitX5, jWS_of (List.mem_of_getElem? (i := 233) (by decide +kernel)) rfl, by decide +kernel, by decide +kernel⟩, jiX5_wordIs, jvX5_wordIs⟩
set_option maxRecDepth 20000 in
theorem jcX4_takePercent : Cond.code yX4_takePercent cX4_takePercent 4 (some FieldType.boolean) ∈ jWS := jWS_of (List.mem_of_getElem? (i := 288) rfl) rfl
theorem jiX4_takePercent : Cond.instanceMethod yX4_takePercent ∈ jWS := jWS_of (List.mem_of_getElem? (i := 287) (by decide +kernel)) rfl
theorem jvX4_takePercent : Cond.selects yX4_takePercent.cls yX4_takePercent yX4_takePercent ∈ jWS := jWS_sel (List.mem_of_getElem? (i := 2) (by decide +kernel)) rfl
theorem jlX4_56 : j_lv2 RX4 56 yX4_takePercent cX4_takePercent 4 (some FieldType.boolean) 3 := ⟨⟨jcX4_takePercent, jitX4, jWS_of (List.mem_of_getElem? (i := 285) (by decide +kernel)) rfl, by decide +kernel, by decide +kernel⟩, jiX4_takePercent, jvX4_takePercent⟩
set_option maxRecDepth 20000 in
theorem jcX4_takeValue : Cond.code yX4_takeValue cX4_takeValue 5 (some FieldType.boolean) ∈ jWS := jWS_of (List.mem_of_getElem? (i := 305) rfl) rfl
theorem jsX4_takeValue : Cond.static yX4_takeValue ∈ jWS := jWS_of (List.mem_of_getElem? (i := 304) (by decide +kernel)) rfl
theorem jlX4_64 : j_ls RX4 64 yX4_takeValue cX4_takeValue 5 (some FieldType.boolean) 3 := ⟨⟨jcX4_takeValue, jitX4, jWS_of (List.mem_of_getElem? (i := 303) (by decide +kernel)) rfl, by decide +kernel, by decide +kernel⟩, jsX4_takeValue⟩
set_option maxRecDepth 20000 in
theorem jcX4_percentOf : Cond.code yX4_percentOf cX4_percentOf 2 (some FieldType.int) ∈ jWS := jWS_of (List.mem_of_getElem? (i := 292) rfl) rfl
theorem jiX4_percentOf : Cond.instanceMethod yX4_percentOf ∈ jWS := jWS_of (List.mem_of_getElem? (i := 290) (by decide +kernel)) rfl
theorem jvX4_percentOf : Cond.selects yX4_percentOf.cls yX4_percentOf yX4_percentOf ∈ jWS := jWS_of (List.mem_of_getElem? (i := 291) (by decide +kernel)) rfl
theorem jlX4_73 : j_lv2 RX4 73 yX4_percentOf cX4_percentOf 2 (some FieldType.int) 1 := ⟨⟨jcX4_percentOf, jitX4, jWS_of (List.mem_of_getElem? (i := 289) (by decide +kernel)) rfl, by decide +kernel, by decide +kernel⟩, jiX4_percentOf, jvX4_percentOf⟩
set_option maxRecDepth 20000 in
theorem jcX5_nextNumber : Cond.code yX5_nextNumber cX5_nextNumber 4 (some FieldType.int) ∈ jWS := jWS_of (List.mem_of_getElem? (i := 299) rfl) rfl
theorem jiX5_nextNumber : Cond.instanceMethod yX5_nextNumber ∈ jWS := jWS_of (List.mem_of_getElem? (i := 297) (by decide +kernel)) rfl
theorem jvX5_nextNumber : Cond.selects yX5_nextNumber.cls yX5_nextNumber yX5_nextNumber ∈ jWS := jWS_of (List.mem_of_getElem? (i := 298) (by decide +kernel)) rfl
theorem jlX4_77 : j_lv2 RX4 77 yX5_nextNumber cX5_nextNumber 4 (some FieldType.int) 1 := ⟨⟨jcX5_nextNumber, jitX5, jWS_of (List.mem_of_getElem? (i := 296) (by decide +kernel)) rfl, by decide +kernel, by decide +kernel⟩, jiX5_nextNumber, jvX5_nextNumber⟩
theorem jmX4_80 : Cond.methodLink RX4 80 Lib.Math.max.name ∈ jWS := jWS_of (List.mem_of_getElem? (i := 293) (by decide +kernel)) rfl
theorem joX5_3 : Cond.methodLink RX5 3 objectInit ∈ jWS := jWS_of (List.mem_of_getElem? (i := 29) (by decide +kernel)) rfl
set_option maxRecDepth 20000 in
theorem jcX5_isGap : Cond.code yX5_isGap cX5_isGap 1 (some FieldType.boolean) ∈ jWS := jWS_of (List.mem_of_getElem? (i := 227) rfl) rfl
theorem jsX5_isGap : Cond.static yX5_isGap ∈ jWS := jWS_of (List.mem_of_getElem? (i := 226) (by decide +kernel)) rfl
theorem jlX5_28 : j_ls RX5 28 yX5_isGap cX5_isGap 1 (some FieldType.boolean) 1 := ⟨⟨jcX5_isGap, jitX5, jWS_of (List.mem_of_getElem? (i := 225) (by decide +kernel)) rfl, by decide +kernel, by decide +kernel⟩, jsX5_isGap⟩
set_option maxRecDepth 20000 in
theorem jcJ0_length_8abf5 : Cond.code yJ0_length_8abf5 cJ0_length_8abf5 1 (some FieldType.int) ∈ jWS := jWS_of (List.mem_of_getElem? (i := 240) rfl) rfl
theorem jiJ0_length_8abf5 : Cond.instanceMethod yJ0_length_8abf5 ∈ jWS := jWS_of (List.mem_of_getElem? (i := 238) (by decide +kernel)) rfl
theorem jvJ0_length_8abf5 : Cond.selects yJ0_length_8abf5.cls yJ0_length_8abf5 yJ0_length_8abf5 ∈ jWS := jWS_of (List.mem_of_getElem? (i := 239) (by decide +kernel)) rfl
theorem jlX5_32 : j_lv2 RX5 32 yJ0_length_8abf5 cJ0_length_8abf5 1 (some FieldType.int) 0 := ⟨⟨jcJ0_length_8abf5, jitJ0, jWS_of (List.mem_of_getElem? (i := 237) (by decide +kernel)) rfl, by decide +kernel, by decide +kernel⟩, jiJ0_length_8abf5, jvJ0_length_8abf5⟩
set_option maxRecDepth 20000 in
theorem jcJ0_charAt_5068e : Cond.code yJ0_charAt_5068e cJ0_charAt_5068e 2 (some FieldType.char) ∈ jWS := jWS_of (List.mem_of_getElem? (i := 250) rfl) rfl
theorem jiJ0_charAt_5068e : Cond.instanceMethod yJ0_charAt_5068e ∈ jWS := jWS_of (List.mem_of_getElem? (i := 248) (by decide +kernel)) rfl
theorem jvJ0_charAt_5068e : Cond.selects yJ0_charAt_5068e.cls yJ0_charAt_5068e yJ0_charAt_5068e ∈ jWS := jWS_of (List.mem_of_getElem? (i := 249) (by decide +kernel)) rfl
theorem jlX5_37 : j_lv2 RX5 37 yJ0_charAt_5068e cJ0_charAt_5068e 2 (some FieldType.char) 1 := ⟨⟨jcJ0_charAt_5068e, jitJ0, jWS_of (List.mem_of_getElem? (i := 247) (by decide +kernel)) rfl, by decide +kernel, by decide +kernel⟩, jiJ0_charAt_5068e, jvJ0_charAt_5068e⟩
theorem jlX5_41 : j_lv2 RX5 41 yX5_nextWord cX5_nextWord 1 (some FieldType.boolean) 0 := ⟨⟨jcX5_nextWord, jitX5, jWS_of (List.mem_of_getElem? (i := 300) (by decide +kernel)) rfl, by decide +kernel, by decide +kernel⟩, jiX5_nextWord, jvX5_nextWord⟩
theorem joX6_3 : Cond.methodLink RX6 3 objectInit ∈ jWS := jWS_of (List.mem_of_getElem? (i := 343) (by decide +kernel)) rfl
set_option maxRecDepth 20000 in
theorem jcX6_bearLoss : Cond.code yX6_bearLoss cX6_bearLoss 5 none ∈ jWS := jWS_of (List.mem_of_getElem? (i := 400) rfl) rfl
theorem jiX6_bearLoss : Cond.instanceMethod yX6_bearLoss ∈ jWS := jWS_of (List.mem_of_getElem? (i := 399) (by decide +kernel)) rfl
theorem jvX6_bearLoss : Cond.selects yX6_bearLoss.cls yX6_bearLoss yX6_bearLoss ∈ jWS := jWS_sel (List.mem_of_getElem? (i := 5) (by decide +kernel)) rfl
theorem jlX6_39 : j_lv2 RX6 39 yX6_bearLoss cX6_bearLoss 5 none 2 := ⟨⟨jcX6_bearLoss, jitX6, jWS_of (List.mem_of_getElem? (i := 397) (by decide +kernel)) rfl, by decide +kernel, by decide +kernel⟩, jiX6_bearLoss, jvX6_bearLoss⟩
set_option maxRecDepth 20000 in
theorem jcX6_partLeft : Cond.code yX6_partLeft cX6_partLeft 5 none ∈ jWS := jWS_of (List.mem_of_getElem? (i := 411) rfl) rfl
theorem jiX6_partLeft : Cond.instanceMethod yX6_partLeft ∈ jWS := jWS_of (List.mem_of_getElem? (i := 410) (by decide +kernel)) rfl
theorem jvX6_partLeft : Cond.selects yX6_partLeft.cls yX6_partLeft yX6_partLeft ∈ jWS := jWS_sel (List.mem_of_getElem? (i := 7) (by decide +kernel)) rfl
theorem jlX6_43 : j_lv2 RX6 43 yX6_partLeft cX6_partLeft 5 none 2 := ⟨⟨jcX6_partLeft, jitX6, jWS_of (List.mem_of_getElem? (i := 408) (by decide +kernel)) rfl, by decide +kernel, by decide +kernel⟩, jiX6_partLeft, jvX6_partLeft⟩
set_option maxRecDepth 20000 in
theorem jcX6_bearCosts : Cond.code yX6_bearCosts cX6_bearCosts 6 none ∈ jWS := jWS_of (List.mem_of_getElem? (i := 444) rfl) rfl
theorem jiX6_bearCosts : Cond.instanceMethod yX6_bearCosts ∈ jWS := jWS_of (List.mem_of_getElem? (i := 443) (by decide +kernel)) rfl
theorem jvX6_bearCosts : Cond.selects yX6_bearCosts.cls yX6_bearCosts yX6_bearCosts ∈ jWS := jWS_sel (List.mem_of_getElem? (i := 11) (by decide +kernel)) rfl
theorem jlX6_47 : j_lv2 RX6 47 yX6_bearCosts cX6_bearCosts 6 none 1 := ⟨⟨jcX6_bearCosts, jitX6, jWS_of (List.mem_of_getElem? (i := 441) (by decide +kernel)) rfl, by decide +kernel, by decide +kernel⟩, jiX6_bearCosts, jvX6_bearCosts⟩
set_option maxRecDepth 20000 in
theorem jcX6_shareCrewsPart : Cond.code yX6_shareCrewsPart cX6_shareCrewsPart 5 none ∈ jWS := jWS_of (List.mem_of_getElem? (i := 451) rfl) rfl
theorem jiX6_shareCrewsPart : Cond.instanceMethod yX6_shareCrewsPart ∈ jWS := jWS_of (List.mem_of_getElem? (i := 450) (by decide +kernel)) rfl
theorem jvX6_shareCrewsPart : Cond.selects yX6_shareCrewsPart.cls yX6_shareCrewsPart yX6_shareCrewsPart ∈ jWS := jWS_sel (List.mem_of_getElem? (i := 12) (by decide +kernel)) rfl
theorem jlX6_51 : j_lv2 RX6 51 yX6_shareCrewsPart cX6_shareCrewsPart 5 none 3 := ⟨⟨jcX6_shareCrewsPart, jitX6, jWS_of (List.mem_of_getElem? (i := 448) (by decide +kernel)) rfl, by decide +kernel, by decide +kernel⟩, jiX6_shareCrewsPart, jvX6_shareCrewsPart⟩
set_option maxRecDepth 20000 in
theorem jcX6_topUp : Cond.code yX6_topUp cX6_topUp 7 none ∈ jWS := jWS_of (List.mem_of_getElem? (i := 455) rfl) rfl
theorem jiX6_topUp : Cond.instanceMethod yX6_topUp ∈ jWS := jWS_of (List.mem_of_getElem? (i := 454) (by decide +kernel)) rfl
theorem jvX6_topUp : Cond.selects yX6_topUp.cls yX6_topUp yX6_topUp ∈ jWS := jWS_sel (List.mem_of_getElem? (i := 13) (by decide +kernel)) rfl
theorem jlX6_68 : j_lv2 RX6 68 yX6_topUp cX6_topUp 7 none 2 := ⟨⟨jcX6_topUp, jitX6, jWS_of (List.mem_of_getElem? (i := 452) (by decide +kernel)) rfl, by decide +kernel, by decide +kernel⟩, jiX6_topUp, jvX6_topUp⟩
set_option maxRecDepth 20000 in
theorem jcX6_pay : Cond.code yX6_pay cX6_pay 7 none ∈ jWS := jWS_of (List.mem_of_getElem? (i := 459) rfl) rfl
theorem jiX6_pay : Cond.instanceMethod yX6_pay ∈ jWS := jWS_of (List.mem_of_getElem? (i := 458) (by decide +kernel)) rfl
theorem jvX6_pay : Cond.selects yX6_pay.cls yX6_pay yX6_pay ∈ jWS := jWS_sel (List.mem_of_getElem? (i := 14) (by decide +kernel)) rfl
theorem jlX6_72 : j_lv2 RX6 72 yX6_pay cX6_pay 7 none 2 := ⟨⟨jcX6_pay, jitX6, jWS_of (List.mem_of_getElem? (i := 456) (by decide +kernel)) rfl, by decide +kernel, by decide +kernel⟩, jiX6_pay, jvX6_pay⟩
set_option maxRecDepth 20000 in
theorem jcX6_costsOff : Cond.code yX6_costsOff cX6_costsOff 6 (some FieldType.long) ∈ jWS := jWS_of (List.mem_of_getElem? (i := 404) rfl) rfl
theorem jiX6_costsOff : Cond.instanceMethod yX6_costsOff ∈ jWS := jWS_of (List.mem_of_getElem? (i := 403) (by decide +kernel)) rfl
theorem jvX6_costsOff : Cond.selects yX6_costsOff.cls yX6_costsOff yX6_costsOff ∈ jWS := jWS_sel (List.mem_of_getElem? (i := 6) (by decide +kernel)) rfl
theorem jlX6_76 : j_lv2 RX6 76 yX6_costsOff cX6_costsOff 6 (some FieldType.long) 2 := ⟨⟨jcX6_costsOff, jitX6, jWS_of (List.mem_of_getElem? (i := 401) (by decide +kernel)) rfl, by decide +kernel, by decide +kernel⟩, jiX6_costsOff, jvX6_costsOff⟩
theorem jmX6_80 : Cond.methodLink RX6 80 Lib.MathLoose.max_long.x ∈ jWS := jWS_of (List.mem_of_getElem? (i := 405) (by decide +kernel)) rfl
theorem jms_maxL : Cond.static Lib.MathLoose.max_long.x ∈ jWS := jWS_of (List.mem_of_getElem? (i := 406) (by decide +kernel)) rfl
theorem jmc_maxL : Cond.code Lib.MathLoose.max_long.x Lib.MathLoose.max_long.code 4 (some .long) ∈ jWS := jWS_of (List.mem_of_getElem? (i := 407) (by decide +kernel)) rfl
theorem jlX6_86 : j_lv2 RX6 86 yX4_percentOf cX4_percentOf 2 (some FieldType.int) 1 := ⟨⟨jcX4_percentOf, jitX4, jWS_of (List.mem_of_getElem? (i := 412) (by decide +kernel)) rfl, by decide +kernel, by decide +kernel⟩, jiX4_percentOf, jvX4_percentOf⟩
set_option maxRecDepth 20000 in
theorem jcX3_clear : Cond.code yX3_clear cX3_clear 1 none ∈ jWS := jWS_of (List.mem_of_getElem? (i := 416) rfl) rfl
theorem jiX3_clear : Cond.instanceMethod yX3_clear ∈ jWS := jWS_of (List.mem_of_getElem? (i := 414) (by decide +kernel)) rfl
theorem jvX3_clear : Cond.selects yX3_clear.cls yX3_clear yX3_clear ∈ jWS := jWS_of (List.mem_of_getElem? (i := 415) (by decide +kernel)) rfl
theorem jlX6_90 : j_lv2 RX6 90 yX3_clear cX3_clear 1 none 0 := ⟨⟨jcX3_clear, jitX3, jWS_of (List.mem_of_getElem? (i := 413) (by decide +kernel)) rfl, by decide +kernel, by decide +kernel⟩, jiX3_clear, jvX3_clear⟩
set_option maxRecDepth 20000 in
theorem jcX3_add : Cond.code yX3_add cX3_add 3 none ∈ jWS := jWS_of (List.mem_of_getElem? (i := 420) rfl) rfl
theorem jiX3_add : Cond.instanceMethod yX3_add ∈ jWS := jWS_of (List.mem_of_getElem? (i := 418) (by decide +kernel)) rfl
theorem jvX3_add : Cond.selects yX3_add.cls yX3_add yX3_add ∈ jWS := jWS_of (List.mem_of_getElem? (i := 419) (by decide +kernel)) rfl
theorem jlX6_95 : j_lv2 RX6 95 yX3_add cX3_add 3 none 1 := ⟨⟨jcX3_add, jitX3, jWS_of (List.mem_of_getElem? (i := 417) (by decide +kernel)) rfl, by decide +kernel, by decide +kernel⟩, jiX3_add, jvX3_add⟩
set_option maxRecDepth 20000 in
theorem jcX3_divide : Cond.code yX3_divide cX3_divide 10 (some FieldType.boolean) ∈ jWS := jWS_of (List.mem_of_getElem? (i := 424) rfl) rfl
theorem jiX3_divide : Cond.instanceMethod yX3_divide ∈ jWS := jWS_of (List.mem_of_getElem? (i := 422) (by decide +kernel)) rfl
theorem jvX3_divide : Cond.selects yX3_divide.cls yX3_divide yX3_divide ∈ jWS := jWS_of (List.mem_of_getElem? (i := 423) (by decide +kernel)) rfl
theorem jlX6_99 : j_lv2 RX6 99 yX3_divide cX3_divide 10 (some FieldType.boolean) 1 := ⟨⟨jcX3_divide, jitX3, jWS_of (List.mem_of_getElem? (i := 421) (by decide +kernel)) rfl, by decide +kernel, by decide +kernel⟩, jiX3_divide, jvX3_divide⟩
theorem jmX6_105 : Cond.methodLink RX6 105 Lib.MathLoose.min_long.x ∈ jWS := jWS_of (List.mem_of_getElem? (i := 445) (by decide +kernel)) rfl
theorem jms_minL : Cond.static Lib.MathLoose.min_long.x ∈ jWS := jWS_of (List.mem_of_getElem? (i := 446) (by decide +kernel)) rfl
theorem jmc_minL : Cond.code Lib.MathLoose.min_long.x Lib.MathLoose.min_long.code 4 (some .long) ∈ jWS := jWS_of (List.mem_of_getElem? (i := 447) (by decide +kernel)) rfl
set_option maxRecDepth 20000 in
theorem jcX6_hasOf : Cond.code yX6_hasOf cX6_hasOf 2 (some FieldType.long) ∈ jWS := jWS_of (List.mem_of_getElem? (i := 463) rfl) rfl
theorem jiX6_hasOf : Cond.instanceMethod yX6_hasOf ∈ jWS := jWS_of (List.mem_of_getElem? (i := 462) (by decide +kernel)) rfl
theorem jvX6_hasOf : Cond.selects yX6_hasOf.cls yX6_hasOf yX6_hasOf ∈ jWS := jWS_sel (List.mem_of_getElem? (i := 15) (by decide +kernel)) rfl
theorem jlX6_111 : j_lv2 RX6 111 yX6_hasOf cX6_hasOf 2 (some FieldType.long) 1 := ⟨⟨jcX6_hasOf, jitX6, jWS_of (List.mem_of_getElem? (i := 460) (by decide +kernel)) rfl, by decide +kernel, by decide +kernel⟩, jiX6_hasOf, jvX6_hasOf⟩
set_option maxRecDepth 20000 in
theorem jcX7_init : Cond.code yX7_init cX7_init 1 none ∈ jWS := jWS_of (List.mem_of_getElem? (i := 20) rfl) rfl
theorem jiX7_init : Cond.instanceMethod yX7_init ∈ jWS := jWS_of (List.mem_of_getElem? (i := 19) (by decide +kernel)) rfl
theorem jlL_9 : j_li RL 9 yX7_init cX7_init 1 0 := ⟨Or.inl ⟨jcX7_init, jitX7, jWS_of (List.mem_of_getElem? (i := 18) (by decide +kernel)) rfl, by decide +kernel, by decide +kernel⟩, jiX7_init, rfl⟩
set_option maxRecDepth 20000 in
theorem jcX8_init : Cond.code yX8_init cX8_init 2 none ∈ jWS := jWS_of (List.mem_of_getElem? (i := 638) rfl) rfl
theorem jiX8_init : Cond.instanceMethod yX8_init ∈ jWS := jWS_of (List.mem_of_getElem? (i := 637) (by decide +kernel)) rfl
theorem jlL_12 : j_li RL 12 yX8_init cX8_init 2 0 := ⟨Or.inl ⟨jcX8_init, jitX8, jWS_of (List.mem_of_getElem? (i := 636) (by decide +kernel)) rfl, by decide +kernel, by decide +kernel⟩, jiX8_init, rfl⟩
set_option maxRecDepth 20000 in
theorem jcX7_unit : Cond.code yX7_unit cX7_unit 2 (some FieldType.boolean) ∈ jWS := jWS_of (List.mem_of_getElem? (i := 204) rfl) rfl
theorem jiX7_unit : Cond.instanceMethod yX7_unit ∈ jWS := jWS_of (List.mem_of_getElem? (i := 202) (by decide +kernel)) rfl
theorem jvX7_unit : Cond.selects yX7_unit.cls yX7_unit yX7_unit ∈ jWS := jWS_of (List.mem_of_getElem? (i := 203) (by decide +kernel)) rfl
theorem jlL_13 : j_lv2 RL 13 yX7_unit cX7_unit 2 (some FieldType.boolean) 1 := ⟨⟨jcX7_unit, jitX7, jWS_of (List.mem_of_getElem? (i := 201) (by decide +kernel)) rfl, by decide +kernel, by decide +kernel⟩, jiX7_unit, jvX7_unit⟩
set_option maxRecDepth 20000 in
theorem jcX8_unit : Cond.code yX8_unit cX8_unit 2 (some FieldType.boolean) ∈ jWS := jWS_of (List.mem_of_getElem? (i := 738) rfl) rfl
theorem jiX8_unit : Cond.instanceMethod yX8_unit ∈ jWS := jWS_of (List.mem_of_getElem? (i := 736) (by decide +kernel)) rfl
theorem jvX8_unit : Cond.selects yX8_unit.cls yX8_unit yX8_unit ∈ jWS := jWS_of (List.mem_of_getElem? (i := 737) (by decide +kernel)) rfl
theorem jlL_17 : j_lv2 RL 17 yX8_unit cX8_unit 2 (some FieldType.boolean) 1 := ⟨⟨jcX8_unit, jitX8, jWS_of (List.mem_of_getElem? (i := 735) (by decide +kernel)) rfl, by decide +kernel, by decide +kernel⟩, jiX8_unit, jvX8_unit⟩
set_option maxRecDepth 20000 in
theorem jcX7_read : Cond.code yX7_read cX7_read 3 (some FieldType.int) ∈ jWS := jWS_of (List.mem_of_getElem? (i := 212) rfl) rfl
theorem jiX7_read : Cond.instanceMethod yX7_read ∈ jWS := jWS_of (List.mem_of_getElem? (i := 210) (by decide +kernel)) rfl
theorem jvX7_read : Cond.selects yX7_read.cls yX7_read yX7_read ∈ jWS := jWS_of (List.mem_of_getElem? (i := 211) (by decide +kernel)) rfl
theorem jlL_18 : j_lv2 RL 18 yX7_read cX7_read 3 (some FieldType.int) 0 := ⟨⟨jcX7_read, jitX7, jWS_of (List.mem_of_getElem? (i := 209) (by decide +kernel)) rfl, by decide +kernel, by decide +kernel⟩, jiX7_read, jvX7_read⟩
set_option maxRecDepth 20000 in
theorem jcX8_read : Cond.code yX8_read cX8_read 4 (some FieldType.int) ∈ jWS := jWS_of (List.mem_of_getElem? (i := 746) rfl) rfl
theorem jiX8_read : Cond.instanceMethod yX8_read ∈ jWS := jWS_of (List.mem_of_getElem? (i := 744) (by decide +kernel)) rfl
theorem jvX8_read : Cond.selects yX8_read.cls yX8_read yX8_read ∈ jWS := jWS_of (List.mem_of_getElem? (i := 745) (by decide +kernel)) rfl
theorem jlL_22 : j_lv2 RL 22 yX8_read cX8_read 4 (some FieldType.int) 0 := ⟨⟨jcX8_read, jitX8, jWS_of (List.mem_of_getElem? (i := 743) (by decide +kernel)) rfl, by decide +kernel, by decide +kernel⟩, jiX8_read, jvX8_read⟩
set_option maxRecDepth 20000 in
theorem jcX7_person : Cond.code yX7_person cX7_person 2 (some FieldType.int) ∈ jWS := jWS_of (List.mem_of_getElem? (i := 317) rfl) rfl
theorem jiX7_person : Cond.instanceMethod yX7_person ∈ jWS := jWS_of (List.mem_of_getElem? (i := 315) (by decide +kernel)) rfl
theorem jvX7_person : Cond.selects yX7_person.cls yX7_person yX7_person ∈ jWS := jWS_of (List.mem_of_getElem? (i := 316) (by decide +kernel)) rfl
theorem jlL_23 : j_lv2 RL 23 yX7_person cX7_person 2 (some FieldType.int) 1 := ⟨⟨jcX7_person, jitX7, jWS_of (List.mem_of_getElem? (i := 314) (by decide +kernel)) rfl, by decide +kernel, by decide +kernel⟩, jiX7_person, jvX7_person⟩
set_option maxRecDepth 20000 in
theorem jcX8_person : Cond.code yX8_person cX8_person 2 (some FieldType.int) ∈ jWS := jWS_of (List.mem_of_getElem? (i := 772) rfl) rfl
theorem jiX8_person : Cond.instanceMethod yX8_person ∈ jWS := jWS_of (List.mem_of_getElem? (i := 770) (by decide +kernel)) rfl
theorem jvX8_person : Cond.selects yX8_person.cls yX8_person yX8_person ∈ jWS := jWS_of (List.mem_of_getElem? (i := 771) (by decide +kernel)) rfl
theorem jlL_27 : j_lv2 RL 27 yX8_person cX8_person 2 (some FieldType.int) 1 := ⟨⟨jcX8_person, jitX8, jWS_of (List.mem_of_getElem? (i := 769) (by decide +kernel)) rfl, by decide +kernel, by decide +kernel⟩, jiX8_person, jvX8_person⟩
set_option maxRecDepth 20000 in
theorem jcX7_advance : Cond.code yX7_advance cX7_advance 4 (some FieldType.boolean) ∈ jWS := jWS_of (List.mem_of_getElem? (i := 325) rfl) rfl
theorem jiX7_advance : Cond.instanceMethod yX7_advance ∈ jWS := jWS_of (List.mem_of_getElem? (i := 323) (by decide +kernel)) rfl
theorem jvX7_advance : Cond.selects yX7_advance.cls yX7_advance yX7_advance ∈ jWS := jWS_of (List.mem_of_getElem? (i := 324) (by decide +kernel)) rfl
theorem jlL_30 : j_lv2 RL 30 yX7_advance cX7_advance 4 (some FieldType.boolean) 2 := ⟨⟨jcX7_advance, jitX7, jWS_of (List.mem_of_getElem? (i := 322) (by decide +kernel)) rfl, by decide +kernel, by decide +kernel⟩, jiX7_advance, jvX7_advance⟩
set_option maxRecDepth 20000 in
theorem jcX8_advance : Cond.code yX8_advance cX8_advance 4 (some FieldType.boolean) ∈ jWS := jWS_of (List.mem_of_getElem? (i := 777) rfl) rfl
theorem jiX8_advance : Cond.instanceMethod yX8_advance ∈ jWS := jWS_of (List.mem_of_getElem? (i := 775) (by decide +kernel)) rfl
theorem jvX8_advance : Cond.selects yX8_advance.cls yX8_advance yX8_advance ∈ jWS := jWS_of (List.mem_of_getElem? (i := 776) (by decide +kernel)) rfl
theorem jlL_34 : j_lv2 RL 34 yX8_advance cX8_advance 4 (some FieldType.boolean) 2 := ⟨⟨jcX8_advance, jitX8, jWS_of (List.mem_of_getElem? (i := 774) (by decide +kernel)) rfl, by decide +kernel, by decide +kernel⟩, jiX8_advance, jvX8_advance⟩
set_option maxRecDepth 20000 in
theorem jcX7_trip : Cond.code yX7_trip cX7_trip 4 (some FieldType.int) ∈ jWS := jWS_of (List.mem_of_getElem? (i := 337) rfl) rfl
theorem jiX7_trip : Cond.instanceMethod yX7_trip ∈ jWS := jWS_of (List.mem_of_getElem? (i := 335) (by decide +kernel)) rfl
theorem jvX7_trip : Cond.selects yX7_trip.cls yX7_trip yX7_trip ∈ jWS := jWS_of (List.mem_of_getElem? (i := 336) (by decide +kernel)) rfl
theorem jlL_35 : j_lv2 RL 35 yX7_trip cX7_trip 4 (some FieldType.int) 2 := ⟨⟨jcX7_trip, jitX7, jWS_of (List.mem_of_getElem? (i := 334) (by decide +kernel)) rfl, by decide +kernel, by decide +kernel⟩, jiX7_trip, jvX7_trip⟩
set_option maxRecDepth 20000 in
theorem jcX8_trip : Cond.code yX8_trip cX8_trip 4 (some FieldType.int) ∈ jWS := jWS_of (List.mem_of_getElem? (i := 786) rfl) rfl
theorem jiX8_trip : Cond.instanceMethod yX8_trip ∈ jWS := jWS_of (List.mem_of_getElem? (i := 784) (by decide +kernel)) rfl
theorem jvX8_trip : Cond.selects yX8_trip.cls yX8_trip yX8_trip ∈ jWS := jWS_of (List.mem_of_getElem? (i := 785) (by decide +kernel)) rfl
theorem jlL_39 : j_lv2 RL 39 yX8_trip cX8_trip 4 (some FieldType.int) 2 := ⟨⟨jcX8_trip, jitX8, jWS_of (List.mem_of_getElem? (i := 783) (by decide +kernel)) rfl, by decide +kernel, by decide +kernel⟩, jiX8_trip, jvX8_trip⟩
set_option maxRecDepth 20000 in
theorem jcX7_cost : Cond.code yX7_cost cX7_cost 6 (some FieldType.boolean) ∈ jWS := jWS_of (List.mem_of_getElem? (i := 376) rfl) rfl
theorem jiX7_cost : Cond.instanceMethod yX7_cost ∈ jWS := jWS_of (List.mem_of_getElem? (i := 374) (by decide +kernel)) rfl
theorem jvX7_cost : Cond.selects yX7_cost.cls yX7_cost yX7_cost ∈ jWS := jWS_of (List.mem_of_getElem? (i := 375) (by decide +kernel)) rfl
theorem jlL_40 : j_lv2 RL 40 yX7_cost cX7_cost 6 (some FieldType.boolean) 3 := ⟨⟨jcX7_cost, jitX7, jWS_of (List.mem_of_getElem? (i := 373) (by decide +kernel)) rfl, by decide +kernel, by decide +kernel⟩, jiX7_cost, jvX7_cost⟩
set_option maxRecDepth 20000 in
theorem jcX8_cost : Cond.code yX8_cost cX8_cost 5 (some FieldType.boolean) ∈ jWS := jWS_of (List.mem_of_getElem? (i := 792) rfl) rfl
theorem jiX8_cost : Cond.instanceMethod yX8_cost ∈ jWS := jWS_of (List.mem_of_getElem? (i := 790) (by decide +kernel)) rfl
theorem jvX8_cost : Cond.selects yX8_cost.cls yX8_cost yX8_cost ∈ jWS := jWS_of (List.mem_of_getElem? (i := 791) (by decide +kernel)) rfl
theorem jlL_44 : j_lv2 RL 44 yX8_cost cX8_cost 5 (some FieldType.boolean) 3 := ⟨⟨jcX8_cost, jitX8, jWS_of (List.mem_of_getElem? (i := 789) (by decide +kernel)) rfl, by decide +kernel, by decide +kernel⟩, jiX8_cost, jvX8_cost⟩
set_option maxRecDepth 20000 in
theorem jcX7_days : Cond.code yX7_days cX7_days 6 (some FieldType.int) ∈ jWS := jWS_of (List.mem_of_getElem? (i := 388) rfl) rfl
theorem jiX7_days : Cond.instanceMethod yX7_days ∈ jWS := jWS_of (List.mem_of_getElem? (i := 386) (by decide +kernel)) rfl
theorem jvX7_days : Cond.selects yX7_days.cls yX7_days yX7_days ∈ jWS := jWS_of (List.mem_of_getElem? (i := 387) (by decide +kernel)) rfl
theorem jlL_45 : j_lv2 RL 45 yX7_days cX7_days 6 (some FieldType.int) 3 := ⟨⟨jcX7_days, jitX7, jWS_of (List.mem_of_getElem? (i := 385) (by decide +kernel)) rfl, by decide +kernel, by decide +kernel⟩, jiX7_days, jvX7_days⟩
set_option maxRecDepth 20000 in
theorem jcX8_days : Cond.code yX8_days cX8_days 5 (some FieldType.int) ∈ jWS := jWS_of (List.mem_of_getElem? (i := 800) rfl) rfl
theorem jiX8_days : Cond.instanceMethod yX8_days ∈ jWS := jWS_of (List.mem_of_getElem? (i := 798) (by decide +kernel)) rfl
theorem jvX8_days : Cond.selects yX8_days.cls yX8_days yX8_days ∈ jWS := jWS_of (List.mem_of_getElem? (i := 799) (by decide +kernel)) rfl
theorem jlL_49 : j_lv2 RL 49 yX8_days cX8_days 5 (some FieldType.int) 3 := ⟨⟨jcX8_days, jitX8, jWS_of (List.mem_of_getElem? (i := 797) (by decide +kernel)) rfl, by decide +kernel, by decide +kernel⟩, jiX8_days, jvX8_days⟩
set_option maxRecDepth 20000 in
theorem jcX7_settle : Cond.code yX7_settle cX7_settle 3 (some FieldType.int) ∈ jWS := jWS_of (List.mem_of_getElem? (i := 392) rfl) rfl
theorem jiX7_settle : Cond.instanceMethod yX7_settle ∈ jWS := jWS_of (List.mem_of_getElem? (i := 390) (by decide +kernel)) rfl
theorem jvX7_settle : Cond.selects yX7_settle.cls yX7_settle yX7_settle ∈ jWS := jWS_of (List.mem_of_getElem? (i := 391) (by decide +kernel)) rfl
theorem jlL_50 : j_lv2 RL 50 yX7_settle cX7_settle 3 (some FieldType.int) 1 := ⟨⟨jcX7_settle, jitX7, jWS_of (List.mem_of_getElem? (i := 389) (by decide +kernel)) rfl, by decide +kernel, by decide +kernel⟩, jiX7_settle, jvX7_settle⟩
set_option maxRecDepth 20000 in
theorem jcX8_settle : Cond.code yX8_settle cX8_settle 22 (some FieldType.int) ∈ jWS := jWS_of (List.mem_of_getElem? (i := 805) rfl) rfl
theorem jiX8_settle : Cond.instanceMethod yX8_settle ∈ jWS := jWS_of (List.mem_of_getElem? (i := 803) (by decide +kernel)) rfl
theorem jvX8_settle : Cond.selects yX8_settle.cls yX8_settle yX8_settle ∈ jWS := jWS_of (List.mem_of_getElem? (i := 804) (by decide +kernel)) rfl
theorem jlL_53 : j_lv2 RL 53 yX8_settle cX8_settle 22 (some FieldType.int) 1 := ⟨⟨jcX8_settle, jitX8, jWS_of (List.mem_of_getElem? (i := 802) (by decide +kernel)) rfl, by decide +kernel, by decide +kernel⟩, jiX8_settle, jvX8_settle⟩
set_option maxRecDepth 20000 in
theorem jcX7_part : Cond.code yX7_part cX7_part 4 (some FieldType.long) ∈ jWS := jWS_of (List.mem_of_getElem? (i := 471) rfl) rfl
theorem jiX7_part : Cond.instanceMethod yX7_part ∈ jWS := jWS_of (List.mem_of_getElem? (i := 469) (by decide +kernel)) rfl
theorem jvX7_part : Cond.selects yX7_part.cls yX7_part yX7_part ∈ jWS := jWS_of (List.mem_of_getElem? (i := 470) (by decide +kernel)) rfl
theorem jlL_54 : j_lv2 RL 54 yX7_part cX7_part 4 (some FieldType.long) 2 := ⟨⟨jcX7_part, jitX7, jWS_of (List.mem_of_getElem? (i := 468) (by decide +kernel)) rfl, by decide +kernel, by decide +kernel⟩, jiX7_part, jvX7_part⟩
set_option maxRecDepth 20000 in
theorem jcX8_part : Cond.code yX8_part cX8_part 3 (some FieldType.long) ∈ jWS := jWS_of (List.mem_of_getElem? (i := 818) rfl) rfl
theorem jiX8_part : Cond.instanceMethod yX8_part ∈ jWS := jWS_of (List.mem_of_getElem? (i := 816) (by decide +kernel)) rfl
theorem jvX8_part : Cond.selects yX8_part.cls yX8_part yX8_part ∈ jWS := jWS_of (List.mem_of_getElem? (i := 817) (by decide +kernel)) rfl
theorem jlL_58 : j_lv2 RL 58 yX8_part cX8_part 3 (some FieldType.long) 2 := ⟨⟨jcX8_part, jitX8, jWS_of (List.mem_of_getElem? (i := 815) (by decide +kernel)) rfl, by decide +kernel, by decide +kernel⟩, jiX8_part, jvX8_part⟩
set_option maxRecDepth 20000 in
theorem jcX7_share : Cond.code yX7_share cX7_share 5 (some FieldType.long) ∈ jWS := jWS_of (List.mem_of_getElem? (i := 480) rfl) rfl
theorem jiX7_share : Cond.instanceMethod yX7_share ∈ jWS := jWS_of (List.mem_of_getElem? (i := 478) (by decide +kernel)) rfl
theorem jvX7_share : Cond.selects yX7_share.cls yX7_share yX7_share ∈ jWS := jWS_of (List.mem_of_getElem? (i := 479) (by decide +kernel)) rfl
theorem jlL_59 : j_lv2 RL 59 yX7_share cX7_share 5 (some FieldType.long) 3 := ⟨⟨jcX7_share, jitX7, jWS_of (List.mem_of_getElem? (i := 477) (by decide +kernel)) rfl, by decide +kernel, by decide +kernel⟩, jiX7_share, jvX7_share⟩
set_option maxRecDepth 20000 in
theorem jcX8_share : Cond.code yX8_share cX8_share 4 (some FieldType.long) ∈ jWS := jWS_of (List.mem_of_getElem? (i := 824) rfl) rfl
theorem jiX8_share : Cond.instanceMethod yX8_share ∈ jWS := jWS_of (List.mem_of_getElem? (i := 822) (by decide +kernel)) rfl
theorem jvX8_share : Cond.selects yX8_share.cls yX8_share yX8_share ∈ jWS := jWS_of (List.mem_of_getElem? (i := 823) (by decide +kernel)) rfl
theorem jlL_63 : j_lv2 RL 63 yX8_share cX8_share 4 (some FieldType.long) 3 := ⟨⟨jcX8_share, jitX8, jWS_of (List.mem_of_getElem? (i := 821) (by decide +kernel)) rfl, by decide +kernel, by decide +kernel⟩, jiX8_share, jvX8_share⟩
set_option maxRecDepth 20000 in
theorem jcX7_carried : Cond.code yX7_carried cX7_carried 2 (some FieldType.long) ∈ jWS := jWS_of (List.mem_of_getElem? (i := 484) rfl) rfl
theorem jiX7_carried : Cond.instanceMethod yX7_carried ∈ jWS := jWS_of (List.mem_of_getElem? (i := 482) (by decide +kernel)) rfl
theorem jvX7_carried : Cond.selects yX7_carried.cls yX7_carried yX7_carried ∈ jWS := jWS_of (List.mem_of_getElem? (i := 483) (by decide +kernel)) rfl
theorem jlL_64 : j_lv2 RL 64 yX7_carried cX7_carried 2 (some FieldType.long) 1 := ⟨⟨jcX7_carried, jitX7, jWS_of (List.mem_of_getElem? (i := 481) (by decide +kernel)) rfl, by decide +kernel, by decide +kernel⟩, jiX7_carried, jvX7_carried⟩
set_option maxRecDepth 20000 in
theorem jcX8_carried : Cond.code yX8_carried cX8_carried 2 (some FieldType.long) ∈ jWS := jWS_of (List.mem_of_getElem? (i := 828) rfl) rfl
theorem jiX8_carried : Cond.instanceMethod yX8_carried ∈ jWS := jWS_of (List.mem_of_getElem? (i := 826) (by decide +kernel)) rfl
theorem jvX8_carried : Cond.selects yX8_carried.cls yX8_carried yX8_carried ∈ jWS := jWS_of (List.mem_of_getElem? (i := 827) (by decide +kernel)) rfl
theorem jlL_68 : j_lv2 RL 68 yX8_carried cX8_carried 2 (some FieldType.long) 1 := ⟨⟨jcX8_carried, jitX8, jWS_of (List.mem_of_getElem? (i := 825) (by decide +kernel)) rfl, by decide +kernel, by decide +kernel⟩, jiX8_carried, jvX8_carried⟩
set_option maxRecDepth 20000 in
theorem jcX7_sums : Cond.code yX7_sums cX7_sums 3 (some FieldType.boolean) ∈ jWS := jWS_of (List.mem_of_getElem? (i := 489) rfl) rfl
theorem jiX7_sums : Cond.instanceMethod yX7_sums ∈ jWS := jWS_of (List.mem_of_getElem? (i := 487) (by decide +kernel)) rfl
theorem jvX7_sums : Cond.selects yX7_sums.cls yX7_sums yX7_sums ∈ jWS := jWS_of (List.mem_of_getElem? (i := 488) (by decide +kernel)) rfl
theorem jlL_69 : j_lv2 RL 69 yX7_sums cX7_sums 3 (some FieldType.boolean) 1 := ⟨⟨jcX7_sums, jitX7, jWS_of (List.mem_of_getElem? (i := 486) (by decide +kernel)) rfl, by decide +kernel, by decide +kernel⟩, jiX7_sums, jvX7_sums⟩
set_option maxRecDepth 20000 in
theorem jcX8_sums : Cond.code yX8_sums cX8_sums 7 (some FieldType.boolean) ∈ jWS := jWS_of (List.mem_of_getElem? (i := 832) rfl) rfl
theorem jiX8_sums : Cond.instanceMethod yX8_sums ∈ jWS := jWS_of (List.mem_of_getElem? (i := 830) (by decide +kernel)) rfl
theorem jvX8_sums : Cond.selects yX8_sums.cls yX8_sums yX8_sums ∈ jWS := jWS_of (List.mem_of_getElem? (i := 831) (by decide +kernel)) rfl
theorem jlL_72 : j_lv2 RL 72 yX8_sums cX8_sums 7 (some FieldType.boolean) 1 := ⟨⟨jcX8_sums, jitX8, jWS_of (List.mem_of_getElem? (i := 829) (by decide +kernel)) rfl, by decide +kernel, by decide +kernel⟩, jiX8_sums, jvX8_sums⟩
set_option maxRecDepth 20000 in
theorem jcX7_open : Cond.code yX7_open cX7_open 2 (some FieldType.boolean) ∈ jWS := jWS_of (List.mem_of_getElem? (i := 497) rfl) rfl
theorem jiX7_open : Cond.instanceMethod yX7_open ∈ jWS := jWS_of (List.mem_of_getElem? (i := 495) (by decide +kernel)) rfl
theorem jvX7_open : Cond.selects yX7_open.cls yX7_open yX7_open ∈ jWS := jWS_of (List.mem_of_getElem? (i := 496) (by decide +kernel)) rfl
theorem jlL_73 : j_lv2 RL 73 yX7_open cX7_open 2 (some FieldType.boolean) 1 := ⟨⟨jcX7_open, jitX7, jWS_of (List.mem_of_getElem? (i := 494) (by decide +kernel)) rfl, by decide +kernel, by decide +kernel⟩, jiX7_open, jvX7_open⟩
set_option maxRecDepth 20000 in
theorem jcX8_open : Cond.code yX8_open cX8_open 2 (some FieldType.boolean) ∈ jWS := jWS_of (List.mem_of_getElem? (i := 836) rfl) rfl
theorem jiX8_open : Cond.instanceMethod yX8_open ∈ jWS := jWS_of (List.mem_of_getElem? (i := 834) (by decide +kernel)) rfl
theorem jvX8_open : Cond.selects yX8_open.cls yX8_open yX8_open ∈ jWS := jWS_of (List.mem_of_getElem? (i := 835) (by decide +kernel)) rfl
theorem jlL_76 : j_lv2 RL 76 yX8_open cX8_open 2 (some FieldType.boolean) 1 := ⟨⟨jcX8_open, jitX8, jWS_of (List.mem_of_getElem? (i := 833) (by decide +kernel)) rfl, by decide +kernel, by decide +kernel⟩, jiX8_open, jvX8_open⟩
set_option maxRecDepth 20000 in
theorem jcX7_row : Cond.code yX7_row cX7_row 4 (some FieldType.int) ∈ jWS := jWS_of (List.mem_of_getElem? (i := 524) rfl) rfl
theorem jiX7_row : Cond.instanceMethod yX7_row ∈ jWS := jWS_of (List.mem_of_getElem? (i := 522) (by decide +kernel)) rfl
theorem jvX7_row : Cond.selects yX7_row.cls yX7_row yX7_row ∈ jWS := jWS_of (List.mem_of_getElem? (i := 523) (by decide +kernel)) rfl
theorem jlL_77 : j_lv2 RL 77 yX7_row cX7_row 4 (some FieldType.int) 2 := ⟨⟨jcX7_row, jitX7, jWS_of (List.mem_of_getElem? (i := 521) (by decide +kernel)) rfl, by decide +kernel, by decide +kernel⟩, jiX7_row, jvX7_row⟩
set_option maxRecDepth 20000 in
theorem jcX8_row : Cond.code yX8_row cX8_row 4 (some FieldType.int) ∈ jWS := jWS_of (List.mem_of_getElem? (i := 841) rfl) rfl
theorem jiX8_row : Cond.instanceMethod yX8_row ∈ jWS := jWS_of (List.mem_of_getElem? (i := 839) (by decide +kernel)) rfl
theorem jvX8_row : Cond.selects yX8_row.cls yX8_row yX8_row ∈ jWS := jWS_of (List.mem_of_getElem? (i := 840) (by decide +kernel)) rfl
theorem jlL_80 : j_lv2 RL 80 yX8_row cX8_row 4 (some FieldType.int) 2 := ⟨⟨jcX8_row, jitX8, jWS_of (List.mem_of_getElem? (i := 838) (by decide +kernel)) rfl, by decide +kernel, by decide +kernel⟩, jiX8_row, jvX8_row⟩
set_option maxRecDepth 20000 in
theorem jcX7_enter : Cond.code yX7_enter cX7_enter 1 (some FieldType.int) ∈ jWS := jWS_of (List.mem_of_getElem? (i := 546) rfl) rfl
theorem jiX7_enter : Cond.instanceMethod yX7_enter ∈ jWS := jWS_of (List.mem_of_getElem? (i := 544) (by decide +kernel)) rfl
theorem jvX7_enter : Cond.selects yX7_enter.cls yX7_enter yX7_enter ∈ jWS := jWS_of (List.mem_of_getElem? (i := 545) (by decide +kernel)) rfl
theorem jlL_81 : j_lv2 RL 81 yX7_enter cX7_enter 1 (some FieldType.int) 0 := ⟨⟨jcX7_enter, jitX7, jWS_of (List.mem_of_getElem? (i := 543) (by decide +kernel)) rfl, by decide +kernel, by decide +kernel⟩, jiX7_enter, jvX7_enter⟩
set_option maxRecDepth 20000 in
theorem jcX8_enter : Cond.code yX8_enter cX8_enter 4 (some FieldType.int) ∈ jWS := jWS_of (List.mem_of_getElem? (i := 847) rfl) rfl
theorem jiX8_enter : Cond.instanceMethod yX8_enter ∈ jWS := jWS_of (List.mem_of_getElem? (i := 845) (by decide +kernel)) rfl
theorem jvX8_enter : Cond.selects yX8_enter.cls yX8_enter yX8_enter ∈ jWS := jWS_of (List.mem_of_getElem? (i := 846) (by decide +kernel)) rfl
theorem jlL_84 : j_lv2 RL 84 yX8_enter cX8_enter 4 (some FieldType.int) 0 := ⟨⟨jcX8_enter, jitX8, jWS_of (List.mem_of_getElem? (i := 844) (by decide +kernel)) rfl, by decide +kernel, by decide +kernel⟩, jiX8_enter, jvX8_enter⟩
set_option maxRecDepth 20000 in
theorem jcX7_drop : Cond.code yX7_drop cX7_drop 1 (some FieldType.int) ∈ jWS := jWS_of (List.mem_of_getElem? (i := 562) rfl) rfl
theorem jiX7_drop : Cond.instanceMethod yX7_drop ∈ jWS := jWS_of (List.mem_of_getElem? (i := 560) (by decide +kernel)) rfl
theorem jvX7_drop : Cond.selects yX7_drop.cls yX7_drop yX7_drop ∈ jWS := jWS_of (List.mem_of_getElem? (i := 561) (by decide +kernel)) rfl
theorem jlL_85 : j_lv2 RL 85 yX7_drop cX7_drop 1 (some FieldType.int) 0 := ⟨⟨jcX7_drop, jitX7, jWS_of (List.mem_of_getElem? (i := 559) (by decide +kernel)) rfl, by decide +kernel, by decide +kernel⟩, jiX7_drop, jvX7_drop⟩
set_option maxRecDepth 20000 in
theorem jcX8_drop : Cond.code yX8_drop cX8_drop 1 (some FieldType.int) ∈ jWS := jWS_of (List.mem_of_getElem? (i := 855) rfl) rfl
theorem jiX8_drop : Cond.instanceMethod yX8_drop ∈ jWS := jWS_of (List.mem_of_getElem? (i := 853) (by decide +kernel)) rfl
theorem jvX8_drop : Cond.selects yX8_drop.cls yX8_drop yX8_drop ∈ jWS := jWS_of (List.mem_of_getElem? (i := 854) (by decide +kernel)) rfl
theorem jlL_88 : j_lv2 RL 88 yX8_drop cX8_drop 1 (some FieldType.int) 0 := ⟨⟨jcX8_drop, jitX8, jWS_of (List.mem_of_getElem? (i := 852) (by decide +kernel)) rfl, by decide +kernel, by decide +kernel⟩, jiX8_drop, jvX8_drop⟩
set_option maxRecDepth 20000 in
theorem jcX7_closeMonth : Cond.code yX7_closeMonth cX7_closeMonth 2 (some FieldType.int) ∈ jWS := jWS_of (List.mem_of_getElem? (i := 570) rfl) rfl
theorem jiX7_closeMonth : Cond.instanceMethod yX7_closeMonth ∈ jWS := jWS_of (List.mem_of_getElem? (i := 568) (by decide +kernel)) rfl
theorem jvX7_closeMonth : Cond.selects yX7_closeMonth.cls yX7_closeMonth yX7_closeMonth ∈ jWS := jWS_of (List.mem_of_getElem? (i := 569) (by decide +kernel)) rfl
theorem jlL_89 : j_lv2 RL 89 yX7_closeMonth cX7_closeMonth 2 (some FieldType.int) 1 := ⟨⟨jcX7_closeMonth, jitX7, jWS_of (List.mem_of_getElem? (i := 567) (by decide +kernel)) rfl, by decide +kernel, by decide +kernel⟩, jiX7_closeMonth, jvX7_closeMonth⟩
set_option maxRecDepth 20000 in
theorem jcX8_closeMonth : Cond.code yX8_closeMonth cX8_closeMonth 3 (some FieldType.int) ∈ jWS := jWS_of (List.mem_of_getElem? (i := 859) rfl) rfl
theorem jiX8_closeMonth : Cond.instanceMethod yX8_closeMonth ∈ jWS := jWS_of (List.mem_of_getElem? (i := 857) (by decide +kernel)) rfl
theorem jvX8_closeMonth : Cond.selects yX8_closeMonth.cls yX8_closeMonth yX8_closeMonth ∈ jWS := jWS_of (List.mem_of_getElem? (i := 858) (by decide +kernel)) rfl
theorem jlL_92 : j_lv2 RL 92 yX8_closeMonth cX8_closeMonth 3 (some FieldType.int) 1 := ⟨⟨jcX8_closeMonth, jitX8, jWS_of (List.mem_of_getElem? (i := 856) (by decide +kernel)) rfl, by decide +kernel, by decide +kernel⟩, jiX8_closeMonth, jvX8_closeMonth⟩
set_option maxRecDepth 20000 in
theorem jcX7_correct : Cond.code yX7_correct cX7_correct 3 (some FieldType.int) ∈ jWS := jWS_of (List.mem_of_getElem? (i := 582) rfl) rfl
theorem jiX7_correct : Cond.instanceMethod yX7_correct ∈ jWS := jWS_of (List.mem_of_getElem? (i := 580) (by decide +kernel)) rfl
theorem jvX7_correct : Cond.selects yX7_correct.cls yX7_correct yX7_correct ∈ jWS := jWS_of (List.mem_of_getElem? (i := 581) (by decide +kernel)) rfl
theorem jlL_93 : j_lv2 RL 93 yX7_correct cX7_correct 3 (some FieldType.int) 2 := ⟨⟨jcX7_correct, jitX7, jWS_of (List.mem_of_getElem? (i := 579) (by decide +kernel)) rfl, by decide +kernel, by decide +kernel⟩, jiX7_correct, jvX7_correct⟩
set_option maxRecDepth 20000 in
theorem jcX8_correct : Cond.code yX8_correct cX8_correct 3 (some FieldType.int) ∈ jWS := jWS_of (List.mem_of_getElem? (i := 864) rfl) rfl
theorem jiX8_correct : Cond.instanceMethod yX8_correct ∈ jWS := jWS_of (List.mem_of_getElem? (i := 862) (by decide +kernel)) rfl
theorem jvX8_correct : Cond.selects yX8_correct.cls yX8_correct yX8_correct ∈ jWS := jWS_of (List.mem_of_getElem? (i := 863) (by decide +kernel)) rfl
theorem jlL_97 : j_lv2 RL 97 yX8_correct cX8_correct 3 (some FieldType.int) 2 := ⟨⟨jcX8_correct, jitX8, jWS_of (List.mem_of_getElem? (i := 861) (by decide +kernel)) rfl, by decide +kernel, by decide +kernel⟩, jiX8_correct, jvX8_correct⟩
set_option maxRecDepth 20000 in
theorem jcX7_balance : Cond.code yX7_balance cX7_balance 3 (some FieldType.long) ∈ jWS := jWS_of (List.mem_of_getElem? (i := 607) rfl) rfl
theorem jiX7_balance : Cond.instanceMethod yX7_balance ∈ jWS := jWS_of (List.mem_of_getElem? (i := 605) (by decide +kernel)) rfl
theorem jvX7_balance : Cond.selects yX7_balance.cls yX7_balance yX7_balance ∈ jWS := jWS_of (List.mem_of_getElem? (i := 606) (by decide +kernel)) rfl
theorem jlL_98 : j_lv2 RL 98 yX7_balance cX7_balance 3 (some FieldType.long) 2 := ⟨⟨jcX7_balance, jitX7, jWS_of (List.mem_of_getElem? (i := 604) (by decide +kernel)) rfl, by decide +kernel, by decide +kernel⟩, jiX7_balance, jvX7_balance⟩
set_option maxRecDepth 20000 in
theorem jcX8_balance : Cond.code yX8_balance cX8_balance 7 (some FieldType.long) ∈ jWS := jWS_of (List.mem_of_getElem? (i := 868) rfl) rfl
theorem jiX8_balance : Cond.instanceMethod yX8_balance ∈ jWS := jWS_of (List.mem_of_getElem? (i := 866) (by decide +kernel)) rfl
theorem jvX8_balance : Cond.selects yX8_balance.cls yX8_balance yX8_balance ∈ jWS := jWS_of (List.mem_of_getElem? (i := 867) (by decide +kernel)) rfl
theorem jlL_101 : j_lv2 RL 101 yX8_balance cX8_balance 7 (some FieldType.long) 2 := ⟨⟨jcX8_balance, jitX8, jWS_of (List.mem_of_getElem? (i := 865) (by decide +kernel)) rfl, by decide +kernel, by decide +kernel⟩, jiX8_balance, jvX8_balance⟩
set_option maxRecDepth 20000 in
theorem jcX7_entry : Cond.code yX7_entry cX7_entry 4 (some FieldType.long) ∈ jWS := jWS_of (List.mem_of_getElem? (i := 620) rfl) rfl
theorem jiX7_entry : Cond.instanceMethod yX7_entry ∈ jWS := jWS_of (List.mem_of_getElem? (i := 618) (by decide +kernel)) rfl
theorem jvX7_entry : Cond.selects yX7_entry.cls yX7_entry yX7_entry ∈ jWS := jWS_of (List.mem_of_getElem? (i := 619) (by decide +kernel)) rfl
theorem jlL_102 : j_lv2 RL 102 yX7_entry cX7_entry 4 (some FieldType.long) 3 := ⟨⟨jcX7_entry, jitX7, jWS_of (List.mem_of_getElem? (i := 617) (by decide +kernel)) rfl, by decide +kernel, by decide +kernel⟩, jiX7_entry, jvX7_entry⟩
set_option maxRecDepth 20000 in
theorem jcX8_entry : Cond.code yX8_entry cX8_entry 4 (some FieldType.long) ∈ jWS := jWS_of (List.mem_of_getElem? (i := 872) rfl) rfl
theorem jiX8_entry : Cond.instanceMethod yX8_entry ∈ jWS := jWS_of (List.mem_of_getElem? (i := 870) (by decide +kernel)) rfl
theorem jvX8_entry : Cond.selects yX8_entry.cls yX8_entry yX8_entry ∈ jWS := jWS_of (List.mem_of_getElem? (i := 871) (by decide +kernel)) rfl
theorem jlL_105 : j_lv2 RL 105 yX8_entry cX8_entry 4 (some FieldType.long) 3 := ⟨⟨jcX8_entry, jitX8, jWS_of (List.mem_of_getElem? (i := 869) (by decide +kernel)) rfl, by decide +kernel, by decide +kernel⟩, jiX8_entry, jvX8_entry⟩
theorem joX8_1 : Cond.methodLink RX8 1 objectInit ∈ jWS := jWS_of (List.mem_of_getElem? (i := 639) (by decide +kernel)) rfl
set_option maxRecDepth 20000 in
theorem jcX8_within : Cond.code yX8_within cX8_within 6 (some FieldType.boolean) ∈ jWS := jWS_of (List.mem_of_getElem? (i := 742) rfl) rfl
theorem jsX8_within : Cond.static yX8_within ∈ jWS := jWS_of (List.mem_of_getElem? (i := 741) (by decide +kernel)) rfl
theorem jlX8_80 : j_ls RX8 80 yX8_within cX8_within 6 (some FieldType.boolean) 3 := ⟨⟨jcX8_within, jitX8, jWS_of (List.mem_of_getElem? (i := 740) (by decide +kernel)) rfl, by decide +kernel, by decide +kernel⟩, jsX8_within⟩
set_option maxRecDepth 20000 in
theorem jcX8_isNext : Cond.code yX8_isNext cX8_isNext 1 (some FieldType.boolean) ∈ jWS := jWS_of (List.mem_of_getElem? (i := 750) rfl) rfl
theorem jiX8_isNext : Cond.instanceMethod yX8_isNext ∈ jWS := jWS_of (List.mem_of_getElem? (i := 749) (by decide +kernel)) rfl
theorem jvX8_isNext : Cond.selects yX8_isNext.cls yX8_isNext yX8_isNext ∈ jWS := jWS_sel (List.mem_of_getElem? (i := 22) (by decide +kernel)) rfl
theorem jlX8_94 : j_lv2 RX8 94 yX8_isNext cX8_isNext 1 (some FieldType.boolean) 0 := ⟨⟨jcX8_isNext, jitX8, jWS_of (List.mem_of_getElem? (i := 747) (by decide +kernel)) rfl, by decide +kernel, by decide +kernel⟩, jiX8_isNext, jvX8_isNext⟩
set_option maxRecDepth 20000 in
theorem jcX8_isWord : Cond.code yX8_isWord cX8_isWord 6 (some FieldType.boolean) ∈ jWS := jWS_of (List.mem_of_getElem? (i := 759) rfl) rfl
theorem jiX8_isWord : Cond.instanceMethod yX8_isWord ∈ jWS := jWS_of (List.mem_of_getElem? (i := 758) (by decide +kernel)) rfl
theorem jvX8_isWord : Cond.selects yX8_isWord.cls yX8_isWord yX8_isWord ∈ jWS := jWS_sel (List.mem_of_getElem? (i := 24) (by decide +kernel)) rfl
theorem jlX8_103 : j_lv2 RX8 103 yX8_isWord cX8_isWord 6 (some FieldType.boolean) 2 := ⟨⟨jcX8_isWord, jitX8, jWS_of (List.mem_of_getElem? (i := 756) (by decide +kernel)) rfl, by decide +kernel, by decide +kernel⟩, jiX8_isWord, jvX8_isWord⟩
set_option maxRecDepth 20000 in
theorem jcX8_number : Cond.code yX8_number cX8_number 4 (some FieldType.int) ∈ jWS := jWS_of (List.mem_of_getElem? (i := 764) rfl) rfl
theorem jiX8_number : Cond.instanceMethod yX8_number ∈ jWS := jWS_of (List.mem_of_getElem? (i := 763) (by decide +kernel)) rfl
theorem jvX8_number : Cond.selects yX8_number.cls yX8_number yX8_number ∈ jWS := jWS_sel (List.mem_of_getElem? (i := 25) (by decide +kernel)) rfl
theorem jlX8_109 : j_lv2 RX8 109 yX8_number cX8_number 4 (some FieldType.int) 1 := ⟨⟨jcX8_number, jitX8, jWS_of (List.mem_of_getElem? (i := 761) (by decide +kernel)) rfl, by decide +kernel, by decide +kernel⟩, jiX8_number, jvX8_number⟩
set_option maxRecDepth 20000 in
theorem jcX8_isSentence : Cond.code yX8_isSentence cX8_isSentence 4 (some FieldType.boolean) ∈ jWS := jWS_of (List.mem_of_getElem? (i := 754) rfl) rfl
theorem jiX8_isSentence : Cond.instanceMethod yX8_isSentence ∈ jWS := jWS_of (List.mem_of_getElem? (i := 753) (by decide +kernel)) rfl
theorem jvX8_isSentence : Cond.selects yX8_isSentence.cls yX8_isSentence yX8_isSentence ∈ jWS := jWS_sel (List.mem_of_getElem? (i := 23) (by decide +kernel)) rfl
theorem jlX8_120 : j_lv2 RX8 120 yX8_isSentence cX8_isSentence 4 (some FieldType.boolean) 0 := ⟨⟨jcX8_isSentence, jitX8, jWS_of (List.mem_of_getElem? (i := 751) (by decide +kernel)) rfl, by decide +kernel, by decide +kernel⟩, jiX8_isSentence, jvX8_isSentence⟩
set_option maxRecDepth 20000 in
theorem jcX8_isPerson : Cond.code yX8_isPerson cX8_isPerson 2 (some FieldType.boolean) ∈ jWS := jWS_of (List.mem_of_getElem? (i := 781) rfl) rfl
theorem jiX8_isPerson : Cond.instanceMethod yX8_isPerson ∈ jWS := jWS_of (List.mem_of_getElem? (i := 780) (by decide +kernel)) rfl
theorem jvX8_isPerson : Cond.selects yX8_isPerson.cls yX8_isPerson yX8_isPerson ∈ jWS := jWS_sel (List.mem_of_getElem? (i := 26) (by decide +kernel)) rfl
theorem jlX8_131 : j_lv2 RX8 131 yX8_isPerson cX8_isPerson 2 (some FieldType.boolean) 1 := ⟨⟨jcX8_isPerson, jitX8, jWS_of (List.mem_of_getElem? (i := 778) (by decide +kernel)) rfl, by decide +kernel, by decide +kernel⟩, jiX8_isPerson, jvX8_isPerson⟩
set_option maxRecDepth 20000 in
theorem jcX8_isTrip : Cond.code yX8_isTrip cX8_isTrip 2 (some FieldType.boolean) ∈ jWS := jWS_of (List.mem_of_getElem? (i := 796) rfl) rfl
theorem jiX8_isTrip : Cond.instanceMethod yX8_isTrip ∈ jWS := jWS_of (List.mem_of_getElem? (i := 795) (by decide +kernel)) rfl
theorem jvX8_isTrip : Cond.selects yX8_isTrip.cls yX8_isTrip yX8_isTrip ∈ jWS := jWS_sel (List.mem_of_getElem? (i := 27) (by decide +kernel)) rfl
theorem jlX8_141 : j_lv2 RX8 141 yX8_isTrip cX8_isTrip 2 (some FieldType.boolean) 1 := ⟨⟨jcX8_isTrip, jitX8, jWS_of (List.mem_of_getElem? (i := 793) (by decide +kernel)) rfl, by decide +kernel, by decide +kernel⟩, jiX8_isTrip, jvX8_isTrip⟩
set_option maxRecDepth 20000 in
theorem jcX8_costsOf : Cond.code yX8_costsOf cX8_costsOf 6 (some FieldType.long) ∈ jWS := jWS_of (List.mem_of_getElem? (i := 809) rfl) rfl
theorem jiX8_costsOf : Cond.instanceMethod yX8_costsOf ∈ jWS := jWS_of (List.mem_of_getElem? (i := 808) (by decide +kernel)) rfl
theorem jvX8_costsOf : Cond.selects yX8_costsOf.cls yX8_costsOf yX8_costsOf ∈ jWS := jWS_sel (List.mem_of_getElem? (i := 28) (by decide +kernel)) rfl
theorem jlX8_148 : j_lv2 RX8 148 yX8_costsOf cX8_costsOf 6 (some FieldType.long) 2 := ⟨⟨jcX8_costsOf, jitX8, jWS_of (List.mem_of_getElem? (i := 806) (by decide +kernel)) rfl, by decide +kernel, by decide +kernel⟩, jiX8_costsOf, jvX8_costsOf⟩
set_option maxRecDepth 20000 in
theorem jcX8_partByCents : Cond.code yX8_partByCents cX8_partByCents 10 none ∈ jWS := jWS_of (List.mem_of_getElem? (i := 813) rfl) rfl
theorem jiX8_partByCents : Cond.instanceMethod yX8_partByCents ∈ jWS := jWS_of (List.mem_of_getElem? (i := 812) (by decide +kernel)) rfl
theorem jvX8_partByCents : Cond.selects yX8_partByCents.cls yX8_partByCents yX8_partByCents ∈ jWS := jWS_sel (List.mem_of_getElem? (i := 29) (by decide +kernel)) rfl
end
