section
-- ===== PART A: goes FIRST, ahead of the names: the tables' words, and 'selects' of the private methods out of them =====
/-- a private method of a class that the tables say can be made, by its rows of tables_1 -/
def lw_okq (q : MethodName × Nat) : Prop := (q.1.cls ≠ "java/lang/invoke/MethodHandle" ∧ q.1.cls ≠ "java/lang/invoke/VarHandle") ∧ Cond.instantiable q.1.cls q.2 ∈ tables_1 ∧ Cond.privateMethod q.1 ∈ tables_1 ∧ Cond.instanceMethod q.1 ∈ tables_1
theorem lw_p0 : lw_okq (⟨"CrewShares$Rules", "forget", "()V"⟩, 4) := ⟨⟨by decide +kernel, by decide +kernel⟩, List.mem_of_getElem? (i := 145) (by decide +kernel), List.mem_of_getElem? (i := 151) (by decide +kernel), List.mem_of_getElem? (i := 152) (by decide +kernel)⟩
theorem lw_p1 : lw_okq (⟨"CrewShares$Rules", "takeSentence", "(LCrewShares$RulesText;)Z"⟩, 4) := ⟨⟨by decide +kernel, by decide +kernel⟩, List.mem_of_getElem? (i := 145) (by decide +kernel), List.mem_of_getElem? (i := 229) (by decide +kernel), List.mem_of_getElem? (i := 230) (by decide +kernel)⟩
theorem lw_p2 : lw_okq (⟨"CrewShares$Rules", "takePercent", "(LCrewShares$RulesText;II)Z"⟩, 4) := ⟨⟨by decide +kernel, by decide +kernel⟩, List.mem_of_getElem? (i := 145) (by decide +kernel), List.mem_of_getElem? (i := 286) (by decide +kernel), List.mem_of_getElem? (i := 287) (by decide +kernel)⟩
theorem lw_p3 : lw_okq (⟨"CrewShares", "tripToSettle", "(I)LCrewShares$Trip;"⟩, 9) := ⟨⟨by decide +kernel, by decide +kernel⟩, List.mem_of_getElem? (i := 17) (by decide +kernel), List.mem_of_getElem? (i := 378) (by decide +kernel), List.mem_of_getElem? (i := 379) (by decide +kernel)⟩
theorem lw_p4 : lw_okq (⟨"CrewShares", "tripAt", "(I)LCrewShares$Trip;"⟩, 9) := ⟨⟨by decide +kernel, by decide +kernel⟩, List.mem_of_getElem? (i := 17) (by decide +kernel), List.mem_of_getElem? (i := 382) (by decide +kernel), List.mem_of_getElem? (i := 383) (by decide +kernel)⟩
theorem lw_p5 : lw_okq (⟨"CrewShares$Trip", "bearLoss", "(LCrewShares$Rules;[J)V"⟩, 7) := ⟨⟨by decide +kernel, by decide +kernel⟩, List.mem_of_getElem? (i := 339) (by decide +kernel), List.mem_of_getElem? (i := 398) (by decide +kernel), List.mem_of_getElem? (i := 399) (by decide +kernel)⟩
theorem lw_p6 : lw_okq (⟨"CrewShares$Trip", "costsOff", "(LCrewShares$Rules;I)J"⟩, 7) := ⟨⟨by decide +kernel, by decide +kernel⟩, List.mem_of_getElem? (i := 339) (by decide +kernel), List.mem_of_getElem? (i := 402) (by decide +kernel), List.mem_of_getElem? (i := 403) (by decide +kernel)⟩
theorem lw_p7 : lw_okq (⟨"CrewShares$Trip", "partLeft", "(LCrewShares$Rules;LCrewShares$Parting;)V"⟩, 7) := ⟨⟨by decide +kernel, by decide +kernel⟩, List.mem_of_getElem? (i := 339) (by decide +kernel), List.mem_of_getElem? (i := 409) (by decide +kernel), List.mem_of_getElem? (i := 410) (by decide +kernel)⟩
theorem lw_p8 : lw_okq (⟨"CrewShares$Parting", "wholeWeight", "()J"⟩, 4) := ⟨⟨by decide +kernel, by decide +kernel⟩, List.mem_of_getElem? (i := 73) (by decide +kernel), List.mem_of_getElem? (i := 429) (by decide +kernel), List.mem_of_getElem? (i := 430) (by decide +kernel)⟩
theorem lw_p9 : lw_okq (⟨"CrewShares$Parting", "giveCents", "(J)V"⟩, 4) := ⟨⟨by decide +kernel, by decide +kernel⟩, List.mem_of_getElem? (i := 73) (by decide +kernel), List.mem_of_getElem? (i := 433) (by decide +kernel), List.mem_of_getElem? (i := 434) (by decide +kernel)⟩
theorem lw_p10 : lw_okq (⟨"CrewShares$Parting", "mostCut", "()I"⟩, 4) := ⟨⟨by decide +kernel, by decide +kernel⟩, List.mem_of_getElem? (i := 73) (by decide +kernel), List.mem_of_getElem? (i := 437) (by decide +kernel), List.mem_of_getElem? (i := 438) (by decide +kernel)⟩
theorem lw_p11 : lw_okq (⟨"CrewShares$Trip", "bearCosts", "(LCrewShares$Rules;)V"⟩, 7) := ⟨⟨by decide +kernel, by decide +kernel⟩, List.mem_of_getElem? (i := 339) (by decide +kernel), List.mem_of_getElem? (i := 442) (by decide +kernel), List.mem_of_getElem? (i := 443) (by decide +kernel)⟩
theorem lw_p12 : lw_okq (⟨"CrewShares$Trip", "shareCrewsPart", "(LCrewShares$Rules;LCrewShares$Crew;LCrewShares$Parting;)V"⟩, 7) := ⟨⟨by decide +kernel, by decide +kernel⟩, List.mem_of_getElem? (i := 339) (by decide +kernel), List.mem_of_getElem? (i := 449) (by decide +kernel), List.mem_of_getElem? (i := 450) (by decide +kernel)⟩
theorem lw_p13 : lw_okq (⟨"CrewShares$Trip", "topUp", "(II)V"⟩, 7) := ⟨⟨by decide +kernel, by decide +kernel⟩, List.mem_of_getElem? (i := 339) (by decide +kernel), List.mem_of_getElem? (i := 453) (by decide +kernel), List.mem_of_getElem? (i := 454) (by decide +kernel)⟩
theorem lw_p14 : lw_okq (⟨"CrewShares$Trip", "pay", "(ILCrewShares$Crew;)V"⟩, 7) := ⟨⟨by decide +kernel, by decide +kernel⟩, List.mem_of_getElem? (i := 339) (by decide +kernel), List.mem_of_getElem? (i := 457) (by decide +kernel), List.mem_of_getElem? (i := 458) (by decide +kernel)⟩
theorem lw_p15 : lw_okq (⟨"CrewShares$Trip", "hasOf", "(I)J"⟩, 7) := ⟨⟨by decide +kernel, by decide +kernel⟩, List.mem_of_getElem? (i := 339) (by decide +kernel), List.mem_of_getElem? (i := 461) (by decide +kernel), List.mem_of_getElem? (i := 462) (by decide +kernel)⟩
def lw_privs_1 : List (MethodName × Nat) := [(⟨"CrewShares$Rules", "forget", "()V"⟩, 4), (⟨"CrewShares$Rules", "takeSentence", "(LCrewShares$RulesText;)Z"⟩, 4), (⟨"CrewShares$Rules", "takePercent", "(LCrewShares$RulesText;II)Z"⟩, 4), (⟨"CrewShares", "tripToSettle", "(I)LCrewShares$Trip;"⟩, 9), (⟨"CrewShares", "tripAt", "(I)LCrewShares$Trip;"⟩, 9), (⟨"CrewShares$Trip", "bearLoss", "(LCrewShares$Rules;[J)V"⟩, 7), (⟨"CrewShares$Trip", "costsOff", "(LCrewShares$Rules;I)J"⟩, 7), (⟨"CrewShares$Trip", "partLeft", "(LCrewShares$Rules;LCrewShares$Parting;)V"⟩, 7), (⟨"CrewShares$Parting", "wholeWeight", "()J"⟩, 4), (⟨"CrewShares$Parting", "giveCents", "(J)V"⟩, 4), (⟨"CrewShares$Parting", "mostCut", "()I"⟩, 4), (⟨"CrewShares$Trip", "bearCosts", "(LCrewShares$Rules;)V"⟩, 7), (⟨"CrewShares$Trip", "shareCrewsPart", "(LCrewShares$Rules;LCrewShares$Crew;LCrewShares$Parting;)V"⟩, 7), (⟨"CrewShares$Trip", "topUp", "(II)V"⟩, 7), (⟨"CrewShares$Trip", "pay", "(ILCrewShares$Crew;)V"⟩, 7), (⟨"CrewShares$Trip", "hasOf", "(I)J"⟩, 7)]
theorem lw_r1 : ∀ q ∈ lw_privs_1, lw_okq q := List.forall_mem_cons.mpr ⟨lw_p0, List.forall_mem_cons.mpr ⟨lw_p1, List.forall_mem_cons.mpr ⟨lw_p2, List.forall_mem_cons.mpr ⟨lw_p3, List.forall_mem_cons.mpr ⟨lw_p4, List.forall_mem_cons.mpr ⟨lw_p5, List.forall_mem_cons.mpr ⟨lw_p6, List.forall_mem_cons.mpr ⟨lw_p7, List.forall_mem_cons.mpr ⟨lw_p8, List.forall_mem_cons.mpr ⟨lw_p9, List.forall_mem_cons.mpr ⟨lw_p10, List.forall_mem_cons.mpr ⟨lw_p11, List.forall_mem_cons.mpr ⟨lw_p12, List.forall_mem_cons.mpr ⟨lw_p13, List.forall_mem_cons.mpr ⟨lw_p14, List.forall_mem_cons.mpr ⟨lw_p15, fun _ h => absurd h List.not_mem_nil⟩⟩⟩⟩⟩⟩⟩⟩⟩⟩⟩⟩⟩⟩⟩⟩
theorem lw_p16 : lw_okq (⟨"CrewShares", "settledTrip", "(I)LCrewShares$Trip;"⟩, 9) := ⟨⟨by decide +kernel, by decide +kernel⟩, List.mem_of_getElem? (i := 17) (by decide +kernel), List.mem_of_getElem? (i := 473) (by decide +kernel), List.mem_of_getElem? (i := 474) (by decide +kernel)⟩
theorem lw_p17 : lw_okq (⟨"CrewShares$Book", "takesDay", "(I)Z"⟩, 5) := ⟨⟨by decide +kernel, by decide +kernel⟩, List.mem_of_getElem? (i := 93) (by decide +kernel), List.mem_of_getElem? (i := 503) (by decide +kernel), List.mem_of_getElem? (i := 504) (by decide +kernel)⟩
theorem lw_p18 : lw_okq (⟨"CrewShares$Book", "isClosed", "(I)Z"⟩, 5) := ⟨⟨by decide +kernel, by decide +kernel⟩, List.mem_of_getElem? (i := 93) (by decide +kernel), List.mem_of_getElem? (i := 507) (by decide +kernel), List.mem_of_getElem? (i := 508) (by decide +kernel)⟩
theorem lw_p19 : lw_okq (⟨"CrewShares$Book", "isFull", "()Z"⟩, 5) := ⟨⟨by decide +kernel, by decide +kernel⟩, List.mem_of_getElem? (i := 93) (by decide +kernel), List.mem_of_getElem? (i := 514) (by decide +kernel), List.mem_of_getElem? (i := 515) (by decide +kernel)⟩
theorem lw_p20 : lw_okq (⟨"CrewShares$Book", "putIn", "(LCrewShares$Entry;)I"⟩, 5) := ⟨⟨by decide +kernel, by decide +kernel⟩, List.mem_of_getElem? (i := 93) (by decide +kernel), List.mem_of_getElem? (i := 556) (by decide +kernel), List.mem_of_getElem? (i := 557) (by decide +kernel)⟩
theorem lw_p21 : lw_okq (⟨"CrewShares$Book", "entryAt", "(I)LCrewShares$Entry;"⟩, 5) := ⟨⟨by decide +kernel, by decide +kernel⟩, List.mem_of_getElem? (i := 93) (by decide +kernel), List.mem_of_getElem? (i := 588) (by decide +kernel), List.mem_of_getElem? (i := 589) (by decide +kernel)⟩
theorem lw_p22 : lw_okq (⟨"CrewSharesModel", "isNext", "()Z"⟩, 31) := ⟨⟨by decide +kernel, by decide +kernel⟩, List.mem_of_getElem? (i := 635) (by decide +kernel), List.mem_of_getElem? (i := 748) (by decide +kernel), List.mem_of_getElem? (i := 749) (by decide +kernel)⟩
theorem lw_p23 : lw_okq (⟨"CrewSharesModel", "isSentence", "()Z"⟩, 31) := ⟨⟨by decide +kernel, by decide +kernel⟩, List.mem_of_getElem? (i := 635) (by decide +kernel), List.mem_of_getElem? (i := 752) (by decide +kernel), List.mem_of_getElem? (i := 753) (by decide +kernel)⟩
theorem lw_p24 : lw_okq (⟨"CrewSharesModel", "isWord", "(JI)Z"⟩, 31) := ⟨⟨by decide +kernel, by decide +kernel⟩, List.mem_of_getElem? (i := 635) (by decide +kernel), List.mem_of_getElem? (i := 757) (by decide +kernel), List.mem_of_getElem? (i := 758) (by decide +kernel)⟩
theorem lw_p25 : lw_okq (⟨"CrewSharesModel", "number", "(I)I"⟩, 31) := ⟨⟨by decide +kernel, by decide +kernel⟩, List.mem_of_getElem? (i := 635) (by decide +kernel), List.mem_of_getElem? (i := 762) (by decide +kernel), List.mem_of_getElem? (i := 763) (by decide +kernel)⟩
theorem lw_p26 : lw_okq (⟨"CrewSharesModel", "isPerson", "(I)Z"⟩, 31) := ⟨⟨by decide +kernel, by decide +kernel⟩, List.mem_of_getElem? (i := 635) (by decide +kernel), List.mem_of_getElem? (i := 779) (by decide +kernel), List.mem_of_getElem? (i := 780) (by decide +kernel)⟩
theorem lw_p27 : lw_okq (⟨"CrewSharesModel", "isTrip", "(I)Z"⟩, 31) := ⟨⟨by decide +kernel, by decide +kernel⟩, List.mem_of_getElem? (i := 635) (by decide +kernel), List.mem_of_getElem? (i := 794) (by decide +kernel), List.mem_of_getElem? (i := 795) (by decide +kernel)⟩
theorem lw_p28 : lw_okq (⟨"CrewSharesModel", "costsOf", "(II)J"⟩, 31) := ⟨⟨by decide +kernel, by decide +kernel⟩, List.mem_of_getElem? (i := 635) (by decide +kernel), List.mem_of_getElem? (i := 807) (by decide +kernel), List.mem_of_getElem? (i := 808) (by decide +kernel)⟩
theorem lw_p29 : lw_okq (⟨"CrewSharesModel", "partByCents", "(JI)V"⟩, 31) := ⟨⟨by decide +kernel, by decide +kernel⟩, List.mem_of_getElem? (i := 635) (by decide +kernel), List.mem_of_getElem? (i := 811) (by decide +kernel), List.mem_of_getElem? (i := 812) (by decide +kernel)⟩
theorem lw_p30 : lw_okq (⟨"CrewSharesModel", "put", "(IIJ)V"⟩, 31) := ⟨⟨by decide +kernel, by decide +kernel⟩, List.mem_of_getElem? (i := 635) (by decide +kernel), List.mem_of_getElem? (i := 849) (by decide +kernel), List.mem_of_getElem? (i := 850) (by decide +kernel)⟩
def lw_privs_2 : List (MethodName × Nat) := [(⟨"CrewShares", "settledTrip", "(I)LCrewShares$Trip;"⟩, 9), (⟨"CrewShares$Book", "takesDay", "(I)Z"⟩, 5), (⟨"CrewShares$Book", "isClosed", "(I)Z"⟩, 5), (⟨"CrewShares$Book", "isFull", "()Z"⟩, 5), (⟨"CrewShares$Book", "putIn", "(LCrewShares$Entry;)I"⟩, 5), (⟨"CrewShares$Book", "entryAt", "(I)LCrewShares$Entry;"⟩, 5), (⟨"CrewSharesModel", "isNext", "()Z"⟩, 31), (⟨"CrewSharesModel", "isSentence", "()Z"⟩, 31), (⟨"CrewSharesModel", "isWord", "(JI)Z"⟩, 31), (⟨"CrewSharesModel", "number", "(I)I"⟩, 31), (⟨"CrewSharesModel", "isPerson", "(I)Z"⟩, 31), (⟨"CrewSharesModel", "isTrip", "(I)Z"⟩, 31), (⟨"CrewSharesModel", "costsOf", "(II)J"⟩, 31), (⟨"CrewSharesModel", "partByCents", "(JI)V"⟩, 31), (⟨"CrewSharesModel", "put", "(IIJ)V"⟩, 31)]
theorem lw_r2 : ∀ q ∈ lw_privs_2, lw_okq q := List.forall_mem_cons.mpr ⟨lw_p16, List.forall_mem_cons.mpr ⟨lw_p17, List.forall_mem_cons.mpr ⟨lw_p18, List.forall_mem_cons.mpr ⟨lw_p19, List.forall_mem_cons.mpr ⟨lw_p20, List.forall_mem_cons.mpr ⟨lw_p21, List.forall_mem_cons.mpr ⟨lw_p22, List.forall_mem_cons.mpr ⟨lw_p23, List.forall_mem_cons.mpr ⟨lw_p24, List.forall_mem_cons.mpr ⟨lw_p25, List.forall_mem_cons.mpr ⟨lw_p26, List.forall_mem_cons.mpr ⟨lw_p27, List.forall_mem_cons.mpr ⟨lw_p28, List.forall_mem_cons.mpr ⟨lw_p29, List.forall_mem_cons.mpr ⟨lw_p30, fun _ h => absurd h List.not_mem_nil⟩⟩⟩⟩⟩⟩⟩⟩⟩⟩⟩⟩⟩⟩⟩
def lw_privs : List (MethodName × Nat) := lw_privs_1 ++ (lw_privs_2)
def lw_tbl : List Cond := k2_sels lw_privs ++ tables_1
theorem lw_privs_ok : ∀ q ∈ lw_privs, lw_okq q := by
  show ∀ q ∈ lw_privs_1 ++ (lw_privs_2), lw_okq q
  exact List.forall_mem_append.mpr ⟨lw_r1, lw_r2⟩
def RX0 : String := "CrewShares$Book"
def TX0 : u_T := fun k => match k with
  | 0 => ("CrewShares$Book", "entries", "[LCrewShares$Entry;", true)
  | 1 => ("CrewShares$Book", "size", "I", false)
  | 2 => ("CrewShares$Book", "draft", "LCrewShares$Entry;", false)
  | 3 => ("CrewShares$Book", "isOpen", "Z", false)
  | _ => ("CrewShares$Book", "closedMonths", "I", false)
def tyX0 : Nat → FieldType := fun k => match k with
  | 0 => .array (.object "CrewShares$Entry")
  | 1 => .int
  | 2 => .object "CrewShares$Entry"
  | 3 => .boolean
  | _ => .int
theorem nmX0 : ∀ a, a < 5 → ∀ b, b < 5 → a ≠ b → (TX0 a).2.1 ≠ (TX0 b).2.1 := by decide +kernel
theorem tyX0_ok : ∀ k, k < 5 → parseFieldDescriptor (TX0 k).2.2.1 = some (tyX0 k) := by decide +kernel
abbrev cX0_init : ByteArray := prog_2_method_1_code
def yX0_init : MethodName := ⟨RX0, "<init>", "()V"⟩
abbrev cX0_begin : ByteArray := prog_2_method_2_code
def yX0_begin : MethodName := ⟨RX0, "begin", "(I)Z"⟩
abbrev cX0_addRow : ByteArray := prog_2_method_3_code
def yX0_addRow : MethodName := ⟨RX0, "addRow", "(IJ)I"⟩
abbrev cX0_takeIn : ByteArray := prog_2_method_4_code
def yX0_takeIn : MethodName := ⟨RX0, "takeIn", "()I"⟩
abbrev cX0_giveUp : ByteArray := prog_2_method_5_code
def yX0_giveUp : MethodName := ⟨RX0, "giveUp", "()I"⟩
abbrev cX0_closeUpTo : ByteArray := prog_2_method_6_code
def yX0_closeUpTo : MethodName := ⟨RX0, "closeUpTo", "(I)I"⟩
abbrev cX0_takeBack : ByteArray := prog_2_method_7_code
def yX0_takeBack : MethodName := ⟨RX0, "takeBack", "(II)I"⟩
abbrev cX0_totalOf : ByteArray := prog_2_method_8_code
def yX0_totalOf : MethodName := ⟨RX0, "totalOf", "(II)J"⟩
abbrev cX0_tell : ByteArray := prog_2_method_9_code
def yX0_tell : MethodName := ⟨RX0, "tell", "(III)J"⟩
abbrev cX0_putIn : ByteArray := prog_2_method_10_code
def yX0_putIn : MethodName := ⟨RX0, "putIn", "(LCrewShares$Entry;)I"⟩
abbrev cX0_entryAt : ByteArray := prog_2_method_11_code
def yX0_entryAt : MethodName := ⟨RX0, "entryAt", "(I)LCrewShares$Entry;"⟩
abbrev cX0_isFull : ByteArray := prog_2_method_12_code
def yX0_isFull : MethodName := ⟨RX0, "isFull", "()Z"⟩
abbrev cX0_takesDay : ByteArray := prog_2_method_13_code
def yX0_takesDay : MethodName := ⟨RX0, "takesDay", "(I)Z"⟩
abbrev cX0_isClosed : ByteArray := prog_2_method_14_code
def yX0_isClosed : MethodName := ⟨RX0, "isClosed", "(I)Z"⟩
abbrev cX0_monthOf : ByteArray := prog_2_method_15_code
def yX0_monthOf : MethodName := ⟨RX0, "monthOf", "(I)I"⟩
abbrev cX0_isMonth : ByteArray := prog_2_method_16_code
def yX0_isMonth : MethodName := ⟨RX0, "isMonth", "(I)Z"⟩
abbrev cX0_isAccount : ByteArray := prog_2_method_17_code
def yX0_isAccount : MethodName := ⟨RX0, "isAccount", "(I)Z"⟩
def RX1 : String := "CrewShares$Crew"
def TX1 : u_T := fun k => match k with
  | 0 => ("CrewShares$Crew", "roles", "[I", true)
  | 1 => ("CrewShares$Crew", "advances", "[J", true)
  | _ => ("CrewShares$Crew", "size", "I", false)
def tyX1 : Nat → FieldType := fun k => match k with
  | 0 => .array .int
  | 1 => .array .long
  | _ => .int
theorem nmX1 : ∀ a, a < 3 → ∀ b, b < 3 → a ≠ b → (TX1 a).2.1 ≠ (TX1 b).2.1 := by decide +kernel
theorem tyX1_ok : ∀ k, k < 3 → parseFieldDescriptor (TX1 k).2.2.1 = some (tyX1 k) := by decide +kernel
abbrev cX1_init : ByteArray := prog_3_method_1_code
def yX1_init : MethodName := ⟨RX1, "<init>", "()V"⟩
abbrev cX1_join : ByteArray := prog_3_method_2_code
def yX1_join : MethodName := ⟨RX1, "join", "(I)I"⟩
abbrev cX1_has : ByteArray := prog_3_method_3_code
def yX1_has : MethodName := ⟨RX1, "has", "(I)Z"⟩
def RX2 : String := "CrewShares$Entry"
def TX2 : u_T := fun k => match k with
  | 0 => ("CrewShares$Entry", "accounts", "[I", true)
  | 1 => ("CrewShares$Entry", "amounts", "[J", true)
  | 2 => ("CrewShares$Entry", "size", "I", false)
  | 3 => ("CrewShares$Entry", "day", "I", false)
  | 4 => ("CrewShares$Entry", "takesBack", "I", false)
  | _ => ("CrewShares$Entry", "takenBackBy", "I", false)
def tyX2 : Nat → FieldType := fun k => match k with
  | 0 => .array .int
  | 1 => .array .long
  | 2 => .int
  | 3 => .int
  | 4 => .int
  | _ => .int
theorem nmX2 : ∀ a, a < 6 → ∀ b, b < 6 → a ≠ b → (TX2 a).2.1 ≠ (TX2 b).2.1 := by decide +kernel
theorem tyX2_ok : ∀ k, k < 6 → parseFieldDescriptor (TX2 k).2.2.1 = some (tyX2 k) := by decide +kernel
abbrev cX2_init : ByteArray := prog_4_method_1_code
def yX2_init : MethodName := ⟨RX2, "<init>", "()V"⟩
abbrev cX2_startOn : ByteArray := prog_4_method_2_code
def yX2_startOn : MethodName := ⟨RX2, "startOn", "(I)V"⟩
abbrev cX2_isFull : ByteArray := prog_4_method_3_code
def yX2_isFull : MethodName := ⟨RX2, "isFull", "()Z"⟩
abbrev cX2_add : ByteArray := prog_4_method_4_code
def yX2_add : MethodName := ⟨RX2, "add", "(IJ)V"⟩
abbrev cX2_addReversed : ByteArray := prog_4_method_5_code
def yX2_addReversed : MethodName := ⟨RX2, "addReversed", "(LCrewShares$Entry;)V"⟩
abbrev cX2_isTakenBack : ByteArray := prog_4_method_6_code
def yX2_isTakenBack : MethodName := ⟨RX2, "isTakenBack", "()Z"⟩
abbrev cX2_takesOneBack : ByteArray := prog_4_method_7_code
def yX2_takesOneBack : MethodName := ⟨RX2, "takesOneBack", "()Z"⟩
abbrev cX2_total : ByteArray := prog_4_method_8_code
def yX2_total : MethodName := ⟨RX2, "total", "()J"⟩
abbrev cX2_totalOf : ByteArray := prog_4_method_9_code
def yX2_totalOf : MethodName := ⟨RX2, "totalOf", "(I)J"⟩
abbrev cX2_tellHead : ByteArray := prog_4_method_10_code
def yX2_tellHead : MethodName := ⟨RX2, "tellHead", "(I)J"⟩
abbrev cX2_tellRow : ByteArray := prog_4_method_11_code
def yX2_tellRow : MethodName := ⟨RX2, "tellRow", "(II)J"⟩
def RX3 : String := "CrewShares$Parting"
def TX3 : u_T := fun k => match k with
  | 0 => ("CrewShares$Parting", "weights", "[J", true)
  | 1 => ("CrewShares$Parting", "shares", "[J", true)
  | 2 => ("CrewShares$Parting", "cuts", "[J", true)
  | _ => ("CrewShares$Parting", "size", "I", false)
def tyX3 : Nat → FieldType := fun k => match k with
  | 0 => .array .long
  | 1 => .array .long
  | 2 => .array .long
  | _ => .int
theorem nmX3 : ∀ a, a < 4 → ∀ b, b < 4 → a ≠ b → (TX3 a).2.1 ≠ (TX3 b).2.1 := by decide +kernel
theorem tyX3_ok : ∀ k, k < 4 → parseFieldDescriptor (TX3 k).2.2.1 = some (tyX3 k) := by decide +kernel
abbrev cX3_init : ByteArray := prog_5_method_1_code
def yX3_init : MethodName := ⟨RX3, "<init>", "()V"⟩
abbrev cX3_clear : ByteArray := prog_5_method_2_code
def yX3_clear : MethodName := ⟨RX3, "clear", "()V"⟩
abbrev cX3_add : ByteArray := prog_5_method_3_code
def yX3_add : MethodName := ⟨RX3, "add", "(J)V"⟩
abbrev cX3_divide : ByteArray := prog_5_method_4_code
def yX3_divide : MethodName := ⟨RX3, "divide", "(J)Z"⟩
abbrev cX3_wholeWeight : ByteArray := prog_5_method_5_code
def yX3_wholeWeight : MethodName := ⟨RX3, "wholeWeight", "()J"⟩
abbrev cX3_giveCents : ByteArray := prog_5_method_6_code
def yX3_giveCents : MethodName := ⟨RX3, "giveCents", "(J)V"⟩
abbrev cX3_mostCut : ByteArray := prog_5_method_7_code
def yX3_mostCut : MethodName := ⟨RX3, "mostCut", "()I"⟩
def RX4 : String := "CrewShares$Rules"
def TX4 : u_T := fun k => match k with
  | 0 => ("CrewShares$Rules", "percents", "[I", true)
  | 1 => ("CrewShares$Rules", "places", "[I", true)
  | 2 => ("CrewShares$Rules", "weights", "[I", true)
  | _ => ("CrewShares$Rules", "leasts", "[I", true)
def tyX4 : Nat → FieldType := fun k => match k with
  | 0 => .array .int
  | 1 => .array .int
  | 2 => .array .int
  | _ => .array .int
theorem nmX4 : ∀ a, a < 4 → ∀ b, b < 4 → a ≠ b → (TX4 a).2.1 ≠ (TX4 b).2.1 := by decide +kernel
theorem tyX4_ok : ∀ k, k < 4 → parseFieldDescriptor (TX4 k).2.2.1 = some (tyX4 k) := by decide +kernel
abbrev cX4_init : ByteArray := prog_6_method_1_code
def yX4_init : MethodName := ⟨RX4, "<init>", "()V"⟩
abbrev cX4_forget : ByteArray := prog_6_method_2_code
def yX4_forget : MethodName := ⟨RX4, "forget", "()V"⟩
abbrev cX4_takeText : ByteArray := prog_6_method_3_code
def yX4_takeText : MethodName := ⟨RX4, "takeText", "(LCrewShares$RulesText;)I"⟩
abbrev cX4_takeSentence : ByteArray := prog_6_method_4_code
def yX4_takeSentence : MethodName := ⟨RX4, "takeSentence", "(LCrewShares$RulesText;)Z"⟩
abbrev cX4_takePercent : ByteArray := prog_6_method_5_code
def yX4_takePercent : MethodName := ⟨RX4, "takePercent", "(LCrewShares$RulesText;II)Z"⟩
abbrev cX4_takeValue : ByteArray := prog_6_method_6_code
def yX4_takeValue : MethodName := ⟨RX4, "takeValue", "(LCrewShares$RulesText;[II)Z"⟩
abbrev cX4_percentOf : ByteArray := prog_6_method_7_code
def yX4_percentOf : MethodName := ⟨RX4, "percentOf", "(I)I"⟩
def RX5 : String := "CrewShares$RulesText"
def TX5 : u_T := fun k => match k with
  | 0 => ("CrewShares$RulesText", "bytes", "[C", true)
  | 1 => ("CrewShares$RulesText", "length", "I", false)
  | 2 => ("CrewShares$RulesText", "wordStart", "I", false)
  | 3 => ("CrewShares$RulesText", "wordEnd", "I", false)
  | _ => ("CrewShares$RulesText", "wordNumber", "I", false)
def tyX5 : Nat → FieldType := fun k => match k with
  | 0 => .array .char
  | 1 => .int
  | 2 => .int
  | 3 => .int
  | _ => .int
theorem nmX5 : ∀ a, a < 5 → ∀ b, b < 5 → a ≠ b → (TX5 a).2.1 ≠ (TX5 b).2.1 := by decide +kernel
theorem tyX5_ok : ∀ k, k < 5 → parseFieldDescriptor (TX5 k).2.2.1 = some (tyX5 k) := by decide +kernel
abbrev cX5_init : ByteArray := prog_7_method_1_code
def yX5_init : MethodName := ⟨RX5, "<init>", "()V"⟩
abbrev cX5_append : ByteArray := prog_7_method_2_code
def yX5_append : MethodName := ⟨RX5, "append", "(I)Z"⟩
abbrev cX5_empty : ByteArray := prog_7_method_3_code
def yX5_empty : MethodName := ⟨RX5, "empty", "()V"⟩
abbrev cX5_rewind : ByteArray := prog_7_method_4_code
def yX5_rewind : MethodName := ⟨RX5, "rewind", "()V"⟩
abbrev cX5_nextWord : ByteArray := prog_7_method_5_code
def yX5_nextWord : MethodName := ⟨RX5, "nextWord", "()Z"⟩
abbrev cX5_wordIs : ByteArray := prog_7_method_6_code
def yX5_wordIs : MethodName := ⟨RX5, "wordIs", "(Ljava/lang/String;)Z"⟩
abbrev cX5_nextNumber : ByteArray := prog_7_method_7_code
def yX5_nextNumber : MethodName := ⟨RX5, "nextNumber", "(I)I"⟩
abbrev cX5_isGap : ByteArray := prog_7_method_8_code
def yX5_isGap : MethodName := ⟨RX5, "isGap", "(C)Z"⟩
def RX6 : String := "CrewShares$Trip"
def TX6 : u_T := fun k => match k with
  | 0 => ("CrewShares$Trip", "ship", "I", true)
  | 1 => ("CrewShares$Trip", "sales", "J", true)
  | 2 => ("CrewShares$Trip", "costs", "[J", true)
  | 3 => ("CrewShares$Trip", "daysOf", "[I", true)
  | 4 => ("CrewShares$Trip", "parts", "[J", true)
  | 5 => ("CrewShares$Trip", "shares", "[[J", true)
  | _ => ("CrewShares$Trip", "settled", "Z", false)
def tyX6 : Nat → FieldType := fun k => match k with
  | 0 => .int
  | 1 => .long
  | 2 => .array .long
  | 3 => .array .int
  | 4 => .array .long
  | 5 => .array (.array .long)
  | _ => .boolean
theorem nmX6 : ∀ a, a < 7 → ∀ b, b < 7 → a ≠ b → (TX6 a).2.1 ≠ (TX6 b).2.1 := by decide +kernel
theorem tyX6_ok : ∀ k, k < 7 → parseFieldDescriptor (TX6 k).2.2.1 = some (tyX6 k) := by decide +kernel
abbrev cX6_init : ByteArray := prog_8_method_1_code
def yX6_init : MethodName := ⟨RX6, "<init>", "(IJ)V"⟩
abbrev cX6_shareOut : ByteArray := prog_8_method_2_code
def yX6_shareOut : MethodName := ⟨RX6, "shareOut", "(LCrewShares$Rules;LCrewShares$Crew;[JLCrewShares$Parting;)V"⟩
abbrev cX6_bearLoss : ByteArray := prog_8_method_3_code
def yX6_bearLoss : MethodName := ⟨RX6, "bearLoss", "(LCrewShares$Rules;[J)V"⟩
abbrev cX6_partLeft : ByteArray := prog_8_method_4_code
def yX6_partLeft : MethodName := ⟨RX6, "partLeft", "(LCrewShares$Rules;LCrewShares$Parting;)V"⟩
abbrev cX6_bearCosts : ByteArray := prog_8_method_5_code
def yX6_bearCosts : MethodName := ⟨RX6, "bearCosts", "(LCrewShares$Rules;)V"⟩
abbrev cX6_shareCrewsPart : ByteArray := prog_8_method_6_code
def yX6_shareCrewsPart : MethodName := ⟨RX6, "shareCrewsPart", "(LCrewShares$Rules;LCrewShares$Crew;LCrewShares$Parting;)V"⟩
abbrev cX6_topUp : ByteArray := prog_8_method_7_code
def yX6_topUp : MethodName := ⟨RX6, "topUp", "(II)V"⟩
abbrev cX6_pay : ByteArray := prog_8_method_8_code
def yX6_pay : MethodName := ⟨RX6, "pay", "(ILCrewShares$Crew;)V"⟩
abbrev cX6_hasOf : ByteArray := prog_8_method_9_code
def yX6_hasOf : MethodName := ⟨RX6, "hasOf", "(I)J"⟩
abbrev cX6_costsOff : ByteArray := prog_8_method_10_code
def yX6_costsOff : MethodName := ⟨RX6, "costsOff", "(LCrewShares$Rules;I)J"⟩
abbrev cX6_countAboard : ByteArray := prog_8_method_11_code
def yX6_countAboard : MethodName := ⟨RX6, "countAboard", "()I"⟩
abbrev cX6_isEven : ByteArray := prog_8_method_12_code
def yX6_isEven : MethodName := ⟨RX6, "isEven", "()Z"⟩
def RX7 : String := "CrewShares"
def TX7 : u_T := fun k => match k with
  | 0 => ("CrewShares", "text", "LCrewShares$RulesText;", true)
  | 1 => ("CrewShares", "crew", "LCrewShares$Crew;", true)
  | 2 => ("CrewShares", "losses", "[J", true)
  | 3 => ("CrewShares", "trips", "[LCrewShares$Trip;", true)
  | 4 => ("CrewShares", "parting", "LCrewShares$Parting;", true)
  | 5 => ("CrewShares", "book", "LCrewShares$Book;", true)
  | 6 => ("CrewShares", "rules", "LCrewShares$Rules;", false)
  | 7 => ("CrewShares", "draft", "LCrewShares$Rules;", false)
  | _ => ("CrewShares", "tripCount", "I", false)
def tyX7 : Nat → FieldType := fun k => match k with
  | 0 => .object "CrewShares$RulesText"
  | 1 => .object "CrewShares$Crew"
  | 2 => .array .long
  | 3 => .array (.object "CrewShares$Trip")
  | 4 => .object "CrewShares$Parting"
  | 5 => .object "CrewShares$Book"
  | 6 => .object "CrewShares$Rules"
  | 7 => .object "CrewShares$Rules"
  | _ => .int
theorem nmX7 : ∀ a, a < 9 → ∀ b, b < 9 → a ≠ b → (TX7 a).2.1 ≠ (TX7 b).2.1 := by decide +kernel
theorem tyX7_ok : ∀ k, k < 9 → parseFieldDescriptor (TX7 k).2.2.1 = some (tyX7 k) := by decide +kernel
abbrev cX7_init : ByteArray := prog_1_method_1_code
def yX7_init : MethodName := ⟨RX7, "<init>", "()V"⟩
abbrev cX7_unit : ByteArray := prog_1_method_2_code
def yX7_unit : MethodName := ⟨RX7, "unit", "(I)Z"⟩
abbrev cX7_read : ByteArray := prog_1_method_3_code
def yX7_read : MethodName := ⟨RX7, "read", "()I"⟩
abbrev cX7_person : ByteArray := prog_1_method_4_code
def yX7_person : MethodName := ⟨RX7, "person", "(I)I"⟩
abbrev cX7_advance : ByteArray := prog_1_method_5_code
def yX7_advance : MethodName := ⟨RX7, "advance", "(IJ)Z"⟩
abbrev cX7_trip : ByteArray := prog_1_method_6_code
def yX7_trip : MethodName := ⟨RX7, "trip", "(IJ)I"⟩
abbrev cX7_cost : ByteArray := prog_1_method_7_code
def yX7_cost : MethodName := ⟨RX7, "cost", "(IIJ)Z"⟩
abbrev cX7_days : ByteArray := prog_1_method_8_code
def yX7_days : MethodName := ⟨RX7, "days", "(III)I"⟩
abbrev cX7_settle : ByteArray := prog_1_method_9_code
def yX7_settle : MethodName := ⟨RX7, "settle", "(I)I"⟩
abbrev cX7_part : ByteArray := prog_1_method_10_code
def yX7_part : MethodName := ⟨RX7, "part", "(II)J"⟩
abbrev cX7_share : ByteArray := prog_1_method_11_code
def yX7_share : MethodName := ⟨RX7, "share", "(III)J"⟩
abbrev cX7_carried : ByteArray := prog_1_method_12_code
def yX7_carried : MethodName := ⟨RX7, "carried", "(I)J"⟩
abbrev cX7_sums : ByteArray := prog_1_method_13_code
def yX7_sums : MethodName := ⟨RX7, "sums", "(I)Z"⟩
abbrev cX7_open : ByteArray := prog_1_method_14_code
def yX7_open : MethodName := ⟨RX7, "open", "(I)Z"⟩
abbrev cX7_row : ByteArray := prog_1_method_15_code
def yX7_row : MethodName := ⟨RX7, "row", "(IJ)I"⟩
abbrev cX7_enter : ByteArray := prog_1_method_16_code
def yX7_enter : MethodName := ⟨RX7, "enter", "()I"⟩
abbrev cX7_drop : ByteArray := prog_1_method_17_code
def yX7_drop : MethodName := ⟨RX7, "drop", "()I"⟩
abbrev cX7_closeMonth : ByteArray := prog_1_method_18_code
def yX7_closeMonth : MethodName := ⟨RX7, "closeMonth", "(I)I"⟩
abbrev cX7_correct : ByteArray := prog_1_method_19_code
def yX7_correct : MethodName := ⟨RX7, "correct", "(II)I"⟩
abbrev cX7_balance : ByteArray := prog_1_method_20_code
def yX7_balance : MethodName := ⟨RX7, "balance", "(II)J"⟩
abbrev cX7_entry : ByteArray := prog_1_method_21_code
def yX7_entry : MethodName := ⟨RX7, "entry", "(III)J"⟩
abbrev cX7_areCents : ByteArray := prog_1_method_22_code
def yX7_areCents : MethodName := ⟨RX7, "areCents", "(J)Z"⟩
abbrev cX7_tripAt : ByteArray := prog_1_method_23_code
def yX7_tripAt : MethodName := ⟨RX7, "tripAt", "(I)LCrewShares$Trip;"⟩
abbrev cX7_tripToSettle : ByteArray := prog_1_method_24_code
def yX7_tripToSettle : MethodName := ⟨RX7, "tripToSettle", "(I)LCrewShares$Trip;"⟩
abbrev cX7_settledTrip : ByteArray := prog_1_method_25_code
def yX7_settledTrip : MethodName := ⟨RX7, "settledTrip", "(I)LCrewShares$Trip;"⟩
def RX8 : String := "CrewSharesModel"
def TX8 : u_T := fun k => match k with
  | 0 => ("CrewSharesModel", "text", "[I", true)
  | 1 => ("CrewSharesModel", "size", "I", false)
  | 2 => ("CrewSharesModel", "rules", "[I", true)
  | 3 => ("CrewSharesModel", "fresh", "[I", true)
  | 4 => ("CrewSharesModel", "at", "I", false)
  | 5 => ("CrewSharesModel", "from", "I", false)
  | 6 => ("CrewSharesModel", "words", "I", false)
  | 7 => ("CrewSharesModel", "losses", "[J", true)
  | 8 => ("CrewSharesModel", "persons", "I", false)
  | 9 => ("CrewSharesModel", "roles", "[I", true)
  | 10 => ("CrewSharesModel", "advances", "[J", true)
  | 11 => ("CrewSharesModel", "trips", "I", false)
  | 12 => ("CrewSharesModel", "ships", "[I", true)
  | 13 => ("CrewSharesModel", "sales", "[J", true)
  | 14 => ("CrewSharesModel", "costs", "[J", true)
  | 15 => ("CrewSharesModel", "days", "[I", true)
  | 16 => ("CrewSharesModel", "settled", "[Z", true)
  | 17 => ("CrewSharesModel", "parts", "[J", true)
  | 18 => ("CrewSharesModel", "shares", "[J", true)
  | 19 => ("CrewSharesModel", "weights", "[J", true)
  | 20 => ("CrewSharesModel", "gets", "[J", true)
  | 21 => ("CrewSharesModel", "rests", "[J", true)
  | 22 => ("CrewSharesModel", "entries", "I", false)
  | 23 => ("CrewSharesModel", "isOpen", "Z", false)
  | 24 => ("CrewSharesModel", "entryDay", "[I", true)
  | 25 => ("CrewSharesModel", "entryRows", "[I", true)
  | 26 => ("CrewSharesModel", "takes", "[I", true)
  | 27 => ("CrewSharesModel", "takenBy", "[I", true)
  | 28 => ("CrewSharesModel", "accounts", "[I", true)
  | 29 => ("CrewSharesModel", "amounts", "[J", true)
  | _ => ("CrewSharesModel", "closed", "I", false)
def tyX8 : Nat → FieldType := fun k => match k with
  | 0 => .array .int
  | 1 => .int
  | 2 => .array .int
  | 3 => .array .int
  | 4 => .int
  | 5 => .int
  | 6 => .int
  | 7 => .array .long
  | 8 => .int
  | 9 => .array .int
  | 10 => .array .long
  | 11 => .int
  | 12 => .array .int
  | 13 => .array .long
  | 14 => .array .long
  | 15 => .array .int
  | 16 => .array .boolean
  | 17 => .array .long
  | 18 => .array .long
  | 19 => .array .long
  | 20 => .array .long
  | 21 => .array .long
  | 22 => .int
  | 23 => .boolean
  | 24 => .array .int
  | 25 => .array .int
  | 26 => .array .int
  | 27 => .array .int
  | 28 => .array .int
  | 29 => .array .long
  | _ => .int
theorem nmX8 : ∀ a, a < 31 → ∀ b, b < 31 → a ≠ b → (TX8 a).2.1 ≠ (TX8 b).2.1 := by decide +kernel
theorem tyX8_ok : ∀ k, k < 31 → parseFieldDescriptor (TX8 k).2.2.1 = some (tyX8 k) := by decide +kernel
abbrev cX8_init : ByteArray := prog_10_method_1_code
def yX8_init : MethodName := ⟨RX8, "<init>", "()V"⟩
abbrev cX8_within : ByteArray := prog_10_method_2_code
def yX8_within : MethodName := ⟨RX8, "within", "(JJJ)Z"⟩
abbrev cX8_unit : ByteArray := prog_10_method_3_code
def yX8_unit : MethodName := ⟨RX8, "unit", "(I)Z"⟩
abbrev cX8_isNext : ByteArray := prog_10_method_4_code
def yX8_isNext : MethodName := ⟨RX8, "isNext", "()Z"⟩
abbrev cX8_isWord : ByteArray := prog_10_method_5_code
def yX8_isWord : MethodName := ⟨RX8, "isWord", "(JI)Z"⟩
abbrev cX8_number : ByteArray := prog_10_method_6_code
def yX8_number : MethodName := ⟨RX8, "number", "(I)I"⟩
abbrev cX8_isSentence : ByteArray := prog_10_method_7_code
def yX8_isSentence : MethodName := ⟨RX8, "isSentence", "()Z"⟩
abbrev cX8_read : ByteArray := prog_10_method_8_code
def yX8_read : MethodName := ⟨RX8, "read", "()I"⟩
abbrev cX8_isPerson : ByteArray := prog_10_method_9_code
def yX8_isPerson : MethodName := ⟨RX8, "isPerson", "(I)Z"⟩
abbrev cX8_isTrip : ByteArray := prog_10_method_10_code
def yX8_isTrip : MethodName := ⟨RX8, "isTrip", "(I)Z"⟩
abbrev cX8_person : ByteArray := prog_10_method_11_code
def yX8_person : MethodName := ⟨RX8, "person", "(I)I"⟩
abbrev cX8_advance : ByteArray := prog_10_method_12_code
def yX8_advance : MethodName := ⟨RX8, "advance", "(IJ)Z"⟩
abbrev cX8_trip : ByteArray := prog_10_method_13_code
def yX8_trip : MethodName := ⟨RX8, "trip", "(IJ)I"⟩
abbrev cX8_cost : ByteArray := prog_10_method_14_code
def yX8_cost : MethodName := ⟨RX8, "cost", "(IIJ)Z"⟩
abbrev cX8_days : ByteArray := prog_10_method_15_code
def yX8_days : MethodName := ⟨RX8, "days", "(III)I"⟩
abbrev cX8_costsOf : ByteArray := prog_10_method_16_code
def yX8_costsOf : MethodName := ⟨RX8, "costsOf", "(II)J"⟩
abbrev cX8_partByCents : ByteArray := prog_10_method_17_code
def yX8_partByCents : MethodName := ⟨RX8, "partByCents", "(JI)V"⟩
abbrev cX8_settle : ByteArray := prog_10_method_18_code
def yX8_settle : MethodName := ⟨RX8, "settle", "(I)I"⟩
abbrev cX8_part : ByteArray := prog_10_method_19_code
def yX8_part : MethodName := ⟨RX8, "part", "(II)J"⟩
abbrev cX8_share : ByteArray := prog_10_method_20_code
def yX8_share : MethodName := ⟨RX8, "share", "(III)J"⟩
abbrev cX8_carried : ByteArray := prog_10_method_21_code
def yX8_carried : MethodName := ⟨RX8, "carried", "(I)J"⟩
abbrev cX8_sums : ByteArray := prog_10_method_22_code
def yX8_sums : MethodName := ⟨RX8, "sums", "(I)Z"⟩
abbrev cX8_open : ByteArray := prog_10_method_23_code
def yX8_open : MethodName := ⟨RX8, "open", "(I)Z"⟩
abbrev cX8_row : ByteArray := prog_10_method_24_code
def yX8_row : MethodName := ⟨RX8, "row", "(IJ)I"⟩
abbrev cX8_enter : ByteArray := prog_10_method_25_code
def yX8_enter : MethodName := ⟨RX8, "enter", "()I"⟩
abbrev cX8_put : ByteArray := prog_10_method_26_code
def yX8_put : MethodName := ⟨RX8, "put", "(IIJ)V"⟩
abbrev cX8_drop : ByteArray := prog_10_method_27_code
def yX8_drop : MethodName := ⟨RX8, "drop", "()I"⟩
abbrev cX8_closeMonth : ByteArray := prog_10_method_28_code
def yX8_closeMonth : MethodName := ⟨RX8, "closeMonth", "(I)I"⟩
abbrev cX8_correct : ByteArray := prog_10_method_29_code
def yX8_correct : MethodName := ⟨RX8, "correct", "(II)I"⟩
abbrev cX8_balance : ByteArray := prog_10_method_30_code
def yX8_balance : MethodName := ⟨RX8, "balance", "(II)J"⟩
abbrev cX8_entry : ByteArray := prog_10_method_31_code
def yX8_entry : MethodName := ⟨RX8, "entry", "(III)J"⟩
def RJ9 : String := "java/lang/Math"
def TJ9 : u_T := fun k => match k with
  | _ => ("", "", "", false)
def tyJ9 : Nat → FieldType := fun k => match k with
  | _ => .int
theorem nmJ9 : ∀ a, a < 0 → ∀ b, b < 0 → a ≠ b → (TJ9 a).2.1 ≠ (TJ9 b).2.1 := by decide +kernel
theorem tyJ9_ok : ∀ k, k < 0 → parseFieldDescriptor (TJ9 k).2.2.1 = some (tyJ9 k) := by decide +kernel
abbrev cJ9_max_7cf53 : ByteArray := prog_11_method_65_code
def yJ9_max_7cf53 : MethodName := ⟨RJ9, "max", "(II)I"⟩
abbrev cJ9_max_f86c9 : ByteArray := prog_11_method_66_code
def yJ9_max_f86c9 : MethodName := ⟨RJ9, "max", "(JJ)J"⟩
abbrev cJ9_min_f86c9 : ByteArray := prog_11_method_70_code
def yJ9_min_f86c9 : MethodName := ⟨RJ9, "min", "(JJ)J"⟩
def RJ0 : String := "java/lang/String"
def TJ0 : u_T := fun k => match k with
  | _ => ("", "", "", false)
def tyJ0 : Nat → FieldType := fun k => match k with
  | _ => .int
theorem nmJ0 : ∀ a, a < 0 → ∀ b, b < 0 → a ≠ b → (TJ0 a).2.1 ≠ (TJ0 b).2.1 := by decide +kernel
theorem tyJ0_ok : ∀ k, k < 0 → parseFieldDescriptor (TJ0 k).2.2.1 = some (tyJ0 k) := by decide +kernel
abbrev cJ0_length_8abf5 : ByteArray := prog_12_method_54_code
def yJ0_length_8abf5 : MethodName := ⟨RJ0, "length", "()I"⟩
abbrev cJ0_charAt_5068e : ByteArray := prog_12_method_56_code
def yJ0_charAt_5068e : MethodName := ⟨RJ0, "charAt", "(I)C"⟩
abbrev cJ0_coder_7d493 : ByteArray := prog_12_method_152_code
def yJ0_coder_7d493 : MethodName := ⟨RJ0, "coder", "()B"⟩
abbrev cJ0_isLatin1_aae02 : ByteArray := prog_12_method_154_code
def yJ0_isLatin1_aae02 : MethodName := ⟨RJ0, "isLatin1", "()Z"⟩
abbrev cJ0_checkIndex_df160 : ByteArray := prog_12_method_155_code
def yJ0_checkIndex_df160 : MethodName := ⟨RJ0, "checkIndex", "(II)V"⟩
def RJ1 : String := "java/lang/StringLatin1"
def TJ1 : u_T := fun k => match k with
  | _ => ("", "", "", false)
def tyJ1 : Nat → FieldType := fun k => match k with
  | _ => .int
theorem nmJ1 : ∀ a, a < 0 → ∀ b, b < 0 → a ≠ b → (TJ1 a).2.1 ≠ (TJ1 b).2.1 := by decide +kernel
theorem tyJ1_ok : ∀ k, k < 0 → parseFieldDescriptor (TJ1 k).2.2.1 = some (tyJ1 k) := by decide +kernel
abbrev cJ1_charAt_3b067 : ByteArray := prog_13_method_2_code
def yJ1_charAt_3b067 : MethodName := ⟨RJ1, "charAt", "([BI)C"⟩
def RJ2 : String := "java/lang/StringUTF16"
def TJ2 : u_T := fun k => match k with
  | _ => ("", "", "", false)
def tyJ2 : Nat → FieldType := fun k => match k with
  | _ => .int
theorem nmJ2 : ∀ a, a < 0 → ∀ b, b < 0 → a ≠ b → (TJ2 a).2.1 ≠ (TJ2 b).2.1 := by decide +kernel
theorem tyJ2_ok : ∀ k, k < 0 → parseFieldDescriptor (TJ2 k).2.2.1 = some (tyJ2 k) := by decide +kernel
abbrev cJ2_getChar_3b067 : ByteArray := prog_14_method_5_code
def yJ2_getChar_3b067 : MethodName := ⟨RJ2, "getChar", "([BI)C"⟩
abbrev cJ2_length_9d52b : ByteArray := prog_14_method_6_code
def yJ2_length_9d52b : MethodName := ⟨RJ2, "length", "([B)I"⟩
abbrev cJ2_charAt_3b067 : ByteArray := prog_14_method_83_code
def yJ2_charAt_3b067 : MethodName := ⟨RJ2, "charAt", "([BI)C"⟩
abbrev cJ2_checkIndex_2214a : ByteArray := prog_14_method_91_code
def yJ2_checkIndex_2214a : MethodName := ⟨RJ2, "checkIndex", "(I[B)V"⟩
def RJ7 : String := "java/util/Arrays"
def TJ7 : u_T := fun k => match k with
  | _ => ("", "", "", false)
def tyJ7 : Nat → FieldType := fun k => match k with
  | _ => .int
theorem nmJ7 : ∀ a, a < 0 → ∀ b, b < 0 → a ≠ b → (TJ7 a).2.1 ≠ (TJ7 b).2.1 := by decide +kernel
theorem tyJ7_ok : ∀ k, k < 0 → parseFieldDescriptor (TJ7 k).2.2.1 = some (tyJ7 k) := by decide +kernel
abbrev cJ7_fill_d0a16 : ByteArray := prog_15_method_101_code
def yJ7_fill_d0a16 : MethodName := ⟨RJ7, "fill", "([JJ)V"⟩
abbrev cJ7_fill_53178 : ByteArray := prog_15_method_103_code
def yJ7_fill_53178 : MethodName := ⟨RJ7, "fill", "([II)V"⟩
def RJ3 : String := "jdk/internal/util/Preconditions"
def TJ3 : u_T := fun k => match k with
  | _ => ("", "", "", false)
def tyJ3 : Nat → FieldType := fun k => match k with
  | _ => .int
theorem nmJ3 : ∀ a, a < 0 → ∀ b, b < 0 → a ≠ b → (TJ3 a).2.1 ≠ (TJ3 b).2.1 := by decide +kernel
theorem tyJ3_ok : ∀ k, k < 0 → parseFieldDescriptor (TJ3 k).2.2.1 = some (tyJ3 k) := by decide +kernel
abbrev cJ3_checkIndex_8e157 : ByteArray := prog_16_method_11_code
def yJ3_checkIndex_8e157 : MethodName := ⟨RJ3, "checkIndex", "(IILjava/util/function/BiFunction;)I"⟩
def RL : String := "CrewSharesLaw"
abbrev cL_law : ByteArray := code
def yL_law : MethodName := ⟨RL, "law", "([I)Z"⟩
abbrev vwCl : List vw_C := [(RX0, TX0, 5), (RX1, TX1, 3), (RX2, TX2, 6), (RX3, TX3, 4), (RX4, TX4, 4), (RX5, TX5, 5), (RX6, TX6, 7), (RX7, TX7, 9), (RX8, TX8, 31)]
end
section
/-- the words that stay true while a method runs -/
def jWS : List Cond := lw_tbl.filter goodWord
theorem jWS_in {w : Cond} (h : w ∈ jWS) : w ∈ lw_tbl := (List.mem_filter.mp h).1
theorem jWS_of {w : Cond} (h : w ∈ tables_1) (hg : goodWord w = true) : w ∈ jWS := List.mem_filter.mpr ⟨List.mem_append_right _ h, hg⟩
theorem jWS_good : ∀ w ∈ jWS, goodWord w = true := fun w h => (List.mem_filter.mp h).2
/-- the links to nest mates -/
def jNW : List Cond := [.methodLinkNest "CrewShares" 11 ⟨"CrewShares$RulesText", "<init>", "()V"⟩ "CrewShares", .fieldLinkNest "CrewShares$Rules" 46 "CrewShares$RulesText" "wordNumber" "I" "CrewShares", .methodLinkNest "CrewShares" 20 ⟨"CrewShares$Crew", "<init>", "()V"⟩ "CrewShares", .fieldLinkNest "CrewShares$Trip" 65 "CrewShares$Crew" "roles" "[I" "CrewShares", .fieldLinkNest "CrewShares" 81 "CrewShares$Crew" "advances" "[J" "CrewShares", .fieldLinkNest "CrewShares$Trip" 115 "CrewShares$Crew" "advances" "[J" "CrewShares", .fieldLinkNest "CrewShares$Trip" 55 "CrewShares$Crew" "size" "I" "CrewShares", .methodLinkNest "CrewShares" 37 ⟨"CrewShares$Parting", "<init>", "()V"⟩ "CrewShares", .fieldLinkNest "CrewShares$Trip" 103 "CrewShares$Parting" "shares" "[J" "CrewShares", .methodLinkNest "CrewShares" 44 ⟨"CrewShares$Book", "<init>", "()V"⟩ "CrewShares", .methodLinkNest "CrewShares$Book" 17 ⟨"CrewShares$Entry", "<init>", "()V"⟩ "CrewShares", .fieldLinkNest "CrewShares$Book" 50 "CrewShares$Entry" "size" "I" "CrewShares", .fieldLinkNest "CrewShares$Book" 65 "CrewShares$Entry" "day" "I" "CrewShares", .fieldLinkNest "CrewShares$Book" 98 "CrewShares$Entry" "takesBack" "I" "CrewShares", .fieldLinkNest "CrewShares$Book" 101 "CrewShares$Entry" "takenBackBy" "I" "CrewShares", .fieldLinkNest "CrewShares$Trip" 118 "CrewShares$Rules" "places" "[I" "CrewShares", .fieldLinkNest "CrewShares$Trip" 108 "CrewShares$Rules" "weights" "[I" "CrewShares", .fieldLinkNest "CrewShares$Trip" 60 "CrewShares$Rules" "leasts" "[I" "CrewShares", .fieldLinkNest "CrewShares" 97 "CrewShares$Trip" "costs" "[J" "CrewShares", .fieldLinkNest "CrewShares" 100 "CrewShares$Trip" "daysOf" "[I" "CrewShares", .fieldLinkNest "CrewShares" 117 "CrewShares$Trip" "parts" "[J" "CrewShares", .fieldLinkNest "CrewShares" 120 "CrewShares$Trip" "shares" "[[J" "CrewShares", .fieldLinkNest "CrewShares" 163 "CrewShares$Trip" "settled" "Z" "CrewShares"]
/-- an array class over arrays of long is there -/
def va_AOL (U : State) : Prop := ∃ (comp c : ClassId) (k kc : Class) (cc : ClassId), U.vm.findClass (FieldType.array .long).toString = some comp ∧ U.vm.classes[c]? = some k ∧ k.kind = .array comp (.array .long) ∧ U.vm.findClass ("[" ++ (FieldType.array .long).toString) = some c ∧ U.vm.classes[comp]? = some kc ∧ kc.kind = .array cc .long
theorem va_AOL.moved {u U : State} (hvm : u.vm.Alike U.vm) (h : va_AOL u) : va_AOL U := by
  obtain ⟨comp, c, k, kc, cc, h1, h2, h3, h4, h5, h6⟩ := h
  obtain ⟨k', hk', he⟩ := hvm.2.2 _ _ h2
  obtain ⟨k2, hk2, he2⟩ := hvm.2.2 _ _ h5
  exact ⟨comp, c, k', k2, cc, by rw [hvm.findClass]; exact h1, hk', by rw [he]; exact h3, by rw [hvm.findClass]; exact h4, hk2, by rw [he2]; exact h6⟩

/-! THE J LAYER. A cell: an array (kind of its class, length, contents) or an object (its class's number in vwCl, fields). An address here is counted from the heap's size at the law's start. -/
abbrev jE : Type := (Nat × Nat × (Nat → Value)) ⊕ (Nat × List Value)
/-- how many cells there are; what each is -/
abbrev jH : Type := Nat × (Nat → Option jE)
/-- the heap at the law's start; numbers of classes and slots; array classes; addresses of what was there before; what is known of it -/
abbrev jG : Type := Heap × va_G × (Nat → ClassId) × (Nat → Nat) × (State → Prop)
/-- a method: name, code, locals, return type, room -/
abbrev jM : Type := MethodName × ByteArray × Nat × Option FieldType × Room
def jv (G : jG) : Value → Value
  | .ref a => .ref (G.1.size + a)
  | .float x => .ref (G.2.2.2.1 x.toNat)
  | v => v
def jr (o : Option Nat) : Value := match o with
  | none => .null
  | some a => .ref a
def jI (n : Nat) (a : Nat → Int32) : jE := .inl (0, n, fun j => .int (a j))
def jL (n : Nat) (a : Nat → Int64) : jE := .inl (1, n, fun j => .long (a j))
def jC (n : Nat) (a : Nat → Int32) : jE := .inl (2, n, fun j => .int (a j))
def jZ (n : Nat) (a : Nat → Int32) : jE := .inl (3, n, fun j => .int (a j))
def jQ (t n : Nat) (a : Nat → Option Nat) : jE := .inl (t, n, fun j => jr (a j))
def jO (ci : Nat) (fs : List Value) : jE := .inr (ci, fs)
def j_set (h : jH) (k : Nat) (e : jE) : jH := (h.1, fun j => if j = k then some e else h.2 j)
def j_new (h : jH) (e : jE) : jH := (h.1 + 1, fun j => if j = h.1 then some e else h.2 j)
def j_tys (G : jG) : List (ClassId × FieldType) := [(G.2.2.1 0, .int), (G.2.2.1 1, .long), (G.2.2.1 2, .char), (G.2.2.1 3, .boolean), (G.2.2.1 4, .object RX6), (G.2.2.1 5, .object RX2), (G.2.2.1 6, .array .long)]
def j_at (G : jG) (a : Nat) (e : jE) (H : Heap) : Prop := match e with
  | .inl q => H[a]? = some (arrV (G.2.2.1 q.1) q.2.1 (fun j => jv G (q.2.2 j)))
  | .inr q => ∃ r : vw_C, vwCl[q.1]? = some r ∧ t_OB a (G.2.1.1 q.1) r.2.2 (G.2.1.2 q.1) H (fun k => jv G (vp_V q.2 k))
theorem j_at.kept {G : jG} {a : Nat} {e : jE} {H H1 : Heap} (h : j_at G a e H) (hq : H1[a]? = H[a]?) : j_at G a e H1 := by
  cases e with
  | inl x => exact hq.trans h
  | inr o =>
    obtain ⟨r, h1, h2⟩ := h
    exact ⟨r, h1, h2.kept hq⟩
def j_rep (G : jG) (h : jH) (H : Heap) : Prop := H.size = G.1.size + h.1 ∧ (∀ q : Nat, q < G.1.size → H[q]? = G.1[q]?) ∧ (∀ k : Nat, h.1 ≤ k → h.2 k = none) ∧ ∀ (k : Nat) (e : jE), h.2 k = some e → j_at G (G.1.size + k) e H
theorem j_rep.lt {G : jG} {h : jH} {H : Heap} (hR : j_rep G h H) {k : Nat} {e : jE} (hk : h.2 k = some e) : k < h.1 := by
  rcases Nat.lt_or_ge k h.1 with q | q
  · exact q
  · rw [hR.2.2.1 k q] at hk; cases hk
theorem j_rep.set {G : jG} {h : jH} {H H1 : Heap} (hR : j_rep G h H) {k : Nat} {e0 e : jE} (hk : h.2 k = some e0) (he : j_at G (G.1.size + k) e H1) (hz : H1.size = H.size) (oq : ∀ q : Nat, q ≠ G.1.size + k → H1[q]? = H[q]?) : j_rep G (j_set h k e) H1 := by
  have hlt := hR.lt hk
  refine ⟨hz.trans hR.1, fun q hq => (oq q (by omega)).trans (hR.2.1 q hq), fun j hj => ?_, fun j e1 hj => ?_⟩
  · have hj' : h.1 ≤ j := hj
    show (if j = k then some e else h.2 j) = none
    rw [if_neg (by omega)]
    exact hR.2.2.1 j hj
  · have hj' : (if j = k then some e else h.2 j) = some e1 := hj
    by_cases q : j = k
    · rw [if_pos q] at hj'
      cases hj'
      rw [q]
      exact he
    · rw [if_neg q] at hj'
      exact (hR.2.2.2 j e1 hj').kept (oq _ (by omega))
theorem j_rep.new {G : jG} {h : jH} {H H1 : Heap} (hR : j_rep G h H) {e : jE} (he : j_at G (G.1.size + h.1) e H1) (hz : H1.size = H.size + 1) (oq : ∀ q : Nat, q < H.size → H1[q]? = H[q]?) : j_rep G (j_new h e) H1 := by
  have h1 := hR.1
  refine ⟨by show H1.size = G.1.size + (h.1 + 1); omega, fun q hq => (oq q (by omega)).trans (hR.2.1 q hq), fun j hj => ?_, fun j e1 hj => ?_⟩
  · have hj' : h.1 + 1 ≤ j := hj
    show (if j = h.1 then some e else h.2 j) = none
    rw [if_neg (by omega)]
    exact hR.2.2.1 j (by omega)
  · have hj' : (if j = h.1 then some e else h.2 j) = some e1 := hj
    by_cases q : j = h.1
    · rw [if_pos q] at hj'
      cases hj'
      rw [q]
      exact he
    · rw [if_neg q] at hj'
      have := hR.lt hj'
      exact (hR.2.2.2 j e1 hj').kept (oq _ (by omega))
/-- what is known of what was there before stays known -/
def j_ok (G : jG) : Prop := ∀ u U : State, u.vm = U.vm ∨ u.WarmedH U.vm → (∀ q : Nat, q < G.1.size → U.heap[q]? = u.heap[q]?) → G.2.2.2.2 u → G.2.2.2.2 U
def j_nw (w : Cond) : Prop := match w with
  | .fieldLinkNest _ _ _ _ _ _ => True
  | .methodLinkNest _ _ _ _ => True
  | _ => False
def j_env (G : jG) (U : State) : Prop := j_ok G ∧ va_K G.2.1 vwCl (j_tys G) U ∧ (∀ w ∈ jNW, va_Nw w U) ∧ va_AO RX6 U ∧ va_AO RX2 U ∧ va_AOL U ∧ G.2.2.2.2 U
theorem jNW_ok : ∀ w ∈ jNW, j_nw w := by
  intro w hw
  simp only [jNW, List.mem_cons, List.not_mem_nil, or_false] at hw
  rcases hw with rfl | rfl | rfl | rfl | rfl | rfl | rfl | rfl | rfl | rfl | rfl | rfl | rfl | rfl | rfl | rfl | rfl | rfl | rfl | rfl | rfl | rfl | rfl <;> trivial
theorem j_env.warm {G : jG} {s U : State} (hW : s.WarmedH U.vm) (hH : ∀ q : Nat, q < G.1.size → U.heap[q]? = s.heap[q]?) (h : j_env G s) : j_env G U := by
  obtain ⟨h1, h2, h3, h4, h5, h6, h7⟩ := h
  refine ⟨h1, h2.moved hW.alike, fun w hw => ?_, h4.moved hW.alike, h5.moved hW.alike, h6.moved hW.alike, h1 s U (Or.inr hW) hH h7⟩
  have hz := h3 w hw
  have hn := jNW_ok w hw
  revert hn hz
  cases w <;> intro hz hn <;> first | exact va_Nw.warmF hW hz | exact va_Nw.warmM hW hz | exact absurd hn (fun q => q)
theorem j_nw_tab {w : Cond} (h : j_nw w) : w.onTables = true := by
  revert h
  cases w <;> intro h <;> first | rfl | exact absurd h (fun q => q)
theorem j_env.same {G : jG} {u U : State} (hv : u.vm = U.vm) (hH : u.heap = U.heap) (h : j_env G u) : j_env G U := by
  obtain ⟨h1, h2, h3, h4, h5, h6, h7⟩ := h
  have ha : u.vm.Alike U.vm := by rw [hv]; exact Vm.Alike.refl _
  refine ⟨h1, h2.moved ha, fun w hw => va_Nw.same (j_nw_tab (jNW_ok w hw)) hv (h3 w hw), h4.moved ha, h5.moved ha, h6.moved ha, h1 u U (Or.inl hv) (fun q _ => by rw [hH]) h7⟩
/-- a method's locals that are known -/
def jlk (i : Nat) : List (Nat × Value) → Option Value
  | [] => none
  | q :: t => cond (Nat.beq q.1 i) (some q.2) (jlk i t)
def j_c (G : jG) (lv : List (Nat × Value)) : List (Nat × Value) := lv.map (fun q => (q.1, jv G q.2))
theorem jlk_mem {i : Nat} {v : Value} : ∀ {lv : List (Nat × Value)}, jlk i lv = some v → (i, v) ∈ lv
  | [], h => by cases h
  | q :: t, h => by
    simp only [jlk] at h
    cases hb : Nat.beq q.1 i with
    | true =>
      rw [hb] at h
      simp only [cond_true, Option.some.injEq] at h
      have e : q.1 = i := Nat.eq_of_beq_eq_true hb
      rw [← e, ← h]
      exact List.mem_cons_self
    | false =>
      rw [hb] at h
      simp only [cond_false] at h
      exact List.mem_cons_of_mem _ (jlk_mem h)
theorem j_lv {G : jG} {ls : Array Slot} {n i : Nat} {v : Value} {lv : List (Nat × Value)} (hV : lv_has ls n (j_c G lv)) (h : jlk i lv = some v) : ls[i]? = some (.val (jv G v)) :=
  hV.2.2 (i, jv G v) (List.mem_map.mpr ⟨(i, v), jlk_mem h, rfl⟩)
def jst1 (i : Nat) (v : Value) (lv : List (Nat × Value)) : List (Nat × Value) := (i, v) :: lv.filter (fun q => !(q.1 == i) && !(q.1 + 1 == i && q.2.category == 2))
def jst2 (i : Nat) (v : Value) (lv : List (Nat × Value)) : List (Nat × Value) := (i, v) :: lv.filter (fun q => !(q.1 == i) && (!(q.1 == i + 1) && !(q.1 + 1 == i && q.2.category == 2)))
theorem jv_cat (G : jG) (v : Value) : (jv G v).category = v.category := by cases v <;> rfl
theorem jst1_c (G : jG) (i : Nat) (v : Value) (lv : List (Nat × Value)) : (i, jv G v) :: (j_c G lv).filter (fun q => !(q.1 == i) && !(q.1 + 1 == i && q.2.category == 2)) = j_c G (jst1 i v lv) := by
  simp only [j_c, jst1, List.map_cons, List.filter_map]
  congr 2
  apply List.filter_congr
  intro q _
  simp [jv_cat]
theorem jst2_c (G : jG) (i : Nat) (v : Value) (lv : List (Nat × Value)) : (i, jv G v) :: (j_c G lv).filter (fun q => !(q.1 == i) && (!(q.1 == i + 1) && !(q.1 + 1 == i && q.2.category == 2))) = j_c G (jst2 i v lv) := by
  simp only [j_c, jst2, List.map_cons, List.filter_map]
  congr 2
  apply List.filter_congr
  intro q _
  simp [jv_cat]
/-- what holds of the machine throughout a method -/
def JF (G : jG) (M : jM) (p : Program) (s : State) (m : MethodId) (args : Array Value) (meth : Method) (c : Code) : Prop :=
  p.tables.exec = Jvm.exec ∧ c.code = M.2.1 ∧ c.maxLocals = M.2.2.1 ∧ meth.sig.returnType = M.2.2.2.1 ∧ meth.locks = false ∧ meth.name = M.1.name ∧ s.vm.findClass M.1.cls = some m.cls ∧ (∀ w ∈ jWS, w.before args s = true) ∧ j_env G s ∧ (∀ q : Nat, q < G.1.size → s.heap[q]? = G.1[q]?) ∧ G.1.size ≤ s.heap.size
def j_Q (G : jG) (Q : Option Value → jH → Prop) : Array Value → State → Outcome → State → Prop := fun _ _ oc t => ∃ (v : Option Value) (h' : jH), oc = .returned (v.map (jv G)) ∧ Q v h' ∧ j_rep G h' t.heap
/-- from pc of method M on, with these locals, this stack and this heap: it returns, with Q -/
def J (l : Launch) (G : jG) (M : jM) (nc ns pc : Nat) (lv : List (Nat × Value)) (st : List Value) (h : jH) (Q : Option Value → jH → Prop) : Prop :=
  ∀ (p : Program) (e : Env) (s : State) (m : MethodId) (args : Array Value) (below : List Frame) (meth : Method) (c : Code) (H : Heap) (locs : List Loc) (ls : Array Slot),
    JF G M p s m args meth c → j_rep G h H → (∀ q ∈ locs, G.1.size ≤ q.base) → lv_has ls M.2.2.1 (j_c G lv) →
    W p l e M.2.2.2.2 s m args below meth c H locs nc ns (MQ below (j_Q G Q) args s M.2.2.2.2.cells M.2.2.2.2.slots (fun q => G.1.size ≤ q)) (F0 m pc ls (st.map (jv G)))
end
section
section JR
variable {l : Launch} {G : jG} {y : MethodName} {cc : ByteArray} {n : Nat} {r : Option FieldType} {rm : Room} {nc ns pc : Nat} {lv : List (Nat × Value)} {st : List Value} {h : jH} {Q : Option Value → jH → Prop}
theorem j_iconst {i : Int} {v : Int32} (hd : decode cc pc = .ok (.iconst i, 1)) (hv : Int32.ofInt i = v) (k : J l G (y, cc, n, r, rm) nc ns (pc + 1) lv (.int v :: st) h Q) : J l G (y, cc, n, r, rm) nc ns pc lv (st) h Q :=
  fun p e s m args below meth c H locs ls hF hR hL hV => lv_iconst hF.1 hF.2.1 hd hv (k p e s m args below meth c H locs ls hF hR hL hV)
theorem j_bipush {i : Int} {v : Int32} (hd : decode cc pc = .ok (.bipush i, 2)) (hv : (Int8.ofInt i).toInt32 = v) (k : J l G (y, cc, n, r, rm) nc ns (pc + 2) lv (.int v :: st) h Q) : J l G (y, cc, n, r, rm) nc ns pc lv (st) h Q :=
  fun p e s m args below meth c H locs ls hF hR hL hV => lv_bipush hF.1 hF.2.1 hd hv (k p e s m args below meth c H locs ls hF hR hL hV)
theorem j_sipush {i : Int} {v : Int32} (hd : decode cc pc = .ok (.sipush i, 3)) (hv : (Int16.ofInt i).toInt32 = v) (k : J l G (y, cc, n, r, rm) nc ns (pc + 3) lv (.int v :: st) h Q) : J l G (y, cc, n, r, rm) nc ns pc lv (st) h Q :=
  fun p e s m args below meth c H locs ls hF hR hL hV => lv_sipush hF.1 hF.2.1 hd hv (k p e s m args below meth c H locs ls hF hR hL hV)
theorem j_lconst {i : Fin 2} {v : Int64} (hd : decode cc pc = .ok (.lconst i, 1)) (hv : Int64.ofNat (i : Nat) = v) (k : J l G (y, cc, n, r, rm) nc ns (pc + 1) lv (.long v :: st) h Q) : J l G (y, cc, n, r, rm) nc ns pc lv (st) h Q :=
  fun p e s m args below meth c H locs ls hF hR hL hV => lv_lconst hF.1 hF.2.1 hd hv (k p e s m args below meth c H locs ls hF hR hL hV)
theorem j_iload_n {i : Fin 4} {x : Int32} (hd : decode cc pc = .ok (.iload_n i, 1)) (hl : jlk (i : Nat) lv = some (.int x)) (k : J l G (y, cc, n, r, rm) nc ns (pc + 1) lv (.int x :: st) h Q) : J l G (y, cc, n, r, rm) nc ns pc lv (st) h Q :=
  fun p e s m args below meth c H locs ls hF hR hL hV => lv_iload_n hF.1 hF.2.1 hd rfl (j_lv hV hl) (k p e s m args below meth c H locs ls hF hR hL hV)
theorem j_iload {i : Nat} {x : Int32} (hd : decode cc pc = .ok (.iload i, 2)) (hl : jlk i lv = some (.int x)) (k : J l G (y, cc, n, r, rm) nc ns (pc + 2) lv (.int x :: st) h Q) : J l G (y, cc, n, r, rm) nc ns pc lv (st) h Q :=
  fun p e s m args below meth c H locs ls hF hR hL hV => lv_iload hF.1 hF.2.1 hd (j_lv hV hl) (k p e s m args below meth c H locs ls hF hR hL hV)
theorem j_lload_n {i : Fin 4} {x : Int64} (hd : decode cc pc = .ok (.lload_n i, 1)) (hl : jlk (i : Nat) lv = some (.long x)) (k : J l G (y, cc, n, r, rm) nc ns (pc + 1) lv (.long x :: st) h Q) : J l G (y, cc, n, r, rm) nc ns pc lv (st) h Q :=
  fun p e s m args below meth c H locs ls hF hR hL hV => lv_lload_n hF.1 hF.2.1 hd rfl (j_lv hV hl) (k p e s m args below meth c H locs ls hF hR hL hV)
theorem j_lload {i : Nat} {x : Int64} (hd : decode cc pc = .ok (.lload i, 2)) (hl : jlk i lv = some (.long x)) (k : J l G (y, cc, n, r, rm) nc ns (pc + 2) lv (.long x :: st) h Q) : J l G (y, cc, n, r, rm) nc ns pc lv (st) h Q :=
  fun p e s m args below meth c H locs ls hF hR hL hV => lv_lload hF.1 hF.2.1 hd (j_lv hV hl) (k p e s m args below meth c H locs ls hF hR hL hV)
theorem j_aload_n {i : Fin 4} {x : Nat} (hd : decode cc pc = .ok (.aload_n i, 1)) (hl : jlk (i : Nat) lv = some (.ref x)) (k : J l G (y, cc, n, r, rm) nc ns (pc + 1) lv (.ref x :: st) h Q) : J l G (y, cc, n, r, rm) nc ns pc lv (st) h Q :=
  fun p e s m args below meth c H locs ls hF hR hL hV => lv_aload_n hF.1 hF.2.1 hd rfl (j_lv hV hl) (k p e s m args below meth c H locs ls hF hR hL hV)
theorem j_aload {i : Nat} {x : Nat} (hd : decode cc pc = .ok (.aload i, 2)) (hl : jlk i lv = some (.ref x)) (k : J l G (y, cc, n, r, rm) nc ns (pc + 2) lv (.ref x :: st) h Q) : J l G (y, cc, n, r, rm) nc ns pc lv (st) h Q :=
  fun p e s m args below meth c H locs ls hF hR hL hV => lv_aload hF.1 hF.2.1 hd (j_lv hV hl) (k p e s m args below meth c H locs ls hF hR hL hV)
theorem j_xload_n {i : Fin 4} {x : UInt32} (hd : decode cc pc = .ok (.aload_n i, 1)) (hl : jlk (i : Nat) lv = some (.float x)) (k : J l G (y, cc, n, r, rm) nc ns (pc + 1) lv (.float x :: st) h Q) : J l G (y, cc, n, r, rm) nc ns pc lv (st) h Q :=
  fun p e s m args below meth c H locs ls hF hR hL hV => lv_aload_n hF.1 hF.2.1 hd rfl (j_lv hV hl) (k p e s m args below meth c H locs ls hF hR hL hV)
theorem j_xload {i : Nat} {x : UInt32} (hd : decode cc pc = .ok (.aload i, 2)) (hl : jlk i lv = some (.float x)) (k : J l G (y, cc, n, r, rm) nc ns (pc + 2) lv (.float x :: st) h Q) : J l G (y, cc, n, r, rm) nc ns pc lv (st) h Q :=
  fun p e s m args below meth c H locs ls hF hR hL hV => lv_aload hF.1 hF.2.1 hd (j_lv hV hl) (k p e s m args below meth c H locs ls hF hR hL hV)
theorem j_nload_n {i : Fin 4} (hd : decode cc pc = .ok (.aload_n i, 1)) (hl : jlk (i : Nat) lv = some .null) (k : J l G (y, cc, n, r, rm) nc ns (pc + 1) lv (.null :: st) h Q) : J l G (y, cc, n, r, rm) nc ns pc lv (st) h Q :=
  fun p e s m args below meth c H locs ls hF hR hL hV => lv_aload_nN hF.1 hF.2.1 hd rfl (j_lv hV hl) (k p e s m args below meth c H locs ls hF hR hL hV)
theorem j_nload {i : Nat} (hd : decode cc pc = .ok (.aload i, 2)) (hl : jlk i lv = some .null) (k : J l G (y, cc, n, r, rm) nc ns (pc + 2) lv (.null :: st) h Q) : J l G (y, cc, n, r, rm) nc ns pc lv (st) h Q :=
  fun p e s m args below meth c H locs ls hF hR hL hV => lv_aloadN hF.1 hF.2.1 hd (j_lv hV hl) (k p e s m args below meth c H locs ls hF hR hL hV)
theorem j_aconst_null (hd : decode cc pc = .ok (.aconst_null, 1)) (k : J l G (y, cc, n, r, rm) nc ns (pc + 1) lv (.null :: st) h Q) : J l G (y, cc, n, r, rm) nc ns pc lv (st) h Q :=
  fun p e s m args below meth c H locs ls hF hR hL hV => lv_null hF.1 hF.2.1 hd (k p e s m args below meth c H locs ls hF hR hL hV)
theorem j_istore_n {i : Fin 4} {x : Int32} (hd : decode cc pc = .ok (.istore_n i, 1)) (hn : (i : Nat) < n) (k : J l G (y, cc, n, r, rm) nc ns (pc + 1) (jst1 (i : Nat) (.int x) lv) (st) h Q) : J l G (y, cc, n, r, rm) nc ns pc lv (.int x :: st) h Q :=
  fun p e s m args below meth c H locs ls hF hR hL hV => lv_istore_n hF.1 hF.2.1 hd rfl hV hn rfl (fun ls1 h1 => k p e s m args below meth c H locs ls1 hF hR hL (by rw [← jst1_c]; exact h1))
theorem j_istore {i : Nat} {x : Int32} (hd : decode cc pc = .ok (.istore i, 2)) (hn : i < n) (k : J l G (y, cc, n, r, rm) nc ns (pc + 2) (jst1 i (.int x) lv) (st) h Q) : J l G (y, cc, n, r, rm) nc ns pc lv (.int x :: st) h Q :=
  fun p e s m args below meth c H locs ls hF hR hL hV => lv_istore hF.1 hF.2.1 hd hV hn rfl (fun ls1 h1 => k p e s m args below meth c H locs ls1 hF hR hL (by rw [← jst1_c]; exact h1))
theorem j_lstore_n {i : Fin 4} {x : Int64} (hd : decode cc pc = .ok (.lstore_n i, 1)) (hn : (i : Nat) + 1 < n) (k : J l G (y, cc, n, r, rm) nc ns (pc + 1) (jst2 (i : Nat) (.long x) lv) (st) h Q) : J l G (y, cc, n, r, rm) nc ns pc lv (.long x :: st) h Q :=
  fun p e s m args below meth c H locs ls hF hR hL hV => lv_lstore_n hF.1 hF.2.1 hd rfl hV hn rfl (fun ls1 h1 => k p e s m args below meth c H locs ls1 hF hR hL (by rw [← jst2_c]; exact h1))
theorem j_lstore {i : Nat} {x : Int64} (hd : decode cc pc = .ok (.lstore i, 2)) (hn : i + 1 < n) (k : J l G (y, cc, n, r, rm) nc ns (pc + 2) (jst2 i (.long x) lv) (st) h Q) : J l G (y, cc, n, r, rm) nc ns pc lv (.long x :: st) h Q :=
  fun p e s m args below meth c H locs ls hF hR hL hV => lv_lstore hF.1 hF.2.1 hd hV hn rfl (fun ls1 h1 => k p e s m args below meth c H locs ls1 hF hR hL (by rw [← jst2_c]; exact h1))
theorem j_astore_n {i : Fin 4} {x : Nat} (hd : decode cc pc = .ok (.astore_n i, 1)) (hn : (i : Nat) < n) (k : J l G (y, cc, n, r, rm) nc ns (pc + 1) (jst1 (i : Nat) (.ref x) lv) (st) h Q) : J l G (y, cc, n, r, rm) nc ns pc lv (.ref x :: st) h Q :=
  fun p e s m args below meth c H locs ls hF hR hL hV => lv_astore_n hF.1 hF.2.1 hd rfl hV hn rfl (fun ls1 h1 => k p e s m args below meth c H locs ls1 hF hR hL (by rw [← jst1_c]; exact h1))
theorem j_astore {i : Nat} {x : Nat} (hd : decode cc pc = .ok (.astore i, 2)) (hn : i < n) (k : J l G (y, cc, n, r, rm) nc ns (pc + 2) (jst1 i (.ref x) lv) (st) h Q) : J l G (y, cc, n, r, rm) nc ns pc lv (.ref x :: st) h Q :=
  fun p e s m args below meth c H locs ls hF hR hL hV => lv_astore hF.1 hF.2.1 hd hV hn rfl (fun ls1 h1 => k p e s m args below meth c H locs ls1 hF hR hL (by rw [← jst1_c]; exact h1))
theorem j_nstore_n {i : Fin 4} (hd : decode cc pc = .ok (.astore_n i, 1)) (hn : (i : Nat) < n) (k : J l G (y, cc, n, r, rm) nc ns (pc + 1) (jst1 (i : Nat) (.null) lv) (st) h Q) : J l G (y, cc, n, r, rm) nc ns pc lv (.null :: st) h Q :=
  fun p e s m args below meth c H locs ls hF hR hL hV => lv_astore_nN hF.1 hF.2.1 hd rfl hV hn rfl (fun ls1 h1 => k p e s m args below meth c H locs ls1 hF hR hL (by rw [← jst1_c]; exact h1))
theorem j_nstore {i : Nat} (hd : decode cc pc = .ok (.astore i, 2)) (hn : i < n) (k : J l G (y, cc, n, r, rm) nc ns (pc + 2) (jst1 i (.null) lv) (st) h Q) : J l G (y, cc, n, r, rm) nc ns pc lv (.null :: st) h Q :=
  fun p e s m args below meth c H locs ls hF hR hL hV => lv_astoreN hF.1 hF.2.1 hd hV hn rfl (fun ls1 h1 => k p e s m args below meth c H locs ls1 hF hR hL (by rw [← jst1_c]; exact h1))
theorem j_iinc {i : Nat} {d : Int} {x v : Int32} (hd : decode cc pc = .ok (.iinc i d, 3)) (hl : jlk i lv = some (.int x)) (hv : x + Int32.ofInt d = v) (hn : i < n) (k : J l G (y, cc, n, r, rm) nc ns (pc + 3) (jst1 i (.int v) lv) st h Q) : J l G (y, cc, n, r, rm) nc ns pc lv st h Q := by
  intro p e s m args below meth c H locs ls hF hR hL hV
  obtain ⟨a, ha⟩ := List.getElem?_of_mem (jlk_mem hl)
  have ha' : (j_c G lv)[a]? = some (i, .int x) := by
    simp only [j_c, List.getElem?_map, ha]
    rfl
  exact lv_iinc hF.1 hF.2.1 hd hV ha' hv hn rfl (fun ls1 h1 => k p e s m args below meth c H locs ls1 hF hR hL (by rw [← jst1_c]; exact h1))
theorem j_iadd {x w : Int32} (hd : decode cc pc = .ok (.iadd, 1)) (k : J l G (y, cc, n, r, rm) nc ns (pc + 1) lv (.int (x + w) :: st) h Q) : J l G (y, cc, n, r, rm) nc ns pc lv (.int w :: .int x :: st) h Q :=
  fun p e s m args below meth c H locs ls hF hR hL hV => lv_iadd hF.1 hF.2.1 hd (k p e s m args below meth c H locs ls hF hR hL hV)
theorem j_isub {x w : Int32} (hd : decode cc pc = .ok (.isub, 1)) (k : J l G (y, cc, n, r, rm) nc ns (pc + 1) lv (.int (x - w) :: st) h Q) : J l G (y, cc, n, r, rm) nc ns pc lv (.int w :: .int x :: st) h Q :=
  fun p e s m args below meth c H locs ls hF hR hL hV => lv_isub hF.1 hF.2.1 hd (k p e s m args below meth c H locs ls hF hR hL hV)
theorem j_imul {x w : Int32} (hd : decode cc pc = .ok (.imul, 1)) (k : J l G (y, cc, n, r, rm) nc ns (pc + 1) lv (.int (x * w) :: st) h Q) : J l G (y, cc, n, r, rm) nc ns pc lv (.int w :: .int x :: st) h Q :=
  fun p e s m args below meth c H locs ls hF hR hL hV => lv_imul hF.1 hF.2.1 hd (k p e s m args below meth c H locs ls hF hR hL hV)
theorem j_iand {x w : Int32} (hd : decode cc pc = .ok (.iand, 1)) (k : J l G (y, cc, n, r, rm) nc ns (pc + 1) lv (.int (x &&& w) :: st) h Q) : J l G (y, cc, n, r, rm) nc ns pc lv (.int w :: .int x :: st) h Q :=
  fun p e s m args below meth c H locs ls hF hR hL hV => lv_iand hF.1 hF.2.1 hd (k p e s m args below meth c H locs ls hF hR hL hV)
theorem j_ladd {x w : Int64} (hd : decode cc pc = .ok (.ladd, 1)) (k : J l G (y, cc, n, r, rm) nc ns (pc + 1) lv (.long (x + w) :: st) h Q) : J l G (y, cc, n, r, rm) nc ns pc lv (.long w :: .long x :: st) h Q :=
  fun p e s m args below meth c H locs ls hF hR hL hV => lv_ladd hF.1 hF.2.1 hd (k p e s m args below meth c H locs ls hF hR hL hV)
theorem j_lsub {x w : Int64} (hd : decode cc pc = .ok (.lsub, 1)) (k : J l G (y, cc, n, r, rm) nc ns (pc + 1) lv (.long (x - w) :: st) h Q) : J l G (y, cc, n, r, rm) nc ns pc lv (.long w :: .long x :: st) h Q :=
  fun p e s m args below meth c H locs ls hF hR hL hV => lv_lsub hF.1 hF.2.1 hd (k p e s m args below meth c H locs ls hF hR hL hV)
theorem j_lmul {x w : Int64} (hd : decode cc pc = .ok (.lmul, 1)) (k : J l G (y, cc, n, r, rm) nc ns (pc + 1) lv (.long (x * w) :: st) h Q) : J l G (y, cc, n, r, rm) nc ns pc lv (.long w :: .long x :: st) h Q :=
  fun p e s m args below meth c H locs ls hF hR hL hV => lv_lmul hF.1 hF.2.1 hd (k p e s m args below meth c H locs ls hF hR hL hV)
theorem j_land {x w : Int64} (hd : decode cc pc = .ok (.land, 1)) (k : J l G (y, cc, n, r, rm) nc ns (pc + 1) lv (.long (x &&& w) :: st) h Q) : J l G (y, cc, n, r, rm) nc ns pc lv (.long w :: .long x :: st) h Q :=
  fun p e s m args below meth c H locs ls hF hR hL hV => lv_land hF.1 hF.2.1 hd (k p e s m args below meth c H locs ls hF hR hL hV)
theorem j_lor {x w : Int64} (hd : decode cc pc = .ok (.lor, 1)) (k : J l G (y, cc, n, r, rm) nc ns (pc + 1) lv (.long (x ||| w) :: st) h Q) : J l G (y, cc, n, r, rm) nc ns pc lv (.long w :: .long x :: st) h Q :=
  fun p e s m args below meth c H locs ls hF hR hL hV => lv_lor hF.1 hF.2.1 hd (k p e s m args below meth c H locs ls hF hR hL hV)
theorem j_idiv {x w : Int32} (hd : decode cc pc = .ok (.idiv, 1)) (hne : ¬ w = 0) (k : J l G (y, cc, n, r, rm) nc ns (pc + 1) lv (.int (x / w) :: st) h Q) : J l G (y, cc, n, r, rm) nc ns pc lv (.int w :: .int x :: st) h Q :=
  fun p e s m args below meth c H locs ls hF hR hL hV => lv_idiv hF.1 hF.2.1 hd hne (k p e s m args below meth c H locs ls hF hR hL hV)
theorem j_irem {x w : Int32} (hd : decode cc pc = .ok (.irem, 1)) (hne : ¬ w = 0) (k : J l G (y, cc, n, r, rm) nc ns (pc + 1) lv (.int (x - x / w * w) :: st) h Q) : J l G (y, cc, n, r, rm) nc ns pc lv (.int w :: .int x :: st) h Q :=
  fun p e s m args below meth c H locs ls hF hR hL hV => lv_irem hF.1 hF.2.1 hd hne (k p e s m args below meth c H locs ls hF hR hL hV)
theorem j_ldiv {x w : Int64} (hd : decode cc pc = .ok (.ldiv, 1)) (hne : ¬ w = 0) (k : J l G (y, cc, n, r, rm) nc ns (pc + 1) lv (.long (x / w) :: st) h Q) : J l G (y, cc, n, r, rm) nc ns pc lv (.long w :: .long x :: st) h Q :=
  fun p e s m args below meth c H locs ls hF hR hL hV => lv_ldiv hF.1 hF.2.1 hd hne (k p e s m args below meth c H locs ls hF hR hL hV)
theorem j_lrem {x w : Int64} (hd : decode cc pc = .ok (.lrem, 1)) (hne : ¬ w = 0) (k : J l G (y, cc, n, r, rm) nc ns (pc + 1) lv (.long (x - x / w * w) :: st) h Q) : J l G (y, cc, n, r, rm) nc ns pc lv (.long w :: .long x :: st) h Q :=
  fun p e s m args below meth c H locs ls hF hR hL hV => lv_lrem hF.1 hF.2.1 hd hne (k p e s m args below meth c H locs ls hF hR hL hV)
theorem j_ineg {x : Int32} (hd : decode cc pc = .ok (.ineg, 1)) (k : J l G (y, cc, n, r, rm) nc ns (pc + 1) lv (.int (-x) :: st) h Q) : J l G (y, cc, n, r, rm) nc ns pc lv (.int x :: st) h Q :=
  fun p e s m args below meth c H locs ls hF hR hL hV => lv_ineg hF.1 hF.2.1 hd (k p e s m args below meth c H locs ls hF hR hL hV)
theorem j_lneg {x : Int64} (hd : decode cc pc = .ok (.lneg, 1)) (k : J l G (y, cc, n, r, rm) nc ns (pc + 1) lv (.long (-x) :: st) h Q) : J l G (y, cc, n, r, rm) nc ns pc lv (.long x :: st) h Q :=
  fun p e s m args below meth c H locs ls hF hR hL hV => lv_lneg hF.1 hF.2.1 hd (k p e s m args below meth c H locs ls hF hR hL hV)
theorem j_i2l {x : Int32} (hd : decode cc pc = .ok (.i2l, 1)) (k : J l G (y, cc, n, r, rm) nc ns (pc + 1) lv (.long x.toInt64 :: st) h Q) : J l G (y, cc, n, r, rm) nc ns pc lv (.int x :: st) h Q :=
  fun p e s m args below meth c H locs ls hF hR hL hV => lv_i2l hF.1 hF.2.1 hd rfl (k p e s m args below meth c H locs ls hF hR hL hV)
theorem j_l2i {x : Int64} (hd : decode cc pc = .ok (.l2i, 1)) (k : J l G (y, cc, n, r, rm) nc ns (pc + 1) lv (.int x.toInt32 :: st) h Q) : J l G (y, cc, n, r, rm) nc ns pc lv (.long x :: st) h Q :=
  fun p e s m args below meth c H locs ls hF hR hL hV => lv_l2i hF.1 hF.2.1 hd rfl (k p e s m args below meth c H locs ls hF hR hL hV)
theorem j_i2c {x : Int32} (hd : decode cc pc = .ok (.i2c, 1)) (k : J l G (y, cc, n, r, rm) nc ns (pc + 1) lv (.int (x.toUInt32 % 65536).toInt32 :: st) h Q) : J l G (y, cc, n, r, rm) nc ns pc lv (.int x :: st) h Q :=
  fun p e s m args below meth c H locs ls hF hR hL hV => lv_i2c hF.1 hF.2.1 hd rfl (k p e s m args below meth c H locs ls hF hR hL hV)
theorem j_lshl {x : Int64} {w : Int32} (hd : decode cc pc = .ok (.lshl, 1)) (k : J l G (y, cc, n, r, rm) nc ns (pc + 1) lv (.long (x <<< (w.toInt64 &&& 63)) :: st) h Q) : J l G (y, cc, n, r, rm) nc ns pc lv (.int w :: .long x :: st) h Q :=
  fun p e s m args below meth c H locs ls hF hR hL hV => lv_lshl hF.1 hF.2.1 hd rfl (k p e s m args below meth c H locs ls hF hR hL hV)
theorem j_lshr {x : Int64} {w : Int32} (hd : decode cc pc = .ok (.lshr, 1)) (k : J l G (y, cc, n, r, rm) nc ns (pc + 1) lv (.long (x >>> (w.toInt64 &&& 63)) :: st) h Q) : J l G (y, cc, n, r, rm) nc ns pc lv (.int w :: .long x :: st) h Q :=
  fun p e s m args below meth c H locs ls hF hR hL hV => lv_lshr hF.1 hF.2.1 hd rfl (k p e s m args below meth c H locs ls hF hR hL hV)
theorem j_ishr {x w : Int32} (hd : decode cc pc = .ok (.ishr, 1)) (k : J l G (y, cc, n, r, rm) nc ns (pc + 1) lv (.int (x >>> (w &&& 31)) :: st) h Q) : J l G (y, cc, n, r, rm) nc ns pc lv (.int w :: .int x :: st) h Q :=
  fun p e s m args below meth c H locs ls hF hR hL hV => lv_ishr hF.1 hF.2.1 hd (k p e s m args below meth c H locs ls hF hR hL hV)
theorem j_lcmp {x w : Int64} (hd : decode cc pc = .ok (.lcmp, 1)) (k : J l G (y, cc, n, r, rm) nc ns (pc + 1) lv (.int (lg_cmp x w) :: st) h Q) : J l G (y, cc, n, r, rm) nc ns pc lv (.long w :: .long x :: st) h Q :=
  fun p e s m args below meth c H locs ls hF hR hL hV => W.lcmp hF.1 hF.2.1 hd (k p e s m args below meth c H locs ls hF hR hL hV)
theorem j_dup {v : Value} (hd : decode cc pc = .ok (.dup, 1)) (h1 : v.category = 1) (k : J l G (y, cc, n, r, rm) nc ns (pc + 1) lv (v :: v :: st) h Q) : J l G (y, cc, n, r, rm) nc ns pc lv (v :: st) h Q :=
  fun p e s m args below meth c H locs ls hF hR hL hV => lv_dup hF.1 hF.2.1 hd ((jv_cat G _).trans h1) (k p e s m args below meth c H locs ls hF hR hL hV)
theorem j_pop {v : Value} (hd : decode cc pc = .ok (.pop, 1)) (h1 : v.category = 1) (k : J l G (y, cc, n, r, rm) nc ns (pc + 1) lv (st) h Q) : J l G (y, cc, n, r, rm) nc ns pc lv (v :: st) h Q :=
  fun p e s m args below meth c H locs ls hF hR hL hV => lv_pop hF.1 hF.2.1 hd ((jv_cat G _).trans h1) (k p e s m args below meth c H locs ls hF hR hL hV)
theorem j_dup_x1 {v w : Value} (hd : decode cc pc = .ok (.dup_x1, 1)) (h1 : v.category = 1) (h2 : w.category = 1) (k : J l G (y, cc, n, r, rm) nc ns (pc + 1) lv (v :: w :: v :: st) h Q) : J l G (y, cc, n, r, rm) nc ns pc lv (v :: w :: st) h Q :=
  fun p e s m args below meth c H locs ls hF hR hL hV => lv_dup_x1 hF.1 hF.2.1 hd ((jv_cat G _).trans h1) ((jv_cat G _).trans h2) (k p e s m args below meth c H locs ls hF hR hL hV)
theorem j_dup_x2 {v w u : Value} (hd : decode cc pc = .ok (.dup_x2, 1)) (h1 : v.category = 1) (h2 : w.category = 1) (h3 : u.category = 1) (k : J l G (y, cc, n, r, rm) nc ns (pc + 1) lv (v :: w :: u :: v :: st) h Q) : J l G (y, cc, n, r, rm) nc ns pc lv (v :: w :: u :: st) h Q :=
  fun p e s m args below meth c H locs ls hF hR hL hV => lv_dup_x2 hF.1 hF.2.1 hd ((jv_cat G _).trans h1) ((jv_cat G _).trans h2) ((jv_cat G _).trans h3) (k p e s m args below meth c H locs ls hF hR hL hV)
theorem j_dup2 {v w : Value} (hd : decode cc pc = .ok (.dup2, 1)) (h1 : v.category = 1) (h2 : w.category = 1) (k : J l G (y, cc, n, r, rm) nc ns (pc + 1) lv (v :: w :: v :: w :: st) h Q) : J l G (y, cc, n, r, rm) nc ns pc lv (v :: w :: st) h Q :=
  fun p e s m args below meth c H locs ls hF hR hL hV => lv_dup2_11 hF.1 hF.2.1 hd ((jv_cat G _).trans h1) ((jv_cat G _).trans h2) (k p e s m args below meth c H locs ls hF hR hL hV)
theorem j_dup2L {v : Value} (hd : decode cc pc = .ok (.dup2, 1)) (h1 : v.category = 2) (k : J l G (y, cc, n, r, rm) nc ns (pc + 1) lv (v :: v :: st) h Q) : J l G (y, cc, n, r, rm) nc ns pc lv (v :: st) h Q :=
  fun p e s m args below meth c H locs ls hF hR hL hV => lv_dup2_2 hF.1 hF.2.1 hd ((jv_cat G _).trans h1) (k p e s m args below meth c H locs ls hF hR hL hV)
theorem j_dup2_x1L {v w : Value} (hd : decode cc pc = .ok (.dup2_x1, 1)) (h1 : v.category = 2) (h2 : w.category = 1) (k : J l G (y, cc, n, r, rm) nc ns (pc + 1) lv (v :: w :: v :: st) h Q) : J l G (y, cc, n, r, rm) nc ns pc lv (v :: w :: st) h Q :=
  fun p e s m args below meth c H locs ls hF hR hL hV => lv_dup2_x1_2 hF.1 hF.2.1 hd ((jv_cat G _).trans h1) ((jv_cat G _).trans h2) (k p e s m args below meth c H locs ls hF hR hL hV)
theorem j_dup2_x2L {v w u : Value} (hd : decode cc pc = .ok (.dup2_x2, 1)) (h1 : v.category = 2) (h2 : w.category = 1) (h3 : u.category = 1) (k : J l G (y, cc, n, r, rm) nc ns (pc + 1) lv (v :: w :: u :: v :: st) h Q) : J l G (y, cc, n, r, rm) nc ns pc lv (v :: w :: u :: st) h Q :=
  fun p e s m args below meth c H locs ls hF hR hL hV => lv_dup2_x2_2 hF.1 hF.2.1 hd ((jv_cat G _).trans h1) ((jv_cat G _).trans h2) ((jv_cat G _).trans h3) (k p e s m args below meth c H locs ls hF hR hL hV)
theorem j_if_eq {x : Int32} {off : Int} {tgt : Nat} (hd : decode cc pc = .ok (.ifCond .eq off, 3)) (ht : (pc : Int) + off = (tgt : Int)) (kt : x = 0 → J l G (y, cc, n, r, rm) nc ns tgt lv (st) h Q) (kf : ¬ (x = 0) → J l G (y, cc, n, r, rm) nc ns (pc + 3) lv (st) h Q) : J l G (y, cc, n, r, rm) nc ns pc lv (.int x :: st) h Q :=
  fun p e s m args below meth c H locs ls hF hR hL hV => lv_if_eq hF.1 hF.2.1 hd ht (fun q => kt q p e s m args below meth c H locs ls hF hR hL hV) (fun q => kf q p e s m args below meth c H locs ls hF hR hL hV)
theorem j_icmp_eq {x w : Int32} {off : Int} {tgt : Nat} (hd : decode cc pc = .ok (.if_icmp .eq off, 3)) (ht : (pc : Int) + off = (tgt : Int)) (kt : x = w → J l G (y, cc, n, r, rm) nc ns tgt lv (st) h Q) (kf : ¬ (x = w) → J l G (y, cc, n, r, rm) nc ns (pc + 3) lv (st) h Q) : J l G (y, cc, n, r, rm) nc ns pc lv (.int w :: .int x :: st) h Q :=
  fun p e s m args below meth c H locs ls hF hR hL hV => lv_icmp_eq hF.1 hF.2.1 hd ht (fun q => kt q p e s m args below meth c H locs ls hF hR hL hV) (fun q => kf q p e s m args below meth c H locs ls hF hR hL hV)
theorem j_if_ne {x : Int32} {off : Int} {tgt : Nat} (hd : decode cc pc = .ok (.ifCond .ne off, 3)) (ht : (pc : Int) + off = (tgt : Int)) (kt : ¬ x = 0 → J l G (y, cc, n, r, rm) nc ns tgt lv (st) h Q) (kf : x = 0 → J l G (y, cc, n, r, rm) nc ns (pc + 3) lv (st) h Q) : J l G (y, cc, n, r, rm) nc ns pc lv (.int x :: st) h Q :=
  fun p e s m args below meth c H locs ls hF hR hL hV => lv_if_ne hF.1 hF.2.1 hd ht (fun q => kt q p e s m args below meth c H locs ls hF hR hL hV) (fun q => kf q p e s m args below meth c H locs ls hF hR hL hV)
theorem j_icmp_ne {x w : Int32} {off : Int} {tgt : Nat} (hd : decode cc pc = .ok (.if_icmp .ne off, 3)) (ht : (pc : Int) + off = (tgt : Int)) (kt : ¬ x = w → J l G (y, cc, n, r, rm) nc ns tgt lv (st) h Q) (kf : x = w → J l G (y, cc, n, r, rm) nc ns (pc + 3) lv (st) h Q) : J l G (y, cc, n, r, rm) nc ns pc lv (.int w :: .int x :: st) h Q :=
  fun p e s m args below meth c H locs ls hF hR hL hV => lv_icmp_ne hF.1 hF.2.1 hd ht (fun q => kt q p e s m args below meth c H locs ls hF hR hL hV) (fun q => kf q p e s m args below meth c H locs ls hF hR hL hV)
theorem j_if_lt {x : Int32} {off : Int} {tgt : Nat} (hd : decode cc pc = .ok (.ifCond .lt off, 3)) (ht : (pc : Int) + off = (tgt : Int)) (kt : x < 0 → J l G (y, cc, n, r, rm) nc ns tgt lv (st) h Q) (kf : ¬ (x < 0) → J l G (y, cc, n, r, rm) nc ns (pc + 3) lv (st) h Q) : J l G (y, cc, n, r, rm) nc ns pc lv (.int x :: st) h Q :=
  fun p e s m args below meth c H locs ls hF hR hL hV => lv_if_lt hF.1 hF.2.1 hd ht (fun q => kt q p e s m args below meth c H locs ls hF hR hL hV) (fun q => kf q p e s m args below meth c H locs ls hF hR hL hV)
theorem j_icmp_lt {x w : Int32} {off : Int} {tgt : Nat} (hd : decode cc pc = .ok (.if_icmp .lt off, 3)) (ht : (pc : Int) + off = (tgt : Int)) (kt : x < w → J l G (y, cc, n, r, rm) nc ns tgt lv (st) h Q) (kf : ¬ (x < w) → J l G (y, cc, n, r, rm) nc ns (pc + 3) lv (st) h Q) : J l G (y, cc, n, r, rm) nc ns pc lv (.int w :: .int x :: st) h Q :=
  fun p e s m args below meth c H locs ls hF hR hL hV => lv_icmp_lt hF.1 hF.2.1 hd ht (fun q => kt q p e s m args below meth c H locs ls hF hR hL hV) (fun q => kf q p e s m args below meth c H locs ls hF hR hL hV)
theorem j_if_ge {x : Int32} {off : Int} {tgt : Nat} (hd : decode cc pc = .ok (.ifCond .ge off, 3)) (ht : (pc : Int) + off = (tgt : Int)) (kt : 0 ≤ x → J l G (y, cc, n, r, rm) nc ns tgt lv (st) h Q) (kf : ¬ (0 ≤ x) → J l G (y, cc, n, r, rm) nc ns (pc + 3) lv (st) h Q) : J l G (y, cc, n, r, rm) nc ns pc lv (.int x :: st) h Q :=
  fun p e s m args below meth c H locs ls hF hR hL hV => lv_if_ge hF.1 hF.2.1 hd ht (fun q => kt q p e s m args below meth c H locs ls hF hR hL hV) (fun q => kf q p e s m args below meth c H locs ls hF hR hL hV)
theorem j_icmp_ge {x w : Int32} {off : Int} {tgt : Nat} (hd : decode cc pc = .ok (.if_icmp .ge off, 3)) (ht : (pc : Int) + off = (tgt : Int)) (kt : w ≤ x → J l G (y, cc, n, r, rm) nc ns tgt lv (st) h Q) (kf : ¬ (w ≤ x) → J l G (y, cc, n, r, rm) nc ns (pc + 3) lv (st) h Q) : J l G (y, cc, n, r, rm) nc ns pc lv (.int w :: .int x :: st) h Q :=
  fun p e s m args below meth c H locs ls hF hR hL hV => lv_icmp_ge hF.1 hF.2.1 hd ht (fun q => kt q p e s m args below meth c H locs ls hF hR hL hV) (fun q => kf q p e s m args below meth c H locs ls hF hR hL hV)
theorem j_if_gt {x : Int32} {off : Int} {tgt : Nat} (hd : decode cc pc = .ok (.ifCond .gt off, 3)) (ht : (pc : Int) + off = (tgt : Int)) (kt : 0 < x → J l G (y, cc, n, r, rm) nc ns tgt lv (st) h Q) (kf : ¬ (0 < x) → J l G (y, cc, n, r, rm) nc ns (pc + 3) lv (st) h Q) : J l G (y, cc, n, r, rm) nc ns pc lv (.int x :: st) h Q :=
  fun p e s m args below meth c H locs ls hF hR hL hV => lv_if_gt hF.1 hF.2.1 hd ht (fun q => kt q p e s m args below meth c H locs ls hF hR hL hV) (fun q => kf q p e s m args below meth c H locs ls hF hR hL hV)
theorem j_icmp_gt {x w : Int32} {off : Int} {tgt : Nat} (hd : decode cc pc = .ok (.if_icmp .gt off, 3)) (ht : (pc : Int) + off = (tgt : Int)) (kt : w < x → J l G (y, cc, n, r, rm) nc ns tgt lv (st) h Q) (kf : ¬ (w < x) → J l G (y, cc, n, r, rm) nc ns (pc + 3) lv (st) h Q) : J l G (y, cc, n, r, rm) nc ns pc lv (.int w :: .int x :: st) h Q :=
  fun p e s m args below meth c H locs ls hF hR hL hV => lv_icmp_gt hF.1 hF.2.1 hd ht (fun q => kt q p e s m args below meth c H locs ls hF hR hL hV) (fun q => kf q p e s m args below meth c H locs ls hF hR hL hV)
theorem j_if_le {x : Int32} {off : Int} {tgt : Nat} (hd : decode cc pc = .ok (.ifCond .le off, 3)) (ht : (pc : Int) + off = (tgt : Int)) (kt : x ≤ 0 → J l G (y, cc, n, r, rm) nc ns tgt lv (st) h Q) (kf : ¬ (x ≤ 0) → J l G (y, cc, n, r, rm) nc ns (pc + 3) lv (st) h Q) : J l G (y, cc, n, r, rm) nc ns pc lv (.int x :: st) h Q :=
  fun p e s m args below meth c H locs ls hF hR hL hV => lv_if_le hF.1 hF.2.1 hd ht (fun q => kt q p e s m args below meth c H locs ls hF hR hL hV) (fun q => kf q p e s m args below meth c H locs ls hF hR hL hV)
theorem j_icmp_le {x w : Int32} {off : Int} {tgt : Nat} (hd : decode cc pc = .ok (.if_icmp .le off, 3)) (ht : (pc : Int) + off = (tgt : Int)) (kt : x ≤ w → J l G (y, cc, n, r, rm) nc ns tgt lv (st) h Q) (kf : ¬ (x ≤ w) → J l G (y, cc, n, r, rm) nc ns (pc + 3) lv (st) h Q) : J l G (y, cc, n, r, rm) nc ns pc lv (.int w :: .int x :: st) h Q :=
  fun p e s m args below meth c H locs ls hF hR hL hV => lv_icmp_le hF.1 hF.2.1 hd ht (fun q => kt q p e s m args below meth c H locs ls hF hR hL hV) (fun q => kf q p e s m args below meth c H locs ls hF hR hL hV)
theorem j_goto {off : Int} {tgt : Nat} (hd : decode cc pc = .ok (.goto off, 3)) (ht : (pc : Int) + off = (tgt : Int)) (k : J l G (y, cc, n, r, rm) nc ns tgt lv (st) h Q) : J l G (y, cc, n, r, rm) nc ns pc lv (st) h Q :=
  fun p e s m args below meth c H locs ls hF hR hL hV => lv_goto hF.1 hF.2.1 hd ht (k p e s m args below meth c H locs ls hF hR hL hV)
theorem j_ifnull {x : Nat} {off : Int} (hd : decode cc pc = .ok (.ifnull off, 3)) (k : J l G (y, cc, n, r, rm) nc ns (pc + 3) lv (st) h Q) : J l G (y, cc, n, r, rm) nc ns pc lv (.ref x :: st) h Q :=
  fun p e s m args below meth c H locs ls hF hR hL hV => lv_ifnull hF.1 hF.2.1 hd (k p e s m args below meth c H locs ls hF hR hL hV)
theorem j_ifnullN {off : Int} {tgt : Nat} (hd : decode cc pc = .ok (.ifnull off, 3)) (ht : (pc : Int) + off = (tgt : Int)) (k : J l G (y, cc, n, r, rm) nc ns tgt lv (st) h Q) : J l G (y, cc, n, r, rm) nc ns pc lv (.null :: st) h Q :=
  fun p e s m args below meth c H locs ls hF hR hL hV => lv_ifnullN hF.1 hF.2.1 hd ht (k p e s m args below meth c H locs ls hF hR hL hV)
theorem j_ifnonnullN {off : Int} (hd : decode cc pc = .ok (.ifnonnull off, 3)) (k : J l G (y, cc, n, r, rm) nc ns (pc + 3) lv (st) h Q) : J l G (y, cc, n, r, rm) nc ns pc lv (.null :: st) h Q :=
  fun p e s m args below meth c H locs ls hF hR hL hV => lv_ifnonnullN hF.1 hF.2.1 hd (k p e s m args below meth c H locs ls hF hR hL hV)
theorem j_ifnonnull {x : Nat} {off : Int} {tgt : Nat} (hd : decode cc pc = .ok (.ifnonnull off, 3)) (ht : (pc : Int) + off = (tgt : Int)) (k : J l G (y, cc, n, r, rm) nc ns tgt lv (st) h Q) : J l G (y, cc, n, r, rm) nc ns pc lv (.ref x :: st) h Q :=
  fun p e s m args below meth c H locs ls hF hR hL hV => lv_ifnonnull hF.1 hF.2.1 hd ht (k p e s m args below meth c H locs ls hF hR hL hV)
theorem j_tableOut {dflt lo hi : Int} {offs : Array Int} {len : Nat} {x : Int32} {tgt : Nat} (hd : decode cc pc = .ok (.tableswitch dflt lo hi offs, len)) (hx : x.toInt < lo ∨ hi < x.toInt) (ht : (pc : Int) + dflt = (tgt : Int)) (k : J l G (y, cc, n, r, rm) nc ns tgt lv (st) h Q) : J l G (y, cc, n, r, rm) nc ns pc lv (.int x :: st) h Q :=
  fun p e s m args below meth c H locs ls hF hR hL hV => lv_tableOut hF.1 hF.2.1 hd hx ht (k p e s m args below meth c H locs ls hF hR hL hV)
theorem j_tableIn {dflt lo hi : Int} {offs : Array Int} {len : Nat} {x : Int32} {off : Int} {tgt : Nat} (hd : decode cc pc = .ok (.tableswitch dflt lo hi offs, len)) (h1 : ¬ x.toInt < lo) (h2 : ¬ hi < x.toInt) (ho : offs[(x.toInt - lo).toNat]? = some off) (ht : (pc : Int) + off = (tgt : Int)) (k : J l G (y, cc, n, r, rm) nc ns tgt lv (st) h Q) : J l G (y, cc, n, r, rm) nc ns pc lv (.int x :: st) h Q :=
  fun p e s m args below meth c H locs ls hF hR hL hV => lv_tableIn hF.1 hF.2.1 hd h1 h2 ho ht (k p e s m args below meth c H locs ls hF hR hL hV)
theorem j_ldc {idx : Nat} {v : Int32} (hd : decode cc pc = .ok (.ldc idx, 2)) (hw : Cond.constant y.cls idx v ∈ jWS) (k : J l G (y, cc, n, r, rm) nc ns (pc + 2) lv (.int v :: st) h Q) : J l G (y, cc, n, r, rm) nc ns pc lv (st) h Q :=
  fun p e s m args below meth c H locs ls hF hR hL hV => lv_ldc hF.1 hF.2.1 hF.2.2.2.2.2.2.1 (hF.2.2.2.2.2.2.2.1 _ hw) hd (k p e s m args below meth c H locs ls hF hR hL hV)
theorem j_ldc2 {idx : Nat} {v : Int64} (hd : decode cc pc = .ok (.ldc2_w idx, 3)) (hw : Cond.constantLong y.cls idx v ∈ jWS) (k : J l G (y, cc, n, r, rm) nc ns (pc + 3) lv (.long v :: st) h Q) : J l G (y, cc, n, r, rm) nc ns pc lv (st) h Q :=
  fun p e s m args below meth c H locs ls hF hR hL hV => lv_ldc2 hF.1 hF.2.1 hF.2.2.2.2.2.2.1 (hF.2.2.2.2.2.2.2.1 _ hw) hd (k p e s m args below meth c H locs ls hF hR hL hV)
theorem j_sub {lv' : List (Nat × Value)} (hs : lv'.map (fun q => jlk q.1 lv) = lv'.map (fun q => some q.2)) (k : J l G (y, cc, n, r, rm) nc ns pc lv' st h Q) : J l G (y, cc, n, r, rm) nc ns pc lv st h Q := by
  intro p e s m args below meth c H locs ls hF hR hL hV
  refine k p e s m args below meth c H locs ls hF hR hL ⟨hV.1, hV.2.1, fun q hq => ?_⟩
  obtain ⟨x, hx, rfl⟩ := List.mem_map.mp hq
  obtain ⟨i, hi⟩ := List.getElem?_of_mem hx
  have h1 : (lv'.map (fun q => jlk q.1 lv))[i]? = (lv'.map (fun q => some q.2))[i]? := by rw [hs]
  rw [List.getElem?_map, List.getElem?_map, hi] at h1
  exact j_lv hV (Option.some.inj h1)
theorem j_widen {k1 n1 : Nat} (h1 : nc ≤ k1) (h2 : ns ≤ n1) (k : J l G (y, cc, n, r, rm) k1 n1 pc lv st h Q) : J l G (y, cc, n, r, rm) nc ns pc lv st h Q :=
  fun p e s m args below meth c H locs ls hF hR hL hV => W.widen h1 h2 (k p e s m args below meth c H locs ls hF hR hL hV)
theorem j_mono {Q1 : Option Value → jH → Prop} (hQ : ∀ v h', Q1 v h' → Q v h') (k : J l G (y, cc, n, r, rm) nc ns pc lv st h Q1) : J l G (y, cc, n, r, rm) nc ns pc lv st h Q := by
  intro p e s m args below meth c H locs ls hF hR hL hV T hT X
  obtain ⟨t, a1, o, b1, b2, ⟨v, h', c1, c2, c3⟩, b4⟩ := k p e s m args below meth c H locs ls hF hR hL hV T hT X
  exact ⟨t, a1, o, b1, b2, ⟨v, h', c1, hQ v h' c2, c3⟩, b4⟩
theorem j_iret {v : Int32} {ty : FieldType} (hd : decode cc pc = .ok (.ireturn, 1)) (hr : r = some ty) (hn : narrow ty (.int v) = .int v) (h1 : nc ≤ rm.cells) (h2 : ns ≤ rm.slots) (hq : Q (some (.int v)) h) : J l G (y, cc, n, r, rm) nc ns pc lv [.int v] h Q := by
  intro p e s m args below meth c H locs ls hF hR hL hV
  refine W.widen h1 h2 ?_
  exact W.zret hF.1 hF.2.1 (hF.2.2.2.1.trans hr) hn (fun t ht _ => ⟨some (.int v), h, rfl, hq, by rw [ht]; exact hR⟩) hL hd hF.2.2.2.2.1
theorem j_lret {v : Int64} (hd : decode cc pc = .ok (.lreturn, 1)) (hr : r = some .long) (h1 : nc ≤ rm.cells) (h2 : ns ≤ rm.slots) (hq : Q (some (.long v)) h) : J l G (y, cc, n, r, rm) nc ns pc lv [.long v] h Q := by
  intro p e s m args below meth c H locs ls hF hR hL hV
  refine W.widen h1 h2 ?_
  exact W.lret hF.1 hF.2.1 (hF.2.2.2.1.trans hr) (fun t ht _ => ⟨some (.long v), h, rfl, hq, by rw [ht]; exact hR⟩) hL hd hF.2.2.2.2.1
theorem j_vret (hd : decode cc pc = .ok (.return_, 1)) (hr : r = none) (h1 : nc ≤ rm.cells) (h2 : ns ≤ rm.slots) (hq : Q none h) : J l G (y, cc, n, r, rm) nc ns pc lv [] h Q := by
  intro p e s m args below meth c H locs ls hF hR hL hV
  refine W.widen h1 h2 ?_
  exact W.vret hF.1 hF.2.1 (hF.2.2.2.1.trans hr) (fun t ht _ => ⟨none, h, rfl, hq, by rw [ht]; exact hR⟩) hL hd hF.2.2.2.2.1
theorem j_aret {v : Value} {C : String} (hd : decode cc pc = .ok (.areturn, 1)) (hr : r = some (.object C)) (hv : v = .null ∨ ∃ a, v = .ref a) (h1 : nc ≤ rm.cells) (h2 : ns ≤ rm.slots) (hq : Q (some v) h) : J l G (y, cc, n, r, rm) nc ns pc lv [v] h Q := by
  intro p e s m args below meth c H locs ls hF hR hL hV
  refine W.widen h1 h2 ?_
  exact W.aret hF.1 hF.2.1 (hF.2.2.2.1.trans hr) (Or.inl ⟨_, rfl⟩) (by rcases hv with rfl | ⟨a, rfl⟩; exact Or.inl rfl; exact Or.inr ⟨_, rfl⟩) (fun t ht _ => ⟨some v, h, rfl, hq, by rw [ht]; exact hR⟩) hL hd hF.2.2.2.2.1
end JR
end
section
section JHP
variable {l : Launch} {G : jG} {y : MethodName} {cc : ByteArray} {n : Nat} {r : Option FieldType} {rm : Room} {nc ns pc : Nat} {lv : List (Nat × Value)} {st : List Value} {h : jH} {Q : Option Value → jH → Prop}
/-- field fi of class ci, as own's pool entry idx names it -/
def jFld (own : String) (idx ci fi : Nat) (ty : FieldType) (fin : Bool) : Prop :=
  ∃ (C : String) (T : u_T) (N : Nat) (tyf : Nat → FieldType), vwCl[ci]? = some (C, T, N) ∧ fi < N ∧ (∀ w ∈ u_ws C T N, w ∈ jWS) ∧ (∀ k, k < N → parseFieldDescriptor (T k).2.2.1 = some (tyf k)) ∧ (∀ a, a < N → ∀ b, b < N → a ≠ b → (T a).2.1 ≠ (T b).2.1) ∧ (T fi).1 = C ∧ tyf fi = ty ∧ (T fi).2.2.2 = fin ∧ (Cond.fieldLink own idx C (T fi).2.1 (T fi).2.2.1 ∈ jWS ∨ ∃ host, Cond.fieldLinkNest own idx C (T fi).2.1 (T fi).2.2.1 host ∈ jNW)
theorem j_getf {k ci fi idx : Nat} {fs : List Value} {v : Value} {ty : FieldType} {fin : Bool} (hd : decode cc pc = .ok (.getfield idx, 3)) (hw : jFld y.cls idx ci fi ty fin) (hk : h.2 k = some (jO ci fs)) (hv : fs[fi]? = some v) (kk : J l G (y, cc, n, r, rm) nc ns (pc + 3) lv (v :: st) h Q) : J l G (y, cc, n, r, rm) nc ns pc lv (.ref k :: st) h Q := by
  intro p e s m args below meth c H locs ls hF hR hL hV
  obtain ⟨C, T, N, tyf, hc, hlt, hin, hty, hnm, hT1, hty1, hfin, hlink⟩ := hw
  obtain ⟨hx, hb, hml, hret, hlk, hnm2, hown, hts, henv, hs0, hz⟩ := id hF
  obtain ⟨r0, h1, cell, q1, q2, q3, q4⟩ := hR.2.2.2 k _ hk
  have hr : r0 = (C, T, N) := Option.some.inj (h1.symm.trans hc)
  subst hr
  obtain ⟨hS, hfc, kC, hkC, hkind⟩ := henv.2.1.1 ci _ hc
  obtain ⟨cf, kf, fi', f, hi, hsl⟩ := hS fi hlt
  have hst := (u_facts hfc hkC (u_lays hts hin hlt) hi).1
  have hslot : cell.slots[f.slot]? = some (jv G v) := by
    rw [hsl, q4 fi hlt]
    simp [vp_V, hv]
  rw [hT1] at hi
  rcases hlink with hl | ⟨host, hl⟩
  · exact W.getf hx hb hown (hts _ hl) hi hst q1 (by rw [q3]; exact fun h => by cases h) (v := jv G v) hslot rfl rfl hd (kk p e s m args below meth c H locs ls hF hR hL hV)
  · exact va_Wgetf hx hb hown (va_Nw.use rfl (henv.2.2.1 _ hl)) hi hst q1 (by rw [q3]; exact fun h => by cases h) (v := jv G v) hslot rfl rfl hd (kk p e s m args below meth c H locs ls hF hR hL hV)
theorem j_fset {fs : List Value} {fi : Nat} (hl : fi < fs.length) (v : Value) (j : Nat) : updV (fun k => jv G (vp_V fs k)) fi (jv G v) j = jv G (vp_V (fs.set fi v) j) := by
  rw [← vp_updV_set hl v j]
  by_cases e : j = fi <;> simp [updV, e]
theorem j_locs {locs : List Loc} {a i : Nat} (hL : ∀ q ∈ locs, G.1.size ≤ q.base) : ∀ q ∈ locs ++ [⟨G.1.size + a, i⟩], G.1.size ≤ q.base := by
  intro q hq
  rcases List.mem_append.mp hq with h1 | h1
  · exact hL q h1
  · rw [List.mem_singleton.mp h1]
    exact Nat.le_add_right _ _
theorem j_putf {k ci fi idx : Nat} {fs : List Value} {v : Value} {ty : FieldType} (hd : decode cc pc = .ok (.putfield idx, 3)) (hw : jFld y.cls idx ci fi ty false) (hk : h.2 k = some (jO ci fs)) (hn : narrow ty (jv G v) = jv G v) (hft : fits ty (jv G v) = true) (hl : fi < fs.length) (kk : J l G (y, cc, n, r, rm) nc ns (pc + 3) lv st (j_set h k (jO ci (fs.set fi v))) Q) : J l G (y, cc, n, r, rm) nc ns pc lv (v :: .ref k :: st) h Q := by
  intro p e s m args below meth c H locs ls hF hR hL hV
  obtain ⟨C, T, N, tyf, hc, hlt, hin, hty, hnm, hT1, hty1, hfin, hlink⟩ := hw
  obtain ⟨hx, hb, hml, hret, hlk, hnm2, hown, hts, henv, hs0, hz⟩ := id hF
  obtain ⟨r0, h1, cell, q1, q2, q3, q4⟩ := hR.2.2.2 k _ hk
  have hr : r0 = (C, T, N) := Option.some.inj (h1.symm.trans hc)
  subst hr
  have hap := va_apart (own := y.cls) hts hin tyf hty hnm henv.2.1 hc
  obtain ⟨hS, hfc, kC, hkC, hkind⟩ := henv.2.1.1 ci _ hc
  obtain ⟨cf, kf, fi', f, hi, hsl⟩ := hS fi hlt
  have hlay := hts _ (hin _ (u_in_lay hlt))
  unfold u_lay at hlay
  rw [if_neg (by rw [hfin]; decide)] at hlay
  have hst := (u_facts hfc hkC (u_lays hts hin hlt) hi).1
  have h6 := u_store hfc hkC hkind hlay hi ((hty fi hlt).trans (congrArg some hty1)) hn hft
  rw [hT1] at hi
  have key : ∀ H' : Heap, H'[G.1.size + k]? = some (cell.setSlot f.slot (jv G v)) → H'.size = H.size → (∀ q, q ≠ G.1.size + k → H'[q]? = H[q]?) → W p l e rm s m args below meth c H' (locs ++ [⟨G.1.size + k, f.slot⟩]) nc ns (MQ below (j_Q G Q) args s rm.cells rm.slots (fun q => G.1.size ≤ q)) (F0 m (pc + 3) ls (st.map (jv G))) := by
    intro H' e1 e2 e3
    rw [hsl] at e1
    exact kk p e s m args below meth c H' _ ls hF (hR.set hk ⟨_, hc, t_OB.to (V := updV (fun k => jv G (vp_V fs k)) fi (jv G v)) ⟨_, e1, q2, q3, t_set q4 hap hlt (jv G v)⟩ (fun j _ => j_fset hl v j)⟩ e2 e3) (j_locs hL) hV
  rcases hlink with hl2 | ⟨host, hl2⟩
  · exact W.putK hx hb (f := f) ⟨hown, hts _ hl2, ⟨_, _, _, hi⟩, hst⟩ (by rw [q2]; exact h6) q1 q3 (by rw [hsl]; exact k2_hasslot (q4 fi hlt)) rfl rfl hd key
  · exact va_WputK hx hb (f := f) hown (va_Nw.use rfl (henv.2.2.1 _ hl2)) hi hst (by rw [q2]; exact h6) q1 q3 (by rw [hsl]; exact k2_hasslot (q4 fi hlt)) rfl rfl hd key
/-- a final field, in its class's constructor -/
theorem j_putF {k ci fi idx : Nat} {fs : List Value} {v : Value} {ty : FieldType} (hd : decode cc pc = .ok (.putfield idx, 3)) (hw : jFld y.cls idx ci fi ty true) (hC : (vwCl[ci]?).map (fun q => q.1) = some y.cls) (hy : y.name = "<init>") (hlk : ∃ (C : String) (T : u_T) (N : Nat), vwCl[ci]? = some (C, T, N) ∧ Cond.fieldLink y.cls idx C (T fi).2.1 (T fi).2.2.1 ∈ jWS) (hk : h.2 k = some (jO ci fs)) (hn : narrow ty (jv G v) = jv G v) (hft : fits ty (jv G v) = true) (hl : fi < fs.length) (kk : J l G (y, cc, n, r, rm) nc ns (pc + 3) lv st (j_set h k (jO ci (fs.set fi v))) Q) : J l G (y, cc, n, r, rm) nc ns pc lv (v :: .ref k :: st) h Q := by
  intro p e s m args below meth c H locs ls hF hR hL hV
  obtain ⟨C, T, N, tyf, hc, hlt, hin, hty, hnm, hT1, hty1, hfin, -⟩ := hw
  obtain ⟨C2, T2, N2, hc2, hlink⟩ := hlk
  cases hc.symm.trans hc2
  have hyC : C = y.cls := by
    rw [hc] at hC
    exact Option.some.inj hC
  obtain ⟨hx, hb, hml, hret, hlk, hnm2, hown, hts, henv, hs0, hz⟩ := id hF
  obtain ⟨r0, h1, cell, q1, q2, q3, q4⟩ := hR.2.2.2 k _ hk
  have hr : r0 = (C, T, N) := Option.some.inj (h1.symm.trans hc)
  subst hr
  have hap := va_apart (own := y.cls) hts hin tyf hty hnm henv.2.1 hc
  obtain ⟨hS, hfc, kC, hkC, hkind⟩ := henv.2.1.1 ci _ hc
  obtain ⟨cf, kf, fi', f, hi, hsl⟩ := hS fi hlt
  have hlay := hts _ (hin _ (u_in_lay hlt))
  unfold u_lay at hlay
  rw [if_pos hfin] at hlay
  have hst := (u_facts hfc hkC (u_lays hts hin hlt) hi).1
  have h6 := u_fits hfc hkC hkind (u_lays hts hin hlt) hi ((hty fi hlt).trans (congrArg some hty1)) hn hft
  have hcf : m.cls = cf := by
    rw [hT1] at hi hlay
    rw [hyC] at hi hlay
    exact laid_decl hown hlay hi
  rw [hT1] at hi
  refine W.putFinK hx hb hown (hts _ hlink) hi hst hcf (hnm2.trans hy) (by rw [q2]; exact h6) q1 q3 (by rw [hsl]; exact k2_hasslot (q4 fi hlt)) rfl rfl hd fun H' e1 e2 e3 => ?_
  rw [hsl] at e1
  exact kk p e s m args below meth c H' _ ls hF (hR.set hk ⟨_, hc, t_OB.to (V := updV (fun k => jv G (vp_V fs k)) fi (jv G v)) ⟨_, e1, q2, q3, t_set q4 hap hlt (jv G v)⟩ (fun j _ => j_fset hl v j)⟩ e2 e3) (j_locs hL) hV
/-- an index: what it is, and that it is within -/
def jix (i : Int32) (q N : Nat) : Prop := ¬ i < 0 ∧ i.toNatClampNeg = q ∧ q < N
theorem jix_in {i : Int32} {q N : Nat} (hx : jix i q N) {cA : ClassId} {f : Nat → Value} : ¬ (i < 0 ∨ (arrV cA N f).slots.size ≤ i.toNatClampNeg) := by
  rw [arrV_size, hx.2.1]
  intro z
  rcases z with z | z
  · exact hx.1 z
  · exact absurd hx.2.2 (Nat.not_lt.mpr z)
theorem jix_rd {i : Int32} {q N : Nat} (hx : jix i q N) {cA : ClassId} {f : Nat → Value} : (arrV cA N f).slots[i.toNatClampNeg]? = some (f q) := by
  rw [hx.2.1]
  exact arrV_read cA f hx.2.2
theorem jix_nI {q N : Nat} (h : q < N) (hN : N < 2 ^ 31) : jix (nI q) q N := ⟨nI_pos (by omega), nI_clamp (by omega), h⟩
theorem jix_st {cA : ClassId} {N q : Nat} {f : Nat → Value} {v : Value} : (arrV cA N (fun j => jv G (f j))).setSlot q (jv G v) = arrV cA N (fun j => jv G (va_up f q v j)) := by
  rw [arrV_store]
  refine congrArg (arrV cA N) (funext fun j => ?_)
  by_cases e : j = q <;> simp [updV, va_up, e]
theorem j_ty (t : Nat) {U : State} (henv : j_env G U) {ty : FieldType} (ht : (j_tys G)[t]? = some (G.2.2.1 t, ty)) (N : Nat) (f : Nat → Value) : U.isArrayOf (arrV (G.2.2.1 t) N f) ty := (henv.2.1.2 t _ ht).1 N f
theorem j_iald {k N q : Nat} {a : Nat → Int32} {i : Int32} (hd : decode cc pc = .ok (.iaload, 1)) (hk : h.2 k = some (jI N a)) (hx : jix i q N) (kk : J l G (y, cc, n, r, rm) nc ns (pc + 1) lv (.int (a q) :: st) h Q) : J l G (y, cc, n, r, rm) nc ns pc lv (.int i :: .ref k :: st) h Q :=
  fun p e s m args below meth c H locs ls hF hR hL hV => W.iald (v := .int (a q)) hF.1 hF.2.1 (hR.2.2.2 k _ hk) (j_ty 0 hF.2.2.2.2.2.2.2.2.1 rfl _ _) (fun q => by cases q) (jix_in hx) (jix_rd hx) rfl rfl hd (kk p e s m args below meth c H locs ls hF hR hL hV)
theorem j_lald {k N q : Nat} {a : Nat → Int64} {i : Int32} (hd : decode cc pc = .ok (.laload, 1)) (hk : h.2 k = some (jL N a)) (hx : jix i q N) (kk : J l G (y, cc, n, r, rm) nc ns (pc + 1) lv (.long (a q) :: st) h Q) : J l G (y, cc, n, r, rm) nc ns pc lv (.int i :: .ref k :: st) h Q :=
  fun p e s m args below meth c H locs ls hF hR hL hV => W.lald (v := .long (a q)) hF.1 hF.2.1 (hR.2.2.2 k _ hk) (j_ty 1 hF.2.2.2.2.2.2.2.2.1 rfl _ _) (fun q => by cases q) (jix_in hx) (jix_rd hx) rfl rfl hd (kk p e s m args below meth c H locs ls hF hR hL hV)
theorem j_cald {k N q : Nat} {a : Nat → Int32} {i : Int32} (hd : decode cc pc = .ok (.caload, 1)) (hk : h.2 k = some (jC N a)) (hx : jix i q N) (kk : J l G (y, cc, n, r, rm) nc ns (pc + 1) lv (.int (a q) :: st) h Q) : J l G (y, cc, n, r, rm) nc ns pc lv (.int i :: .ref k :: st) h Q :=
  fun p e s m args below meth c H locs ls hF hR hL hV => W.cald (v := .int (a q)) hF.1 hF.2.1 (hR.2.2.2 k _ hk) (j_ty 2 hF.2.2.2.2.2.2.2.2.1 rfl _ _) (fun q => by cases q) (jix_in hx) (jix_rd hx) rfl rfl hd (kk p e s m args below meth c H locs ls hF hR hL hV)
theorem j_zald {k N q : Nat} {a : Nat → Int32} {i : Int32} (hd : decode cc pc = .ok (.baload, 1)) (hk : h.2 k = some (jZ N a)) (hx : jix i q N) (kk : J l G (y, cc, n, r, rm) nc ns (pc + 1) lv (.int (a q) :: st) h Q) : J l G (y, cc, n, r, rm) nc ns pc lv (.int i :: .ref k :: st) h Q :=
  fun p e s m args below meth c H locs ls hF hR hL hV => W.zald (v := .int (a q)) hF.1 hF.2.1 (hR.2.2.2 k _ hk) (j_ty 3 hF.2.2.2.2.2.2.2.2.1 rfl _ _) (fun q => by cases q) (jix_in hx) (jix_rd hx) rfl rfl hd (kk p e s m args below meth c H locs ls hF hR hL hV)
theorem jv_jr (o : Option Nat) : jv G (jr o) = .null ∨ ∃ a, jv G (jr o) = .ref a := by
  cases o with
  | none => exact Or.inl rfl
  | some a => exact Or.inr ⟨_, rfl⟩
theorem j_aald {t k N q : Nat} {a : Nat → Option Nat} {i : Int32} {ty : FieldType} (hd : decode cc pc = .ok (.aaload, 1)) (ht : (j_tys G)[t]? = some (G.2.2.1 t, ty)) (hty : ty.isReference = true) (hk : h.2 k = some (jQ t N a)) (hx : jix i q N) (kk : J l G (y, cc, n, r, rm) nc ns (pc + 1) lv (jr (a q) :: st) h Q) : J l G (y, cc, n, r, rm) nc ns pc lv (.int i :: .ref k :: st) h Q :=
  fun p e s m args below meth c H locs ls hF hR hL hV => W.aald (v := jv G (jr (a q))) (ty := ty) hF.1 hF.2.1 (hR.2.2.2 k _ hk) (j_ty t hF.2.2.2.2.2.2.2.2.1 ht _ _) hty (fun q => by cases q) (jix_in hx) (jix_rd hx) rfl rfl hd (kk p e s m args below meth c H locs ls hF hR hL hV)
theorem j_alen {t k N : Nat} {f : Nat → Value} {ty : FieldType} (hd : decode cc pc = .ok (.arraylength, 1)) (ht : (j_tys G)[t]? = some (G.2.2.1 t, ty)) (hk : h.2 k = some (.inl (t, N, f))) (kk : J l G (y, cc, n, r, rm) nc ns (pc + 1) lv (.int (nI N) :: st) h Q) : J l G (y, cc, n, r, rm) nc ns pc lv (.ref k :: st) h Q :=
  fun p e s m args below meth c H locs ls hF hR hL hV => W.alen (n := nI N) hF.1 hF.2.1 (hR.2.2.2 k _ hk) (j_ty t hF.2.2.2.2.2.2.2.2.1 ht _ _) (by rw [arrV_size]; rfl) rfl rfl hd (kk p e s m args below meth c H locs ls hF hR hL hV)
theorem j_iast {k N q : Nat} {a : Nat → Int32} {i x : Int32} (hd : decode cc pc = .ok (.iastore, 1)) (hk : h.2 k = some (jI N a)) (hx : jix i q N) (kk : J l G (y, cc, n, r, rm) nc ns (pc + 1) lv st (j_set h k (jI N (va_up a q x))) Q) : J l G (y, cc, n, r, rm) nc ns pc lv (.int x :: .int i :: .ref k :: st) h Q := by
  intro p e s m args below meth c H locs ls hF hR hL hV
  refine W.iast hF.1 hF.2.1 (hR.2.2.2 k _ hk) (j_ty 0 hF.2.2.2.2.2.2.2.2.1 rfl _ _) (fun q => by cases q) (jix_in hx) rfl rfl hd fun H' e1 e2 e3 => ?_
  refine kk p e s m args below meth c H' _ ls hF (hR.set hk ?_ e2 e3) (j_locs hL) hV
  show H'[G.1.size + k]? = _
  rw [e1, hx.2.1]
  refine congrArg some ((jix_st (v := .int x)).trans (congrArg (arrV _ N) (funext fun j => ?_)))
  by_cases e : j = q <;> simp [va_up, e]
theorem j_last {k N q : Nat} {a : Nat → Int64} {i : Int32} {x : Int64} (hd : decode cc pc = .ok (.lastore, 1)) (hk : h.2 k = some (jL N a)) (hx : jix i q N) (kk : J l G (y, cc, n, r, rm) nc ns (pc + 1) lv st (j_set h k (jL N (va_up a q x))) Q) : J l G (y, cc, n, r, rm) nc ns pc lv (.long x :: .int i :: .ref k :: st) h Q := by
  intro p e s m args below meth c H locs ls hF hR hL hV
  refine W.last hF.1 hF.2.1 (hR.2.2.2 k _ hk) (j_ty 1 hF.2.2.2.2.2.2.2.2.1 rfl _ _) (fun q => by cases q) (jix_in hx) rfl rfl hd fun H' e1 e2 e3 => ?_
  refine kk p e s m args below meth c H' _ ls hF (hR.set hk ?_ e2 e3) (j_locs hL) hV
  show H'[G.1.size + k]? = _
  rw [e1, hx.2.1]
  refine congrArg some ((jix_st (v := .long x)).trans (congrArg (arrV _ N) (funext fun j => ?_)))
  by_cases e : j = q <;> simp [va_up, e]
theorem j_cast {k N q : Nat} {a : Nat → Int32} {i x : Int32} (hd : decode cc pc = .ok (.castore, 1)) (hk : h.2 k = some (jC N a)) (hx : jix i q N) (hn : narrow .char (.int x) = .int x) (kk : J l G (y, cc, n, r, rm) nc ns (pc + 1) lv st (j_set h k (jC N (va_up a q x))) Q) : J l G (y, cc, n, r, rm) nc ns pc lv (.int x :: .int i :: .ref k :: st) h Q := by
  intro p e s m args below meth c H locs ls hF hR hL hV
  refine W.cast hF.1 hF.2.1 (hR.2.2.2 k _ hk) (j_ty 2 hF.2.2.2.2.2.2.2.2.1 rfl _ _) (fun q => by cases q) (jix_in hx) rfl rfl hd fun H' e1 e2 e3 => ?_
  refine kk p e s m args below meth c H' _ ls hF (hR.set hk ?_ e2 e3) (j_locs hL) hV
  show H'[G.1.size + k]? = _
  rw [e1, hx.2.1, hn]
  refine congrArg some ((jix_st (v := .int x)).trans (congrArg (arrV _ N) (funext fun j => ?_)))
  by_cases e : j = q <;> simp [va_up, e]
theorem j_zast {k N q : Nat} {a : Nat → Int32} {i x : Int32} (hd : decode cc pc = .ok (.bastore, 1)) (hk : h.2 k = some (jZ N a)) (hx : jix i q N) (hn : narrow .boolean (.int x) = .int x) (kk : J l G (y, cc, n, r, rm) nc ns (pc + 1) lv st (j_set h k (jZ N (va_up a q x))) Q) : J l G (y, cc, n, r, rm) nc ns pc lv (.int x :: .int i :: .ref k :: st) h Q := by
  intro p e s m args below meth c H locs ls hF hR hL hV
  refine W.zast hF.1 hF.2.1 (hR.2.2.2 k _ hk) (j_ty 3 hF.2.2.2.2.2.2.2.2.1 rfl _ _) (fun q => by cases q) (jix_in hx) rfl rfl hd fun H' e1 e2 e3 => ?_
  refine kk p e s m args below meth c H' _ ls hF (hR.set hk ?_ e2 e3) (j_locs hL) hV
  show H'[G.1.size + k]? = _
  rw [e1, hx.2.1, hn]
  refine congrArg some ((jix_st (v := .int x)).trans (congrArg (arrV _ N) (funext fun j => ?_)))
  by_cases e : j = q <;> simp [va_up, e]
/-- an object into an array of its class -/
theorem j_aast {t k N q x ci : Nat} {a : Nat → Option Nat} {i : Int32} {fs : List Value} {C : String} {T : u_T} {N1 : Nat} (hd : decode cc pc = .ok (.aastore, 1)) (ht : (j_tys G)[t]? = some (G.2.2.1 t, .object C)) (hc : vwCl[ci]? = some (C, T, N1)) (hk : h.2 k = some (jQ t N a)) (hk2 : h.2 x = some (jO ci fs)) (hx : jix i q N) (kk : J l G (y, cc, n, r, rm) nc ns (pc + 1) lv st (j_set h k (jQ t N (va_up a q (some x)))) Q) : J l G (y, cc, n, r, rm) nc ns pc lv (.ref x :: .int i :: .ref k :: st) h Q := by
  intro p e s m args below meth c H locs ls hF hR hL hV
  have henv := hF.2.2.2.2.2.2.2.2.1
  obtain ⟨kA, comp, a1, a2, a3, a4⟩ := (henv.2.1.2 t _ ht).2
  obtain ⟨r0, h1, cell, q1, q2, q3, q4⟩ := hR.2.2.2 x _ hk2
  obtain ⟨-, hCA⟩ := henv.2.1.1 ci _ hc
  obtain ⟨hfc, kC, hkC, hkind⟩ := id hCA
  have hcomp : comp = G.2.1.1 ci := Option.some.inj (a3.symm.trans hfc)
  refine W.aast hF.1 hF.2.1 (hR.2.2.2 k _ hk) (fun q z => by cases z) (fun z => by cases z) a1 a2 rfl (by rw [hcomp]; exact hkC) ⟨hx.1, by rw [hx.2.1, arrV_size]; exact hx.2.2⟩ q1 (fun q z => by rw [q3] at z; cases z) (by rw [q2]; exact hkC) (by rw [q2, hcomp]; exact va_assign hCA) rfl rfl hd fun H' e1 e2 e3 => ?_
  refine kk p e s m args below meth c H' _ ls hF (hR.set hk ?_ e2 e3) (j_locs hL) hV
  show H'[G.1.size + k]? = _
  rw [e1, hx.2.1]
  refine congrArg some ((jix_st (v := .ref x)).trans (congrArg (arrV _ N) (funext fun j => ?_)))
  by_cases e : j = q <;> simp [va_up, e, jr]
/-- a new object -/
theorem j_newc {idx ci N : Nat} {C : String} {T : u_T} {tyf : Nat → FieldType} {fs : List Value} (hd : decode cc pc = .ok (.new idx, 3)) (hc : vwCl[ci]? = some (C, T, N)) (hin : ∀ w ∈ u_ws C T N, w ∈ jWS) (hty : ∀ k, k < N → parseFieldDescriptor (T k).2.2.1 = some (tyf k)) (hcl : Cond.classLink y.cls idx C ∈ jWS) (hins : Cond.instantiable C N ∈ jWS) (hini : Cond.initialized C ∈ jWS) (hfs : ∀ j, j < N → defaultValue (tyf j) = jv G (vp_V fs j)) (h1 : nc + 1 ≤ rm.cells) (h2 : ns + N ≤ rm.slots)
    (kk : J l G (y, cc, n, r, rm) (nc + 1) (ns + N) (pc + 3) lv (.ref h.1 :: st) (j_new h (jO ci fs)) Q) : J l G (y, cc, n, r, rm) nc ns pc lv st h Q := by
  intro p e s m args below meth c H locs ls hF hR hL hV
  obtain ⟨hx, hb, hml, hret, hlk, hnm2, hown, hts, henv, hs0, hz⟩ := id hF
  have hKn := henv.2.1.1 ci _ hc
  refine W.newcK hx hb hown (hts _ hcl) (hts _ hins) (hts _ hini) rfl hd h1 h2 hKn.2.1 hR.1 fun H1 kC hkC e1 z1 o1 => ?_
  exact kk p e s m args below meth c H1 locs ls hF (hR.new ⟨_, hc, (u_born tyf hts hin hKn hkC e1 hty).to hfs⟩ (by rw [z1, hR.1]) (fun q hq => o1 q (by rw [← hR.1]; exact hq))) hL hV
/-- a new array of numbers -/
theorem j_newa {atype : ArrayType} {ty : FieldType} {d : Value} (t : Nat) {i : Int32} {N : Nat} (hd : decode cc pc = .ok (.newarray atype, 2)) (hty : newarray.typeOf atype = ty) (ht : (j_tys G)[t]? = some (G.2.2.1 t, ty)) (hra : ∀ (U : State) (cA : ClassId), va_RA U cA ty → U.vm.findClass ("[" ++ ty.toString) = some cA) (hdv : defaultValue ty = d) (hjd : jv G d = d) (hw : Cond.arrayClass ty ∈ jWS) (hi : ¬ i < 0) (hN : i.toNatClampNeg = N) (hby : N * componentBytes ty ≤ 536870912) (h1 : nc + 1 ≤ rm.cells) (h2 : ns + N ≤ rm.slots)
    (kk : J l G (y, cc, n, r, rm) (nc + 1) (ns + N) (pc + 2) lv (.ref h.1 :: st) (j_new h (.inl (t, N, fun _ => d))) Q) : J l G (y, cc, n, r, rm) nc ns pc lv (.int i :: st) h Q := by
  intro p e s m args below meth c H locs ls hF hR hL hV
  obtain ⟨hx, hb, hml, hret, hlk, hnm2, hown, hts, henv, hs0, hz⟩ := id hF
  subst hty
  refine va_newaK hx hb (hts _ hw) rfl hd rfl hi hN hby h1 h2 hR.1 fun H1 cA e1 z1 o1 hAr hNm => ?_
  have hcA : cA = G.2.2.1 t := Option.some.inj (hNm.symm.trans (hra s _ (henv.2.1.2 t _ ht).2))
  refine kk p e s m args below meth c H1 locs ls hF (hR.new ?_ (by rw [z1, hR.1]) (fun q hq => o1 q (by rw [← hR.1]; exact hq))) hL hV
  show H1[G.1.size + h.1]? = some (arrV (G.2.2.1 t) N (fun _ => jv G d))
  rw [e1, hcA, hdv, hjd]
theorem j_newI {i : Int32} {N : Nat} (hd : decode cc pc = .ok (.newarray .int, 2)) (hw : Cond.arrayClass .int ∈ jWS) (hi : ¬ i < 0) (hN : i.toNatClampNeg = N) (hby : N * 4 ≤ 536870912) (h1 : nc + 1 ≤ rm.cells) (h2 : ns + N ≤ rm.slots) (kk : J l G (y, cc, n, r, rm) (nc + 1) (ns + N) (pc + 2) lv (.ref h.1 :: st) (j_new h (jI N (fun _ => 0))) Q) : J l G (y, cc, n, r, rm) nc ns pc lv (.int i :: st) h Q :=
  j_newa 0 (d := .int 0) hd rfl rfl (fun _ _ h => h) rfl rfl hw hi hN hby h1 h2 kk
theorem j_newL {i : Int32} {N : Nat} (hd : decode cc pc = .ok (.newarray .long, 2)) (hw : Cond.arrayClass .long ∈ jWS) (hi : ¬ i < 0) (hN : i.toNatClampNeg = N) (hby : N * 8 ≤ 536870912) (h1 : nc + 1 ≤ rm.cells) (h2 : ns + N ≤ rm.slots) (kk : J l G (y, cc, n, r, rm) (nc + 1) (ns + N) (pc + 2) lv (.ref h.1 :: st) (j_new h (jL N (fun _ => 0))) Q) : J l G (y, cc, n, r, rm) nc ns pc lv (.int i :: st) h Q :=
  j_newa 1 (d := .long 0) hd rfl rfl (fun _ _ h => h) rfl rfl hw hi hN hby h1 h2 kk
theorem j_newC {i : Int32} {N : Nat} (hd : decode cc pc = .ok (.newarray .char, 2)) (hw : Cond.arrayClass .char ∈ jWS) (hi : ¬ i < 0) (hN : i.toNatClampNeg = N) (hby : N * 2 ≤ 536870912) (h1 : nc + 1 ≤ rm.cells) (h2 : ns + N ≤ rm.slots) (kk : J l G (y, cc, n, r, rm) (nc + 1) (ns + N) (pc + 2) lv (.ref h.1 :: st) (j_new h (jC N (fun _ => 0))) Q) : J l G (y, cc, n, r, rm) nc ns pc lv (.int i :: st) h Q :=
  j_newa 2 (d := .int 0) hd rfl rfl (fun _ _ h => h) rfl rfl hw hi hN hby h1 h2 kk
theorem j_newZ {i : Int32} {N : Nat} (hd : decode cc pc = .ok (.newarray .boolean, 2)) (hw : Cond.arrayClass .boolean ∈ jWS) (hi : ¬ i < 0) (hN : i.toNatClampNeg = N) (hby : N * 1 ≤ 536870912) (h1 : nc + 1 ≤ rm.cells) (h2 : ns + N ≤ rm.slots) (kk : J l G (y, cc, n, r, rm) (nc + 1) (ns + N) (pc + 2) lv (.ref h.1 :: st) (j_new h (jZ N (fun _ => 0))) Q) : J l G (y, cc, n, r, rm) nc ns pc lv (.int i :: st) h Q :=
  j_newa 3 (d := .int 0) hd rfl rfl (fun _ _ h => h) rfl rfl hw hi hN hby h1 h2 kk
/-- a new array of objects -/
theorem j_newq {idx : Nat} {C : String} (t : Nat) {i : Int32} {N : Nat} (hd : decode cc pc = .ok (.anewarray idx, 3)) (ht : (j_tys G)[t]? = some (G.2.2.1 t, .object C)) (hcl : Cond.classLink y.cls idx C ∈ jWS) (hao : ∀ U, j_env G U → va_AO C U) (hi : ¬ i < 0) (hN : i.toNatClampNeg = N) (hby : N * 4 ≤ 536870912) (h1 : nc + 1 ≤ rm.cells) (h2 : ns + N ≤ rm.slots)
    (kk : J l G (y, cc, n, r, rm) (nc + 1) (ns + N) (pc + 3) lv (.ref h.1 :: st) (j_new h (jQ t N (fun _ => none))) Q) : J l G (y, cc, n, r, rm) nc ns pc lv (.int i :: st) h Q := by
  intro p e s m args below meth c H locs ls hF hR hL hV
  obtain ⟨hx, hb, hml, hret, hlk, hnm2, hown, hts, henv, hs0, hz⟩ := id hF
  subst hN
  refine W.anew hx hb hown (hts _ hcl) (va_AO.use (hao s henv)) rfl hd rfl hi hby h1 h2 fun cA kA comp g1 g2 g3 g4 => ?_
  obtain ⟨kA2, comp2, a1, a2, a3, a4⟩ := (henv.2.1.2 t _ ht).2
  have hcA : cA = G.2.2.1 t := Option.some.inj (g1.symm.trans a4)
  have hst : (((.ref h.1 : Value) :: st).map (jv G)) = .ref H.size :: st.map (jv G) := by
    rw [hR.1]
    rfl
  show W p l e rm s m args below meth c _ locs _ _ _ (F0 m (pc + 3) ls (.ref H.size :: st.map (jv G)))
  rw [← hst]
  refine kk p e s m args below meth c _ locs ls hF (hR.new ?_ (by simp) (fun q hq => by rw [Array.getElem?_push, if_neg (Nat.ne_of_lt hq)])) hL hV
  show _ = some (arrV (G.2.2.1 t) _ (fun _ => jv G .null))
  rw [← hR.1, hcA, ← arrV_new]
  simp [jv]
/-- Object's constructor -/
theorem j_objInit {idx k : Nat} (hd : decode cc pc = .ok (.invokespecial idx, 3)) (hw : Cond.methodLink y.cls idx objectInit ∈ jWS) (hw2 : Cond.instanceMethod objectInit ∈ jWS) (hw3 : Cond.code objectInit ⟨#[0xb1]⟩ 1 none ∈ jWS) (h1 : 1 ≤ rm.frames) (h2 : (st.map fun v => v.category).sum + 12 ≤ rm.locals) (kk : J l G (y, cc, n, r, rm) nc ns (pc + 3) lv st h Q) : J l G (y, cc, n, r, rm) nc ns pc lv (.ref k :: st) h Q := by
  intro p e s m args below meth c H locs ls hF hR hL hV
  obtain ⟨hx, hb, hml, hret, hlk, hnm2, hown, hts, henv, hs0, hz⟩ := id hF
  have hcat : ((st.map (jv G)).map fun v => v.category).sum = (st.map fun v => v.category).sum := by
    rw [List.map_map]
    exact congrArg List.sum (List.map_congr_left (fun v _ => jv_cat G v))
  refine W.objInit hx hb hown (hts _ hw) (hts _ hw2) (hts _ hw3) rfl (by rw [hml]; exact hV.1) rfl hd h1 ?_ (kk p e s m args below meth c H locs ls hF hR hL hV)
  show 2 * 0 + ((st.map (jv G)).map fun v => v.category).sum + 12 ≤ rm.locals
  rw [hcat]
  omega
end JHP
end
section
section JCL
variable {l : Launch} {G : jG} {y : MethodName} {cc : ByteArray} {n : Nat} {r : Option FieldType} {rm : Room} {nc ns pc : Nat} {lv : List (Nat × Value)} {st : List Value} {h : jH} {Q : Option Value → jH → Prop}
theorem j_args (G : jG) : ∀ (As : List Value) (i : Nat), lv_args i (As.map (jv G)) = j_c G (lv_args i As)
  | [], _ => rfl
  | v :: t, i => by
    show (i, jv G v) :: lv_args _ (t.map (jv G)) = (i, jv G v) :: j_c G (lv_args _ t)
    rw [j_args G t, jv_cat]
def j_Pc (G : jG) (h : jH) (As : List Value) : Array Value → State → Prop := va_Pc (As.map (jv G)) (fun U => j_rep G h U.heap ∧ j_env G U)
/-- a method's walk from its entry is a contract of it -/
theorem j_met (As : List Value) (hp : plainName y.cls = true) (hlen : (lg_sl (As.map (jv G))).length ≤ n) (k : J l G (y, cc, n, r, rm) 0 0 0 (lv_args 0 As) [] h Q) : Met l y (.code y cc n r :: jWS) rm (j_Pc G h As) (j_Q G Q) rm.cells rm.slots (fun q => G.1.size ≤ q) := by
  refine Met.ofW (cc := cc) (maxL := n) (ret := r) hp rfl ?_
  intro p e s m args below meth c s₁ B hml hv
  obtain ⟨rfl, hR, henv⟩ := hv
  have hts := atoms_spec (ws := .code y cc n r :: jWS) B.pre
  rw [lg_entry_eq]
  have hl := lv_entry (As.map (jv G)) (n := n) hlen
  rw [j_args] at hl
  exact k p e s m _ below meth c s.heap [] _ ⟨B.exec, B.bytes, hml, B.returns, B.notSynchronized, (name_of_methodNamed B.named B.method).1, findClass_of_methodNamed B.named, fun w hw => hts w (List.mem_cons_of_mem _ hw), henv, hR.2.1, by rw [hR.1]; omega⟩ hR (fun q h => by cases h) hl
theorem j_blind (As : List Value) : FrameBlind (j_Pc G h As) := fun a U g mk q => ⟨q.1, q.2.1, j_env.same (u := U) (U := U.calling g mk a) rfl rfl q.2.2⟩
theorem j_goes {p : Program} {e : Env} {R : Room} {s : State} {m : MethodId} {args : Array Value} {below : List Frame} {meth : Method} {c : Code} {H : Heap} {locs : List Loc} {cells slots mc ms : Nat} {ls : Array Slot} {st0 rest : List Value} {a : Array Value} {Q1 : Option Value → jH → Prop} {Q2 : State → Prop} (hr : va_Run p l e R s m args below meth c H locs cells slots mc ms (F0 m pc ls st0) rest (j_Q G Q1 a) (fun q => G.1.size ≤ q)) (hL : ∀ q ∈ locs, G.1.size ≤ q.base)
    (kk : ∀ (v : Option Value) (h' : jH) (H' : Heap) (locs' : List Loc), Q1 v h' → j_rep G h' H' → (∀ q ∈ locs', G.1.size ≤ q.base) → W p l e R s m args below meth c H' locs' (cells + mc) (slots + ms) Q2 (F0 m (pc + 3) ls (v.toList.map (jv G) ++ rest))) : W p l e R s m args below meth c H locs cells slots Q2 (F0 m pc ls st0) := by
  intro T hT X
  obtain ⟨v, st₀, t, T', L, h0, X', hLL, e1, e2, ⟨v', h', hv, hq, hrep⟩, stp⟩ := hr T hT X
  cases hv
  obtain ⟨t2, a1, b1⟩ := kk v' h' T'.heap (locs ++ L) hq (by rw [e1]; exact hrep) (fun q hq2 => (List.mem_append.mp hq2).elim (hL q) (hLL q)) T' rfl X'
  refine ⟨t2, stp t2 ?_, b1⟩
  cases v' <;> exact a1
theorem j_good {c0 : Cond} (h0 : c0 ∈ jWS) : GoodIn jWS (c0 :: jWS) := by
  intro w hw
  have hw' : w ∈ jWS := by
    rcases List.mem_cons.mp hw with rfl | h1
    · exact h0
    · exact h1
  exact ⟨hw', good_of_word (jWS_good w hw')⟩
/-- a call: what is known of the link, of the callee, and that its room fits -/
def j_lk (own : String) (idx : Nat) (y' : MethodName) (cc' : ByteArray) (n' : Nat) (r' : Option FieldType) (k : Nat) : Prop :=
  Cond.code y' cc' n' r' ∈ jWS ∧ Cond.initialized y'.cls ∈ jWS ∧ Cond.methodLink own idx y' ∈ jWS ∧ plainName y'.cls = true ∧ (y'.cls ≠ "java/lang/invoke/MethodHandle" ∧ y'.cls ≠ "java/lang/invoke/VarHandle" ∧ (parseMethodDescriptor y'.desc).map (fun d => d.parameters.length) = some k)
def j_lv2 (own : String) (idx : Nat) (y' : MethodName) (cc' : ByteArray) (n' : Nat) (r' : Option FieldType) (k : Nat) : Prop :=
  j_lk own idx y' cc' n' r' k ∧ Cond.instanceMethod y' ∈ jWS ∧ Cond.selects y'.cls y' y' ∈ jWS
def j_ls (own : String) (idx : Nat) (y' : MethodName) (cc' : ByteArray) (n' : Nat) (r' : Option FieldType) (k : Nat) : Prop :=
  j_lk own idx y' cc' n' r' k ∧ Cond.static y' ∈ jWS
def j_li (own : String) (idx : Nat) (y' : MethodName) (cc' : ByteArray) (n' : Nat) (k : Nat) : Prop :=
  (j_lk own idx y' cc' n' none k ∨ (Cond.code y' cc' n' none ∈ jWS ∧ Cond.initialized y'.cls ∈ jWS ∧ (∃ host, Cond.methodLinkNest own idx y' host ∈ jNW) ∧ plainName y'.cls = true ∧ (y'.cls ≠ "java/lang/invoke/MethodHandle" ∧ y'.cls ≠ "java/lang/invoke/VarHandle" ∧ (parseMethodDescriptor y'.desc).map (fun d => d.parameters.length) = some k))) ∧ Cond.instanceMethod y' ∈ jWS ∧ y'.name = "<init>"
/-- the callee's room fits the caller's -/
def j_fit (rm rm' : Room) (n' nc ns : Nat) (As st : List Value) : Prop := rm'.frames + 1 ≤ rm.frames ∧ 8 + (n' + 11) + rm'.locals ≤ rm.locals ∧ nc + rm'.cells ≤ rm.cells ∧ ns + rm'.slots ≤ rm.slots ∧ (st.map fun v => v.category).sum ≤ 8 ∧ (lg_sl As).length ≤ n'
theorem j_sl (As : List Value) : (lg_sl (As.map (jv G))).length = (lg_sl As).length := by
  induction As with
  | nil => rfl
  | cons v t ih =>
    show (lg_sl (jv G v :: t.map (jv G))).length = (lg_sl (v :: t)).length
    simp only [lg_sl, List.flatMap_cons, List.length_append] at ih ⊢
    rw [jv_cat, ih]
    congr 1
    split <;> rfl
theorem j_rm {m : MethodId} {ls : Array Slot} {st1 : List Value} (hs : (st.map fun v => v.category).sum ≤ 8) : 2 * (F0 m pc ls st1).monitorRoom + ((st.map (jv G)).map fun v => v.category).sum ≤ 8 := by
  have hcat : ((st.map (jv G)).map fun v => v.category).sum = (st.map fun v => v.category).sum := by
    rw [List.map_map]
    exact congrArg List.sum (List.map_congr_left (fun v _ => jv_cat G v))
  show 2 * 0 + ((st.map (jv G)).map fun v => v.category).sum ≤ 8
  rw [hcat]
  omega
theorem j_mapA (v : Option Value) : (v.toList ++ st).map (jv G) = v.toList.map (jv G) ++ st.map (jv G) := List.map_append
variable {idx : Nat} {y' : MethodName} {cc' : ByteArray} {n' : Nat} {r' : Option FieldType} {rm' : Room}
/-- invokevirtual -/
theorem j_callV (As : List Value) {b ci : Nat} {fs : List Value} {st1 : List Value} (hd : decode cc pc = .ok (.invokevirtual idx, 3)) (hw : j_lv2 y.cls idx y' cc' n' r' As.length) (hk : h.2 b = some (jO ci fs)) (hc : (vwCl[ci]?).map (fun q => q.1) = some y'.cls) (hf : j_fit rm rm' n' nc ns (.ref b :: As) st) (hst : st1 = As.reverse ++ .ref b :: st)
    (kk : J l G (y', cc', n', r', rm') 0 0 0 (lv_args 0 (.ref b :: As)) [] h (fun v h' => J l G (y, cc, n, r, rm) (nc + rm'.cells) (ns + rm'.slots) (pc + 3) lv (v.toList ++ st) h' Q)) : J l G (y, cc, n, r, rm) nc ns pc lv st1 h Q := by
  subst hst
  intro p e s m args below meth c H locs ls hF hR hL hV
  obtain ⟨hx, hb, hml, hret, hlk, hnm2, hown, hts, henv, hs0, hz⟩ := id hF
  obtain ⟨⟨w1, w2, w3, w4, w5⟩, w6, w7⟩ := hw
  obtain ⟨f1, f2, f3, f4, f5, f6⟩ := hf
  obtain ⟨r0, g1, cell, q1, q2, q3, q4⟩ := hR.2.2.2 b _ hk
  have hr0 : vwCl[ci]? = some r0 := g1
  have hCc : r0.1 = y'.cls := by
    rw [hr0] at hc
    exact Option.some.inj hc
  have hfc := (henv.2.1.1 ci r0 hr0).2.1
  rw [hCc] at hfc
  have hM := j_met (.ref b :: As) w4 (by rw [j_sl]; exact f6) kk
  have cw : CallW rm s args y.cls y'.cls idx y' cc' n' r' (.code y' cc' n' r' :: jWS) rm' rm'.cells rm'.slots As.length := ⟨callB_of As.length hts (j_good w1) rfl rfl rfl (hts _ w2) (hts _ w3) w5 ⟨f1, f2⟩, hts _ w6, hts _ w7⟩
  refine j_goes (va_runV (As := As.map (jv G)) (rest := st.map (jv G)) (b := G.1.size + b) ⟨hx, hb, hml, hown, hts⟩ hM cw ⟨j_blind _, ⟨cell, q1, by rw [q3]; rfl, by rw [q2]; exact hfc⟩, fun U hU hW => ⟨rfl, by rw [hU]; exact hR, henv.warm hW (fun q hq => by rw [hU, hR.2.1 q hq, hs0 q hq])⟩⟩ rfl (by simp) hV.1 (by simp [List.map_reverse, jv]) (j_rm f5) hd ⟨f3, f4⟩) hL ?_
  intro v h' H' locs' hq hR' hL'
  rw [← j_mapA]
  exact hq p e s m args below meth c H' locs' ls hF hR' hL' hV
/-- invokestatic -/
theorem j_callS (As : List Value) {st1 : List Value} (hd : decode cc pc = .ok (.invokestatic idx, 3)) (hw : j_ls y.cls idx y' cc' n' r' As.length) (hf : j_fit rm rm' n' nc ns As st) (hst : st1 = As.reverse ++ st)
    (kk : J l G (y', cc', n', r', rm') 0 0 0 (lv_args 0 As) [] h (fun v h' => J l G (y, cc, n, r, rm) (nc + rm'.cells) (ns + rm'.slots) (pc + 3) lv (v.toList ++ st) h' Q)) : J l G (y, cc, n, r, rm) nc ns pc lv st1 h Q := by
  subst hst
  intro p e s m args below meth c H locs ls hF hR hL hV
  obtain ⟨hx, hb, hml, hret, hlk, hnm2, hown, hts, henv, hs0, hz⟩ := id hF
  obtain ⟨⟨w1, w2, w3, w4, w5⟩, w6⟩ := hw
  obtain ⟨f1, f2, f3, f4, f5, f6⟩ := hf
  have hM := j_met As w4 (by rw [j_sl]; exact f6) kk
  refine j_goes (va_runS (As := As.map (jv G)) (rest := st.map (jv G)) (n := As.length) ⟨hx, hb, hml, hown, hts⟩ hM ⟨callB_of As.length hts (j_good w1) rfl rfl rfl (hts _ w2) (hts _ w3) w5 ⟨f1, f2⟩, hts _ w6⟩ ⟨j_blind _, fun U hU hW => ⟨rfl, by rw [hU]; exact hR, henv.warm hW (fun q hq => by rw [hU, hR.2.1 q hq, hs0 q hq])⟩⟩ rfl (by simp) hV.1 (by simp [List.map_reverse]) (j_rm f5) hd ⟨f3, f4⟩) hL ?_
  intro v h' H' locs' hq hR' hL'
  rw [← j_mapA]
  exact hq p e s m args below meth c H' locs' ls hF hR' hL' hV
/-- invokespecial of a constructor -/
theorem j_callI (As : List Value) {b : Nat} {st1 : List Value} (hd : decode cc pc = .ok (.invokespecial idx, 3)) (hw : j_li y.cls idx y' cc' n' As.length) (hf : j_fit rm rm' n' nc ns (.ref b :: As) st) (hst : st1 = As.reverse ++ .ref b :: st)
    (kk : J l G (y', cc', n', none, rm') 0 0 0 (lv_args 0 (.ref b :: As)) [] h (fun v h' => J l G (y, cc, n, r, rm) (nc + rm'.cells) (ns + rm'.slots) (pc + 3) lv (v.toList ++ st) h' Q)) : J l G (y, cc, n, r, rm) nc ns pc lv st1 h Q := by
  subst hst
  intro p e s m args below meth c H locs ls hF hR hL hV
  obtain ⟨hx, hb, hml, hret, hlk, hnm2, hown, hts, henv, hs0, hz⟩ := id hF
  obtain ⟨hw, w6, w7⟩ := hw
  obtain ⟨f1, f2, f3, f4, f5, f6⟩ := hf
  have go : ∀ (v : Option Value) (h' : jH) (H' : Heap) (locs' : List Loc), J l G (y, cc, n, r, rm) (nc + rm'.cells) (ns + rm'.slots) (pc + 3) lv (v.toList ++ st) h' Q → j_rep G h' H' → (∀ q ∈ locs', G.1.size ≤ q.base) → W p l e rm s m args below meth c H' locs' (nc + rm'.cells) (ns + rm'.slots) (MQ below (j_Q G Q) args s rm.cells rm.slots (fun q => G.1.size ≤ q)) (F0 m (pc + 3) ls (v.toList.map (jv G) ++ st.map (jv G))) := by
    intro v h' H' locs' hq hR' hL'
    rw [← j_mapA]
    exact hq p e s m args below meth c H' locs' ls hF hR' hL' hV
  rcases hw with ⟨w1, w2, w3, w4, w5⟩ | ⟨w1, w2, ⟨host, w3⟩, w4, w5⟩
  · have hM := j_met (.ref b :: As) w4 (by rw [j_sl]; exact f6) kk
    exact j_goes (va_runI (As := As.map (jv G)) (rest := st.map (jv G)) (b := G.1.size + b) (n := As.length) ⟨hx, hb, hml, hown, hts⟩ hM ⟨callB_of As.length hts (j_good w1) rfl rfl rfl (hts _ w2) (hts _ w3) w5 ⟨f1, f2⟩, w7, hts _ w6⟩ ⟨j_blind _, fun U hU hW => ⟨rfl, by rw [hU]; exact hR, henv.warm hW (fun q hq => by rw [hU, hR.2.1 q hq, hs0 q hq])⟩⟩ rfl (by simp) hV.1 (by simp [List.map_reverse, jv]) (j_rm f5) hd ⟨f3, f4⟩) hL go
  · have hM := j_met (.ref b :: As) w4 (by rw [j_sl]; exact f6) kk
    exact j_goes (va_runIN (As := As.map (jv G)) (rest := st.map (jv G)) (b := G.1.size + b) (n := As.length) ⟨hx, hb, hml, hown, hts⟩ hM ⟨va_cnB As.length hts (j_good w1) rfl rfl rfl (henv.2.2.1 _ w3) (hts _ w2) w5 ⟨f1, f2⟩, w7, hts _ w6⟩ ⟨j_blind _, fun U hU hW => ⟨rfl, by rw [hU]; exact hR, henv.warm hW (fun q hq => by rw [hU, hR.2.1 q hq, hs0 q hq])⟩⟩ rfl (by simp) hV.1 (by simp [List.map_reverse, jv]) (j_rm f5) hd ⟨f3, f4⟩) hL go
/-- Math.max, Math.min -/
theorem j_maxI {x w : Int32} (hd : decode cc pc = .ok (.invokestatic idx, 3)) (w1 : Cond.methodLink y.cls idx Lib.Math.max.name ∈ jWS) (w2 : Cond.static Lib.Math.max.name ∈ jWS) (w3 : Cond.initialized "java/lang/Math" ∈ jWS) (w4 : Cond.code Lib.Math.max.name Lib.Math.max.code 2 (some .int) ∈ jWS) (f1 : 1 ≤ rm.frames) (f2 : (st.map fun v => v.category).sum + 13 ≤ rm.locals) (f3 : nc ≤ rm.cells) (f4 : ns ≤ rm.slots) (k : J l G (y, cc, n, r, rm) nc ns (pc + 3) lv (.int (if x < w then w else x) :: st) h Q) : J l G (y, cc, n, r, rm) nc ns pc lv (.int w :: .int x :: st) h Q := by
  intro p e s m args below meth c H locs ls hF hR hL hV
  obtain ⟨hx, hb, hml, hret, hlk, hnm2, hown, hts, henv, hs0, hz⟩ := id hF
  have hcat : ((st.map (jv G)).map fun v => v.category).sum = (st.map fun v => v.category).sum := by
    rw [List.map_map]
    exact congrArg List.sum (List.map_congr_left (fun v _ => jv_cat G v))
  exact va_mmax hx hb (hml.trans hV.1.symm) hown (hts _ w1) (hts _ w2) (hts _ w3) (hts _ w4) f1 (by rw [hcat]; exact f2) f3 f4 hd (k p e s m args below meth c H locs ls hF hR hL hV)
theorem j_maxL {x w : Int64} (hd : decode cc pc = .ok (.invokestatic idx, 3)) (w1 : Cond.methodLink y.cls idx Lib.MathLoose.max_long.x ∈ jWS) (w2 : Cond.static Lib.MathLoose.max_long.x ∈ jWS) (w3 : Cond.initialized "java/lang/Math" ∈ jWS) (w4 : Cond.code Lib.MathLoose.max_long.x Lib.MathLoose.max_long.code 4 (some .long) ∈ jWS) (f1 : 1 ≤ rm.frames) (f2 : (st.map fun v => v.category).sum + 15 ≤ rm.locals) (f3 : nc ≤ rm.cells) (f4 : ns ≤ rm.slots) (k : J l G (y, cc, n, r, rm) nc ns (pc + 3) lv (.long (if w < x then x else w) :: st) h Q) : J l G (y, cc, n, r, rm) nc ns pc lv (.long w :: .long x :: st) h Q := by
  intro p e s m args below meth c H locs ls hF hR hL hV
  obtain ⟨hx, hb, hml, hret, hlk, hnm2, hown, hts, henv, hs0, hz⟩ := id hF
  have hcat : ((st.map (jv G)).map fun v => v.category).sum = (st.map fun v => v.category).sum := by
    rw [List.map_map]
    exact congrArg List.sum (List.map_congr_left (fun v _ => jv_cat G v))
  exact va_mmax_long hx hb (hml.trans hV.1.symm) hown (hts _ w1) (hts _ w2) (hts _ w3) (hts _ w4) f1 (by rw [hcat]; exact f2) f3 f4 hd (k p e s m args below meth c H locs ls hF hR hL hV)
theorem j_minL {x w : Int64} (hd : decode cc pc = .ok (.invokestatic idx, 3)) (w1 : Cond.methodLink y.cls idx Lib.MathLoose.min_long.x ∈ jWS) (w2 : Cond.static Lib.MathLoose.min_long.x ∈ jWS) (w3 : Cond.initialized "java/lang/Math" ∈ jWS) (w4 : Cond.code Lib.MathLoose.min_long.x Lib.MathLoose.min_long.code 4 (some .long) ∈ jWS) (f1 : 1 ≤ rm.frames) (f2 : (st.map fun v => v.category).sum + 15 ≤ rm.locals) (f3 : nc ≤ rm.cells) (f4 : ns ≤ rm.slots) (k : J l G (y, cc, n, r, rm) nc ns (pc + 3) lv (.long (if w < x then w else x) :: st) h Q) : J l G (y, cc, n, r, rm) nc ns pc lv (.long w :: .long x :: st) h Q := by
  intro p e s m args below meth c H locs ls hF hR hL hV
  obtain ⟨hx, hb, hml, hret, hlk, hnm2, hown, hts, henv, hs0, hz⟩ := id hF
  have hcat : ((st.map (jv G)).map fun v => v.category).sum = (st.map fun v => v.category).sum := by
    rw [List.map_map]
    exact congrArg List.sum (List.map_congr_left (fun v _ => jv_cat G v))
  exact va_mmin_long hx hb (hml.trans hV.1.symm) hown (hts _ w1) (hts _ w2) (hts _ w3) (hts _ w4) f1 (by rw [hcat]; exact f2) f3 f4 hd (k p e s m args below meth c H locs ls hF hR hL hV)
end JCL
end
