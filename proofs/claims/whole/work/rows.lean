section
-- ===== PART A: goes FIRST, ahead of the names: the tables' words, and 'selects' of the private methods out of them =====
/-- a private method of a class that the tables say can be made, by its rows of tables_1 -/
def lw_okq (q : MethodName × Nat) : Prop := (q.1.cls ≠ "java/lang/invoke/MethodHandle" ∧ q.1.cls ≠ "java/lang/invoke/VarHandle") ∧ Cond.instantiable q.1.cls q.2 ∈ tables_1 ∧ Cond.privateMethod q.1 ∈ tables_1 ∧ Cond.instanceMethod q.1 ∈ tables_1
theorem lw_p0 : lw_okq (⟨"CrewShares$Rules", "forget", "()V"⟩, 4) := ⟨⟨by decide +kernel, by decide +kernel⟩, List.mem_of_getElem? (i := 145) (by decide +kernel), List.mem_of_getElem? (i := 151) (by decide +kernel), List.mem_of_getElem? (i := 152) (by decide +kernel)⟩
theorem lw_p1 : lw_okq (⟨"CrewShares$Rules", "takeSentence", "(LCrewShares$RulesText;)Z"⟩, 4) := ⟨⟨by decide +kernel, by decide +kernel⟩, List.mem_of_getElem? (i := 145) (by decide +kernel), List.mem_of_getElem? (i := 229) (by decide +kernel), List.mem_of_getElem? (i := 230) (by decide +kernel)⟩
theorem lw_p2 : lw_okq (⟨"CrewShares$Rules", "takePercent", "(LCrewShares$RulesText;II)Z"⟩, 4) := ⟨⟨by decide +kernel, by decide +kernel⟩, List.mem_of_getElem? (i := 145) (by decide +kernel), List.mem_of_getElem? (i := 286) (by decide +kernel), List.mem_of_getElem? (i := 287) (by decide +kernel)⟩
theorem lw_p3 : lw_okq (⟨"CrewShares", "tripToSettle", "(I)LCrewShares$Trip;"⟩, 9) := ⟨⟨by decide +kernel, by decide +kernel⟩, List.mem_of_getElem? (i := 17) (by decide +kernel), List.mem_of_getElem? (i := 378) (by decide +kernel), List.mem_of_getElem? (i := 379) (by decide +kernel)⟩
theorem lw_p4 : lw_okq (⟨"CrewShares", "tripAt", "(I)LCrewShares$Trip;"⟩, 9) := ⟨⟨by decide +kernel, by decide +kernel⟩, List.mem_of_getElem? (i := 17) (by decide +kernel), List.mem_of_getElem? (i := 382) (by decide +kernel), List.mem_of_getElem? (i := 383) (by decide +kernel)⟩
theorem lw_p5 : lw_okq (⟨"CrewShares$Trip", "bearLoss", "(LCrewShares$Rules;[J)V"⟩, 7) := ⟨⟨by decide +kernel, by decide +kernel⟩, List.mem_of_getElem? (i := 339) (by decide +kernel), List.mem_of_getElem? (i := 398) (by decide +kernel), List.mem_of_getElem? (i := 399) (by decide +kernel)⟩
theorem lw_p6 : lw_okq (⟨"CrewShares$Trip", "costsOff", "(LCrewShares$Rules;I)J"⟩, 7) := ⟨⟨by decide +kernel, by decide +kernel⟩, List.mem_of_getElem? (i := 339) (by decide +kernel), List.mem_of_getElem? (i := 402) (by decide +kernel), List.mem_of_getElem? (i := 403) (by decide +kernel)⟩
theorem lw_p7 : lw_okq (⟨"CrewShares$Trip", "partLeft", "(LCrewShares$Rules;LCrewShares$Parting;)V"⟩, 7) := ⟨⟨by decide +kernel, by decide +kernel⟩, List.mem_of_getElem? (i := 339) (by decide +kernel), List.mem_of_getElem? (i := 409) (by decide +kernel), List.mem_of_getElem? (i := 410) (by decide +kernel)⟩
theorem lw_p8 : lw_okq (⟨"CrewShares$Parting", "wholeWeight", "()J"⟩, 4) := ⟨⟨by decide +kernel, by decide +kernel⟩, List.mem_of_getElem? (i := 73) (by decide +kernel), List.mem_of_getElem? (i := 429) (by decide +kernel), List.mem_of_getElem? (i := 430) (by decide +kernel)⟩
theorem lw_p9 : lw_okq (⟨"CrewShares$Parting", "giveCents", "(J)V"⟩, 4) := ⟨⟨by decide +kernel, by decide +kernel⟩, List.mem_of_getElem? (i := 73) (by decide +kernel), List.mem_of_getElem? (i := 433) (by decide +kernel), List.mem_of_getElem? (i := 434) (by decide +kernel)⟩
theorem lw_p10 : lw_okq (⟨"CrewShares$Parting", "mostCut", "()I"⟩, 4) := ⟨⟨by decide +kernel, by decide +kernel⟩, List.mem_of_getElem? (i := 73) (by decide +kernel), List.mem_of_getElem? (i := 437) (by decide +kernel), List.mem_of_getElem? (i := 438) (by decide +kernel)⟩
theorem lw_p11 : lw_okq (⟨"CrewShares$Trip", "bearCosts", "(LCrewShares$Rules;)V"⟩, 7) := ⟨⟨by decide +kernel, by decide +kernel⟩, List.mem_of_getElem? (i := 339) (by decide +kernel), List.mem_of_getElem? (i := 442) (by decide +kernel), List.mem_of_getElem? (i := 443) (by decide +kernel)⟩
theorem lw_p12 : lw_okq (⟨"CrewShares$Trip", "shareCrewsPart", "(LCrewShares$Rules;LCrewShares$Crew;LCrewShares$Parting;)V"⟩, 7) := ⟨⟨by decide +kernel, by decide +kernel⟩, List.mem_of_getElem? (i := 339) (by decide +kernel), List.mem_of_getElem? (i := 449) (by decide +kernel), List.mem_of_getElem? (i := 450) (by decide +kernel)⟩
theorem lw_p13 : lw_okq (⟨"CrewShares$Trip", "topUp", "(II)V"⟩, 7) := ⟨⟨by decide +kernel, by decide +kernel⟩, List.mem_of_getElem? (i := 339) (by decide +kernel), List.mem_of_getElem? (i := 453) (by decide +kernel), List.mem_of_getElem? (i := 454) (by decide +kernel)⟩
theorem lw_p14 : lw_okq (⟨"CrewShares$Trip", "pay", "(ILCrewShares$Crew;)V"⟩, 7) := ⟨⟨by decide +kernel, by decide +kernel⟩, List.mem_of_getElem? (i := 339) (by decide +kernel), List.mem_of_getElem? (i := 457) (by decide +kernel), List.mem_of_getElem? (i := 458) (by decide +kernel)⟩
theorem lw_p15 : lw_okq (⟨"CrewShares$Trip", "hasOf", "(I)J"⟩, 7) := ⟨⟨by decide +kernel, by decide +kernel⟩, List.mem_of_getElem? (i := 339) (by decide +kernel), List.mem_of_getElem? (i := 461) (by decide +kernel), List.mem_of_getElem? (i := 462) (by decide +kernel)⟩
def lw_privs_1 : List (MethodName × Nat) := [(⟨"CrewShares$Rules", "forget", "()V"⟩, 4), (⟨"CrewShares$Rules", "takeSentence", "(LCrewShares$RulesText;)Z"⟩, 4), (⟨"CrewShares$Rules", "takePercent", "(LCrewShares$RulesText;II)Z"⟩, 4), (⟨"CrewShares", "tripToSettle", "(I)LCrewShares$Trip;"⟩, 9), (⟨"CrewShares", "tripAt", "(I)LCrewShares$Trip;"⟩, 9), (⟨"CrewShares$Trip", "bearLoss", "(LCrewShares$Rules;[J)V"⟩, 7), (⟨"CrewShares$Trip", "costsOff", "(LCrewShares$Rules;I)J"⟩, 7), (⟨"CrewShares$Trip", "partLeft", "(LCrewShares$Rules;LCrewShares$Parting;)V"⟩, 7), (⟨"CrewShares$Parting", "wholeWeight", "()J"⟩, 4), (⟨"CrewShares$Parting", "giveCents", "(J)V"⟩, 4), (⟨"CrewShares$Parting", "mostCut", "()I"⟩, 4), (⟨"CrewShares$Trip", "bearCosts", "(LCrewShares$Rules;)V"⟩, 7), (⟨"CrewShares$Trip", "shareCrewsPart", "(LCrewShares$Rules;LCrewShares$Crew;LCrewShares$Parting;)V"⟩, 7), (⟨"CrewShares$Trip", "topUp", "(II)V"⟩, 7), (⟨"CrewShares$Trip", "pay", "(ILCrewShares$Crew;)V"⟩, 7), (⟨"CrewShares$Trip", "hasOf", "(I)J"⟩, 7)]
theorem lw_r1 : ∀ q ∈ lw_privs_1, lw_okq q := List.forall_mem_cons.mpr ⟨lw_p0, List.forall_mem_cons.mpr ⟨lw_p1, List.forall_mem_cons.mpr ⟨lw_p2, List.forall_mem_cons.mpr ⟨lw_p3, List.forall_mem_cons.mpr ⟨lw_p4, List.forall_mem_cons.mpr ⟨lw_p5, List.forall_mem_cons.mpr ⟨lw_p6, List.forall_mem_cons.mpr ⟨lw_p7, List.forall_mem_cons.mpr ⟨lw_p8, List.forall_mem_cons.mpr ⟨lw_p9, List.forall_mem_cons.mpr ⟨lw_p10, List.forall_mem_cons.mpr ⟨lw_p11, List.forall_mem_cons.mpr ⟨lw_p12, List.forall_mem_cons.mpr ⟨lw_p13, List.forall_mem_cons.mpr ⟨lw_p14, List.forall_mem_cons.mpr ⟨lw_p15, fun _ h => absurd h List.not_mem_nil⟩⟩⟩⟩⟩⟩⟩⟩⟩⟩⟩⟩⟩⟩⟩⟩
theorem lw_p16 : lw_okq (⟨"CrewShares", "settledTrip", "(I)LCrewShares$Trip;"⟩, 9) := ⟨⟨by decide +kernel, by decide +kernel⟩, List.mem_of_getElem? (i := 17) (by decide +kernel), List.mem_of_getElem? (i := 473) (by decide +kernel), List.mem_of_getElem? (i := 474) (by decide +kernel)⟩
theorem lw_p17 : lw_okq (⟨"CrewShares$Book", "takesDay", "(I)Z"⟩, 5) := ⟨⟨by decide +kernel, by decide +kernel⟩, List.mem_of_getElem? (i := 93) (by decide +kernel), List.mem_of_getElem? (i := 503) (by decide +kernel), List.mem_of_getElem? (i := 504) (by decide +kernel)⟩
theorem lw_p18 : lw_okq (⟨"CrewShares$Book", "isClosed", "(I)Z"⟩, 5) := ⟨⟨by decide +kernel, by decide +kernel⟩, List.mem_of_getElem? (i := 93) (by decide +kernel), List.mem_of_getElem? (i := 507) (by decide +kernel), List.mem_of_getElem? (i := 508) (by decide +kernel)⟩
theorem lw_p19 : lw_okq (⟨"CrewShares$Book", "isFull", "()Z"⟩, 5) := ⟨⟨by decide +kernel, by decide +kernel⟩, List.mem_of_getElem? (i := 93) (by decide +kernel), List.mem_of_getElem? (i := 514) (by decide +kernel), List.mem_of_getElem? (i := 515) (by decide +kernel)⟩
theorem lw_p20 : lw_okq (⟨"CrewShares$Book", "putIn", "(LCrewShares$Entry;)I"⟩, 5) := ⟨⟨by decide +kernel, by decide +kernel⟩, List.mem_of_getElem? (i := 93) (by decide +kernel), List.mem_of_getElem? (i := 556) (by decide +kernel), List.mem_of_getElem? (i := 557) (by decide +kernel)⟩
theorem lw_p21 : lw_okq (⟨"CrewShares$Book", "entryAt", "(I)LCrewShares$Entry;"⟩, 5) := ⟨⟨by decide +kernel, by decide +kernel⟩, List.mem_of_getElem? (i := 93) (by decide +kernel), List.mem_of_getElem? (i := 588) (by decide +kernel), List.mem_of_getElem? (i := 589) (by decide +kernel)⟩
theorem lw_p22 : lw_okq (⟨"CrewSharesModel", "isNext", "()Z"⟩, 31) := ⟨⟨by decide +kernel, by decide +kernel⟩, List.mem_of_getElem? (i := 635) (by decide +kernel), List.mem_of_getElem? (i := 748) (by decide +kernel), List.mem_of_getElem? (i := 749) (by decide +kernel)⟩
theorem lw_p23 : lw_okq (⟨"CrewSharesModel", "isSentence", "()Z"⟩, 31) := ⟨⟨by decide +kernel, by decide +kernel⟩, List.mem_of_getElem? (i := 635) (by decide +kernel), List.mem_of_getElem? (i := 752) (by decide +kernel), List.mem_of_getElem? (i := 753) (by decide +kernel)⟩
theorem lw_p24 : lw_okq (⟨"CrewSharesModel", "isWord", "(JI)Z"⟩, 31) := ⟨⟨by decide +kernel, by decide +kernel⟩, List.mem_of_getElem? (i := 635) (by decide +kernel), List.mem_of_getElem? (i := 757) (by decide +kernel), List.mem_of_getElem? (i := 758) (by decide +kernel)⟩
theorem lw_p25 : lw_okq (⟨"CrewSharesModel", "number", "(I)I"⟩, 31) := ⟨⟨by decide +kernel, by decide +kernel⟩, List.mem_of_getElem? (i := 635) (by decide +kernel), List.mem_of_getElem? (i := 762) (by decide +kernel), List.mem_of_getElem? (i := 763) (by decide +kernel)⟩
theorem lw_p26 : lw_okq (⟨"CrewSharesModel", "isPerson", "(I)Z"⟩, 31) := ⟨⟨by decide +kernel, by decide +kernel⟩, List.mem_of_getElem? (i := 635) (by decide +kernel), List.mem_of_getElem? (i := 779) (by decide +kernel), List.mem_of_getElem? (i := 780) (by decide +kernel)⟩
theorem lw_p27 : lw_okq (⟨"CrewSharesModel", "isTrip", "(I)Z"⟩, 31) := ⟨⟨by decide +kernel, by decide +kernel⟩, List.mem_of_getElem? (i := 635) (by decide +kernel), List.mem_of_getElem? (i := 794) (by decide +kernel), List.mem_of_getElem? (i := 795) (by decide +kernel)⟩
theorem lw_p28 : lw_okq (⟨"CrewSharesModel", "costsOf", "(II)J"⟩, 31) := ⟨⟨by decide +kernel, by decide +kernel⟩, List.mem_of_getElem? (i := 635) (by decide +kernel), List.mem_of_getElem? (i := 807) (by decide +kernel), List.mem_of_getElem? (i := 808) (by decide +kernel)⟩
theorem lw_p29 : lw_okq (⟨"CrewSharesModel", "partByCents", "(JI)V"⟩, 31) := ⟨⟨by decide +kernel, by decide +kernel⟩, List.mem_of_getElem? (i := 635) (by decide +kernel), List.mem_of_getElem? (i := 811) (by decide +kernel), List.mem_of_getElem? (i := 812) (by decide +kernel)⟩
theorem lw_p30 : lw_okq (⟨"CrewSharesModel", "put", "(IIJ)V"⟩, 31) := ⟨⟨by decide +kernel, by decide +kernel⟩, List.mem_of_getElem? (i := 635) (by decide +kernel), List.mem_of_getElem? (i := 849) (by decide +kernel), List.mem_of_getElem? (i := 850) (by decide +kernel)⟩
def lw_privs_2 : List (MethodName × Nat) := [(⟨"CrewShares", "settledTrip", "(I)LCrewShares$Trip;"⟩, 9), (⟨"CrewShares$Book", "takesDay", "(I)Z"⟩, 5), (⟨"CrewShares$Book", "isClosed", "(I)Z"⟩, 5), (⟨"CrewShares$Book", "isFull", "()Z"⟩, 5), (⟨"CrewShares$Book", "putIn", "(LCrewShares$Entry;)I"⟩, 5), (⟨"CrewShares$Book", "entryAt", "(I)LCrewShares$Entry;"⟩, 5), (⟨"CrewSharesModel", "isNext", "()Z"⟩, 31), (⟨"CrewSharesModel", "isSentence", "()Z"⟩, 31), (⟨"CrewSharesModel", "isWord", "(JI)Z"⟩, 31), (⟨"CrewSharesModel", "number", "(I)I"⟩, 31), (⟨"CrewSharesModel", "isPerson", "(I)Z"⟩, 31), (⟨"CrewSharesModel", "isTrip", "(I)Z"⟩, 31), (⟨"CrewSharesModel", "costsOf", "(II)J"⟩, 31), (⟨"CrewSharesModel", "partByCents", "(JI)V"⟩, 31), (⟨"CrewSharesModel", "put", "(IIJ)V"⟩, 31)]
theorem lw_r2 : ∀ q ∈ lw_privs_2, lw_okq q := List.forall_mem_cons.mpr ⟨lw_p16, List.forall_mem_cons.mpr ⟨lw_p17, List.forall_mem_cons.mpr ⟨lw_p18, List.forall_mem_cons.mpr ⟨lw_p19, List.forall_mem_cons.mpr ⟨lw_p20, List.forall_mem_cons.mpr ⟨lw_p21, List.forall_mem_cons.mpr ⟨lw_p22, List.forall_mem_cons.mpr ⟨lw_p23, List.forall_mem_cons.mpr ⟨lw_p24, List.forall_mem_cons.mpr ⟨lw_p25, List.forall_mem_cons.mpr ⟨lw_p26, List.forall_mem_cons.mpr ⟨lw_p27, List.forall_mem_cons.mpr ⟨lw_p28, List.forall_mem_cons.mpr ⟨lw_p29, List.forall_mem_cons.mpr ⟨lw_p30, fun _ h => absurd h List.not_mem_nil⟩⟩⟩⟩⟩⟩⟩⟩⟩⟩⟩⟩⟩⟩⟩
def lw_privs : List (MethodName × Nat) := lw_privs_1 ++ (lw_privs_2)
def lw_tbl : List Cond := k2_sels lw_privs ++ tables_1
theorem lw_privs_ok : ∀ q ∈ lw_privs, lw_okq q := by
  show ∀ q ∈ lw_privs_1 ++ (lw_privs_2), lw_okq q
  exact List.forall_mem_append.mpr ⟨lw_r1, lw_r2⟩
def RX0 : String := "CrewShares$Book"
def TX0 : u_T := fun k => match k with
  | 0 => ("CrewShares$Book", "entries", "[LCrewShares$Entry;", true)
  | 1 => ("CrewShares$Book", "size", "I", false)
  | 2 => ("CrewShares$Book", "draft", "LCrewShares$Entry;", false)
  | 3 => ("CrewShares$Book", "isOpen", "Z", false)
  | _ => ("CrewShares$Book", "closedMonths", "I", false)
def tyX0 : Nat → FieldType := fun k => match k with
  | 0 => .array (.object "CrewShares$Entry")
  | 1 => .int
  | 2 => .object "CrewShares$Entry"
  | 3 => .boolean
  | _ => .int
theorem nmX0 : ∀ a, a < 5 → ∀ b, b < 5 → a ≠ b → (TX0 a).2.1 ≠ (TX0 b).2.1 := by decide +kernel
theorem tyX0_ok : ∀ k, k < 5 → parseFieldDescriptor (TX0 k).2.2.1 = some (tyX0 k) := by decide +kernel
abbrev cX0_init : ByteArray := prog_2_method_1_code
def yX0_init : MethodName := ⟨RX0, "<init>", "()V"⟩
abbrev cX0_begin : ByteArray := prog_2_method_2_code
def yX0_begin : MethodName := ⟨RX0, "begin", "(I)Z"⟩
abbrev cX0_addRow : ByteArray := prog_2_method_3_code
def yX0_addRow : MethodName := ⟨RX0, "addRow", "(IJ)I"⟩
abbrev cX0_takeIn : ByteArray := prog_2_method_4_code
def yX0_takeIn : MethodName := ⟨RX0, "takeIn", "()I"⟩
abbrev cX0_giveUp : ByteArray := prog_2_method_5_code
def yX0_giveUp : MethodName := ⟨RX0, "giveUp", "()I"⟩
abbrev cX0_closeUpTo : ByteArray := prog_2_method_6_code
def yX0_closeUpTo : MethodName := ⟨RX0, "closeUpTo", "(I)I"⟩
abbrev cX0_takeBack : ByteArray := prog_2_method_7_code
def yX0_takeBack : MethodName := ⟨RX0, "takeBack", "(II)I"⟩
abbrev cX0_totalOf : ByteArray := prog_2_method_8_code
def yX0_totalOf : MethodName := ⟨RX0, "totalOf", "(II)J"⟩
abbrev cX0_tell : ByteArray := prog_2_method_9_code
def yX0_tell : MethodName := ⟨RX0, "tell", "(III)J"⟩
abbrev cX0_putIn : ByteArray := prog_2_method_10_code
def yX0_putIn : MethodName := ⟨RX0, "putIn", "(LCrewShares$Entry;)I"⟩
abbrev cX0_entryAt : ByteArray := prog_2_method_11_code
def yX0_entryAt : MethodName := ⟨RX0, "entryAt", "(I)LCrewShares$Entry;"⟩
abbrev cX0_isFull : ByteArray := prog_2_method_12_code
def yX0_isFull : MethodName := ⟨RX0, "isFull", "()Z"⟩
abbrev cX0_takesDay : ByteArray := prog_2_method_13_code
def yX0_takesDay : MethodName := ⟨RX0, "takesDay", "(I)Z"⟩
abbrev cX0_isClosed : ByteArray := prog_2_method_14_code
def yX0_isClosed : MethodName := ⟨RX0, "isClosed", "(I)Z"⟩
abbrev cX0_monthOf : ByteArray := prog_2_method_15_code
def yX0_monthOf : MethodName := ⟨RX0, "monthOf", "(I)I"⟩
abbrev cX0_isMonth : ByteArray := prog_2_method_16_code
def yX0_isMonth : MethodName := ⟨RX0, "isMonth", "(I)Z"⟩
abbrev cX0_isAccount : ByteArray := prog_2_method_17_code
def yX0_isAccount : MethodName := ⟨RX0, "isAccount", "(I)Z"⟩
def RX1 : String := "CrewShares$Crew"
def TX1 : u_T := fun k => match k with
  | 0 => ("CrewShares$Crew", "roles", "[I", true)
  | 1 => ("CrewShares$Crew", "advances", "[J", true)
  | _ => ("CrewShares$Crew", "size", "I", false)
def tyX1 : Nat → FieldType := fun k => match k with
  | 0 => .array .int
  | 1 => .array .long
  | _ => .int
theorem nmX1 : ∀ a, a < 3 → ∀ b, b < 3 → a ≠ b → (TX1 a).2.1 ≠ (TX1 b).2.1 := by decide +kernel
theorem tyX1_ok : ∀ k, k < 3 → parseFieldDescriptor (TX1 k).2.2.1 = some (tyX1 k) := by decide +kernel
abbrev cX1_init : ByteArray := prog_3_method_1_code
def yX1_init : MethodName := ⟨RX1, "<init>", "()V"⟩
abbrev cX1_join : ByteArray := prog_3_method_2_code
def yX1_join : MethodName := ⟨RX1, "join", "(I)I"⟩
abbrev cX1_has : ByteArray := prog_3_method_3_code
def yX1_has : MethodName := ⟨RX1, "has", "(I)Z"⟩
def RX2 : String := "CrewShares$Entry"
def TX2 : u_T := fun k => match k with
  | 0 => ("CrewShares$Entry", "accounts", "[I", true)
  | 1 => ("CrewShares$Entry", "amounts", "[J", true)
  | 2 => ("CrewShares$Entry", "size", "I", false)
  | 3 => ("CrewShares$Entry", "day", "I", false)
  | 4 => ("CrewShares$Entry", "takesBack", "I", false)
  | _ => ("CrewShares$Entry", "takenBackBy", "I", false)
def tyX2 : Nat → FieldType := fun k => match k with
  | 0 => .array .int
  | 1 => .array .long
  | 2 => .int
  | 3 => .int
  | 4 => .int
  | _ => .int
theorem nmX2 : ∀ a, a < 6 → ∀ b, b < 6 → a ≠ b → (TX2 a).2.1 ≠ (TX2 b).2.1 := by decide +kernel
theorem tyX2_ok : ∀ k, k < 6 → parseFieldDescriptor (TX2 k).2.2.1 = some (tyX2 k) := by decide +kernel
abbrev cX2_init : ByteArray := prog_4_method_1_code
def yX2_init : MethodName := ⟨RX2, "<init>", "()V"⟩
abbrev cX2_startOn : ByteArray := prog_4_method_2_code
def yX2_startOn : MethodName := ⟨RX2, "startOn", "(I)V"⟩
abbrev cX2_isFull : ByteArray := prog_4_method_3_code
def yX2_isFull : MethodName := ⟨RX2, "isFull", "()Z"⟩
abbrev cX2_add : ByteArray := prog_4_method_4_code
def yX2_add : MethodName := ⟨RX2, "add", "(IJ)V"⟩
abbrev cX2_addReversed : ByteArray := prog_4_method_5_code
def yX2_addReversed : MethodName := ⟨RX2, "addReversed", "(LCrewShares$Entry;)V"⟩
abbrev cX2_isTakenBack : ByteArray := prog_4_method_6_code
def yX2_isTakenBack : MethodName := ⟨RX2, "isTakenBack", "()Z"⟩
abbrev cX2_takesOneBack : ByteArray := prog_4_method_7_code
def yX2_takesOneBack : MethodName := ⟨RX2, "takesOneBack", "()Z"⟩
abbrev cX2_total : ByteArray := prog_4_method_8_code
def yX2_total : MethodName := ⟨RX2, "total", "()J"⟩
abbrev cX2_totalOf : ByteArray := prog_4_method_9_code
def yX2_totalOf : MethodName := ⟨RX2, "totalOf", "(I)J"⟩
abbrev cX2_tellHead : ByteArray := prog_4_method_10_code
def yX2_tellHead : MethodName := ⟨RX2, "tellHead", "(I)J"⟩
abbrev cX2_tellRow : ByteArray := prog_4_method_11_code
def yX2_tellRow : MethodName := ⟨RX2, "tellRow", "(II)J"⟩
def RX3 : String := "CrewShares$Parting"
def TX3 : u_T := fun k => match k with
  | 0 => ("CrewShares$Parting", "weights", "[J", true)
  | 1 => ("CrewShares$Parting", "shares", "[J", true)
  | 2 => ("CrewShares$Parting", "cuts", "[J", true)
  | _ => ("CrewShares$Parting", "size", "I", false)
def tyX3 : Nat → FieldType := fun k => match k with
  | 0 => .array .long
  | 1 => .array .long
  | 2 => .array .long
  | _ => .int
theorem nmX3 : ∀ a, a < 4 → ∀ b, b < 4 → a ≠ b → (TX3 a).2.1 ≠ (TX3 b).2.1 := by decide +kernel
theorem tyX3_ok : ∀ k, k < 4 → parseFieldDescriptor (TX3 k).2.2.1 = some (tyX3 k) := by decide +kernel
abbrev cX3_init : ByteArray := prog_5_method_1_code
def yX3_init : MethodName := ⟨RX3, "<init>", "()V"⟩
abbrev cX3_clear : ByteArray := prog_5_method_2_code
def yX3_clear : MethodName := ⟨RX3, "clear", "()V"⟩
abbrev cX3_add : ByteArray := prog_5_method_3_code
def yX3_add : MethodName := ⟨RX3, "add", "(J)V"⟩
abbrev cX3_divide : ByteArray := prog_5_method_4_code
def yX3_divide : MethodName := ⟨RX3, "divide", "(J)Z"⟩
abbrev cX3_wholeWeight : ByteArray := prog_5_method_5_code
def yX3_wholeWeight : MethodName := ⟨RX3, "wholeWeight", "()J"⟩
abbrev cX3_giveCents : ByteArray := prog_5_method_6_code
def yX3_giveCents : MethodName := ⟨RX3, "giveCents", "(J)V"⟩
abbrev cX3_mostCut : ByteArray := prog_5_method_7_code
def yX3_mostCut : MethodName := ⟨RX3, "mostCut", "()I"⟩
def RX4 : String := "CrewShares$Rules"
def TX4 : u_T := fun k => match k with
  | 0 => ("CrewShares$Rules", "percents", "[I", true)
  | 1 => ("CrewShares$Rules", "places", "[I", true)
  | 2 => ("CrewShares$Rules", "weights", "[I", true)
  | _ => ("CrewShares$Rules", "leasts", "[I", true)
def tyX4 : Nat → FieldType := fun k => match k with
  | 0 => .array .int
  | 1 => .array .int
  | 2 => .array .int
  | _ => .array .int
theorem nmX4 : ∀ a, a < 4 → ∀ b, b < 4 → a ≠ b → (TX4 a).2.1 ≠ (TX4 b).2.1 := by decide +kernel
theorem tyX4_ok : ∀ k, k < 4 → parseFieldDescriptor (TX4 k).2.2.1 = some (tyX4 k) := by decide +kernel
abbrev cX4_init : ByteArray := prog_6_method_1_code
def yX4_init : MethodName := ⟨RX4, "<init>", "()V"⟩
abbrev cX4_forget : ByteArray := prog_6_method_2_code
def yX4_forget : MethodName := ⟨RX4, "forget", "()V"⟩
abbrev cX4_takeText : ByteArray := prog_6_method_3_code
def yX4_takeText : MethodName := ⟨RX4, "takeText", "(LCrewShares$RulesText;)I"⟩
abbrev cX4_takeSentence : ByteArray := prog_6_method_4_code
def yX4_takeSentence : MethodName := ⟨RX4, "takeSentence", "(LCrewShares$RulesText;)Z"⟩
abbrev cX4_takePercent : ByteArray := prog_6_method_5_code
def yX4_takePercent : MethodName := ⟨RX4, "takePercent", "(LCrewShares$RulesText;II)Z"⟩
abbrev cX4_takeValue : ByteArray := prog_6_method_6_code
def yX4_takeValue : MethodName := ⟨RX4, "takeValue", "(LCrewShares$RulesText;[II)Z"⟩
abbrev cX4_percentOf : ByteArray := prog_6_method_7_code
def yX4_percentOf : MethodName := ⟨RX4, "percentOf", "(I)I"⟩
def RX5 : String := "CrewShares$RulesText"
def TX5 : u_T := fun k => match k with
  | 0 => ("CrewShares$RulesText", "bytes", "[C", true)
  | 1 => ("CrewShares$RulesText", "length", "I", false)
  | 2 => ("CrewShares$RulesText", "wordStart", "I", false)
  | 3 => ("CrewShares$RulesText", "wordEnd", "I", false)
  | _ => ("CrewShares$RulesText", "wordNumber", "I", false)
def tyX5 : Nat → FieldType := fun k => match k with
  | 0 => .array .char
  | 1 => .int
  | 2 => .int
  | 3 => .int
  | _ => .int
theorem nmX5 : ∀ a, a < 5 → ∀ b, b < 5 → a ≠ b → (TX5 a).2.1 ≠ (TX5 b).2.1 := by decide +kernel
theorem tyX5_ok : ∀ k, k < 5 → parseFieldDescriptor (TX5 k).2.2.1 = some (tyX5 k) := by decide +kernel
abbrev cX5_init : ByteArray := prog_7_method_1_code
def yX5_init : MethodName := ⟨RX5, "<init>", "()V"⟩
abbrev cX5_append : ByteArray := prog_7_method_2_code
def yX5_append : MethodName := ⟨RX5, "append", "(I)Z"⟩
abbrev cX5_empty : ByteArray := prog_7_method_3_code
def yX5_empty : MethodName := ⟨RX5, "empty", "()V"⟩
abbrev cX5_rewind : ByteArray := prog_7_method_4_code
def yX5_rewind : MethodName := ⟨RX5, "rewind", "()V"⟩
abbrev cX5_nextWord : ByteArray := prog_7_method_5_code
def yX5_nextWord : MethodName := ⟨RX5, "nextWord", "()Z"⟩
abbrev cX5_wordIs : ByteArray := prog_7_method_6_code
def yX5_wordIs : MethodName := ⟨RX5, "wordIs", "(Ljava/lang/String;)Z"⟩
abbrev cX5_nextNumber : ByteArray := prog_7_method_7_code
def yX5_nextNumber : MethodName := ⟨RX5, "nextNumber", "(I)I"⟩
abbrev cX5_isGap : ByteArray := prog_7_method_8_code
def yX5_isGap : MethodName := ⟨RX5, "isGap", "(C)Z"⟩
def RX6 : String := "CrewShares$Trip"
def TX6 : u_T := fun k => match k with
  | 0 => ("CrewShares$Trip", "ship", "I", true)
  | 1 => ("CrewShares$Trip", "sales", "J", true)
  | 2 => ("CrewShares$Trip", "costs", "[J", true)
  | 3 => ("CrewShares$Trip", "daysOf", "[I", true)
  | 4 => ("CrewShares$Trip", "parts", "[J", true)
  | 5 => ("CrewShares$Trip", "shares", "[[J", true)
  | _ => ("CrewShares$Trip", "settled", "Z", false)
def tyX6 : Nat → FieldType := fun k => match k with
  | 0 => .int
  | 1 => .long
  | 2 => .array .long
  | 3 => .array .int
  | 4 => .array .long
  | 5 => .array (.array .long)
  | _ => .boolean
theorem nmX6 : ∀ a, a < 7 → ∀ b, b < 7 → a ≠ b → (TX6 a).2.1 ≠ (TX6 b).2.1 := by decide +kernel
theorem tyX6_ok : ∀ k, k < 7 → parseFieldDescriptor (TX6 k).2.2.1 = some (tyX6 k) := by decide +kernel
abbrev cX6_init : ByteArray := prog_8_method_1_code
def yX6_init : MethodName := ⟨RX6, "<init>", "(IJ)V"⟩
abbrev cX6_shareOut : ByteArray := prog_8_method_2_code
def yX6_shareOut : MethodName := ⟨RX6, "shareOut", "(LCrewShares$Rules;LCrewShares$Crew;[JLCrewShares$Parting;)V"⟩
abbrev cX6_bearLoss : ByteArray := prog_8_method_3_code
def yX6_bearLoss : MethodName := ⟨RX6, "bearLoss", "(LCrewShares$Rules;[J)V"⟩
abbrev cX6_partLeft : ByteArray := prog_8_method_4_code
def yX6_partLeft : MethodName := ⟨RX6, "partLeft", "(LCrewShares$Rules;LCrewShares$Parting;)V"⟩
abbrev cX6_bearCosts : ByteArray := prog_8_method_5_code
def yX6_bearCosts : MethodName := ⟨RX6, "bearCosts", "(LCrewShares$Rules;)V"⟩
abbrev cX6_shareCrewsPart : ByteArray := prog_8_method_6_code
def yX6_shareCrewsPart : MethodName := ⟨RX6, "shareCrewsPart", "(LCrewShares$Rules;LCrewShares$Crew;LCrewShares$Parting;)V"⟩
abbrev cX6_topUp : ByteArray := prog_8_method_7_code
def yX6_topUp : MethodName := ⟨RX6, "topUp", "(II)V"⟩
abbrev cX6_pay : ByteArray := prog_8_method_8_code
def yX6_pay : MethodName := ⟨RX6, "pay", "(ILCrewShares$Crew;)V"⟩
abbrev cX6_hasOf : ByteArray := prog_8_method_9_code
def yX6_hasOf : MethodName := ⟨RX6, "hasOf", "(I)J"⟩
abbrev cX6_costsOff : ByteArray := prog_8_method_10_code
def yX6_costsOff : MethodName := ⟨RX6, "costsOff", "(LCrewShares$Rules;I)J"⟩
abbrev cX6_countAboard : ByteArray := prog_8_method_11_code
def yX6_countAboard : MethodName := ⟨RX6, "countAboard", "()I"⟩
abbrev cX6_isEven : ByteArray := prog_8_method_12_code
def yX6_isEven : MethodName := ⟨RX6, "isEven", "()Z"⟩
def RX7 : String := "CrewShares"
def TX7 : u_T := fun k => match k with
  | 0 => ("CrewShares", "text", "LCrewShares$RulesText;", true)
  | 1 => ("CrewShares", "crew", "LCrewShares$Crew;", true)
  | 2 => ("CrewShares", "losses", "[J", true)
  | 3 => ("CrewShares", "trips", "[LCrewShares$Trip;", true)
  | 4 => ("CrewShares", "parting", "LCrewShares$Parting;", true)
  | 5 => ("CrewShares", "book", "LCrewShares$Book;", true)
  | 6 => ("CrewShares", "rules", "LCrewShares$Rules;", false)
  | 7 => ("CrewShares", "draft", "LCrewShares$Rules;", false)
  | _ => ("CrewShares", "tripCount", "I", false)
def tyX7 : Nat → FieldType := fun k => match k with
  | 0 => .object "CrewShares$RulesText"
  | 1 => .object "CrewShares$Crew"
  | 2 => .array .long
  | 3 => .array (.object "CrewShares$Trip")
  | 4 => .object "CrewShares$Parting"
  | 5 => .object "CrewShares$Book"
  | 6 => .object "CrewShares$Rules"
  | 7 => .object "CrewShares$Rules"
  | _ => .int
theorem nmX7 : ∀ a, a < 9 → ∀ b, b < 9 → a ≠ b → (TX7 a).2.1 ≠ (TX7 b).2.1 := by decide +kernel
theorem tyX7_ok : ∀ k, k < 9 → parseFieldDescriptor (TX7 k).2.2.1 = some (tyX7 k) := by decide +kernel
abbrev cX7_init : ByteArray := prog_1_method_1_code
def yX7_init : MethodName := ⟨RX7, "<init>", "()V"⟩
abbrev cX7_unit : ByteArray := prog_1_method_2_code
def yX7_unit : MethodName := ⟨RX7, "unit", "(I)Z"⟩
abbrev cX7_read : ByteArray := prog_1_method_3_code
def yX7_read : MethodName := ⟨RX7, "read", "()I"⟩
abbrev cX7_person : ByteArray := prog_1_method_4_code
def yX7_person : MethodName := ⟨RX7, "person", "(I)I"⟩
abbrev cX7_advance : ByteArray := prog_1_method_5_code
def yX7_advance : MethodName := ⟨RX7, "advance", "(IJ)Z"⟩
abbrev cX7_trip : ByteArray := prog_1_method_6_code
def yX7_trip : MethodName := ⟨RX7, "trip", "(IJ)I"⟩
abbrev cX7_cost : ByteArray := prog_1_method_7_code
def yX7_cost : MethodName := ⟨RX7, "cost", "(IIJ)Z"⟩
abbrev cX7_days : ByteArray := prog_1_method_8_code
def yX7_days : MethodName := ⟨RX7, "days", "(III)I"⟩
abbrev cX7_settle : ByteArray := prog_1_method_9_code
def yX7_settle : MethodName := ⟨RX7, "settle", "(I)I"⟩
abbrev cX7_part : ByteArray := prog_1_method_10_code
def yX7_part : MethodName := ⟨RX7, "part", "(II)J"⟩
abbrev cX7_share : ByteArray := prog_1_method_11_code
def yX7_share : MethodName := ⟨RX7, "share", "(III)J"⟩
abbrev cX7_carried : ByteArray := prog_1_method_12_code
def yX7_carried : MethodName := ⟨RX7, "carried", "(I)J"⟩
abbrev cX7_sums : ByteArray := prog_1_method_13_code
def yX7_sums : MethodName := ⟨RX7, "sums", "(I)Z"⟩
abbrev cX7_open : ByteArray := prog_1_method_14_code
def yX7_open : MethodName := ⟨RX7, "open", "(I)Z"⟩
abbrev cX7_row : ByteArray := prog_1_method_15_code
def yX7_row : MethodName := ⟨RX7, "row", "(IJ)I"⟩
abbrev cX7_enter : ByteArray := prog_1_method_16_code
def yX7_enter : MethodName := ⟨RX7, "enter", "()I"⟩
abbrev cX7_drop : ByteArray := prog_1_method_17_code
def yX7_drop : MethodName := ⟨RX7, "drop", "()I"⟩
abbrev cX7_closeMonth : ByteArray := prog_1_method_18_code
def yX7_closeMonth : MethodName := ⟨RX7, "closeMonth", "(I)I"⟩
abbrev cX7_correct : ByteArray := prog_1_method_19_code
def yX7_correct : MethodName := ⟨RX7, "correct", "(II)I"⟩
abbrev cX7_balance : ByteArray := prog_1_method_20_code
def yX7_balance : MethodName := ⟨RX7, "balance", "(II)J"⟩
abbrev cX7_entry : ByteArray := prog_1_method_21_code
def yX7_entry : MethodName := ⟨RX7, "entry", "(III)J"⟩
abbrev cX7_areCents : ByteArray := prog_1_method_22_code
def yX7_areCents : MethodName := ⟨RX7, "areCents", "(J)Z"⟩
abbrev cX7_tripAt : ByteArray := prog_1_method_23_code
def yX7_tripAt : MethodName := ⟨RX7, "tripAt", "(I)LCrewShares$Trip;"⟩
abbrev cX7_tripToSettle : ByteArray := prog_1_method_24_code
def yX7_tripToSettle : MethodName := ⟨RX7, "tripToSettle", "(I)LCrewShares$Trip;"⟩
abbrev cX7_settledTrip : ByteArray := prog_1_method_25_code
def yX7_settledTrip : MethodName := ⟨RX7, "settledTrip", "(I)LCrewShares$Trip;"⟩
def RX8 : String := "CrewSharesModel"
def TX8 : u_T := fun k => match k with
  | 0 => ("CrewSharesModel", "text", "[I", true)
  | 1 => ("CrewSharesModel", "size", "I", false)
  | 2 => ("CrewSharesModel", "rules", "[I", true)
  | 3 => ("CrewSharesModel", "fresh", "[I", true)
  | 4 => ("CrewSharesModel", "at", "I", false)
  | 5 => ("CrewSharesModel", "from", "I", false)
  | 6 => ("CrewSharesModel", "words", "I", false)
  | 7 => ("CrewSharesModel", "losses", "[J", true)
  | 8 => ("CrewSharesModel", "persons", "I", false)
  | 9 => ("CrewSharesModel", "roles", "[I", true)
  | 10 => ("CrewSharesModel", "advances", "[J", true)
  | 11 => ("CrewSharesModel", "trips", "I", false)
  | 12 => ("CrewSharesModel", "ships", "[I", true)
  | 13 => ("CrewSharesModel", "sales", "[J", true)
  | 14 => ("CrewSharesModel", "costs", "[J", true)
  | 15 => ("CrewSharesModel", "days", "[I", true)
  | 16 => ("CrewSharesModel", "settled", "[Z", true)
  | 17 => ("CrewSharesModel", "parts", "[J", true)
  | 18 => ("CrewSharesModel", "shares", "[J", true)
  | 19 => ("CrewSharesModel", "weights", "[J", true)
  | 20 => ("CrewSharesModel", "gets", "[J", true)
  | 21 => ("CrewSharesModel", "rests", "[J", true)
  | 22 => ("CrewSharesModel", "entries", "I", false)
  | 23 => ("CrewSharesModel", "isOpen", "Z", false)
  | 24 => ("CrewSharesModel", "entryDay", "[I", true)
  | 25 => ("CrewSharesModel", "entryRows", "[I", true)
  | 26 => ("CrewSharesModel", "takes", "[I", true)
  | 27 => ("CrewSharesModel", "takenBy", "[I", true)
  | 28 => ("CrewSharesModel", "accounts", "[I", true)
  | 29 => ("CrewSharesModel", "amounts", "[J", true)
  | _ => ("CrewSharesModel", "closed", "I", false)
def tyX8 : Nat → FieldType := fun k => match k with
  | 0 => .array .int
  | 1 => .int
  | 2 => .array .int
  | 3 => .array .int
  | 4 => .int
  | 5 => .int
  | 6 => .int
  | 7 => .array .long
  | 8 => .int
  | 9 => .array .int
  | 10 => .array .long
  | 11 => .int
  | 12 => .array .int
  | 13 => .array .long
  | 14 => .array .long
  | 15 => .array .int
  | 16 => .array .boolean
  | 17 => .array .long
  | 18 => .array .long
  | 19 => .array .long
  | 20 => .array .long
  | 21 => .array .long
  | 22 => .int
  | 23 => .boolean
  | 24 => .array .int
  | 25 => .array .int
  | 26 => .array .int
  | 27 => .array .int
  | 28 => .array .int
  | 29 => .array .long
  | _ => .int
theorem nmX8 : ∀ a, a < 31 → ∀ b, b < 31 → a ≠ b → (TX8 a).2.1 ≠ (TX8 b).2.1 := by decide +kernel
theorem tyX8_ok : ∀ k, k < 31 → parseFieldDescriptor (TX8 k).2.2.1 = some (tyX8 k) := by decide +kernel
abbrev cX8_init : ByteArray := prog_10_method_1_code
def yX8_init : MethodName := ⟨RX8, "<init>", "()V"⟩
abbrev cX8_within : ByteArray := prog_10_method_2_code
def yX8_within : MethodName := ⟨RX8, "within", "(JJJ)Z"⟩
abbrev cX8_unit : ByteArray := prog_10_method_3_code
def yX8_unit : MethodName := ⟨RX8, "unit", "(I)Z"⟩
abbrev cX8_isNext : ByteArray := prog_10_method_4_code
def yX8_isNext : MethodName := ⟨RX8, "isNext", "()Z"⟩
abbrev cX8_isWord : ByteArray := prog_10_method_5_code
def yX8_isWord : MethodName := ⟨RX8, "isWord", "(JI)Z"⟩
abbrev cX8_number : ByteArray := prog_10_method_6_code
def yX8_number : MethodName := ⟨RX8, "number", "(I)I"⟩
abbrev cX8_isSentence : ByteArray := prog_10_method_7_code
def yX8_isSentence : MethodName := ⟨RX8, "isSentence", "()Z"⟩
abbrev cX8_read : ByteArray := prog_10_method_8_code
def yX8_read : MethodName := ⟨RX8, "read", "()I"⟩
abbrev cX8_isPerson : ByteArray := prog_10_method_9_code
def yX8_isPerson : MethodName := ⟨RX8, "isPerson", "(I)Z"⟩
abbrev cX8_isTrip : ByteArray := prog_10_method_10_code
def yX8_isTrip : MethodName := ⟨RX8, "isTrip", "(I)Z"⟩
abbrev cX8_person : ByteArray := prog_10_method_11_code
def yX8_person : MethodName := ⟨RX8, "person", "(I)I"⟩
abbrev cX8_advance : ByteArray := prog_10_method_12_code
def yX8_advance : MethodName := ⟨RX8, "advance", "(IJ)Z"⟩
abbrev cX8_trip : ByteArray := prog_10_method_13_code
def yX8_trip : MethodName := ⟨RX8, "trip", "(IJ)I"⟩
abbrev cX8_cost : ByteArray := prog_10_method_14_code
def yX8_cost : MethodName := ⟨RX8, "cost", "(IIJ)Z"⟩
abbrev cX8_days : ByteArray := prog_10_method_15_code
def yX8_days : MethodName := ⟨RX8, "days", "(III)I"⟩
abbrev cX8_costsOf : ByteArray := prog_10_method_16_code
def yX8_costsOf : MethodName := ⟨RX8, "costsOf", "(II)J"⟩
abbrev cX8_partByCents : ByteArray := prog_10_method_17_code
def yX8_partByCents : MethodName := ⟨RX8, "partByCents", "(JI)V"⟩
abbrev cX8_settle : ByteArray := prog_10_method_18_code
def yX8_settle : MethodName := ⟨RX8, "settle", "(I)I"⟩
abbrev cX8_part : ByteArray := prog_10_method_19_code
def yX8_part : MethodName := ⟨RX8, "part", "(II)J"⟩
abbrev cX8_share : ByteArray := prog_10_method_20_code
def yX8_share : MethodName := ⟨RX8, "share", "(III)J"⟩
abbrev cX8_carried : ByteArray := prog_10_method_21_code
def yX8_carried : MethodName := ⟨RX8, "carried", "(I)J"⟩
abbrev cX8_sums : ByteArray := prog_10_method_22_code
def yX8_sums : MethodName := ⟨RX8, "sums", "(I)Z"⟩
abbrev cX8_open : ByteArray := prog_10_method_23_code
def yX8_open : MethodName := ⟨RX8, "open", "(I)Z"⟩
abbrev cX8_row : ByteArray := prog_10_method_24_code
def yX8_row : MethodName := ⟨RX8, "row", "(IJ)I"⟩
abbrev cX8_enter : ByteArray := prog_10_method_25_code
def yX8_enter : MethodName := ⟨RX8, "enter", "()I"⟩
abbrev cX8_put : ByteArray := prog_10_method_26_code
def yX8_put : MethodName := ⟨RX8, "put", "(IIJ)V"⟩
abbrev cX8_drop : ByteArray := prog_10_method_27_code
def yX8_drop : MethodName := ⟨RX8, "drop", "()I"⟩
abbrev cX8_closeMonth : ByteArray := prog_10_method_28_code
def yX8_closeMonth : MethodName := ⟨RX8, "closeMonth", "(I)I"⟩
abbrev cX8_correct : ByteArray := prog_10_method_29_code
def yX8_correct : MethodName := ⟨RX8, "correct", "(II)I"⟩
abbrev cX8_balance : ByteArray := prog_10_method_30_code
def yX8_balance : MethodName := ⟨RX8, "balance", "(II)J"⟩
abbrev cX8_entry : ByteArray := prog_10_method_31_code
def yX8_entry : MethodName := ⟨RX8, "entry", "(III)J"⟩
def RJ9 : String := "java/lang/Math"
def TJ9 : u_T := fun k => match k with
  | _ => ("", "", "", false)
def tyJ9 : Nat → FieldType := fun k => match k with
  | _ => .int
theorem nmJ9 : ∀ a, a < 0 → ∀ b, b < 0 → a ≠ b → (TJ9 a).2.1 ≠ (TJ9 b).2.1 := by decide +kernel
theorem tyJ9_ok : ∀ k, k < 0 → parseFieldDescriptor (TJ9 k).2.2.1 = some (tyJ9 k) := by decide +kernel
abbrev cJ9_max_7cf53 : ByteArray := prog_11_method_65_code
def yJ9_max_7cf53 : MethodName := ⟨RJ9, "max", "(II)I"⟩
abbrev cJ9_max_f86c9 : ByteArray := prog_11_method_66_code
def yJ9_max_f86c9 : MethodName := ⟨RJ9, "max", "(JJ)J"⟩
abbrev cJ9_min_f86c9 : ByteArray := prog_11_method_70_code
def yJ9_min_f86c9 : MethodName := ⟨RJ9, "min", "(JJ)J"⟩
def RJ0 : String := "java/lang/String"
def TJ0 : u_T := fun k => match k with
  | _ => ("", "", "", false)
def tyJ0 : Nat → FieldType := fun k => match k with
  | _ => .int
theorem nmJ0 : ∀ a, a < 0 → ∀ b, b < 0 → a ≠ b → (TJ0 a).2.1 ≠ (TJ0 b).2.1 := by decide +kernel
theorem tyJ0_ok : ∀ k, k < 0 → parseFieldDescriptor (TJ0 k).2.2.1 = some (tyJ0 k) := by decide +kernel
abbrev cJ0_length_8abf5 : ByteArray := prog_12_method_54_code
def yJ0_length_8abf5 : MethodName := ⟨RJ0, "length", "()I"⟩
abbrev cJ0_charAt_5068e : ByteArray := prog_12_method_56_code
def yJ0_charAt_5068e : MethodName := ⟨RJ0, "charAt", "(I)C"⟩
abbrev cJ0_coder_7d493 : ByteArray := prog_12_method_152_code
def yJ0_coder_7d493 : MethodName := ⟨RJ0, "coder", "()B"⟩
abbrev cJ0_isLatin1_aae02 : ByteArray := prog_12_method_154_code
def yJ0_isLatin1_aae02 : MethodName := ⟨RJ0, "isLatin1", "()Z"⟩
abbrev cJ0_checkIndex_df160 : ByteArray := prog_12_method_155_code
def yJ0_checkIndex_df160 : MethodName := ⟨RJ0, "checkIndex", "(II)V"⟩
def RJ1 : String := "java/lang/StringLatin1"
def TJ1 : u_T := fun k => match k with
  | _ => ("", "", "", false)
def tyJ1 : Nat → FieldType := fun k => match k with
  | _ => .int
theorem nmJ1 : ∀ a, a < 0 → ∀ b, b < 0 → a ≠ b → (TJ1 a).2.1 ≠ (TJ1 b).2.1 := by decide +kernel
theorem tyJ1_ok : ∀ k, k < 0 → parseFieldDescriptor (TJ1 k).2.2.1 = some (tyJ1 k) := by decide +kernel
abbrev cJ1_charAt_3b067 : ByteArray := prog_13_method_2_code
def yJ1_charAt_3b067 : MethodName := ⟨RJ1, "charAt", "([BI)C"⟩
def RJ2 : String := "java/lang/StringUTF16"
def TJ2 : u_T := fun k => match k with
  | _ => ("", "", "", false)
def tyJ2 : Nat → FieldType := fun k => match k with
  | _ => .int
theorem nmJ2 : ∀ a, a < 0 → ∀ b, b < 0 → a ≠ b → (TJ2 a).2.1 ≠ (TJ2 b).2.1 := by decide +kernel
theorem tyJ2_ok : ∀ k, k < 0 → parseFieldDescriptor (TJ2 k).2.2.1 = some (tyJ2 k) := by decide +kernel
abbrev cJ2_getChar_3b067 : ByteArray := prog_14_method_5_code
def yJ2_getChar_3b067 : MethodName := ⟨RJ2, "getChar", "([BI)C"⟩
abbrev cJ2_length_9d52b : ByteArray := prog_14_method_6_code
def yJ2_length_9d52b : MethodName := ⟨RJ2, "length", "([B)I"⟩
abbrev cJ2_charAt_3b067 : ByteArray := prog_14_method_83_code
def yJ2_charAt_3b067 : MethodName := ⟨RJ2, "charAt", "([BI)C"⟩
abbrev cJ2_checkIndex_2214a : ByteArray := prog_14_method_91_code
def yJ2_checkIndex_2214a : MethodName := ⟨RJ2, "checkIndex", "(I[B)V"⟩
def RJ7 : String := "java/util/Arrays"
def TJ7 : u_T := fun k => match k with
  | _ => ("", "", "", false)
def tyJ7 : Nat → FieldType := fun k => match k with
  | _ => .int
theorem nmJ7 : ∀ a, a < 0 → ∀ b, b < 0 → a ≠ b → (TJ7 a).2.1 ≠ (TJ7 b).2.1 := by decide +kernel
theorem tyJ7_ok : ∀ k, k < 0 → parseFieldDescriptor (TJ7 k).2.2.1 = some (tyJ7 k) := by decide +kernel
abbrev cJ7_fill_d0a16 : ByteArray := prog_15_method_101_code
def yJ7_fill_d0a16 : MethodName := ⟨RJ7, "fill", "([JJ)V"⟩
abbrev cJ7_fill_53178 : ByteArray := prog_15_method_103_code
def yJ7_fill_53178 : MethodName := ⟨RJ7, "fill", "([II)V"⟩
def RJ3 : String := "jdk/internal/util/Preconditions"
def TJ3 : u_T := fun k => match k with
  | _ => ("", "", "", false)
def tyJ3 : Nat → FieldType := fun k => match k with
  | _ => .int
theorem nmJ3 : ∀ a, a < 0 → ∀ b, b < 0 → a ≠ b → (TJ3 a).2.1 ≠ (TJ3 b).2.1 := by decide +kernel
theorem tyJ3_ok : ∀ k, k < 0 → parseFieldDescriptor (TJ3 k).2.2.1 = some (tyJ3 k) := by decide +kernel
abbrev cJ3_checkIndex_8e157 : ByteArray := prog_16_method_11_code
def yJ3_checkIndex_8e157 : MethodName := ⟨RJ3, "checkIndex", "(IILjava/util/function/BiFunction;)I"⟩
def RL : String := "CrewSharesLaw"
abbrev cL_law : ByteArray := code
def yL_law : MethodName := ⟨RL, "law", "([I)Z"⟩
abbrev vwCl : List vw_C := [(RX0, TX0, 5), (RX1, TX1, 3), (RX2, TX2, 6), (RX3, TX3, 4), (RX4, TX4, 4), (RX5, TX5, 5), (RX6, TX6, 7), (RX7, TX7, 9), (RX8, TX8, 31)]
end
section
/-- the words that stay true while a method runs -/
def jWS : List Cond := lw_tbl.filter goodWord
theorem jWS_in {w : Cond} (h : w ∈ jWS) : w ∈ lw_tbl := (List.mem_filter.mp h).1
theorem jWS_of {w : Cond} (h : w ∈ tables_1) (hg : goodWord w = true) : w ∈ jWS := List.mem_filter.mpr ⟨List.mem_append_right _ h, hg⟩
theorem jWS_good : ∀ w ∈ jWS, goodWord w = true := fun w h => (List.mem_filter.mp h).2
/-- the links to nest mates -/
def jNW : List Cond := [.methodLinkNest "CrewShares" 11 ⟨"CrewShares$RulesText", "<init>", "()V"⟩ "CrewShares", .fieldLinkNest "CrewShares$Rules" 46 "CrewShares$RulesText" "wordNumber" "I" "CrewShares", .methodLinkNest "CrewShares" 20 ⟨"CrewShares$Crew", "<init>", "()V"⟩ "CrewShares", .fieldLinkNest "CrewShares$Trip" 65 "CrewShares$Crew" "roles" "[I" "CrewShares", .fieldLinkNest "CrewShares" 81 "CrewShares$Crew" "advances" "[J" "CrewShares", .fieldLinkNest "CrewShares$Trip" 115 "CrewShares$Crew" "advances" "[J" "CrewShares", .fieldLinkNest "CrewShares$Trip" 55 "CrewShares$Crew" "size" "I" "CrewShares", .methodLinkNest "CrewShares" 37 ⟨"CrewShares$Parting", "<init>", "()V"⟩ "CrewShares", .fieldLinkNest "CrewShares$Trip" 103 "CrewShares$Parting" "shares" "[J" "CrewShares", .methodLinkNest "CrewShares" 44 ⟨"CrewShares$Book", "<init>", "()V"⟩ "CrewShares", .methodLinkNest "CrewShares$Book" 17 ⟨"CrewShares$Entry", "<init>", "()V"⟩ "CrewShares", .fieldLinkNest "CrewShares$Book" 50 "CrewShares$Entry" "size" "I" "CrewShares", .fieldLinkNest "CrewShares$Book" 65 "CrewShares$Entry" "day" "I" "CrewShares", .fieldLinkNest "CrewShares$Book" 98 "CrewShares$Entry" "takesBack" "I" "CrewShares", .fieldLinkNest "CrewShares$Book" 101 "CrewShares$Entry" "takenBackBy" "I" "CrewShares", .fieldLinkNest "CrewShares$Trip" 118 "CrewShares$Rules" "places" "[I" "CrewShares", .fieldLinkNest "CrewShares$Trip" 108 "CrewShares$Rules" "weights" "[I" "CrewShares", .fieldLinkNest "CrewShares$Trip" 60 "CrewShares$Rules" "leasts" "[I" "CrewShares", .fieldLinkNest "CrewShares" 97 "CrewShares$Trip" "costs" "[J" "CrewShares", .fieldLinkNest "CrewShares" 100 "CrewShares$Trip" "daysOf" "[I" "CrewShares", .fieldLinkNest "CrewShares" 117 "CrewShares$Trip" "parts" "[J" "CrewShares", .fieldLinkNest "CrewShares" 120 "CrewShares$Trip" "shares" "[[J" "CrewShares", .fieldLinkNest "CrewShares" 163 "CrewShares$Trip" "settled" "Z" "CrewShares"]
/-- an array class over arrays of long is there -/
def va_AOL (U : State) : Prop := ∃ (comp c : ClassId) (k kc : Class) (cc : ClassId), U.vm.findClass (FieldType.array .long).toString = some comp ∧ U.vm.classes[c]? = some k ∧ k.kind = .array comp (.array .long) ∧ U.vm.findClass ("[" ++ (FieldType.array .long).toString) = some c ∧ U.vm.classes[comp]? = some kc ∧ kc.kind = .array cc .long
theorem va_AOL.moved {u U : State} (hvm : u.vm.Alike U.vm) (h : va_AOL u) : va_AOL U := by
  obtain ⟨comp, c, k, kc, cc, h1, h2, h3, h4, h5, h6⟩ := h
  obtain ⟨k', hk', he⟩ := hvm.2.2 _ _ h2
  obtain ⟨k2, hk2, he2⟩ := hvm.2.2 _ _ h5
  exact ⟨comp, c, k', k2, cc, by rw [hvm.findClass]; exact h1, hk', by rw [he]; exact h3, by rw [hvm.findClass]; exact h4, hk2, by rw [he2]; exact h6⟩

/-! THE J LAYER. A cell: an array (kind of its class, length, contents) or an object (its class's number in vwCl, fields). An address here is counted from the heap's size at the law's start. -/
abbrev jE : Type := (Nat × Nat × (Nat → Value)) ⊕ (Nat × List Value)
/-- how many cells there are; what each is -/
abbrev jH : Type := Nat × (Nat → Option jE)
/-- the heap at the law's start; numbers of classes and slots; array classes; addresses of what was there before; what is known of it -/
abbrev jG : Type := Heap × va_G × (Nat → ClassId) × (Nat → Nat) × (State → Prop)
/-- a method: name, code, locals, return type, room -/
abbrev jM : Type := MethodName × ByteArray × Nat × Option FieldType × Room
def jv (G : jG) : Value → Value
  | .ref a => .ref (G.1.size + a)
  | .float x => .ref (G.2.2.2.1 x.toNat)
  | v => v
def jr (o : Option Nat) : Value := match o with
  | none => .null
  | some a => .ref a
def jI (n : Nat) (a : Nat → Int32) : jE := .inl (0, n, fun j => .int (a j))
def jL (n : Nat) (a : Nat → Int64) : jE := .inl (1, n, fun j => .long (a j))
def jC (n : Nat) (a : Nat → Int32) : jE := .inl (2, n, fun j => .int (a j))
def jZ (n : Nat) (a : Nat → Int32) : jE := .inl (3, n, fun j => .int (a j))
def jQ (t n : Nat) (a : Nat → Option Nat) : jE := .inl (t, n, fun j => jr (a j))
def jO (ci : Nat) (fs : List Value) : jE := .inr (ci, fs)
def j_set (h : jH) (k : Nat) (e : jE) : jH := (h.1, fun j => if j = k then some e else h.2 j)
def j_new (h : jH) (e : jE) : jH := (h.1 + 1, fun j => if j = h.1 then some e else h.2 j)
def j_tys (G : jG) : List (ClassId × FieldType) := [(G.2.2.1 0, .int), (G.2.2.1 1, .long), (G.2.2.1 2, .char), (G.2.2.1 3, .boolean), (G.2.2.1 4, .object RX6), (G.2.2.1 5, .object RX2), (G.2.2.1 6, .array .long)]
def j_at (G : jG) (a : Nat) (e : jE) (H : Heap) : Prop := match e with
  | .inl q => H[a]? = some (arrV (G.2.2.1 q.1) q.2.1 (fun j => jv G (q.2.2 j)))
  | .inr q => ∃ r : vw_C, vwCl[q.1]? = some r ∧ t_OB a (G.2.1.1 q.1) r.2.2 (G.2.1.2 q.1) H (fun k => jv G (vp_V q.2 k))
theorem j_at.kept {G : jG} {a : Nat} {e : jE} {H H1 : Heap} (h : j_at G a e H) (hq : H1[a]? = H[a]?) : j_at G a e H1 := by
  cases e with
  | inl x => exact hq.trans h
  | inr o =>
    obtain ⟨r, h1, h2⟩ := h
    exact ⟨r, h1, h2.kept hq⟩
def j_rep (G : jG) (h : jH) (H : Heap) : Prop := H.size = G.1.size + h.1 ∧ (∀ q : Nat, q < G.1.size → H[q]? = G.1[q]?) ∧ (∀ k : Nat, h.1 ≤ k → h.2 k = none) ∧ ∀ (k : Nat) (e : jE), h.2 k = some e → j_at G (G.1.size + k) e H
theorem j_rep.lt {G : jG} {h : jH} {H : Heap} (hR : j_rep G h H) {k : Nat} {e : jE} (hk : h.2 k = some e) : k < h.1 := by
  rcases Nat.lt_or_ge k h.1 with q | q
  · exact q
  · rw [hR.2.2.1 k q] at hk; cases hk
theorem j_rep.set {G : jG} {h : jH} {H H1 : Heap} (hR : j_rep G h H) {k : Nat} {e0 e : jE} (hk : h.2 k = some e0) (he : j_at G (G.1.size + k) e H1) (hz : H1.size = H.size) (oq : ∀ q : Nat, q ≠ G.1.size + k → H1[q]? = H[q]?) : j_rep G (j_set h k e) H1 := by
  have hlt := hR.lt hk
  refine ⟨hz.trans hR.1, fun q hq => (oq q (by omega)).trans (hR.2.1 q hq), fun j hj => ?_, fun j e1 hj => ?_⟩
  · have hj' : h.1 ≤ j := hj
    show (if j = k then some e else h.2 j) = none
    rw [if_neg (by omega)]
    exact hR.2.2.1 j hj
  · have hj' : (if j = k then some e else h.2 j) = some e1 := hj
    by_cases q : j = k
    · rw [if_pos q] at hj'
      cases hj'
      rw [q]
      exact he
    · rw [if_neg q] at hj'
      exact (hR.2.2.2 j e1 hj').kept (oq _ (by omega))
theorem j_rep.new {G : jG} {h : jH} {H H1 : Heap} (hR : j_rep G h H) {e : jE} (he : j_at G (G.1.size + h.1) e H1) (hz : H1.size = H.size + 1) (oq : ∀ q : Nat, q < H.size → H1[q]? = H[q]?) : j_rep G (j_new h e) H1 := by
  have h1 := hR.1
  refine ⟨by show H1.size = G.1.size + (h.1 + 1); omega, fun q hq => (oq q (by omega)).trans (hR.2.1 q hq), fun j hj => ?_, fun j e1 hj => ?_⟩
  · have hj' : h.1 + 1 ≤ j := hj
    show (if j = h.1 then some e else h.2 j) = none
    rw [if_neg (by omega)]
    exact hR.2.2.1 j (by omega)
  · have hj' : (if j = h.1 then some e else h.2 j) = some e1 := hj
    by_cases q : j = h.1
    · rw [if_pos q] at hj'
      cases hj'
      rw [q]
      exact he
    · rw [if_neg q] at hj'
      have := hR.lt hj'
      exact (hR.2.2.2 j e1 hj').kept (oq _ (by omega))
/-- what is known of what was there before stays known -/
def j_ok (G : jG) : Prop := ∀ u U : State, u.vm = U.vm ∨ u.WarmedH U.vm → (∀ q : Nat, q < G.1.size → U.heap[q]? = u.heap[q]?) → G.2.2.2.2 u → G.2.2.2.2 U
def j_nw (w : Cond) : Prop := match w with
  | .fieldLinkNest _ _ _ _ _ _ => True
  | .methodLinkNest _ _ _ _ => True
  | _ => False
def j_env (G : jG) (U : State) : Prop := j_ok G ∧ va_K G.2.1 vwCl (j_tys G) U ∧ (∀ w ∈ jNW, va_Nw w U) ∧ va_AO RX6 U ∧ va_AO RX2 U ∧ va_AOL U ∧ G.2.2.2.2 U
theorem jNW_ok : ∀ w ∈ jNW, j_nw w := by
  intro w hw
  simp only [jNW, List.mem_cons, List.not_mem_nil, or_false] at hw
  rcases hw with rfl | rfl | rfl | rfl | rfl | rfl | rfl | rfl | rfl | rfl | rfl | rfl | rfl | rfl | rfl | rfl | rfl | rfl | rfl | rfl | rfl | rfl | rfl <;> trivial
theorem j_env.warm {G : jG} {s U : State} (hW : s.WarmedH U.vm) (hH : ∀ q : Nat, q < G.1.size → U.heap[q]? = s.heap[q]?) (h : j_env G s) : j_env G U := by
  obtain ⟨h1, h2, h3, h4, h5, h6, h7⟩ := h
  refine ⟨h1, h2.moved hW.alike, fun w hw => ?_, h4.moved hW.alike, h5.moved hW.alike, h6.moved hW.alike, h1 s U (Or.inr hW) hH h7⟩
  have hz := h3 w hw
  have hn := jNW_ok w hw
  revert hn hz
  cases w <;> intro hz hn <;> first | exact va_Nw.warmF hW hz | exact va_Nw.warmM hW hz | exact absurd hn (fun q => q)
theorem j_nw_tab {w : Cond} (h : j_nw w) : w.onTables = true := by
  revert h
  cases w <;> intro h <;> first | rfl | exact absurd h (fun q => q)
theorem j_env.same {G : jG} {u U : State} (hv : u.vm = U.vm) (hH : u.heap = U.heap) (h : j_env G u) : j_env G U := by
  obtain ⟨h1, h2, h3, h4, h5, h6, h7⟩ := h
  have ha : u.vm.Alike U.vm := by rw [hv]; exact Vm.Alike.refl _
  refine ⟨h1, h2.moved ha, fun w hw => va_Nw.same (j_nw_tab (jNW_ok w hw)) hv (h3 w hw), h4.moved ha, h5.moved ha, h6.moved ha, h1 u U (Or.inl hv) (fun q _ => by rw [hH]) h7⟩
/-- a method's locals that are known -/
def jlk (i : Nat) : List (Nat × Value) → Option Value
  | [] => none
  | q :: t => cond (Nat.beq q.1 i) (some q.2) (jlk i t)
def j_c (G : jG) (lv : List (Nat × Value)) : List (Nat × Value) := lv.map (fun q => (q.1, jv G q.2))
theorem jlk_mem {i : Nat} {v : Value} : ∀ {lv : List (Nat × Value)}, jlk i lv = some v → (i, v) ∈ lv
  | [], h => by cases h
  | q :: t, h => by
    simp only [jlk] at h
    cases hb : Nat.beq q.1 i with
    | true =>
      rw [hb] at h
      simp only [cond_true, Option.some.injEq] at h
      have e : q.1 = i := Nat.eq_of_beq_eq_true hb
      rw [← e, ← h]
      exact List.mem_cons_self
    | false =>
      rw [hb] at h
      simp only [cond_false] at h
      exact List.mem_cons_of_mem _ (jlk_mem h)
theorem j_lv {G : jG} {ls : Array Slot} {n i : Nat} {v : Value} {lv : List (Nat × Value)} (hV : lv_has ls n (j_c G lv)) (h : jlk i lv = some v) : ls[i]? = some (.val (jv G v)) :=
  hV.2.2 (i, jv G v) (List.mem_map.mpr ⟨(i, v), jlk_mem h, rfl⟩)
def jst1 (i : Nat) (v : Value) (lv : List (Nat × Value)) : List (Nat × Value) := (i, v) :: lv.filter (fun q => !(q.1 == i) && !(q.1 + 1 == i && q.2.category == 2))
def jst2 (i : Nat) (v : Value) (lv : List (Nat × Value)) : List (Nat × Value) := (i, v) :: lv.filter (fun q => !(q.1 == i) && (!(q.1 == i + 1) && !(q.1 + 1 == i && q.2.category == 2)))
theorem jv_cat (G : jG) (v : Value) : (jv G v).category = v.category := by cases v <;> rfl
theorem jst1_c (G : jG) (i : Nat) (v : Value) (lv : List (Nat × Value)) : (i, jv G v) :: (j_c G lv).filter (fun q => !(q.1 == i) && !(q.1 + 1 == i && q.2.category == 2)) = j_c G (jst1 i v lv) := by
  simp only [j_c, jst1, List.map_cons, List.filter_map]
  congr 2
  apply List.filter_congr
  intro q _
  simp [jv_cat]
theorem jst2_c (G : jG) (i : Nat) (v : Value) (lv : List (Nat × Value)) : (i, jv G v) :: (j_c G lv).filter (fun q => !(q.1 == i) && (!(q.1 == i + 1) && !(q.1 + 1 == i && q.2.category == 2))) = j_c G (jst2 i v lv) := by
  simp only [j_c, jst2, List.map_cons, List.filter_map]
  congr 2
  apply List.filter_congr
  intro q _
  simp [jv_cat]
/-- what holds of the machine throughout a method -/
def JF (G : jG) (M : jM) (p : Program) (s : State) (m : MethodId) (args : Array Value) (meth : Method) (c : Code) : Prop :=
  p.tables.exec = Jvm.exec ∧ c.code = M.2.1 ∧ c.maxLocals = M.2.2.1 ∧ meth.sig.returnType = M.2.2.2.1 ∧ meth.locks = false ∧ meth.name = M.1.name ∧ s.vm.findClass M.1.cls = some m.cls ∧ (∀ w ∈ jWS, w.before args s = true) ∧ j_env G s ∧ (∀ q : Nat, q < G.1.size → s.heap[q]? = G.1[q]?) ∧ G.1.size ≤ s.heap.size
def j_Q (G : jG) (Q : Option Value → jH → Prop) : Array Value → State → Outcome → State → Prop := fun _ _ oc t => ∃ (v : Option Value) (h' : jH), oc = .returned (v.map (jv G)) ∧ Q v h' ∧ j_rep G h' t.heap
/-- from pc of method M on, with these locals, this stack and this heap: it returns, with Q -/
def J (l : Launch) (G : jG) (M : jM) (nc ns pc : Nat) (lv : List (Nat × Value)) (st : List Value) (h : jH) (Q : Option Value → jH → Prop) : Prop :=
  ∀ (p : Program) (e : Env) (s : State) (m : MethodId) (args : Array Value) (below : List Frame) (meth : Method) (c : Code) (H : Heap) (locs : List Loc) (ls : Array Slot),
    JF G M p s m args meth c → j_rep G h H → (∀ q ∈ locs, G.1.size ≤ q.base) → lv_has ls M.2.2.1 (j_c G lv) →
    W p l e M.2.2.2.2 s m args below meth c H locs nc ns (MQ below (j_Q G Q) args s M.2.2.2.2.cells M.2.2.2.2.slots (fun q => G.1.size ≤ q)) (F0 m pc ls (st.map (jv G)))
end
