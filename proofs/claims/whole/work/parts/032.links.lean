theorem jlX8_152 : j_lv2 RX8 152 yX8_partByCents cX8_partByCents 10 none 2 := ⟨⟨jcX8_partByCents, jitX8, jWS_of (List.mem_of_getElem? (i := 810) (by decide +kernel)) rfl, by decide +kernel, by decide +kernel⟩, jiX8_partByCents, jvX8_partByCents⟩
theorem jcX8_put : Cond.code yX8_put cX8_put 6 none ∈ jWS := jWS_of (List.mem_of_getElem? (i := 851) (by decide +kernel)) rfl
theorem jiX8_put : Cond.instanceMethod yX8_put ∈ jWS := jWS_of (List.mem_of_getElem? (i := 850) (by decide +kernel)) rfl
theorem jvX8_put : Cond.selects yX8_put.cls yX8_put yX8_put ∈ jWS := jWS_sel (List.mem_of_getElem? (i := 30) (by decide +kernel)) rfl
theorem jlX8_176 : j_lv2 RX8 176 yX8_put cX8_put 6 none 3 := ⟨⟨jcX8_put, jitX8, jWS_of (List.mem_of_getElem? (i := 848) (by decide +kernel)) rfl, by decide +kernel, by decide +kernel⟩, jiX8_put, jvX8_put⟩
theorem jcJ0_coder_7d493 : Cond.code yJ0_coder_7d493 cJ0_coder_7d493 1 (some FieldType.byte) ∈ jWS := jWS_of (List.mem_of_getElem? (i := 244) (by decide +kernel)) rfl
theorem jiJ0_coder_7d493 : Cond.instanceMethod yJ0_coder_7d493 ∈ jWS := jWS_of (List.mem_of_getElem? (i := 242) (by decide +kernel)) rfl
theorem jvJ0_coder_7d493 : Cond.selects yJ0_coder_7d493.cls yJ0_coder_7d493 yJ0_coder_7d493 ∈ jWS := jWS_of (List.mem_of_getElem? (i := 243) (by decide +kernel)) rfl
theorem jlJ0_335 : j_lv2 RJ0 335 yJ0_coder_7d493 cJ0_coder_7d493 1 (some FieldType.byte) 0 := ⟨⟨jcJ0_coder_7d493, jitJ0, jWS_of (List.mem_of_getElem? (i := 241) (by decide +kernel)) rfl, by decide +kernel, by decide +kernel⟩, jiJ0_coder_7d493, jvJ0_coder_7d493⟩
theorem jcJ0_isLatin1_aae02 : Cond.code yJ0_isLatin1_aae02 cJ0_isLatin1_aae02 1 (some FieldType.boolean) ∈ jWS := jWS_of (List.mem_of_getElem? (i := 254) (by decide +kernel)) rfl
theorem jiJ0_isLatin1_aae02 : Cond.instanceMethod yJ0_isLatin1_aae02 ∈ jWS := jWS_of (List.mem_of_getElem? (i := 252) (by decide +kernel)) rfl
theorem jvJ0_isLatin1_aae02 : Cond.selects yJ0_isLatin1_aae02.cls yJ0_isLatin1_aae02 yJ0_isLatin1_aae02 ∈ jWS := jWS_of (List.mem_of_getElem? (i := 253) (by decide +kernel)) rfl
theorem jlJ0_492 : j_lv2 RJ0 492 yJ0_isLatin1_aae02 cJ0_isLatin1_aae02 1 (some FieldType.boolean) 0 := ⟨⟨jcJ0_isLatin1_aae02, jitJ0, jWS_of (List.mem_of_getElem? (i := 251) (by decide +kernel)) rfl, by decide +kernel, by decide +kernel⟩, jiJ0_isLatin1_aae02, jvJ0_isLatin1_aae02⟩
theorem jcJ1_charAt_3b067 : Cond.code yJ1_charAt_3b067 cJ1_charAt_3b067 2 (some FieldType.char) ∈ jWS := jWS_of (List.mem_of_getElem? (i := 257) (by decide +kernel)) rfl
theorem jsJ1_charAt_3b067 : Cond.static yJ1_charAt_3b067 ∈ jWS := jWS_of (List.mem_of_getElem? (i := 256) (by decide +kernel)) rfl
theorem jlJ0_495 : j_ls RJ0 495 yJ1_charAt_3b067 cJ1_charAt_3b067 2 (some FieldType.char) 2 := ⟨⟨jcJ1_charAt_3b067, jitJ1, jWS_of (List.mem_of_getElem? (i := 255) (by decide +kernel)) rfl, by decide +kernel, by decide +kernel⟩, jsJ1_charAt_3b067⟩
theorem jcJ2_charAt_3b067 : Cond.code yJ2_charAt_3b067 cJ2_charAt_3b067 2 (some FieldType.char) ∈ jWS := jWS_of (List.mem_of_getElem? (i := 268) (by decide +kernel)) rfl
theorem jsJ2_charAt_3b067 : Cond.static yJ2_charAt_3b067 ∈ jWS := jWS_of (List.mem_of_getElem? (i := 267) (by decide +kernel)) rfl
theorem jlJ0_498 : j_ls RJ0 498 yJ2_charAt_3b067 cJ2_charAt_3b067 2 (some FieldType.char) 2 := ⟨⟨jcJ2_charAt_3b067, jitJ2, jWS_of (List.mem_of_getElem? (i := 266) (by decide +kernel)) rfl, by decide +kernel, by decide +kernel⟩, jsJ2_charAt_3b067⟩
theorem jcJ3_checkIndex_8e157 : Cond.code yJ3_checkIndex_8e157 cJ3_checkIndex_8e157 3 (some FieldType.int) ∈ jWS := jWS_of (List.mem_of_getElem? (i := 265) (by decide +kernel)) rfl
theorem jsJ3_checkIndex_8e157 : Cond.static yJ3_checkIndex_8e157 ∈ jWS := jWS_of (List.mem_of_getElem? (i := 264) (by decide +kernel)) rfl
theorem jlJ0_1059 : j_ls RJ0 1059 yJ3_checkIndex_8e157 cJ3_checkIndex_8e157 3 (some FieldType.int) 3 := ⟨⟨jcJ3_checkIndex_8e157, jitJ3, jWS_of (List.mem_of_getElem? (i := 263) (by decide +kernel)) rfl, by decide +kernel, by decide +kernel⟩, jsJ3_checkIndex_8e157⟩
theorem jcJ0_checkIndex_df160 : Cond.code yJ0_checkIndex_df160 cJ0_checkIndex_df160 2 none ∈ jWS := jWS_of (List.mem_of_getElem? (i := 260) (by decide +kernel)) rfl
theorem jsJ0_checkIndex_df160 : Cond.static yJ0_checkIndex_df160 ∈ jWS := jWS_of (List.mem_of_getElem? (i := 259) (by decide +kernel)) rfl
theorem jlJ1_9 : j_ls RJ1 9 yJ0_checkIndex_df160 cJ0_checkIndex_df160 2 none 2 := ⟨⟨jcJ0_checkIndex_df160, jitJ0, jWS_of (List.mem_of_getElem? (i := 258) (by decide +kernel)) rfl, by decide +kernel, by decide +kernel⟩, jsJ0_checkIndex_df160⟩
theorem jcJ2_length_9d52b : Cond.code yJ2_length_9d52b cJ2_length_9d52b 1 (some FieldType.int) ∈ jWS := jWS_of (List.mem_of_getElem? (i := 274) (by decide +kernel)) rfl
theorem jsJ2_length_9d52b : Cond.static yJ2_length_9d52b ∈ jWS := jWS_of (List.mem_of_getElem? (i := 273) (by decide +kernel)) rfl
theorem jlJ2_48 : j_ls RJ2 48 yJ2_length_9d52b cJ2_length_9d52b 1 (some FieldType.int) 1 := ⟨⟨jcJ2_length_9d52b, jitJ2, jWS_of (List.mem_of_getElem? (i := 272) (by decide +kernel)) rfl, by decide +kernel, by decide +kernel⟩, jsJ2_length_9d52b⟩
theorem jcJ2_checkIndex_2214a : Cond.code yJ2_checkIndex_2214a cJ2_checkIndex_2214a 2 none ∈ jWS := jWS_of (List.mem_of_getElem? (i := 271) (by decide +kernel)) rfl
theorem jsJ2_checkIndex_2214a : Cond.static yJ2_checkIndex_2214a ∈ jWS := jWS_of (List.mem_of_getElem? (i := 270) (by decide +kernel)) rfl
theorem jlJ2_67 : j_ls RJ2 67 yJ2_checkIndex_2214a cJ2_checkIndex_2214a 2 none 2 := ⟨⟨jcJ2_checkIndex_2214a, jitJ2, jWS_of (List.mem_of_getElem? (i := 269) (by decide +kernel)) rfl, by decide +kernel, by decide +kernel⟩, jsJ2_checkIndex_2214a⟩
theorem jcJ2_getChar_3b067 : Cond.code yJ2_getChar_3b067 cJ2_getChar_3b067 2 (some FieldType.char) ∈ jWS := jWS_of (List.mem_of_getElem? (i := 278) (by decide +kernel)) rfl
theorem jsJ2_getChar_3b067 : Cond.static yJ2_getChar_3b067 ∈ jWS := jWS_of (List.mem_of_getElem? (i := 277) (by decide +kernel)) rfl
theorem jlJ2_71 : j_ls RJ2 71 yJ2_getChar_3b067 cJ2_getChar_3b067 2 (some FieldType.char) 2 := ⟨⟨jcJ2_getChar_3b067, jitJ2, jWS_of (List.mem_of_getElem? (i := 276) (by decide +kernel)) rfl, by decide +kernel, by decide +kernel⟩, jsJ2_getChar_3b067⟩
theorem jlJ2_414 : j_ls RJ2 414 yJ0_checkIndex_df160 cJ0_checkIndex_df160 2 none 2 := ⟨⟨jcJ0_checkIndex_df160, jitJ0, jWS_of (List.mem_of_getElem? (i := 275) (by decide +kernel)) rfl, by decide +kernel, by decide +kernel⟩, jsJ0_checkIndex_df160⟩
theorem jnX4_72 : Cond.constant RX4 72 (999999) ∈ jWS := jWS_of (List.mem_of_getElem? (i := 308) (by decide +kernel)) rfl
theorem jnX8_119 : Cond.constant RX8 119 (999999) ∈ jWS := jWS_of (List.mem_of_getElem? (i := 768) (by decide +kernel)) rfl
theorem jnX7_158 : Cond.constantLong RX7 158 (1000000000) ∈ jWS := jWS_of (List.mem_of_getElem? (i := 333) (by decide +kernel)) rfl
theorem jnX7_84 : Cond.constantLong RX7 84 (1000000000000) ∈ jWS := jWS_of (List.mem_of_getElem? (i := 338) (by decide +kernel)) rfl
theorem jnX3_43 : Cond.constantLong RX3 43 (-1) ∈ jWS := jWS_of (List.mem_of_getElem? (i := 440) (by decide +kernel)) rfl
theorem jnX7_115 : Cond.constantLong RX7 115 (-9223372036854775808) ∈ jWS := jWS_of (List.mem_of_getElem? (i := 476) (by decide +kernel)) rfl
theorem jnX7_124 : Cond.constantLong RX7 124 (-1) ∈ jWS := jWS_of (List.mem_of_getElem? (i := 485) (by decide +kernel)) rfl
theorem jnX0_41 : Cond.constantLong RX0 41 (-1000000000000) ∈ jWS := jWS_of (List.mem_of_getElem? (i := 532) (by decide +kernel)) rfl
theorem jnX0_43 : Cond.constantLong RX0 43 (1000000000000) ∈ jWS := jWS_of (List.mem_of_getElem? (i := 533) (by decide +kernel)) rfl
theorem jnX0_104 : Cond.constantLong RX0 104 (-9223372036854775808) ∈ jWS := jWS_of (List.mem_of_getElem? (i := 612) (by decide +kernel)) rfl
theorem jnX2_40 : Cond.constantLong RX2 40 (-9223372036854775808) ∈ jWS := jWS_of (List.mem_of_getElem? (i := 629) (by decide +kernel)) rfl
theorem jnX8_78 : Cond.constantLong RX8 78 (255) ∈ jWS := jWS_of (List.mem_of_getElem? (i := 739) (by decide +kernel)) rfl
theorem jnX8_101 : Cond.constantLong RX8 101 (1936222576) ∈ jWS := jWS_of (List.mem_of_getElem? (i := 755) (by decide +kernel)) rfl
theorem jnX8_107 : Cond.constantLong RX8 107 (1734697330) ∈ jWS := jWS_of (List.mem_of_getElem? (i := 760) (by decide +kernel)) rfl
theorem jnX8_113 : Cond.constantLong RX8 113 (1668248436) ∈ jWS := jWS_of (List.mem_of_getElem? (i := 765) (by decide +kernel)) rfl
theorem jnX8_115 : Cond.constantLong RX8 115 (1919904869) ∈ jWS := jWS_of (List.mem_of_getElem? (i := 766) (by decide +kernel)) rfl
theorem jnX8_117 : Cond.constantLong RX8 117 (465557353332) ∈ jWS := jWS_of (List.mem_of_getElem? (i := 767) (by decide +kernel)) rfl
theorem jnX8_129 : Cond.constantLong RX8 129 (9) ∈ jWS := jWS_of (List.mem_of_getElem? (i := 773) (by decide +kernel)) rfl
theorem jnX8_135 : Cond.constantLong RX8 135 (1000000000) ∈ jWS := jWS_of (List.mem_of_getElem? (i := 782) (by decide +kernel)) rfl
theorem jnX8_137 : Cond.constantLong RX8 137 (3) ∈ jWS := jWS_of (List.mem_of_getElem? (i := 787) (by decide +kernel)) rfl
theorem jnX8_139 : Cond.constantLong RX8 139 (1000000000000) ∈ jWS := jWS_of (List.mem_of_getElem? (i := 788) (by decide +kernel)) rfl
theorem jnX8_144 : Cond.constantLong RX8 144 (400) ∈ jWS := jWS_of (List.mem_of_getElem? (i := 801) (by decide +kernel)) rfl
theorem jnX8_146 : Cond.constantLong RX8 146 (-1) ∈ jWS := jWS_of (List.mem_of_getElem? (i := 814) (by decide +kernel)) rfl
theorem jnX8_156 : Cond.constantLong RX8 156 (5) ∈ jWS := jWS_of (List.mem_of_getElem? (i := 819) (by decide +kernel)) rfl
theorem jnX8_158 : Cond.constantLong RX8 158 (-9223372036854775808) ∈ jWS := jWS_of (List.mem_of_getElem? (i := 820) (by decide +kernel)) rfl
theorem jnX8_164 : Cond.constantLong RX8 164 (3599) ∈ jWS := jWS_of (List.mem_of_getElem? (i := 837) (by decide +kernel)) rfl
theorem jnX8_172 : Cond.constantLong RX8 172 (19) ∈ jWS := jWS_of (List.mem_of_getElem? (i := 842) (by decide +kernel)) rfl
theorem jnX8_174 : Cond.constantLong RX8 174 (-1000000000000) ∈ jWS := jWS_of (List.mem_of_getElem? (i := 843) (by decide +kernel)) rfl
theorem jnX8_180 : Cond.constantLong RX8 180 (119) ∈ jWS := jWS_of (List.mem_of_getElem? (i := 860) (by decide +kernel)) rfl
theorem jnL_28 : Cond.constantLong RL 28 (4294967295) ∈ jWS := jWS_of (List.mem_of_getElem? (i := 873) (by decide +kernel)) rfl
theorem jkL_7 : Cond.classLink RL 7 RX7 ∈ jWS := jWS_of (List.mem_of_getElem? (i := 16) (by decide +kernel)) rfl
theorem jkX7_9 : Cond.classLink RX7 9 RX5 ∈ jWS := jWS_of (List.mem_of_getElem? (i := 24) (by decide +kernel)) rfl
theorem jkX7_18 : Cond.classLink RX7 18 RX1 ∈ jWS := jWS_of (List.mem_of_getElem? (i := 48) (by decide +kernel)) rfl
theorem jkX7_29 : Cond.classLink RX7 29 RX6 ∈ jWS := jWS_of (List.mem_of_getElem? (i := 70) (by decide +kernel)) rfl
theorem jkX7_35 : Cond.classLink RX7 35 RX3 ∈ jWS := jWS_of (List.mem_of_getElem? (i := 72) (by decide +kernel)) rfl
theorem jkX7_42 : Cond.classLink RX7 42 RX0 ∈ jWS := jWS_of (List.mem_of_getElem? (i := 92) (by decide +kernel)) rfl
theorem jkX0_11 : Cond.classLink RX0 11 RX2 ∈ jWS := jWS_of (List.mem_of_getElem? (i := 98) (by decide +kernel)) rfl
theorem jkX7_49 : Cond.classLink RX7 49 RX4 ∈ jWS := jWS_of (List.mem_of_getElem? (i := 144) (by decide +kernel)) rfl
theorem jkL_10 : Cond.classLink RL 10 RX8 ∈ jWS := jWS_of (List.mem_of_getElem? (i := 634) (by decide +kernel)) rfl
abbrev rmJ0_charAt_5068e : Room := { frames := 3, cells := 0, slots := 0, locals := 64 }
abbrev mJ0_charAt_5068e : jM := (yJ0_charAt_5068e, cJ0_charAt_5068e, 2, (some FieldType.char), rmJ0_charAt_5068e)
abbrev rmJ0_checkIndex_df160 : Room := { frames := 1, cells := 0, slots := 0, locals := 22 }
abbrev mJ0_checkIndex_df160 : jM := (yJ0_checkIndex_df160, cJ0_checkIndex_df160, 2, none, rmJ0_checkIndex_df160)
abbrev rmJ0_coder_7d493 : Room := { frames := 0, cells := 0, slots := 0, locals := 0 }
abbrev mJ0_coder_7d493 : jM := (yJ0_coder_7d493, cJ0_coder_7d493, 1, (some FieldType.byte), rmJ0_coder_7d493)
abbrev rmJ0_isLatin1_aae02 : Room := { frames := 0, cells := 0, slots := 0, locals := 0 }
abbrev mJ0_isLatin1_aae02 : jM := (yJ0_isLatin1_aae02, cJ0_isLatin1_aae02, 1, (some FieldType.boolean), rmJ0_isLatin1_aae02)
abbrev rmJ0_length_8abf5 : Room := { frames := 1, cells := 0, slots := 0, locals := 20 }
abbrev mJ0_length_8abf5 : jM := (yJ0_length_8abf5, cJ0_length_8abf5, 1, (some FieldType.int), rmJ0_length_8abf5)
abbrev rmJ1_charAt_3b067 : Room := { frames := 2, cells := 0, slots := 0, locals := 43 }
abbrev mJ1_charAt_3b067 : jM := (yJ1_charAt_3b067, cJ1_charAt_3b067, 2, (some FieldType.char), rmJ1_charAt_3b067)
abbrev rmJ3_checkIndex_8e157 : Room := { frames := 0, cells := 0, slots := 0, locals := 0 }
abbrev mJ3_checkIndex_8e157 : jM := (yJ3_checkIndex_8e157, cJ3_checkIndex_8e157, 3, (some FieldType.int), rmJ3_checkIndex_8e157)
abbrev rmJ7_fill_53178 : Room := { frames := 0, cells := 0, slots := 0, locals := 0 }
abbrev mJ7_fill_53178 : jM := (yJ7_fill_53178, cJ7_fill_53178, 4, none, rmJ7_fill_53178)
abbrev rmJ7_fill_d0a16 : Room := { frames := 0, cells := 0, slots := 0, locals := 0 }
abbrev mJ7_fill_d0a16 : jM := (yJ7_fill_d0a16, cJ7_fill_d0a16, 5, none, rmJ7_fill_d0a16)
abbrev rmJ9_max_7cf53 : Room := { frames := 0, cells := 0, slots := 0, locals := 0 }
abbrev mJ9_max_7cf53 : jM := (yJ9_max_7cf53, cJ9_max_7cf53, 2, (some FieldType.int), rmJ9_max_7cf53)
abbrev rmJ9_max_f86c9 : Room := { frames := 0, cells := 0, slots := 0, locals := 0 }
abbrev mJ9_max_f86c9 : jM := (yJ9_max_f86c9, cJ9_max_f86c9, 4, (some FieldType.long), rmJ9_max_f86c9)
abbrev rmJ9_min_f86c9 : Room := { frames := 0, cells := 0, slots := 0, locals := 0 }
abbrev mJ9_min_f86c9 : jM := (yJ9_min_f86c9, cJ9_min_f86c9, 4, (some FieldType.long), rmJ9_min_f86c9)
abbrev rmX0_addRow : Room := { frames := 2, cells := 0, slots := 0, locals := 43 }
abbrev mX0_addRow : jM := (yX0_addRow, cX0_addRow, 4, (some FieldType.int), rmX0_addRow)
abbrev rmX0_begin : Room := { frames := 3, cells := 0, slots := 0, locals := 62 }
abbrev mX0_begin : jM := (yX0_begin, cX0_begin, 2, (some FieldType.boolean), rmX0_begin)
abbrev rmX0_closeUpTo : Room := { frames := 1, cells := 0, slots := 0, locals := 23 }
abbrev mX0_closeUpTo : jM := (yX0_closeUpTo, cX0_closeUpTo, 3, (some FieldType.int), rmX0_closeUpTo)
abbrev rmX0_entryAt : Room := { frames := 0, cells := 0, slots := 0, locals := 0 }
abbrev mX0_entryAt : jM := (yX0_entryAt, cX0_entryAt, 2, (some (FieldType.object "CrewShares$Entry")), rmX0_entryAt)
abbrev rmX0_giveUp : Room := { frames := 0, cells := 0, slots := 0, locals := 0 }
abbrev mX0_giveUp : jM := (yX0_giveUp, cX0_giveUp, 1, (some FieldType.int), rmX0_giveUp)
abbrev rmX0_init : Room := { frames := 2, cells := 4, slots := 82, locals := 40 }
abbrev mX0_init : jM := (yX0_init, cX0_init, 1, none, rmX0_init)
abbrev rmX0_isAccount : Room := { frames := 0, cells := 0, slots := 0, locals := 0 }
abbrev mX0_isAccount : jM := (yX0_isAccount, cX0_isAccount, 1, (some FieldType.boolean), rmX0_isAccount)
abbrev rmX0_isClosed : Room := { frames := 1, cells := 0, slots := 0, locals := 20 }
abbrev mX0_isClosed : jM := (yX0_isClosed, cX0_isClosed, 2, (some FieldType.boolean), rmX0_isClosed)
abbrev rmX0_isFull : Room := { frames := 0, cells := 0, slots := 0, locals := 0 }
abbrev mX0_isFull : jM := (yX0_isFull, cX0_isFull, 1, (some FieldType.boolean), rmX0_isFull)
abbrev rmX0_isMonth : Room := { frames := 0, cells := 0, slots := 0, locals := 0 }
abbrev mX0_isMonth : jM := (yX0_isMonth, cX0_isMonth, 1, (some FieldType.boolean), rmX0_isMonth)
abbrev rmX0_monthOf : Room := { frames := 0, cells := 0, slots := 0, locals := 0 }
abbrev mX0_monthOf : jM := (yX0_monthOf, cX0_monthOf, 1, (some FieldType.int), rmX0_monthOf)
abbrev rmX0_putIn : Room := { frames := 0, cells := 0, slots := 0, locals := 0 }
abbrev mX0_putIn : jM := (yX0_putIn, cX0_putIn, 2, (some FieldType.int), rmX0_putIn)
abbrev rmX0_takeBack : Room := { frames := 3, cells := 3, slots := 22, locals := 65 }
abbrev mX0_takeBack : jM := (yX0_takeBack, cX0_takeBack, 5, (some FieldType.int), rmX0_takeBack)
abbrev rmX0_takeIn : Room := { frames := 2, cells := 3, slots := 22, locals := 40 }
abbrev mX0_takeIn : jM := (yX0_takeIn, cX0_takeIn, 2, (some FieldType.int), rmX0_takeIn)
abbrev rmX0_takesDay : Room := { frames := 2, cells := 0, slots := 0, locals := 41 }
abbrev mX0_takesDay : jM := (yX0_takesDay, cX0_takesDay, 2, (some FieldType.boolean), rmX0_takesDay)
abbrev rmX0_tell : Room := { frames := 1, cells := 0, slots := 0, locals := 22 }
abbrev mX0_tell : jM := (yX0_tell, cX0_tell, 5, (some FieldType.long), rmX0_tell)
abbrev rmX0_totalOf : Room := { frames := 1, cells := 0, slots := 0, locals := 24 }
abbrev mX0_totalOf : jM := (yX0_totalOf, cX0_totalOf, 7, (some FieldType.long), rmX0_totalOf)
abbrev rmX1_has : Room := { frames := 0, cells := 0, slots := 0, locals := 0 }
abbrev mX1_has : jM := (yX1_has, cX1_has, 2, (some FieldType.boolean), rmX1_has)
abbrev rmX1_init : Room := { frames := 1, cells := 2, slots := 24, locals := 20 }
abbrev mX1_init : jM := (yX1_init, cX1_init, 1, none, rmX1_init)
abbrev rmX1_join : Room := { frames := 0, cells := 0, slots := 0, locals := 0 }
abbrev mX1_join : jM := (yX1_join, cX1_join, 2, (some FieldType.int), rmX1_join)
abbrev rmX2_add : Room := { frames := 1, cells := 0, slots := 0, locals := 20 }
abbrev mX2_add : jM := (yX2_add, cX2_add, 4, none, rmX2_add)
abbrev rmX2_addReversed : Room := { frames := 2, cells := 0, slots := 0, locals := 43 }
abbrev mX2_addReversed : jM := (yX2_addReversed, cX2_addReversed, 3, none, rmX2_addReversed)
abbrev rmX2_init : Room := { frames := 1, cells := 2, slots := 16, locals := 20 }
abbrev mX2_init : jM := (yX2_init, cX2_init, 1, none, rmX2_init)
abbrev rmX2_isFull : Room := { frames := 0, cells := 0, slots := 0, locals := 0 }
abbrev mX2_isFull : jM := (yX2_isFull, cX2_isFull, 1, (some FieldType.boolean), rmX2_isFull)
abbrev rmX2_isTakenBack : Room := { frames := 0, cells := 0, slots := 0, locals := 0 }
abbrev mX2_isTakenBack : jM := (yX2_isTakenBack, cX2_isTakenBack, 1, (some FieldType.boolean), rmX2_isTakenBack)
abbrev rmX2_startOn : Room := { frames := 0, cells := 0, slots := 0, locals := 0 }
abbrev mX2_startOn : jM := (yX2_startOn, cX2_startOn, 2, none, rmX2_startOn)
abbrev rmX2_takesOneBack : Room := { frames := 0, cells := 0, slots := 0, locals := 0 }
abbrev mX2_takesOneBack : jM := (yX2_takesOneBack, cX2_takesOneBack, 1, (some FieldType.boolean), rmX2_takesOneBack)
abbrev rmX2_tellHead : Room := { frames := 0, cells := 0, slots := 0, locals := 0 }
abbrev mX2_tellHead : jM := (yX2_tellHead, cX2_tellHead, 2, (some FieldType.long), rmX2_tellHead)
abbrev rmX2_tellRow : Room := { frames := 0, cells := 0, slots := 0, locals := 0 }
abbrev mX2_tellRow : jM := (yX2_tellRow, cX2_tellRow, 3, (some FieldType.long), rmX2_tellRow)
abbrev rmX2_total : Room := { frames := 0, cells := 0, slots := 0, locals := 0 }
abbrev mX2_total : jM := (yX2_total, cX2_total, 4, (some FieldType.long), rmX2_total)
abbrev rmX2_totalOf : Room := { frames := 0, cells := 0, slots := 0, locals := 0 }
abbrev mX2_totalOf : jM := (yX2_totalOf, cX2_totalOf, 5, (some FieldType.long), rmX2_totalOf)
abbrev rmX3_add : Room := { frames := 0, cells := 0, slots := 0, locals := 0 }
abbrev mX3_add : jM := (yX3_add, cX3_add, 3, none, rmX3_add)
abbrev rmX3_clear : Room := { frames := 0, cells := 0, slots := 0, locals := 0 }
abbrev mX3_clear : jM := (yX3_clear, cX3_clear, 1, none, rmX3_clear)
abbrev rmX3_divide : Room := { frames := 2, cells := 0, slots := 0, locals := 46 }
abbrev mX3_divide : jM := (yX3_divide, cX3_divide, 10, (some FieldType.boolean), rmX3_divide)
abbrev rmX3_giveCents : Room := { frames := 1, cells := 0, slots := 0, locals := 22 }
abbrev mX3_giveCents : jM := (yX3_giveCents, cX3_giveCents, 5, none, rmX3_giveCents)
abbrev rmX3_init : Room := { frames := 1, cells := 3, slots := 36, locals := 20 }
abbrev mX3_init : jM := (yX3_init, cX3_init, 1, none, rmX3_init)
abbrev rmX3_mostCut : Room := { frames := 0, cells := 0, slots := 0, locals := 0 }
abbrev mX3_mostCut : jM := (yX3_mostCut, cX3_mostCut, 3, (some FieldType.int), rmX3_mostCut)
abbrev rmX3_wholeWeight : Room := { frames := 0, cells := 0, slots := 0, locals := 0 }
abbrev mX3_wholeWeight : jM := (yX3_wholeWeight, cX3_wholeWeight, 4, (some FieldType.long), rmX3_wholeWeight)
abbrev rmX4_forget : Room := { frames := 1, cells := 0, slots := 0, locals := 23 }
abbrev mX4_forget : jM := (yX4_forget, cX4_forget, 1, none, rmX4_forget)
abbrev rmX4_init : Room := { frames := 2, cells := 4, slots := 32, locals := 43 }
abbrev mX4_init : jM := (yX4_init, cX4_init, 1, none, rmX4_init)
abbrev rmX4_percentOf : Room := { frames := 1, cells := 0, slots := 0, locals := 23 }
abbrev mX4_percentOf : jM := (yX4_percentOf, cX4_percentOf, 2, (some FieldType.int), rmX4_percentOf)
abbrev rmX4_takePercent : Room := { frames := 3, cells := 0, slots := 0, locals := 63 }
abbrev mX4_takePercent : jM := (yX4_takePercent, cX4_takePercent, 4, (some FieldType.boolean), rmX4_takePercent)
abbrev rmX4_takeSentence : Room := { frames := 5, cells := 0, slots := 0, locals := 107 }
abbrev mX4_takeSentence : jM := (yX4_takeSentence, cX4_takeSentence, 2, (some FieldType.boolean), rmX4_takeSentence)
abbrev rmX4_takeText : Room := { frames := 6, cells := 0, slots := 0, locals := 128 }
abbrev mX4_takeText : jM := (yX4_takeText, cX4_takeText, 3, (some FieldType.int), rmX4_takeText)
abbrev rmX4_takeValue : Room := { frames := 3, cells := 0, slots := 0, locals := 63 }
abbrev mX4_takeValue : jM := (yX4_takeValue, cX4_takeValue, 5, (some FieldType.boolean), rmX4_takeValue)
abbrev rmX5_append : Room := { frames := 0, cells := 0, slots := 0, locals := 0 }
abbrev mX5_append : jM := (yX5_append, cX5_append, 2, (some FieldType.boolean), rmX5_append)
abbrev rmX5_empty : Room := { frames := 0, cells := 0, slots := 0, locals := 0 }
abbrev mX5_empty : jM := (yX5_empty, cX5_empty, 1, none, rmX5_empty)
abbrev rmX5_init : Room := { frames := 1, cells := 1, slots := 600, locals := 20 }
abbrev mX5_init : jM := (yX5_init, cX5_init, 1, none, rmX5_init)
abbrev rmX5_isGap : Room := { frames := 0, cells := 0, slots := 0, locals := 0 }
abbrev mX5_isGap : jM := (yX5_isGap, cX5_isGap, 1, (some FieldType.boolean), rmX5_isGap)
abbrev rmX5_nextNumber : Room := { frames := 2, cells := 0, slots := 0, locals := 40 }
abbrev mX5_nextNumber : jM := (yX5_nextNumber, cX5_nextNumber, 4, (some FieldType.int), rmX5_nextNumber)
abbrev rmX5_nextWord : Room := { frames := 1, cells := 0, slots := 0, locals := 20 }
abbrev mX5_nextWord : jM := (yX5_nextWord, cX5_nextWord, 1, (some FieldType.boolean), rmX5_nextWord)
abbrev rmX5_rewind : Room := { frames := 0, cells := 0, slots := 0, locals := 0 }
abbrev mX5_rewind : jM := (yX5_rewind, cX5_rewind, 1, none, rmX5_rewind)
abbrev rmX5_wordIs : Room := { frames := 4, cells := 0, slots := 0, locals := 85 }
abbrev mX5_wordIs : jM := (yX5_wordIs, cX5_wordIs, 3, (some FieldType.boolean), rmX5_wordIs)
abbrev rmX6_bearCosts : Room := { frames := 1, cells := 0, slots := 0, locals := 25 }
abbrev mX6_bearCosts : jM := (yX6_bearCosts, cX6_bearCosts, 6, none, rmX6_bearCosts)
abbrev rmX6_bearLoss : Room := { frames := 1, cells := 0, slots := 0, locals := 25 }
abbrev mX6_bearLoss : jM := (yX6_bearLoss, cX6_bearLoss, 5, none, rmX6_bearLoss)
abbrev rmX6_costsOff : Room := { frames := 0, cells := 0, slots := 0, locals := 0 }
abbrev mX6_costsOff : jM := (yX6_costsOff, cX6_costsOff, 6, (some FieldType.long), rmX6_costsOff)
abbrev rmX6_countAboard : Room := { frames := 0, cells := 0, slots := 0, locals := 0 }
abbrev mX6_countAboard : jM := (yX6_countAboard, cX6_countAboard, 3, (some FieldType.int), rmX6_countAboard)
abbrev rmX6_hasOf : Room := { frames := 0, cells := 0, slots := 0, locals := 0 }
abbrev mX6_hasOf : jM := (yX6_hasOf, cX6_hasOf, 2, (some FieldType.long), rmX6_hasOf)
abbrev rmX6_init : Room := { frames := 1, cells := 8, slots := 80, locals := 20 }
abbrev mX6_init : jM := (yX6_init, cX6_init, 4, none, rmX6_init)
abbrev rmX6_isEven : Room := { frames := 1, cells := 0, slots := 0, locals := 21 }
abbrev mX6_isEven : jM := (yX6_isEven, cX6_isEven, 6, (some FieldType.boolean), rmX6_isEven)
abbrev rmX6_partLeft : Room := { frames := 3, cells := 0, slots := 0, locals := 75 }
abbrev mX6_partLeft : jM := (yX6_partLeft, cX6_partLeft, 5, none, rmX6_partLeft)
abbrev rmX6_pay : Room := { frames := 1, cells := 0, slots := 0, locals := 23 }
abbrev mX6_pay : jM := (yX6_pay, cX6_pay, 7, none, rmX6_pay)
abbrev rmX6_shareCrewsPart : Room := { frames := 3, cells := 0, slots := 0, locals := 75 }
abbrev mX6_shareCrewsPart : jM := (yX6_shareCrewsPart, cX6_shareCrewsPart, 5, none, rmX6_shareCrewsPart)
abbrev rmX6_shareOut : Room := { frames := 4, cells := 0, slots := 0, locals := 99 }
abbrev mX6_shareOut : jM := (yX6_shareOut, cX6_shareOut, 6, none, rmX6_shareOut)
abbrev rmX6_topUp : Room := { frames := 1, cells := 0, slots := 0, locals := 23 }
abbrev mX6_topUp : jM := (yX6_topUp, cX6_topUp, 7, none, rmX6_topUp)
abbrev rmX7_advance : Room := { frames := 1, cells := 0, slots := 0, locals := 21 }
abbrev mX7_advance : jM := (yX7_advance, cX7_advance, 4, (some FieldType.boolean), rmX7_advance)
abbrev rmX7_areCents : Room := { frames := 0, cells := 0, slots := 0, locals := 0 }
abbrev mX7_areCents : jM := (yX7_areCents, cX7_areCents, 2, (some FieldType.boolean), rmX7_areCents)
abbrev rmX7_balance : Room := { frames := 2, cells := 0, slots := 0, locals := 50 }
abbrev mX7_balance : jM := (yX7_balance, cX7_balance, 3, (some FieldType.long), rmX7_balance)
abbrev rmX7_carried : Room := { frames := 1, cells := 0, slots := 0, locals := 21 }
abbrev mX7_carried : jM := (yX7_carried, cX7_carried, 2, (some FieldType.long), rmX7_carried)
abbrev rmX7_closeMonth : Room := { frames := 2, cells := 0, slots := 0, locals := 45 }
abbrev mX7_closeMonth : jM := (yX7_closeMonth, cX7_closeMonth, 2, (some FieldType.int), rmX7_closeMonth)
abbrev rmX7_correct : Room := { frames := 4, cells := 3, slots := 22, locals := 89 }
abbrev mX7_correct : jM := (yX7_correct, cX7_correct, 3, (some FieldType.int), rmX7_correct)
abbrev rmX7_cost : Room := { frames := 2, cells := 0, slots := 0, locals := 43 }
abbrev mX7_cost : jM := (yX7_cost, cX7_cost, 6, (some FieldType.boolean), rmX7_cost)
abbrev rmX7_days : Room := { frames := 2, cells := 0, slots := 0, locals := 43 }
abbrev mX7_days : jM := (yX7_days, cX7_days, 6, (some FieldType.int), rmX7_days)
abbrev rmX7_drop : Room := { frames := 1, cells := 0, slots := 0, locals := 20 }
abbrev mX7_drop : jM := (yX7_drop, cX7_drop, 1, (some FieldType.int), rmX7_drop)
abbrev rmX7_enter : Room := { frames := 3, cells := 3, slots := 22, locals := 61 }
abbrev mX7_enter : jM := (yX7_enter, cX7_enter, 1, (some FieldType.int), rmX7_enter)
abbrev rmX7_entry : Room := { frames := 2, cells := 0, slots := 0, locals := 46 }
abbrev mX7_entry : jM := (yX7_entry, cX7_entry, 4, (some FieldType.long), rmX7_entry)
abbrev rmX7_init : Room := { frames := 3, cells := 26, slots := 855, locals := 63 }
abbrev mX7_init : jM := (yX7_init, cX7_init, 1, none, rmX7_init)
abbrev rmX7_open : Room := { frames := 4, cells := 0, slots := 0, locals := 83 }
abbrev mX7_open : jM := (yX7_open, cX7_open, 2, (some FieldType.boolean), rmX7_open)
abbrev rmX7_part : Room := { frames := 2, cells := 0, slots := 0, locals := 43 }
abbrev mX7_part : jM := (yX7_part, cX7_part, 4, (some FieldType.long), rmX7_part)
abbrev rmX7_person : Room := { frames := 1, cells := 0, slots := 0, locals := 21 }
abbrev mX7_person : jM := (yX7_person, cX7_person, 2, (some FieldType.int), rmX7_person)
abbrev rmX7_read : Room := { frames := 7, cells := 0, slots := 0, locals := 150 }
abbrev mX7_read : jM := (yX7_read, cX7_read, 3, (some FieldType.int), rmX7_read)
abbrev rmX7_row : Room := { frames := 3, cells := 0, slots := 0, locals := 66 }
abbrev mX7_row : jM := (yX7_row, cX7_row, 4, (some FieldType.int), rmX7_row)
abbrev rmX7_settle : Room := { frames := 5, cells := 0, slots := 0, locals := 124 }
abbrev mX7_settle : jM := (yX7_settle, cX7_settle, 3, (some FieldType.int), rmX7_settle)
abbrev rmX7_settledTrip : Room := { frames := 1, cells := 0, slots := 0, locals := 21 }
abbrev mX7_settledTrip : jM := (yX7_settledTrip, cX7_settledTrip, 3, (some (FieldType.object "CrewShares$Trip")), rmX7_settledTrip)
abbrev rmX7_share : Room := { frames := 2, cells := 0, slots := 0, locals := 43 }
abbrev mX7_share : jM := (yX7_share, cX7_share, 5, (some FieldType.long), rmX7_share)
abbrev rmX7_sums : Room := { frames := 2, cells := 0, slots := 0, locals := 46 }
abbrev mX7_sums : jM := (yX7_sums, cX7_sums, 3, (some FieldType.boolean), rmX7_sums)
abbrev rmX7_trip : Room := { frames := 2, cells := 9, slots := 87, locals := 43 }
abbrev mX7_trip : jM := (yX7_trip, cX7_trip, 4, (some FieldType.int), rmX7_trip)
abbrev rmX7_tripAt : Room := { frames := 0, cells := 0, slots := 0, locals := 0 }
abbrev mX7_tripAt : jM := (yX7_tripAt, cX7_tripAt, 2, (some (FieldType.object "CrewShares$Trip")), rmX7_tripAt)
abbrev rmX7_tripToSettle : Room := { frames := 1, cells := 0, slots := 0, locals := 21 }
abbrev mX7_tripToSettle : jM := (yX7_tripToSettle, cX7_tripToSettle, 3, (some (FieldType.object "CrewShares$Trip")), rmX7_tripToSettle)
abbrev rmX7_unit : Room := { frames := 1, cells := 0, slots := 0, locals := 21 }
abbrev mX7_unit : jM := (yX7_unit, cX7_unit, 2, (some FieldType.boolean), rmX7_unit)
abbrev rmX8_advance : Room := { frames := 1, cells := 0, slots := 0, locals := 25 }
abbrev mX8_advance : jM := (yX8_advance, cX8_advance, 4, (some FieldType.boolean), rmX8_advance)
abbrev rmX8_balance : Room := { frames := 1, cells := 0, slots := 0, locals := 25 }
abbrev mX8_balance : jM := (yX8_balance, cX8_balance, 7, (some FieldType.long), rmX8_balance)
abbrev rmX8_carried : Room := { frames := 1, cells := 0, slots := 0, locals := 25 }
abbrev mX8_carried : jM := (yX8_carried, cX8_carried, 2, (some FieldType.long), rmX8_carried)
abbrev rmX8_closeMonth : Room := { frames := 1, cells := 0, slots := 0, locals := 25 }
abbrev mX8_closeMonth : jM := (yX8_closeMonth, cX8_closeMonth, 3, (some FieldType.int), rmX8_closeMonth)
abbrev rmX8_correct : Room := { frames := 1, cells := 0, slots := 0, locals := 25 }
abbrev mX8_correct : jM := (yX8_correct, cX8_correct, 3, (some FieldType.int), rmX8_correct)
abbrev rmX8_cost : Room := { frames := 1, cells := 0, slots := 0, locals := 25 }
abbrev mX8_cost : jM := (yX8_cost, cX8_cost, 5, (some FieldType.boolean), rmX8_cost)
abbrev rmX8_costsOf : Room := { frames := 0, cells := 0, slots := 0, locals := 0 }
abbrev mX8_costsOf : jM := (yX8_costsOf, cX8_costsOf, 6, (some FieldType.long), rmX8_costsOf)
abbrev rmX8_days : Room := { frames := 1, cells := 0, slots := 0, locals := 25 }
abbrev mX8_days : jM := (yX8_days, cX8_days, 5, (some FieldType.int), rmX8_days)
abbrev rmX8_drop : Room := { frames := 0, cells := 0, slots := 0, locals := 0 }
abbrev mX8_drop : jM := (yX8_drop, cX8_drop, 1, (some FieldType.int), rmX8_drop)
abbrev rmX8_enter : Room := { frames := 1, cells := 0, slots := 0, locals := 25 }
abbrev mX8_enter : jM := (yX8_enter, cX8_enter, 4, (some FieldType.int), rmX8_enter)
abbrev rmX8_entry : Room := { frames := 1, cells := 0, slots := 0, locals := 25 }
abbrev mX8_entry : jM := (yX8_entry, cX8_entry, 4, (some FieldType.long), rmX8_entry)
abbrev rmX8_init : Room := { frames := 1, cells := 22, slots := 3532, locals := 20 }
abbrev mX8_init : jM := (yX8_init, cX8_init, 2, none, rmX8_init)
abbrev rmX8_isNext : Room := { frames := 0, cells := 0, slots := 0, locals := 0 }
abbrev mX8_isNext : jM := (yX8_isNext, cX8_isNext, 1, (some FieldType.boolean), rmX8_isNext)
abbrev rmX8_isPerson : Room := { frames := 0, cells := 0, slots := 0, locals := 0 }
abbrev mX8_isPerson : jM := (yX8_isPerson, cX8_isPerson, 2, (some FieldType.boolean), rmX8_isPerson)
abbrev rmX8_isSentence : Room := { frames := 2, cells := 0, slots := 0, locals := 43 }
abbrev mX8_isSentence : jM := (yX8_isSentence, cX8_isSentence, 4, (some FieldType.boolean), rmX8_isSentence)
abbrev rmX8_isTrip : Room := { frames := 0, cells := 0, slots := 0, locals := 0 }
abbrev mX8_isTrip : jM := (yX8_isTrip, cX8_isTrip, 2, (some FieldType.boolean), rmX8_isTrip)
abbrev rmX8_isWord : Room := { frames := 0, cells := 0, slots := 0, locals := 0 }
abbrev mX8_isWord : jM := (yX8_isWord, cX8_isWord, 6, (some FieldType.boolean), rmX8_isWord)
abbrev rmX8_number : Room := { frames := 1, cells := 0, slots := 0, locals := 20 }
abbrev mX8_number : jM := (yX8_number, cX8_number, 4, (some FieldType.int), rmX8_number)
abbrev rmX8_open : Room := { frames := 1, cells := 0, slots := 0, locals := 25 }
abbrev mX8_open : jM := (yX8_open, cX8_open, 2, (some FieldType.boolean), rmX8_open)
abbrev rmX8_part : Room := { frames := 1, cells := 0, slots := 0, locals := 25 }
abbrev mX8_part : jM := (yX8_part, cX8_part, 3, (some FieldType.long), rmX8_part)
abbrev rmX8_partByCents : Room := { frames := 0, cells := 0, slots := 0, locals := 0 }
abbrev mX8_partByCents : jM := (yX8_partByCents, cX8_partByCents, 10, none, rmX8_partByCents)
abbrev rmX8_person : Room := { frames := 1, cells := 0, slots := 0, locals := 25 }
abbrev mX8_person : jM := (yX8_person, cX8_person, 2, (some FieldType.int), rmX8_person)
abbrev rmX8_put : Room := { frames := 0, cells := 0, slots := 0, locals := 0 }
abbrev mX8_put : jM := (yX8_put, cX8_put, 6, none, rmX8_put)
abbrev rmX8_read : Room := { frames := 3, cells := 0, slots := 0, locals := 66 }
abbrev mX8_read : jM := (yX8_read, cX8_read, 4, (some FieldType.int), rmX8_read)
abbrev rmX8_row : Room := { frames := 1, cells := 0, slots := 0, locals := 25 }
abbrev mX8_row : jM := (yX8_row, cX8_row, 4, (some FieldType.int), rmX8_row)
abbrev rmX8_settle : Room := { frames := 1, cells := 0, slots := 0, locals := 29 }
abbrev mX8_settle : jM := (yX8_settle, cX8_settle, 22, (some FieldType.int), rmX8_settle)
abbrev rmX8_share : Room := { frames := 1, cells := 0, slots := 0, locals := 25 }
abbrev mX8_share : jM := (yX8_share, cX8_share, 4, (some FieldType.long), rmX8_share)
abbrev rmX8_sums : Room := { frames := 1, cells := 0, slots := 0, locals := 21 }
abbrev mX8_sums : jM := (yX8_sums, cX8_sums, 7, (some FieldType.boolean), rmX8_sums)
abbrev rmX8_trip : Room := { frames := 1, cells := 0, slots := 0, locals := 25 }
abbrev mX8_trip : jM := (yX8_trip, cX8_trip, 4, (some FieldType.int), rmX8_trip)
abbrev rmX8_unit : Room := { frames := 1, cells := 0, slots := 0, locals := 25 }
abbrev mX8_unit : jM := (yX8_unit, cX8_unit, 2, (some FieldType.boolean), rmX8_unit)
abbrev rmX8_within : Room := { frames := 0, cells := 0, slots := 0, locals := 0 }
abbrev mX8_within : jM := (yX8_within, cX8_within, 6, (some FieldType.boolean), rmX8_within)
