theorem jvX2_addReversed : Cond.selects yX2_addReversed.cls yX2_addReversed yX2_addReversed ∈ jWS := jWS_of (List.mem_of_getElem? (i := 601) (by decide +kernel)) rfl
theorem jlX0_94 : j_lv2 RX0 94 yX2_addReversed cX2_addReversed 3 none 1 := ⟨⟨jcX2_addReversed, jitX2, jWS_of (List.mem_of_getElem? (i := 599) (by decide +kernel)) rfl, by decide +kernel, by decide +kernel⟩, jiX2_addReversed, jvX2_addReversed⟩
set_option maxRecDepth 20000 in
theorem jcX2_totalOf : Cond.code yX2_totalOf cX2_totalOf 5 (some FieldType.long) ∈ jWS := jWS_of (List.mem_of_getElem? (i := 616) rfl) rfl
theorem jiX2_totalOf : Cond.instanceMethod yX2_totalOf ∈ jWS := jWS_of (List.mem_of_getElem? (i := 614) (by decide +kernel)) rfl
theorem jvX2_totalOf : Cond.selects yX2_totalOf.cls yX2_totalOf yX2_totalOf ∈ jWS := jWS_of (List.mem_of_getElem? (i := 615) (by decide +kernel)) rfl
theorem jlX0_107 : j_lv2 RX0 107 yX2_totalOf cX2_totalOf 5 (some FieldType.long) 1 := ⟨⟨jcX2_totalOf, jitX2, jWS_of (List.mem_of_getElem? (i := 613) (by decide +kernel)) rfl, by decide +kernel, by decide +kernel⟩, jiX2_totalOf, jvX2_totalOf⟩
set_option maxRecDepth 20000 in
theorem jcX2_tellHead : Cond.code yX2_tellHead cX2_tellHead 2 (some FieldType.long) ∈ jWS := jWS_of (List.mem_of_getElem? (i := 628) rfl) rfl
theorem jiX2_tellHead : Cond.instanceMethod yX2_tellHead ∈ jWS := jWS_of (List.mem_of_getElem? (i := 626) (by decide +kernel)) rfl
theorem jvX2_tellHead : Cond.selects yX2_tellHead.cls yX2_tellHead yX2_tellHead ∈ jWS := jWS_of (List.mem_of_getElem? (i := 627) (by decide +kernel)) rfl
theorem jlX0_111 : j_lv2 RX0 111 yX2_tellHead cX2_tellHead 2 (some FieldType.long) 1 := ⟨⟨jcX2_tellHead, jitX2, jWS_of (List.mem_of_getElem? (i := 625) (by decide +kernel)) rfl, by decide +kernel, by decide +kernel⟩, jiX2_tellHead, jvX2_tellHead⟩
set_option maxRecDepth 20000 in
theorem jcX2_tellRow : Cond.code yX2_tellRow cX2_tellRow 3 (some FieldType.long) ∈ jWS := jWS_of (List.mem_of_getElem? (i := 633) rfl) rfl
theorem jiX2_tellRow : Cond.instanceMethod yX2_tellRow ∈ jWS := jWS_of (List.mem_of_getElem? (i := 631) (by decide +kernel)) rfl
theorem jvX2_tellRow : Cond.selects yX2_tellRow.cls yX2_tellRow yX2_tellRow ∈ jWS := jWS_of (List.mem_of_getElem? (i := 632) (by decide +kernel)) rfl
theorem jlX0_114 : j_lv2 RX0 114 yX2_tellRow cX2_tellRow 3 (some FieldType.long) 2 := ⟨⟨jcX2_tellRow, jitX2, jWS_of (List.mem_of_getElem? (i := 630) (by decide +kernel)) rfl, by decide +kernel, by decide +kernel⟩, jiX2_tellRow, jvX2_tellRow⟩
theorem joX1_3 : Cond.methodLink RX1 3 objectInit ∈ jWS := jWS_of (List.mem_of_getElem? (i := 53) (by decide +kernel)) rfl
theorem joX2_3 : Cond.methodLink RX2 3 objectInit ∈ jWS := jWS_of (List.mem_of_getElem? (i := 104) (by decide +kernel)) rfl
theorem jlX2_26 : j_lv2 RX2 26 yX2_isFull cX2_isFull 1 (some FieldType.boolean) 0 := ⟨⟨jcX2_isFull, jitX2, jWS_of (List.mem_of_getElem? (i := 542) (by decide +kernel)) rfl, by decide +kernel, by decide +kernel⟩, jiX2_isFull, jvX2_isFull⟩
theorem jlX2_30 : j_lv2 RX2 30 yX2_add cX2_add 4 none 2 := ⟨⟨jcX2_add, jitX2, jWS_of (List.mem_of_getElem? (i := 603) (by decide +kernel)) rfl, by decide +kernel, by decide +kernel⟩, jiX2_add, jvX2_add⟩
theorem joX3_3 : Cond.methodLink RX3 3 objectInit ∈ jWS := jWS_of (List.mem_of_getElem? (i := 77) (by decide +kernel)) rfl
set_option maxRecDepth 20000 in
theorem jcJ7_fill_d0a16 : Cond.code yJ7_fill_d0a16 cJ7_fill_d0a16 5 none ∈ jWS := jWS_of (List.mem_of_getElem? (i := 427) rfl) rfl
theorem jsJ7_fill_d0a16 : Cond.static yJ7_fill_d0a16 ∈ jWS := jWS_of (List.mem_of_getElem? (i := 426) (by decide +kernel)) rfl
theorem jlX3_25 : j_ls RX3 25 yJ7_fill_d0a16 cJ7_fill_d0a16 5 none 2 := ⟨⟨jcJ7_fill_d0a16, jitJ7, jWS_of (List.mem_of_getElem? (i := 425) (by decide +kernel)) rfl, by decide +kernel, by decide +kernel⟩, jsJ7_fill_d0a16⟩
set_option maxRecDepth 20000 in
theorem jcX3_wholeWeight : Cond.code yX3_wholeWeight cX3_wholeWeight 4 (some FieldType.long) ∈ jWS := jWS_of (List.mem_of_getElem? (i := 431) rfl) rfl
theorem jiX3_wholeWeight : Cond.instanceMethod yX3_wholeWeight ∈ jWS := jWS_of (List.mem_of_getElem? (i := 430) (by decide +kernel)) rfl
theorem jvX3_wholeWeight : Cond.selects yX3_wholeWeight.cls yX3_wholeWeight yX3_wholeWeight ∈ jWS := jWS_sel (List.mem_of_getElem? (i := 8) (by decide +kernel)) rfl
theorem jlX3_31 : j_lv2 RX3 31 yX3_wholeWeight cX3_wholeWeight 4 (some FieldType.long) 0 := ⟨⟨jcX3_wholeWeight, jitX3, jWS_of (List.mem_of_getElem? (i := 428) (by decide +kernel)) rfl, by decide +kernel, by decide +kernel⟩, jiX3_wholeWeight, jvX3_wholeWeight⟩
set_option maxRecDepth 20000 in
theorem jcX3_giveCents : Cond.code yX3_giveCents cX3_giveCents 5 none ∈ jWS := jWS_of (List.mem_of_getElem? (i := 435) rfl) rfl
theorem jiX3_giveCents : Cond.instanceMethod yX3_giveCents ∈ jWS := jWS_of (List.mem_of_getElem? (i := 434) (by decide +kernel)) rfl
theorem jvX3_giveCents : Cond.selects yX3_giveCents.cls yX3_giveCents yX3_giveCents ∈ jWS := jWS_sel (List.mem_of_getElem? (i := 9) (by decide +kernel)) rfl
theorem jlX3_35 : j_lv2 RX3 35 yX3_giveCents cX3_giveCents 5 none 1 := ⟨⟨jcX3_giveCents, jitX3, jWS_of (List.mem_of_getElem? (i := 432) (by decide +kernel)) rfl, by decide +kernel, by decide +kernel⟩, jiX3_giveCents, jvX3_giveCents⟩
set_option maxRecDepth 20000 in
theorem jcX3_mostCut : Cond.code yX3_mostCut cX3_mostCut 3 (some FieldType.int) ∈ jWS := jWS_of (List.mem_of_getElem? (i := 439) rfl) rfl
theorem jiX3_mostCut : Cond.instanceMethod yX3_mostCut ∈ jWS := jWS_of (List.mem_of_getElem? (i := 438) (by decide +kernel)) rfl
theorem jvX3_mostCut : Cond.selects yX3_mostCut.cls yX3_mostCut yX3_mostCut ∈ jWS := jWS_sel (List.mem_of_getElem? (i := 10) (by decide +kernel)) rfl
theorem jlX3_39 : j_lv2 RX3 39 yX3_mostCut cX3_mostCut 3 (some FieldType.int) 0 := ⟨⟨jcX3_mostCut, jitX3, jWS_of (List.mem_of_getElem? (i := 436) (by decide +kernel)) rfl, by decide +kernel, by decide +kernel⟩, jiX3_mostCut, jvX3_mostCut⟩
theorem joX4_3 : Cond.methodLink RX4 3 objectInit ∈ jWS := jWS_of (List.mem_of_getElem? (i := 149) (by decide +kernel)) rfl
set_option maxRecDepth 20000 in
theorem jcX4_forget : Cond.code yX4_forget cX4_forget 1 none ∈ jWS := jWS_of (List.mem_of_getElem? (i := 153) rfl) rfl
theorem jiX4_forget : Cond.instanceMethod yX4_forget ∈ jWS := jWS_of (List.mem_of_getElem? (i := 152) (by decide +kernel)) rfl
theorem jvX4_forget : Cond.selects yX4_forget.cls yX4_forget yX4_forget ∈ jWS := jWS_sel (List.mem_of_getElem? (i := 0) (by decide +kernel)) rfl
theorem jlX4_24 : j_lv2 RX4 24 yX4_forget cX4_forget 1 none 0 := ⟨⟨jcX4_forget, jitX4, jWS_of (List.mem_of_getElem? (i := 150) (by decide +kernel)) rfl, by decide +kernel, by decide +kernel⟩, jiX4_forget, jvX4_forget⟩
set_option maxRecDepth 20000 in
theorem jcJ7_fill_53178 : Cond.code yJ7_fill_53178 cJ7_fill_53178 4 none ∈ jWS := jWS_of (List.mem_of_getElem? (i := 156) rfl) rfl
theorem jsJ7_fill_53178 : Cond.static yJ7_fill_53178 ∈ jWS := jWS_of (List.mem_of_getElem? (i := 155) (by decide +kernel)) rfl
theorem jlX4_27 : j_ls RX4 27 yJ7_fill_53178 cJ7_fill_53178 4 none 2 := ⟨⟨jcJ7_fill_53178, jitJ7, jWS_of (List.mem_of_getElem? (i := 154) (by decide +kernel)) rfl, by decide +kernel, by decide +kernel⟩, jsJ7_fill_53178⟩
set_option maxRecDepth 20000 in
theorem jcX5_rewind : Cond.code yX5_rewind cX5_rewind 1 none ∈ jWS := jWS_of (List.mem_of_getElem? (i := 220) rfl) rfl
theorem jiX5_rewind : Cond.instanceMethod yX5_rewind ∈ jWS := jWS_of (List.mem_of_getElem? (i := 218) (by decide +kernel)) rfl
theorem jvX5_rewind : Cond.selects yX5_rewind.cls yX5_rewind yX5_rewind ∈ jWS := jWS_of (List.mem_of_getElem? (i := 219) (by decide +kernel)) rfl
theorem jlX4_33 : j_lv2 RX4 33 yX5_rewind cX5_rewind 1 none 0 := ⟨⟨jcX5_rewind, jitX5, jWS_of (List.mem_of_getElem? (i := 217) (by decide +kernel)) rfl, by decide +kernel, by decide +kernel⟩, jiX5_rewind, jvX5_rewind⟩
set_option maxRecDepth 20000 in
theorem jcX5_nextWord : Cond.code yX5_nextWord cX5_nextWord 1 (some FieldType.boolean) ∈ jWS := jWS_of (List.mem_of_getElem? (i := 224) rfl) rfl
theorem jiX5_nextWord : Cond.instanceMethod yX5_nextWord ∈ jWS := jWS_of (List.mem_of_getElem? (i := 222) (by decide +kernel)) rfl
theorem jvX5_nextWord : Cond.selects yX5_nextWord.cls yX5_nextWord yX5_nextWord ∈ jWS := jWS_of (List.mem_of_getElem? (i := 223) (by decide +kernel)) rfl
theorem jlX4_38 : j_lv2 RX4 38 yX5_nextWord cX5_nextWord 1 (some FieldType.boolean) 0 := ⟨⟨jcX5_nextWord, jitX5, jWS_of (List.mem_of_getElem? (i := 221) (by decide +kernel)) rfl, by decide +kernel, by decide +kernel⟩, jiX5_nextWord, jvX5_nextWord⟩
set_option maxRecDepth 20000 in
theorem jcX4_takeSentence : Cond.code yX4_takeSentence cX4_takeSentence 2 (some FieldType.boolean) ∈ jWS := jWS_of (List.mem_of_getElem? (i := 231) rfl) rfl
theorem jiX4_takeSentence : Cond.instanceMethod yX4_takeSentence ∈ jWS := jWS_of (List.mem_of_getElem? (i := 230) (by decide +kernel)) rfl
theorem jvX4_takeSentence : Cond.selects yX4_takeSentence.cls yX4_takeSentence yX4_takeSentence ∈ jWS := jWS_sel (List.mem_of_getElem? (i := 1) (by decide +kernel)) rfl
theorem jlX4_42 : j_lv2 RX4 42 yX4_takeSentence cX4_takeSentence 2 (some FieldType.boolean) 1 := ⟨⟨jcX4_takeSentence, jitX4, jWS_of (List.mem_of_getElem? (i := 228) (by decide +kernel)) rfl, by decide +kernel, by decide +kernel⟩, jiX4_takeSentence, jvX4_takeSentence⟩
set_option maxRecDepth 20000 in
theorem jcX5_wordIs : Cond.code yX5_wordIs cX5_wordIs 3 (some FieldType.boolean) ∈ jWS := jWS_of (List.mem_of_getElem? (i := 236) rfl) rfl
theorem jiX5_wordIs : Cond.instanceMethod yX5_wordIs ∈ jWS := jWS_of (List.mem_of_getElem? (i := 234) (by decide +kernel)) rfl
theorem jvX5_wordIs : Cond.selects yX5_wordIs.cls yX5_wordIs yX5_wordIs ∈ jWS := jWS_of (List.mem_of_getElem? (i := 235) (by decide +kernel)) rfl
theorem jlX4_52 : j_lv2 RX4 52 yX5_wordIs cX5_wordIs 3 (some FieldType.boolean) 1 := ⟨⟨jcX5_wordIs, jitX5, jWS_of (List.mem_of_getElem? (i := 233) (by decide +kernel)) rfl, by decide +kernel, by decide +kernel⟩, jiX5_wordIs, jvX5_wordIs⟩
set_option maxRecDepth 20000 in
theorem jcX4_takePercent : Cond.code yX4_takePercent cX4_takePercent 4 (some FieldType.boolean) ∈ jWS := jWS_of (List.mem_of_getElem? (i := 288) rfl) rfl
theorem jiX4_takePercent : Cond.instanceMethod yX4_takePercent ∈ jWS := jWS_of (List.mem_of_getElem? (i := 287) (by decide +kernel)) rfl
theorem jvX4_takePercent : Cond.selects yX4_takePercent.cls yX4_takePercent yX4_takePercent ∈ jWS := jWS_sel (List.mem_of_getElem? (i := 2) (by decide +kernel)) rfl
theorem jlX4_56 : j_lv2 RX4 56 yX4_takePercent cX4_takePercent 4 (some FieldType.boolean) 3 := ⟨⟨jcX4_takePercent, jitX4, jWS_of (List.mem_of_getElem? (i := 285) (by decide +kernel)) rfl, by decide +kernel, by decide +kernel⟩, jiX4_takePercent, jvX4_takePercent⟩
set_option maxRecDepth 20000 in
theorem jcX4_takeValue : Cond.code yX4_takeValue cX4_takeValue 5 (some FieldType.boolean) ∈ jWS := jWS_of (List.mem_of_getElem? (i := 305) rfl) rfl
theorem jsX4_takeValue : Cond.static yX4_takeValue ∈ jWS := jWS_of (List.mem_of_getElem? (i := 304) (by decide +kernel)) rfl
theorem jlX4_64 : j_ls RX4 64 yX4_takeValue cX4_takeValue 5 (some FieldType.boolean) 3 := ⟨⟨jcX4_takeValue, jitX4, jWS_of (List.mem_of_getElem? (i := 303) (by decide +kernel)) rfl, by decide +kernel, by decide +kernel⟩, jsX4_takeValue⟩
set_option maxRecDepth 20000 in
theorem jcX4_percentOf : Cond.code yX4_percentOf cX4_percentOf 2 (some FieldType.int) ∈ jWS := jWS_of (List.mem_of_getElem? (i := 292) rfl) rfl
theorem jiX4_percentOf : Cond.instanceMethod yX4_percentOf ∈ jWS := jWS_of (List.mem_of_getElem? (i := 290) (by decide +kernel)) rfl
theorem jvX4_percentOf : Cond.selects yX4_percentOf.cls yX4_percentOf yX4_percentOf ∈ jWS := jWS_of (List.mem_of_getElem? (i := 291) (by decide +kernel)) rfl
theorem jlX4_73 : j_lv2 RX4 73 yX4_percentOf cX4_percentOf 2 (some FieldType.int) 1 := ⟨⟨jcX4_percentOf, jitX4, jWS_of (List.mem_of_getElem? (i := 289) (by decide +kernel)) rfl, by decide +kernel, by decide +kernel⟩, jiX4_percentOf, jvX4_percentOf⟩
set_option maxRecDepth 20000 in
theorem jcX5_nextNumber : Cond.code yX5_nextNumber cX5_nextNumber 4 (some FieldType.int) ∈ jWS := jWS_of (List.mem_of_getElem? (i := 299) rfl) rfl
theorem jiX5_nextNumber : Cond.instanceMethod yX5_nextNumber ∈ jWS := jWS_of (List.mem_of_getElem? (i := 297) (by decide +kernel)) rfl
theorem jvX5_nextNumber : Cond.selects yX5_nextNumber.cls yX5_nextNumber yX5_nextNumber ∈ jWS := jWS_of (List.mem_of_getElem? (i := 298) (by decide +kernel)) rfl
theorem jlX4_77 : j_lv2 RX4 77 yX5_nextNumber cX5_nextNumber 4 (some FieldType.int) 1 := ⟨⟨jcX5_nextNumber, jitX5, jWS_of (List.mem_of_getElem? (i := 296) (by decide +kernel)) rfl, by decide +kernel, by decide +kernel⟩, jiX5_nextNumber, jvX5_nextNumber⟩
theorem jmX4_80 : Cond.methodLink RX4 80 Lib.Math.max.name ∈ jWS := jWS_of (List.mem_of_getElem? (i := 293) (by decide +kernel)) rfl
theorem joX5_3 : Cond.methodLink RX5 3 objectInit ∈ jWS := jWS_of (List.mem_of_getElem? (i := 29) (by decide +kernel)) rfl
set_option maxRecDepth 20000 in
theorem jcX5_isGap : Cond.code yX5_isGap cX5_isGap 1 (some FieldType.boolean) ∈ jWS := jWS_of (List.mem_of_getElem? (i := 227) rfl) rfl
theorem jsX5_isGap : Cond.static yX5_isGap ∈ jWS := jWS_of (List.mem_of_getElem? (i := 226) (by decide +kernel)) rfl
theorem jlX5_28 : j_ls RX5 28 yX5_isGap cX5_isGap 1 (some FieldType.boolean) 1 := ⟨⟨jcX5_isGap, jitX5, jWS_of (List.mem_of_getElem? (i := 225) (by decide +kernel)) rfl, by decide +kernel, by decide +kernel⟩, jsX5_isGap⟩
set_option maxRecDepth 20000 in
theorem jcJ0_length_8abf5 : Cond.code yJ0_length_8abf5 cJ0_length_8abf5 1 (some FieldType.int) ∈ jWS := jWS_of (List.mem_of_getElem? (i := 240) rfl) rfl
theorem jiJ0_length_8abf5 : Cond.instanceMethod yJ0_length_8abf5 ∈ jWS := jWS_of (List.mem_of_getElem? (i := 238) (by decide +kernel)) rfl
theorem jvJ0_length_8abf5 : Cond.selects yJ0_length_8abf5.cls yJ0_length_8abf5 yJ0_length_8abf5 ∈ jWS := jWS_of (List.mem_of_getElem? (i := 239) (by decide +kernel)) rfl
theorem jlX5_32 : j_lv2 RX5 32 yJ0_length_8abf5 cJ0_length_8abf5 1 (some FieldType.int) 0 := ⟨⟨jcJ0_length_8abf5, jitJ0, jWS_of (List.mem_of_getElem? (i := 237) (by decide +kernel)) rfl, by decide +kernel, by decide +kernel⟩, jiJ0_length_8abf5, jvJ0_length_8abf5⟩
set_option maxRecDepth 20000 in
theorem jcJ0_charAt_5068e : Cond.code yJ0_charAt_5068e cJ0_charAt_5068e 2 (some FieldType.char) ∈ jWS := jWS_of (List.mem_of_getElem? (i := 250) rfl) rfl
theorem jiJ0_charAt_5068e : Cond.instanceMethod yJ0_charAt_5068e ∈ jWS := jWS_of (List.mem_of_getElem? (i := 248) (by decide +kernel)) rfl
theorem jvJ0_charAt_5068e : Cond.selects yJ0_charAt_5068e.cls yJ0_charAt_5068e yJ0_charAt_5068e ∈ jWS := jWS_of (List.mem_of_getElem? (i := 249) (by decide +kernel)) rfl
theorem jlX5_37 : j_lv2 RX5 37 yJ0_charAt_5068e cJ0_charAt_5068e 2 (some FieldType.char) 1 := ⟨⟨jcJ0_charAt_5068e, jitJ0, jWS_of (List.mem_of_getElem? (i := 247) (by decide +kernel)) rfl, by decide +kernel, by decide +kernel⟩, jiJ0_charAt_5068e, jvJ0_charAt_5068e⟩
theorem jlX5_41 : j_lv2 RX5 41 yX5_nextWord cX5_nextWord 1 (some FieldType.boolean) 0 := ⟨⟨jcX5_nextWord, jitX5, jWS_of (List.mem_of_getElem? (i := 300) (by decide +kernel)) rfl, by decide +kernel, by decide +kernel⟩, jiX5_nextWord, jvX5_nextWord⟩
theorem joX6_3 : Cond.methodLink RX6 3 objectInit ∈ jWS := jWS_of (List.mem_of_getElem? (i := 343) (by decide +kernel)) rfl
set_option maxRecDepth 20000 in
theorem jcX6_bearLoss : Cond.code yX6_bearLoss cX6_bearLoss 5 none ∈ jWS := jWS_of (List.mem_of_getElem? (i := 400) rfl) rfl
theorem jiX6_bearLoss : Cond.instanceMethod yX6_bearLoss ∈ jWS := jWS_of (List.mem_of_getElem? (i := 399) (by decide +kernel)) rfl
theorem jvX6_bearLoss : Cond.selects yX6_bearLoss.cls yX6_bearLoss yX6_bearLoss ∈ jWS := jWS_sel (List.mem_of_getElem? (i := 5) (by decide +kernel)) rfl
theorem jlX6_39 : j_lv2 RX6 39 yX6_bearLoss cX6_bearLoss 5 none 2 := ⟨⟨jcX6_bearLoss, jitX6, jWS_of (List.mem_of_getElem? (i := 397) (by decide +kernel)) rfl, by decide +kernel, by decide +kernel⟩, jiX6_bearLoss, jvX6_bearLoss⟩
set_option maxRecDepth 20000 in
theorem jcX6_partLeft : Cond.code yX6_partLeft cX6_partLeft 5 none ∈ jWS := jWS_of (List.mem_of_getElem? (i := 411) rfl) rfl
theorem jiX6_partLeft : Cond.instanceMethod yX6_partLeft ∈ jWS := jWS_of (List.mem_of_getElem? (i := 410) (by decide +kernel)) rfl
theorem jvX6_partLeft : Cond.selects yX6_partLeft.cls yX6_partLeft yX6_partLeft ∈ jWS := jWS_sel (List.mem_of_getElem? (i := 7) (by decide +kernel)) rfl
theorem jlX6_43 : j_lv2 RX6 43 yX6_partLeft cX6_partLeft 5 none 2 := ⟨⟨jcX6_partLeft, jitX6, jWS_of (List.mem_of_getElem? (i := 408) (by decide +kernel)) rfl, by decide +kernel, by decide +kernel⟩, jiX6_partLeft, jvX6_partLeft⟩
set_option maxRecDepth 20000 in
theorem jcX6_bearCosts : Cond.code yX6_bearCosts cX6_bearCosts 6 none ∈ jWS := jWS_of (List.mem_of_getElem? (i := 444) rfl) rfl
theorem jiX6_bearCosts : Cond.instanceMethod yX6_bearCosts ∈ jWS := jWS_of (List.mem_of_getElem? (i := 443) (by decide +kernel)) rfl
theorem jvX6_bearCosts : Cond.selects yX6_bearCosts.cls yX6_bearCosts yX6_bearCosts ∈ jWS := jWS_sel (List.mem_of_getElem? (i := 11) (by decide +kernel)) rfl
theorem jlX6_47 : j_lv2 RX6 47 yX6_bearCosts cX6_bearCosts 6 none 1 := ⟨⟨jcX6_bearCosts, jitX6, jWS_of (List.mem_of_getElem? (i := 441) (by decide +kernel)) rfl, by decide +kernel, by decide +kernel⟩, jiX6_bearCosts, jvX6_bearCosts⟩
set_option maxRecDepth 20000 in
theorem jcX6_shareCrewsPart : Cond.code yX6_shareCrewsPart cX6_shareCrewsPart 5 none ∈ jWS := jWS_of (List.mem_of_getElem? (i := 451) rfl) rfl
theorem jiX6_shareCrewsPart : Cond.instanceMethod yX6_shareCrewsPart ∈ jWS := jWS_of (List.mem_of_getElem? (i := 450) (by decide +kernel)) rfl
theorem jvX6_shareCrewsPart : Cond.selects yX6_shareCrewsPart.cls yX6_shareCrewsPart yX6_shareCrewsPart ∈ jWS := jWS_sel (List.mem_of_getElem? (i := 12) (by decide +kernel)) rfl
theorem jlX6_51 : j_lv2 RX6 51 yX6_shareCrewsPart cX6_shareCrewsPart 5 none 3 := ⟨⟨jcX6_shareCrewsPart, jitX6, jWS_of (List.mem_of_getElem? (i := 448) (by decide +kernel)) rfl, by decide +kernel, by decide +kernel⟩, jiX6_shareCrewsPart, jvX6_shareCrewsPart⟩
set_option maxRecDepth 20000 in
theorem jcX6_topUp : Cond.code yX6_topUp cX6_topUp 7 none ∈ jWS := jWS_of (List.mem_of_getElem? (i := 455) rfl) rfl
theorem jiX6_topUp : Cond.instanceMethod yX6_topUp ∈ jWS := jWS_of (List.mem_of_getElem? (i := 454) (by decide +kernel)) rfl
theorem jvX6_topUp : Cond.selects yX6_topUp.cls yX6_topUp yX6_topUp ∈ jWS := jWS_sel (List.mem_of_getElem? (i := 13) (by decide +kernel)) rfl
theorem jlX6_68 : j_lv2 RX6 68 yX6_topUp cX6_topUp 7 none 2 := ⟨⟨jcX6_topUp, jitX6, jWS_of (List.mem_of_getElem? (i := 452) (by decide +kernel)) rfl, by decide +kernel, by decide +kernel⟩, jiX6_topUp, jvX6_topUp⟩
set_option maxRecDepth 20000 in
theorem jcX6_pay : Cond.code yX6_pay cX6_pay 7 none ∈ jWS := jWS_of (List.mem_of_getElem? (i := 459) rfl) rfl
theorem jiX6_pay : Cond.instanceMethod yX6_pay ∈ jWS := jWS_of (List.mem_of_getElem? (i := 458) (by decide +kernel)) rfl
theorem jvX6_pay : Cond.selects yX6_pay.cls yX6_pay yX6_pay ∈ jWS := jWS_sel (List.mem_of_getElem? (i := 14) (by decide +kernel)) rfl
theorem jlX6_72 : j_lv2 RX6 72 yX6_pay cX6_pay 7 none 2 := ⟨⟨jcX6_pay, jitX6, jWS_of (List.mem_of_getElem? (i := 456) (by decide +kernel)) rfl, by decide +kernel, by decide +kernel⟩, jiX6_pay, jvX6_pay⟩
set_option maxRecDepth 20000 in
theorem jcX6_costsOff : Cond.code yX6_costsOff cX6_costsOff 6 (some FieldType.long) ∈ jWS := jWS_of (List.mem_of_getElem? (i := 404) rfl) rfl
theorem jiX6_costsOff : Cond.instanceMethod yX6_costsOff ∈ jWS := jWS_of (List.mem_of_getElem? (i := 403) (by decide +kernel)) rfl
theorem jvX6_costsOff : Cond.selects yX6_costsOff.cls yX6_costsOff yX6_costsOff ∈ jWS := jWS_sel (List.mem_of_getElem? (i := 6) (by decide +kernel)) rfl
theorem jlX6_76 : j_lv2 RX6 76 yX6_costsOff cX6_costsOff 6 (some FieldType.long) 2 := ⟨⟨jcX6_costsOff, jitX6, jWS_of (List.mem_of_getElem? (i := 401) (by decide +kernel)) rfl, by decide +kernel, by decide +kernel⟩, jiX6_costsOff, jvX6_costsOff⟩
theorem jmX6_80 : Cond.methodLink RX6 80 Lib.MathLoose.max_long.x ∈ jWS := jWS_of (List.mem_of_getElem? (i := 405) (by decide +kernel)) rfl
theorem jms_maxL : Cond.static Lib.MathLoose.max_long.x ∈ jWS := jWS_of (List.mem_of_getElem? (i := 406) (by decide +kernel)) rfl
theorem jmc_maxL : Cond.code Lib.MathLoose.max_long.x Lib.MathLoose.max_long.code 4 (some .long) ∈ jWS := jWS_of (List.mem_of_getElem? (i := 407) (by decide +kernel)) rfl
theorem jlX6_86 : j_lv2 RX6 86 yX4_percentOf cX4_percentOf 2 (some FieldType.int) 1 := ⟨⟨jcX4_percentOf, jitX4, jWS_of (List.mem_of_getElem? (i := 412) (by decide +kernel)) rfl, by decide +kernel, by decide +kernel⟩, jiX4_percentOf, jvX4_percentOf⟩
set_option maxRecDepth 20000 in
theorem jcX3_clear : Cond.code yX3_clear cX3_clear 1 none ∈ jWS := jWS_of (List.mem_of_getElem? (i := 416) rfl) rfl
theorem jiX3_clear : Cond.instanceMethod yX3_clear ∈ jWS := jWS_of (List.mem_of_getElem? (i := 414) (by decide +kernel)) rfl
theorem jvX3_clear : Cond.selects yX3_clear.cls yX3_clear yX3_clear ∈ jWS := jWS_of (List.mem_of_getElem? (i := 415) (by decide +kernel)) rfl
theorem jlX6_90 : j_lv2 RX6 90 yX3_clear cX3_clear 1 none 0 := ⟨⟨jcX3_clear, jitX3, jWS_of (List.mem_of_getElem? (i := 413) (by decide +kernel)) rfl, by decide +kernel, by decide +kernel⟩, jiX3_clear, jvX3_clear⟩
set_option maxRecDepth 20000 in
theorem jcX3_add : Cond.code yX3_add cX3_add 3 none ∈ jWS := jWS_of (List.mem_of_getElem? (i := 420) rfl) rfl
theorem jiX3_add : Cond.instanceMethod yX3_add ∈ jWS := jWS_of (List.mem_of_getElem? (i := 418) (by decide +kernel)) rfl
theorem jvX3_add : Cond.selects yX3_add.cls yX3_add yX3_add ∈ jWS := jWS_of (List.mem_of_getElem? (i := 419) (by decide +kernel)) rfl
theorem jlX6_95 : j_lv2 RX6 95 yX3_add cX3_add 3 none 1 := ⟨⟨jcX3_add, jitX3, jWS_of (List.mem_of_getElem? (i := 417) (by decide +kernel)) rfl, by decide +kernel, by decide +kernel⟩, jiX3_add, jvX3_add⟩
set_option maxRecDepth 20000 in
theorem jcX3_divide : Cond.code yX3_divide cX3_divide 10 (some FieldType.boolean) ∈ jWS := jWS_of (List.mem_of_getElem? (i := 424) rfl) rfl
theorem jiX3_divide : Cond.instanceMethod yX3_divide ∈ jWS := jWS_of (List.mem_of_getElem? (i := 422) (by decide +kernel)) rfl
theorem jvX3_divide : Cond.selects yX3_divide.cls yX3_divide yX3_divide ∈ jWS := jWS_of (List.mem_of_getElem? (i := 423) (by decide +kernel)) rfl
theorem jlX6_99 : j_lv2 RX6 99 yX3_divide cX3_divide 10 (some FieldType.boolean) 1 := ⟨⟨jcX3_divide, jitX3, jWS_of (List.mem_of_getElem? (i := 421) (by decide +kernel)) rfl, by decide +kernel, by decide +kernel⟩, jiX3_divide, jvX3_divide⟩
theorem jmX6_105 : Cond.methodLink RX6 105 Lib.MathLoose.min_long.x ∈ jWS := jWS_of (List.mem_of_getElem? (i := 445) (by decide +kernel)) rfl
theorem jms_minL : Cond.static Lib.MathLoose.min_long.x ∈ jWS := jWS_of (List.mem_of_getElem? (i := 446) (by decide +kernel)) rfl
theorem jmc_minL : Cond.code Lib.MathLoose.min_long.x Lib.MathLoose.min_long.code 4 (some .long) ∈ jWS := jWS_of (List.mem_of_getElem? (i := 447) (by decide +kernel)) rfl
set_option maxRecDepth 20000 in
theorem jcX6_hasOf : Cond.code yX6_hasOf cX6_hasOf 2 (some FieldType.long) ∈ jWS := jWS_of (List.mem_of_getElem? (i := 463) rfl) rfl
theorem jiX6_hasOf : Cond.instanceMethod yX6_hasOf ∈ jWS := jWS_of (List.mem_of_getElem? (i := 462) (by decide +kernel)) rfl
theorem jvX6_hasOf : Cond.selects yX6_hasOf.cls yX6_hasOf yX6_hasOf ∈ jWS := jWS_sel (List.mem_of_getElem? (i := 15) (by decide +kernel)) rfl
theorem jlX6_111 : j_lv2 RX6 111 yX6_hasOf cX6_hasOf 2 (some FieldType.long) 1 := ⟨⟨jcX6_hasOf, jitX6, jWS_of (List.mem_of_getElem? (i := 460) (by decide +kernel)) rfl, by decide +kernel, by decide +kernel⟩, jiX6_hasOf, jvX6_hasOf⟩
set_option maxRecDepth 20000 in
theorem jcX7_init : Cond.code yX7_init cX7_init 1 none ∈ jWS := jWS_of (List.mem_of_getElem? (i := 20) rfl) rfl
theorem jiX7_init : Cond.instanceMethod yX7_init ∈ jWS := jWS_of (List.mem_of_getElem? (i := 19) (by decide +kernel)) rfl
theorem jlL_9 : j_li RL 9 yX7_init cX7_init 1 0 := ⟨Or.inl ⟨jcX7_init, jitX7, jWS_of (List.mem_of_getElem? (i := 18) (by decide +kernel)) rfl, by decide +kernel, by decide +kernel⟩, jiX7_init, rfl⟩
set_option maxRecDepth 20000 in
theorem jcX8_init : Cond.code yX8_init cX8_init 2 none ∈ jWS := jWS_of (List.mem_of_getElem? (i := 638) rfl) rfl
theorem jiX8_init : Cond.instanceMethod yX8_init ∈ jWS := jWS_of (List.mem_of_getElem? (i := 637) (by decide +kernel)) rfl
theorem jlL_12 : j_li RL 12 yX8_init cX8_init 2 0 := ⟨Or.inl ⟨jcX8_init, jitX8, jWS_of (List.mem_of_getElem? (i := 636) (by decide +kernel)) rfl, by decide +kernel, by decide +kernel⟩, jiX8_init, rfl⟩
set_option maxRecDepth 20000 in
theorem jcX7_unit : Cond.code yX7_unit cX7_unit 2 (some FieldType.boolean) ∈ jWS := jWS_of (List.mem_of_getElem? (i := 204) rfl) rfl
theorem jiX7_unit : Cond.instanceMethod yX7_unit ∈ jWS := jWS_of (List.mem_of_getElem? (i := 202) (by decide +kernel)) rfl
theorem jvX7_unit : Cond.selects yX7_unit.cls yX7_unit yX7_unit ∈ jWS := jWS_of (List.mem_of_getElem? (i := 203) (by decide +kernel)) rfl
theorem jlL_13 : j_lv2 RL 13 yX7_unit cX7_unit 2 (some FieldType.boolean) 1 := ⟨⟨jcX7_unit, jitX7, jWS_of (List.mem_of_getElem? (i := 201) (by decide +kernel)) rfl, by decide +kernel, by decide +kernel⟩, jiX7_unit, jvX7_unit⟩
set_option maxRecDepth 20000 in
theorem jcX8_unit : Cond.code yX8_unit cX8_unit 2 (some FieldType.boolean) ∈ jWS := jWS_of (List.mem_of_getElem? (i := 738) rfl) rfl
theorem jiX8_unit : Cond.instanceMethod yX8_unit ∈ jWS := jWS_of (List.mem_of_getElem? (i := 736) (by decide +kernel)) rfl
theorem jvX8_unit : Cond.selects yX8_unit.cls yX8_unit yX8_unit ∈ jWS := jWS_of (List.mem_of_getElem? (i := 737) (by decide +kernel)) rfl
theorem jlL_17 : j_lv2 RL 17 yX8_unit cX8_unit 2 (some FieldType.boolean) 1 := ⟨⟨jcX8_unit, jitX8, jWS_of (List.mem_of_getElem? (i := 735) (by decide +kernel)) rfl, by decide +kernel, by decide +kernel⟩, jiX8_unit, jvX8_unit⟩
set_option maxRecDepth 20000 in
theorem jcX7_read : Cond.code yX7_read cX7_read 3 (some FieldType.int) ∈ jWS := jWS_of (List.mem_of_getElem? (i := 212) rfl) rfl
theorem jiX7_read : Cond.instanceMethod yX7_read ∈ jWS := jWS_of (List.mem_of_getElem? (i := 210) (by decide +kernel)) rfl
theorem jvX7_read : Cond.selects yX7_read.cls yX7_read yX7_read ∈ jWS := jWS_of (List.mem_of_getElem? (i := 211) (by decide +kernel)) rfl
theorem jlL_18 : j_lv2 RL 18 yX7_read cX7_read 3 (some FieldType.int) 0 := ⟨⟨jcX7_read, jitX7, jWS_of (List.mem_of_getElem? (i := 209) (by decide +kernel)) rfl, by decide +kernel, by decide +kernel⟩, jiX7_read, jvX7_read⟩
set_option maxRecDepth 20000 in
theorem jcX8_read : Cond.code yX8_read cX8_read 4 (some FieldType.int) ∈ jWS := jWS_of (List.mem_of_getElem? (i := 746) rfl) rfl
theorem jiX8_read : Cond.instanceMethod yX8_read ∈ jWS := jWS_of (List.mem_of_getElem? (i := 744) (by decide +kernel)) rfl
theorem jvX8_read : Cond.selects yX8_read.cls yX8_read yX8_read ∈ jWS := jWS_of (List.mem_of_getElem? (i := 745) (by decide +kernel)) rfl
theorem jlL_22 : j_lv2 RL 22 yX8_read cX8_read 4 (some FieldType.int) 0 := ⟨⟨jcX8_read, jitX8, jWS_of (List.mem_of_getElem? (i := 743) (by decide +kernel)) rfl, by decide +kernel, by decide +kernel⟩, jiX8_read, jvX8_read⟩
set_option maxRecDepth 20000 in
theorem jcX7_person : Cond.code yX7_person cX7_person 2 (some FieldType.int) ∈ jWS := jWS_of (List.mem_of_getElem? (i := 317) rfl) rfl
theorem jiX7_person : Cond.instanceMethod yX7_person ∈ jWS := jWS_of (List.mem_of_getElem? (i := 315) (by decide +kernel)) rfl
theorem jvX7_person : Cond.selects yX7_person.cls yX7_person yX7_person ∈ jWS := jWS_of (List.mem_of_getElem? (i := 316) (by decide +kernel)) rfl
theorem jlL_23 : j_lv2 RL 23 yX7_person cX7_person 2 (some FieldType.int) 1 := ⟨⟨jcX7_person, jitX7, jWS_of (List.mem_of_getElem? (i := 314) (by decide +kernel)) rfl, by decide +kernel, by decide +kernel⟩, jiX7_person, jvX7_person⟩
set_option maxRecDepth 20000 in
theorem jcX8_person : Cond.code yX8_person cX8_person 2 (some FieldType.int) ∈ jWS := jWS_of (List.mem_of_getElem? (i := 772) rfl) rfl
theorem jiX8_person : Cond.instanceMethod yX8_person ∈ jWS := jWS_of (List.mem_of_getElem? (i := 770) (by decide +kernel)) rfl
theorem jvX8_person : Cond.selects yX8_person.cls yX8_person yX8_person ∈ jWS := jWS_of (List.mem_of_getElem? (i := 771) (by decide +kernel)) rfl
theorem jlL_27 : j_lv2 RL 27 yX8_person cX8_person 2 (some FieldType.int) 1 := ⟨⟨jcX8_person, jitX8, jWS_of (List.mem_of_getElem? (i := 769) (by decide +kernel)) rfl, by decide +kernel, by decide +kernel⟩, jiX8_person, jvX8_person⟩
set_option maxRecDepth 20000 in
theorem jcX7_advance : Cond.code yX7_advance cX7_advance 4 (some FieldType.boolean) ∈ jWS := jWS_of (List.mem_of_getElem? (i := 325) rfl) rfl
theorem jiX7_advance : Cond.instanceMethod yX7_advance ∈ jWS := jWS_of (List.mem_of_getElem? (i := 323) (by decide +kernel)) rfl
theorem jvX7_advance : Cond.selects yX7_advance.cls yX7_advance yX7_advance ∈ jWS := jWS_of (List.mem_of_getElem? (i := 324) (by decide +kernel)) rfl
theorem jlL_30 : j_lv2 RL 30 yX7_advance cX7_advance 4 (some FieldType.boolean) 2 := ⟨⟨jcX7_advance, jitX7, jWS_of (List.mem_of_getElem? (i := 322) (by decide +kernel)) rfl, by decide +kernel, by decide +kernel⟩, jiX7_advance, jvX7_advance⟩
set_option maxRecDepth 20000 in
theorem jcX8_advance : Cond.code yX8_advance cX8_advance 4 (some FieldType.boolean) ∈ jWS := jWS_of (List.mem_of_getElem? (i := 777) rfl) rfl
theorem jiX8_advance : Cond.instanceMethod yX8_advance ∈ jWS := jWS_of (List.mem_of_getElem? (i := 775) (by decide +kernel)) rfl
theorem jvX8_advance : Cond.selects yX8_advance.cls yX8_advance yX8_advance ∈ jWS := jWS_of (List.mem_of_getElem? (i := 776) (by decide +kernel)) rfl
theorem jlL_34 : j_lv2 RL 34 yX8_advance cX8_advance 4 (some FieldType.boolean) 2 := ⟨⟨jcX8_advance, jitX8, jWS_of (List.mem_of_getElem? (i := 774) (by decide +kernel)) rfl, by decide +kernel, by decide +kernel⟩, jiX8_advance, jvX8_advance⟩
set_option maxRecDepth 20000 in
theorem jcX7_trip : Cond.code yX7_trip cX7_trip 4 (some FieldType.int) ∈ jWS := jWS_of (List.mem_of_getElem? (i := 337) rfl) rfl
theorem jiX7_trip : Cond.instanceMethod yX7_trip ∈ jWS := jWS_of (List.mem_of_getElem? (i := 335) (by decide +kernel)) rfl
theorem jvX7_trip : Cond.selects yX7_trip.cls yX7_trip yX7_trip ∈ jWS := jWS_of (List.mem_of_getElem? (i := 336) (by decide +kernel)) rfl
theorem jlL_35 : j_lv2 RL 35 yX7_trip cX7_trip 4 (some FieldType.int) 2 := ⟨⟨jcX7_trip, jitX7, jWS_of (List.mem_of_getElem? (i := 334) (by decide +kernel)) rfl, by decide +kernel, by decide +kernel⟩, jiX7_trip, jvX7_trip⟩
set_option maxRecDepth 20000 in
theorem jcX8_trip : Cond.code yX8_trip cX8_trip 4 (some FieldType.int) ∈ jWS := jWS_of (List.mem_of_getElem? (i := 786) rfl) rfl
theorem jiX8_trip : Cond.instanceMethod yX8_trip ∈ jWS := jWS_of (List.mem_of_getElem? (i := 784) (by decide +kernel)) rfl
theorem jvX8_trip : Cond.selects yX8_trip.cls yX8_trip yX8_trip ∈ jWS := jWS_of (List.mem_of_getElem? (i := 785) (by decide +kernel)) rfl
theorem jlL_39 : j_lv2 RL 39 yX8_trip cX8_trip 4 (some FieldType.int) 2 := ⟨⟨jcX8_trip, jitX8, jWS_of (List.mem_of_getElem? (i := 783) (by decide +kernel)) rfl, by decide +kernel, by decide +kernel⟩, jiX8_trip, jvX8_trip⟩
set_option maxRecDepth 20000 in
theorem jcX7_cost : Cond.code yX7_cost cX7_cost 6 (some FieldType.boolean) ∈ jWS := jWS_of (List.mem_of_getElem? (i := 376) rfl) rfl
theorem jiX7_cost : Cond.instanceMethod yX7_cost ∈ jWS := jWS_of (List.mem_of_getElem? (i := 374) (by decide +kernel)) rfl
theorem jvX7_cost : Cond.selects yX7_cost.cls yX7_cost yX7_cost ∈ jWS := jWS_of (List.mem_of_getElem? (i := 375) (by decide +kernel)) rfl
theorem jlL_40 : j_lv2 RL 40 yX7_cost cX7_cost 6 (some FieldType.boolean) 3 := ⟨⟨jcX7_cost, jitX7, jWS_of (List.mem_of_getElem? (i := 373) (by decide +kernel)) rfl, by decide +kernel, by decide +kernel⟩, jiX7_cost, jvX7_cost⟩
set_option maxRecDepth 20000 in
theorem jcX8_cost : Cond.code yX8_cost cX8_cost 5 (some FieldType.boolean) ∈ jWS := jWS_of (List.mem_of_getElem? (i := 792) rfl) rfl
theorem jiX8_cost : Cond.instanceMethod yX8_cost ∈ jWS := jWS_of (List.mem_of_getElem? (i := 790) (by decide +kernel)) rfl
theorem jvX8_cost : Cond.selects yX8_cost.cls yX8_cost yX8_cost ∈ jWS := jWS_of (List.mem_of_getElem? (i := 791) (by decide +kernel)) rfl
theorem jlL_44 : j_lv2 RL 44 yX8_cost cX8_cost 5 (some FieldType.boolean) 3 := ⟨⟨jcX8_cost, jitX8, jWS_of (List.mem_of_getElem? (i := 789) (by decide +kernel)) rfl, by decide +kernel, by decide +kernel⟩, jiX8_cost, jvX8_cost⟩
set_option maxRecDepth 20000 in
theorem jcX7_days : Cond.code yX7_days cX7_days 6 (some FieldType.int) ∈ jWS := jWS_of (List.mem_of_getElem? (i := 388) rfl) rfl
theorem jiX7_days : Cond.instanceMethod yX7_days ∈ jWS := jWS_of (List.mem_of_getElem? (i := 386) (by decide +kernel)) rfl
theorem jvX7_days : Cond.selects yX7_days.cls yX7_days yX7_days ∈ jWS := jWS_of (List.mem_of_getElem? (i := 387) (by decide +kernel)) rfl
theorem jlL_45 : j_lv2 RL 45 yX7_days cX7_days 6 (some FieldType.int) 3 := ⟨⟨jcX7_days, jitX7, jWS_of (List.mem_of_getElem? (i := 385) (by decide +kernel)) rfl, by decide +kernel, by decide +kernel⟩, jiX7_days, jvX7_days⟩
set_option maxRecDepth 20000 in
theorem jcX8_days : Cond.code yX8_days cX8_days 5 (some FieldType.int) ∈ jWS := jWS_of (List.mem_of_getElem? (i := 800) rfl) rfl
theorem jiX8_days : Cond.instanceMethod yX8_days ∈ jWS := jWS_of (List.mem_of_getElem? (i := 798) (by decide +kernel)) rfl
theorem jvX8_days : Cond.selects yX8_days.cls yX8_days yX8_days ∈ jWS := jWS_of (List.mem_of_getElem? (i := 799) (by decide +kernel)) rfl
theorem jlL_49 : j_lv2 RL 49 yX8_days cX8_days 5 (some FieldType.int) 3 := ⟨⟨jcX8_days, jitX8, jWS_of (List.mem_of_getElem? (i := 797) (by decide +kernel)) rfl, by decide +kernel, by decide +kernel⟩, jiX8_days, jvX8_days⟩
set_option maxRecDepth 20000 in
theorem jcX7_settle : Cond.code yX7_settle cX7_settle 3 (some FieldType.int) ∈ jWS := jWS_of (List.mem_of_getElem? (i := 392) rfl) rfl
theorem jiX7_settle : Cond.instanceMethod yX7_settle ∈ jWS := jWS_of (List.mem_of_getElem? (i := 390) (by decide +kernel)) rfl
theorem jvX7_settle : Cond.selects yX7_settle.cls yX7_settle yX7_settle ∈ jWS := jWS_of (List.mem_of_getElem? (i := 391) (by decide +kernel)) rfl
theorem jlL_50 : j_lv2 RL 50 yX7_settle cX7_settle 3 (some FieldType.int) 1 := ⟨⟨jcX7_settle, jitX7, jWS_of (List.mem_of_getElem? (i := 389) (by decide +kernel)) rfl, by decide +kernel, by decide +kernel⟩, jiX7_settle, jvX7_settle⟩
set_option maxRecDepth 20000 in
theorem jcX8_settle : Cond.code yX8_settle cX8_settle 22 (some FieldType.int) ∈ jWS := jWS_of (List.mem_of_getElem? (i := 805) rfl) rfl
theorem jiX8_settle : Cond.instanceMethod yX8_settle ∈ jWS := jWS_of (List.mem_of_getElem? (i := 803) (by decide +kernel)) rfl
theorem jvX8_settle : Cond.selects yX8_settle.cls yX8_settle yX8_settle ∈ jWS := jWS_of (List.mem_of_getElem? (i := 804) (by decide +kernel)) rfl
theorem jlL_53 : j_lv2 RL 53 yX8_settle cX8_settle 22 (some FieldType.int) 1 := ⟨⟨jcX8_settle, jitX8, jWS_of (List.mem_of_getElem? (i := 802) (by decide +kernel)) rfl, by decide +kernel, by decide +kernel⟩, jiX8_settle, jvX8_settle⟩
set_option maxRecDepth 20000 in
theorem jcX7_part : Cond.code yX7_part cX7_part 4 (some FieldType.long) ∈ jWS := jWS_of (List.mem_of_getElem? (i := 471) rfl) rfl
theorem jiX7_part : Cond.instanceMethod yX7_part ∈ jWS := jWS_of (List.mem_of_getElem? (i := 469) (by decide +kernel)) rfl
theorem jvX7_part : Cond.selects yX7_part.cls yX7_part yX7_part ∈ jWS := jWS_of (List.mem_of_getElem? (i := 470) (by decide +kernel)) rfl
theorem jlL_54 : j_lv2 RL 54 yX7_part cX7_part 4 (some FieldType.long) 2 := ⟨⟨jcX7_part, jitX7, jWS_of (List.mem_of_getElem? (i := 468) (by decide +kernel)) rfl, by decide +kernel, by decide +kernel⟩, jiX7_part, jvX7_part⟩
set_option maxRecDepth 20000 in
theorem jcX8_part : Cond.code yX8_part cX8_part 3 (some FieldType.long) ∈ jWS := jWS_of (List.mem_of_getElem? (i := 818) rfl) rfl
theorem jiX8_part : Cond.instanceMethod yX8_part ∈ jWS := jWS_of (List.mem_of_getElem? (i := 816) (by decide +kernel)) rfl
theorem jvX8_part : Cond.selects yX8_part.cls yX8_part yX8_part ∈ jWS := jWS_of (List.mem_of_getElem? (i := 817) (by decide +kernel)) rfl
theorem jlL_58 : j_lv2 RL 58 yX8_part cX8_part 3 (some FieldType.long) 2 := ⟨⟨jcX8_part, jitX8, jWS_of (List.mem_of_getElem? (i := 815) (by decide +kernel)) rfl, by decide +kernel, by decide +kernel⟩, jiX8_part, jvX8_part⟩
set_option maxRecDepth 20000 in
theorem jcX7_share : Cond.code yX7_share cX7_share 5 (some FieldType.long) ∈ jWS := jWS_of (List.mem_of_getElem? (i := 480) rfl) rfl
theorem jiX7_share : Cond.instanceMethod yX7_share ∈ jWS := jWS_of (List.mem_of_getElem? (i := 478) (by decide +kernel)) rfl
theorem jvX7_share : Cond.selects yX7_share.cls yX7_share yX7_share ∈ jWS := jWS_of (List.mem_of_getElem? (i := 479) (by decide +kernel)) rfl
theorem jlL_59 : j_lv2 RL 59 yX7_share cX7_share 5 (some FieldType.long) 3 := ⟨⟨jcX7_share, jitX7, jWS_of (List.mem_of_getElem? (i := 477) (by decide +kernel)) rfl, by decide +kernel, by decide +kernel⟩, jiX7_share, jvX7_share⟩
set_option maxRecDepth 20000 in
theorem jcX8_share : Cond.code yX8_share cX8_share 4 (some FieldType.long) ∈ jWS := jWS_of (List.mem_of_getElem? (i := 824) rfl) rfl
theorem jiX8_share : Cond.instanceMethod yX8_share ∈ jWS := jWS_of (List.mem_of_getElem? (i := 822) (by decide +kernel)) rfl
theorem jvX8_share : Cond.selects yX8_share.cls yX8_share yX8_share ∈ jWS := jWS_of (List.mem_of_getElem? (i := 823) (by decide +kernel)) rfl
theorem jlL_63 : j_lv2 RL 63 yX8_share cX8_share 4 (some FieldType.long) 3 := ⟨⟨jcX8_share, jitX8, jWS_of (List.mem_of_getElem? (i := 821) (by decide +kernel)) rfl, by decide +kernel, by decide +kernel⟩, jiX8_share, jvX8_share⟩
set_option maxRecDepth 20000 in
theorem jcX7_carried : Cond.code yX7_carried cX7_carried 2 (some FieldType.long) ∈ jWS := jWS_of (List.mem_of_getElem? (i := 484) rfl) rfl
theorem jiX7_carried : Cond.instanceMethod yX7_carried ∈ jWS := jWS_of (List.mem_of_getElem? (i := 482) (by decide +kernel)) rfl
theorem jvX7_carried : Cond.selects yX7_carried.cls yX7_carried yX7_carried ∈ jWS := jWS_of (List.mem_of_getElem? (i := 483) (by decide +kernel)) rfl
theorem jlL_64 : j_lv2 RL 64 yX7_carried cX7_carried 2 (some FieldType.long) 1 := ⟨⟨jcX7_carried, jitX7, jWS_of (List.mem_of_getElem? (i := 481) (by decide +kernel)) rfl, by decide +kernel, by decide +kernel⟩, jiX7_carried, jvX7_carried⟩
set_option maxRecDepth 20000 in
theorem jcX8_carried : Cond.code yX8_carried cX8_carried 2 (some FieldType.long) ∈ jWS := jWS_of (List.mem_of_getElem? (i := 828) rfl) rfl
theorem jiX8_carried : Cond.instanceMethod yX8_carried ∈ jWS := jWS_of (List.mem_of_getElem? (i := 826) (by decide +kernel)) rfl
theorem jvX8_carried : Cond.selects yX8_carried.cls yX8_carried yX8_carried ∈ jWS := jWS_of (List.mem_of_getElem? (i := 827) (by decide +kernel)) rfl
theorem jlL_68 : j_lv2 RL 68 yX8_carried cX8_carried 2 (some FieldType.long) 1 := ⟨⟨jcX8_carried, jitX8, jWS_of (List.mem_of_getElem? (i := 825) (by decide +kernel)) rfl, by decide +kernel, by decide +kernel⟩, jiX8_carried, jvX8_carried⟩
set_option maxRecDepth 20000 in
theorem jcX7_sums : Cond.code yX7_sums cX7_sums 3 (some FieldType.boolean) ∈ jWS := jWS_of (List.mem_of_getElem? (i := 489) rfl) rfl
theorem jiX7_sums : Cond.instanceMethod yX7_sums ∈ jWS := jWS_of (List.mem_of_getElem? (i := 487) (by decide +kernel)) rfl
theorem jvX7_sums : Cond.selects yX7_sums.cls yX7_sums yX7_sums ∈ jWS := jWS_of (List.mem_of_getElem? (i := 488) (by decide +kernel)) rfl
theorem jlL_69 : j_lv2 RL 69 yX7_sums cX7_sums 3 (some FieldType.boolean) 1 := ⟨⟨jcX7_sums, jitX7, jWS_of (List.mem_of_getElem? (i := 486) (by decide +kernel)) rfl, by decide +kernel, by decide +kernel⟩, jiX7_sums, jvX7_sums⟩
set_option maxRecDepth 20000 in
theorem jcX8_sums : Cond.code yX8_sums cX8_sums 7 (some FieldType.boolean) ∈ jWS := jWS_of (List.mem_of_getElem? (i := 832) rfl) rfl
theorem jiX8_sums : Cond.instanceMethod yX8_sums ∈ jWS := jWS_of (List.mem_of_getElem? (i := 830) (by decide +kernel)) rfl
theorem jvX8_sums : Cond.selects yX8_sums.cls yX8_sums yX8_sums ∈ jWS := jWS_of (List.mem_of_getElem? (i := 831) (by decide +kernel)) rfl
theorem jlL_72 : j_lv2 RL 72 yX8_sums cX8_sums 7 (some FieldType.boolean) 1 := ⟨⟨jcX8_sums, jitX8, jWS_of (List.mem_of_getElem? (i := 829) (by decide +kernel)) rfl, by decide +kernel, by decide +kernel⟩, jiX8_sums, jvX8_sums⟩
set_option maxRecDepth 20000 in
theorem jcX7_open : Cond.code yX7_open cX7_open 2 (some FieldType.boolean) ∈ jWS := jWS_of (List.mem_of_getElem? (i := 497) rfl) rfl
theorem jiX7_open : Cond.instanceMethod yX7_open ∈ jWS := jWS_of (List.mem_of_getElem? (i := 495) (by decide +kernel)) rfl
theorem jvX7_open : Cond.selects yX7_open.cls yX7_open yX7_open ∈ jWS := jWS_of (List.mem_of_getElem? (i := 496) (by decide +kernel)) rfl
theorem jlL_73 : j_lv2 RL 73 yX7_open cX7_open 2 (some FieldType.boolean) 1 := ⟨⟨jcX7_open, jitX7, jWS_of (List.mem_of_getElem? (i := 494) (by decide +kernel)) rfl, by decide +kernel, by decide +kernel⟩, jiX7_open, jvX7_open⟩
set_option maxRecDepth 20000 in
theorem jcX8_open : Cond.code yX8_open cX8_open 2 (some FieldType.boolean) ∈ jWS := jWS_of (List.mem_of_getElem? (i := 836) rfl) rfl
theorem jiX8_open : Cond.instanceMethod yX8_open ∈ jWS := jWS_of (List.mem_of_getElem? (i := 834) (by decide +kernel)) rfl
theorem jvX8_open : Cond.selects yX8_open.cls yX8_open yX8_open ∈ jWS := jWS_of (List.mem_of_getElem? (i := 835) (by decide +kernel)) rfl
theorem jlL_76 : j_lv2 RL 76 yX8_open cX8_open 2 (some FieldType.boolean) 1 := ⟨⟨jcX8_open, jitX8, jWS_of (List.mem_of_getElem? (i := 833) (by decide +kernel)) rfl, by decide +kernel, by decide +kernel⟩, jiX8_open, jvX8_open⟩
set_option maxRecDepth 20000 in
theorem jcX7_row : Cond.code yX7_row cX7_row 4 (some FieldType.int) ∈ jWS := jWS_of (List.mem_of_getElem? (i := 524) rfl) rfl
theorem jiX7_row : Cond.instanceMethod yX7_row ∈ jWS := jWS_of (List.mem_of_getElem? (i := 522) (by decide +kernel)) rfl
theorem jvX7_row : Cond.selects yX7_row.cls yX7_row yX7_row ∈ jWS := jWS_of (List.mem_of_getElem? (i := 523) (by decide +kernel)) rfl
theorem jlL_77 : j_lv2 RL 77 yX7_row cX7_row 4 (some FieldType.int) 2 := ⟨⟨jcX7_row, jitX7, jWS_of (List.mem_of_getElem? (i := 521) (by decide +kernel)) rfl, by decide +kernel, by decide +kernel⟩, jiX7_row, jvX7_row⟩
set_option maxRecDepth 20000 in
theorem jcX8_row : Cond.code yX8_row cX8_row 4 (some FieldType.int) ∈ jWS := jWS_of (List.mem_of_getElem? (i := 841) rfl) rfl
theorem jiX8_row : Cond.instanceMethod yX8_row ∈ jWS := jWS_of (List.mem_of_getElem? (i := 839) (by decide +kernel)) rfl
theorem jvX8_row : Cond.selects yX8_row.cls yX8_row yX8_row ∈ jWS := jWS_of (List.mem_of_getElem? (i := 840) (by decide +kernel)) rfl
theorem jlL_80 : j_lv2 RL 80 yX8_row cX8_row 4 (some FieldType.int) 2 := ⟨⟨jcX8_row, jitX8, jWS_of (List.mem_of_getElem? (i := 838) (by decide +kernel)) rfl, by decide +kernel, by decide +kernel⟩, jiX8_row, jvX8_row⟩
set_option maxRecDepth 20000 in
theorem jcX7_enter : Cond.code yX7_enter cX7_enter 1 (some FieldType.int) ∈ jWS := jWS_of (List.mem_of_getElem? (i := 546) rfl) rfl
theorem jiX7_enter : Cond.instanceMethod yX7_enter ∈ jWS := jWS_of (List.mem_of_getElem? (i := 544) (by decide +kernel)) rfl
theorem jvX7_enter : Cond.selects yX7_enter.cls yX7_enter yX7_enter ∈ jWS := jWS_of (List.mem_of_getElem? (i := 545) (by decide +kernel)) rfl
theorem jlL_81 : j_lv2 RL 81 yX7_enter cX7_enter 1 (some FieldType.int) 0 := ⟨⟨jcX7_enter, jitX7, jWS_of (List.mem_of_getElem? (i := 543) (by decide +kernel)) rfl, by decide +kernel, by decide +kernel⟩, jiX7_enter, jvX7_enter⟩
set_option maxRecDepth 20000 in
theorem jcX8_enter : Cond.code yX8_enter cX8_enter 4 (some FieldType.int) ∈ jWS := jWS_of (List.mem_of_getElem? (i := 847) rfl) rfl
theorem jiX8_enter : Cond.instanceMethod yX8_enter ∈ jWS := jWS_of (List.mem_of_getElem? (i := 845) (by decide +kernel)) rfl
theorem jvX8_enter : Cond.selects yX8_enter.cls yX8_enter yX8_enter ∈ jWS := jWS_of (List.mem_of_getElem? (i := 846) (by decide +kernel)) rfl
theorem jlL_84 : j_lv2 RL 84 yX8_enter cX8_enter 4 (some FieldType.int) 0 := ⟨⟨jcX8_enter, jitX8, jWS_of (List.mem_of_getElem? (i := 844) (by decide +kernel)) rfl, by decide +kernel, by decide +kernel⟩, jiX8_enter, jvX8_enter⟩
set_option maxRecDepth 20000 in
theorem jcX7_drop : Cond.code yX7_drop cX7_drop 1 (some FieldType.int) ∈ jWS := jWS_of (List.mem_of_getElem? (i := 562) rfl) rfl
theorem jiX7_drop : Cond.instanceMethod yX7_drop ∈ jWS := jWS_of (List.mem_of_getElem? (i := 560) (by decide +kernel)) rfl
theorem jvX7_drop : Cond.selects yX7_drop.cls yX7_drop yX7_drop ∈ jWS := jWS_of (List.mem_of_getElem? (i := 561) (by decide +kernel)) rfl
theorem jlL_85 : j_lv2 RL 85 yX7_drop cX7_drop 1 (some FieldType.int) 0 := ⟨⟨jcX7_drop, jitX7, jWS_of (List.mem_of_getElem? (i := 559) (by decide +kernel)) rfl, by decide +kernel, by decide +kernel⟩, jiX7_drop, jvX7_drop⟩
set_option maxRecDepth 20000 in
theorem jcX8_drop : Cond.code yX8_drop cX8_drop 1 (some FieldType.int) ∈ jWS := jWS_of (List.mem_of_getElem? (i := 855) rfl) rfl
theorem jiX8_drop : Cond.instanceMethod yX8_drop ∈ jWS := jWS_of (List.mem_of_getElem? (i := 853) (by decide +kernel)) rfl
theorem jvX8_drop : Cond.selects yX8_drop.cls yX8_drop yX8_drop ∈ jWS := jWS_of (List.mem_of_getElem? (i := 854) (by decide +kernel)) rfl
theorem jlL_88 : j_lv2 RL 88 yX8_drop cX8_drop 1 (some FieldType.int) 0 := ⟨⟨jcX8_drop, jitX8, jWS_of (List.mem_of_getElem? (i := 852) (by decide +kernel)) rfl, by decide +kernel, by decide +kernel⟩, jiX8_drop, jvX8_drop⟩
set_option maxRecDepth 20000 in
theorem jcX7_closeMonth : Cond.code yX7_closeMonth cX7_closeMonth 2 (some FieldType.int) ∈ jWS := jWS_of (List.mem_of_getElem? (i := 570) rfl) rfl
theorem jiX7_closeMonth : Cond.instanceMethod yX7_closeMonth ∈ jWS := jWS_of (List.mem_of_getElem? (i := 568) (by decide +kernel)) rfl
theorem jvX7_closeMonth : Cond.selects yX7_closeMonth.cls yX7_closeMonth yX7_closeMonth ∈ jWS := jWS_of (List.mem_of_getElem? (i := 569) (by decide +kernel)) rfl
theorem jlL_89 : j_lv2 RL 89 yX7_closeMonth cX7_closeMonth 2 (some FieldType.int) 1 := ⟨⟨jcX7_closeMonth, jitX7, jWS_of (List.mem_of_getElem? (i := 567) (by decide +kernel)) rfl, by decide +kernel, by decide +kernel⟩, jiX7_closeMonth, jvX7_closeMonth⟩
set_option maxRecDepth 20000 in
theorem jcX8_closeMonth : Cond.code yX8_closeMonth cX8_closeMonth 3 (some FieldType.int) ∈ jWS := jWS_of (List.mem_of_getElem? (i := 859) rfl) rfl
theorem jiX8_closeMonth : Cond.instanceMethod yX8_closeMonth ∈ jWS := jWS_of (List.mem_of_getElem? (i := 857) (by decide +kernel)) rfl
theorem jvX8_closeMonth : Cond.selects yX8_closeMonth.cls yX8_closeMonth yX8_closeMonth ∈ jWS := jWS_of (List.mem_of_getElem? (i := 858) (by decide +kernel)) rfl
theorem jlL_92 : j_lv2 RL 92 yX8_closeMonth cX8_closeMonth 3 (some FieldType.int) 1 := ⟨⟨jcX8_closeMonth, jitX8, jWS_of (List.mem_of_getElem? (i := 856) (by decide +kernel)) rfl, by decide +kernel, by decide +kernel⟩, jiX8_closeMonth, jvX8_closeMonth⟩
set_option maxRecDepth 20000 in
theorem jcX7_correct : Cond.code yX7_correct cX7_correct 3 (some FieldType.int) ∈ jWS := jWS_of (List.mem_of_getElem? (i := 582) rfl) rfl
theorem jiX7_correct : Cond.instanceMethod yX7_correct ∈ jWS := jWS_of (List.mem_of_getElem? (i := 580) (by decide +kernel)) rfl
theorem jvX7_correct : Cond.selects yX7_correct.cls yX7_correct yX7_correct ∈ jWS := jWS_of (List.mem_of_getElem? (i := 581) (by decide +kernel)) rfl
theorem jlL_93 : j_lv2 RL 93 yX7_correct cX7_correct 3 (some FieldType.int) 2 := ⟨⟨jcX7_correct, jitX7, jWS_of (List.mem_of_getElem? (i := 579) (by decide +kernel)) rfl, by decide +kernel, by decide +kernel⟩, jiX7_correct, jvX7_correct⟩
set_option maxRecDepth 20000 in
theorem jcX8_correct : Cond.code yX8_correct cX8_correct 3 (some FieldType.int) ∈ jWS := jWS_of (List.mem_of_getElem? (i := 864) rfl) rfl
theorem jiX8_correct : Cond.instanceMethod yX8_correct ∈ jWS := jWS_of (List.mem_of_getElem? (i := 862) (by decide +kernel)) rfl
theorem jvX8_correct : Cond.selects yX8_correct.cls yX8_correct yX8_correct ∈ jWS := jWS_of (List.mem_of_getElem? (i := 863) (by decide +kernel)) rfl
theorem jlL_97 : j_lv2 RL 97 yX8_correct cX8_correct 3 (some FieldType.int) 2 := ⟨⟨jcX8_correct, jitX8, jWS_of (List.mem_of_getElem? (i := 861) (by decide +kernel)) rfl, by decide +kernel, by decide +kernel⟩, jiX8_correct, jvX8_correct⟩
set_option maxRecDepth 20000 in
theorem jcX7_balance : Cond.code yX7_balance cX7_balance 3 (some FieldType.long) ∈ jWS := jWS_of (List.mem_of_getElem? (i := 607) rfl) rfl
theorem jiX7_balance : Cond.instanceMethod yX7_balance ∈ jWS := jWS_of (List.mem_of_getElem? (i := 605) (by decide +kernel)) rfl
theorem jvX7_balance : Cond.selects yX7_balance.cls yX7_balance yX7_balance ∈ jWS := jWS_of (List.mem_of_getElem? (i := 606) (by decide +kernel)) rfl
theorem jlL_98 : j_lv2 RL 98 yX7_balance cX7_balance 3 (some FieldType.long) 2 := ⟨⟨jcX7_balance, jitX7, jWS_of (List.mem_of_getElem? (i := 604) (by decide +kernel)) rfl, by decide +kernel, by decide +kernel⟩, jiX7_balance, jvX7_balance⟩
set_option maxRecDepth 20000 in
theorem jcX8_balance : Cond.code yX8_balance cX8_balance 7 (some FieldType.long) ∈ jWS := jWS_of (List.mem_of_getElem? (i := 868) rfl) rfl
theorem jiX8_balance : Cond.instanceMethod yX8_balance ∈ jWS := jWS_of (List.mem_of_getElem? (i := 866) (by decide +kernel)) rfl
theorem jvX8_balance : Cond.selects yX8_balance.cls yX8_balance yX8_balance ∈ jWS := jWS_of (List.mem_of_getElem? (i := 867) (by decide +kernel)) rfl
theorem jlL_101 : j_lv2 RL 101 yX8_balance cX8_balance 7 (some FieldType.long) 2 := ⟨⟨jcX8_balance, jitX8, jWS_of (List.mem_of_getElem? (i := 865) (by decide +kernel)) rfl, by decide +kernel, by decide +kernel⟩, jiX8_balance, jvX8_balance⟩
set_option maxRecDepth 20000 in
theorem jcX7_entry : Cond.code yX7_entry cX7_entry 4 (some FieldType.long) ∈ jWS := jWS_of (List.mem_of_getElem? (i := 620) rfl) rfl
theorem jiX7_entry : Cond.instanceMethod yX7_entry ∈ jWS := jWS_of (List.mem_of_getElem? (i := 618) (by decide +kernel)) rfl
theorem jvX7_entry : Cond.selects yX7_entry.cls yX7_entry yX7_entry ∈ jWS := jWS_of (List.mem_of_getElem? (i := 619) (by decide +kernel)) rfl
theorem jlL_102 : j_lv2 RL 102 yX7_entry cX7_entry 4 (some FieldType.long) 3 := ⟨⟨jcX7_entry, jitX7, jWS_of (List.mem_of_getElem? (i := 617) (by decide +kernel)) rfl, by decide +kernel, by decide +kernel⟩, jiX7_entry, jvX7_entry⟩
set_option maxRecDepth 20000 in
theorem jcX8_entry : Cond.code yX8_entry cX8_entry 4 (some FieldType.long) ∈ jWS := jWS_of (List.mem_of_getElem? (i := 872) rfl) rfl
theorem jiX8_entry : Cond.instanceMethod yX8_entry ∈ jWS := jWS_of (List.mem_of_getElem? (i := 870) (by decide +kernel)) rfl
theorem jvX8_entry : Cond.selects yX8_entry.cls yX8_entry yX8_entry ∈ jWS := jWS_of (List.mem_of_getElem? (i := 871) (by decide +kernel)) rfl
theorem jlL_105 : j_lv2 RL 105 yX8_entry cX8_entry 4 (some FieldType.long) 3 := ⟨⟨jcX8_entry, jitX8, jWS_of (List.mem_of_getElem? (i := 869) (by decide +kernel)) rfl, by decide +kernel, by decide +kernel⟩, jiX8_entry, jvX8_entry⟩
theorem joX8_1 : Cond.methodLink RX8 1 objectInit ∈ jWS := jWS_of (List.mem_of_getElem? (i := 639) (by decide +kernel)) rfl
set_option maxRecDepth 20000 in
theorem jcX8_within : Cond.code yX8_within cX8_within 6 (some FieldType.boolean) ∈ jWS := jWS_of (List.mem_of_getElem? (i := 742) rfl) rfl
theorem jsX8_within : Cond.static yX8_within ∈ jWS := jWS_of (List.mem_of_getElem? (i := 741) (by decide +kernel)) rfl
theorem jlX8_80 : j_ls RX8 80 yX8_within cX8_within 6 (some FieldType.boolean) 3 := ⟨⟨jcX8_within, jitX8, jWS_of (List.mem_of_getElem? (i := 740) (by decide +kernel)) rfl, by decide +kernel, by decide +kernel⟩, jsX8_within⟩
set_option maxRecDepth 20000 in
theorem jcX8_isNext : Cond.code yX8_isNext cX8_isNext 1 (some FieldType.boolean) ∈ jWS := jWS_of (List.mem_of_getElem? (i := 750) rfl) rfl
theorem jiX8_isNext : Cond.instanceMethod yX8_isNext ∈ jWS := jWS_of (List.mem_of_getElem? (i := 749) (by decide +kernel)) rfl
theorem jvX8_isNext : Cond.selects yX8_isNext.cls yX8_isNext yX8_isNext ∈ jWS := jWS_sel (List.mem_of_getElem? (i := 22) (by decide +kernel)) rfl
theorem jlX8_94 : j_lv2 RX8 94 yX8_isNext cX8_isNext 1 (some FieldType.boolean) 0 := ⟨⟨jcX8_isNext, jitX8, jWS_of (List.mem_of_getElem? (i := 747) (by decide +kernel)) rfl, by decide +kernel, by decide +kernel⟩, jiX8_isNext, jvX8_isNext⟩
set_option maxRecDepth 20000 in
theorem jcX8_isWord : Cond.code yX8_isWord cX8_isWord 6 (some FieldType.boolean) ∈ jWS := jWS_of (List.mem_of_getElem? (i := 759) rfl) rfl
theorem jiX8_isWord : Cond.instanceMethod yX8_isWord ∈ jWS := jWS_of (List.mem_of_getElem? (i := 758) (by decide +kernel)) rfl
theorem jvX8_isWord : Cond.selects yX8_isWord.cls yX8_isWord yX8_isWord ∈ jWS := jWS_sel (List.mem_of_getElem? (i := 24) (by decide +kernel)) rfl
theorem jlX8_103 : j_lv2 RX8 103 yX8_isWord cX8_isWord 6 (some FieldType.boolean) 2 := ⟨⟨jcX8_isWord, jitX8, jWS_of (List.mem_of_getElem? (i := 756) (by decide +kernel)) rfl, by decide +kernel, by decide +kernel⟩, jiX8_isWord, jvX8_isWord⟩
set_option maxRecDepth 20000 in
theorem jcX8_number : Cond.code yX8_number cX8_number 4 (some FieldType.int) ∈ jWS := jWS_of (List.mem_of_getElem? (i := 764) rfl) rfl
theorem jiX8_number : Cond.instanceMethod yX8_number ∈ jWS := jWS_of (List.mem_of_getElem? (i := 763) (by decide +kernel)) rfl
theorem jvX8_number : Cond.selects yX8_number.cls yX8_number yX8_number ∈ jWS := jWS_sel (List.mem_of_getElem? (i := 25) (by decide +kernel)) rfl
theorem jlX8_109 : j_lv2 RX8 109 yX8_number cX8_number 4 (some FieldType.int) 1 := ⟨⟨jcX8_number, jitX8, jWS_of (List.mem_of_getElem? (i := 761) (by decide +kernel)) rfl, by decide +kernel, by decide +kernel⟩, jiX8_number, jvX8_number⟩
set_option maxRecDepth 20000 in
theorem jcX8_isSentence : Cond.code yX8_isSentence cX8_isSentence 4 (some FieldType.boolean) ∈ jWS := jWS_of (List.mem_of_getElem? (i := 754) rfl) rfl
theorem jiX8_isSentence : Cond.instanceMethod yX8_isSentence ∈ jWS := jWS_of (List.mem_of_getElem? (i := 753) (by decide +kernel)) rfl
theorem jvX8_isSentence : Cond.selects yX8_isSentence.cls yX8_isSentence yX8_isSentence ∈ jWS := jWS_sel (List.mem_of_getElem? (i := 23) (by decide +kernel)) rfl
theorem jlX8_120 : j_lv2 RX8 120 yX8_isSentence cX8_isSentence 4 (some FieldType.boolean) 0 := ⟨⟨jcX8_isSentence, jitX8, jWS_of (List.mem_of_getElem? (i := 751) (by decide +kernel)) rfl, by decide +kernel, by decide +kernel⟩, jiX8_isSentence, jvX8_isSentence⟩
set_option maxRecDepth 20000 in
theorem jcX8_isPerson : Cond.code yX8_isPerson cX8_isPerson 2 (some FieldType.boolean) ∈ jWS := jWS_of (List.mem_of_getElem? (i := 781) rfl) rfl
theorem jiX8_isPerson : Cond.instanceMethod yX8_isPerson ∈ jWS := jWS_of (List.mem_of_getElem? (i := 780) (by decide +kernel)) rfl
theorem jvX8_isPerson : Cond.selects yX8_isPerson.cls yX8_isPerson yX8_isPerson ∈ jWS := jWS_sel (List.mem_of_getElem? (i := 26) (by decide +kernel)) rfl
theorem jlX8_131 : j_lv2 RX8 131 yX8_isPerson cX8_isPerson 2 (some FieldType.boolean) 1 := ⟨⟨jcX8_isPerson, jitX8, jWS_of (List.mem_of_getElem? (i := 778) (by decide +kernel)) rfl, by decide +kernel, by decide +kernel⟩, jiX8_isPerson, jvX8_isPerson⟩
set_option maxRecDepth 20000 in
theorem jcX8_isTrip : Cond.code yX8_isTrip cX8_isTrip 2 (some FieldType.boolean) ∈ jWS := jWS_of (List.mem_of_getElem? (i := 796) rfl) rfl
theorem jiX8_isTrip : Cond.instanceMethod yX8_isTrip ∈ jWS := jWS_of (List.mem_of_getElem? (i := 795) (by decide +kernel)) rfl
theorem jvX8_isTrip : Cond.selects yX8_isTrip.cls yX8_isTrip yX8_isTrip ∈ jWS := jWS_sel (List.mem_of_getElem? (i := 27) (by decide +kernel)) rfl
theorem jlX8_141 : j_lv2 RX8 141 yX8_isTrip cX8_isTrip 2 (some FieldType.boolean) 1 := ⟨⟨jcX8_isTrip, jitX8, jWS_of (List.mem_of_getElem? (i := 793) (by decide +kernel)) rfl, by decide +kernel, by decide +kernel⟩, jiX8_isTrip, jvX8_isTrip⟩
set_option maxRecDepth 20000 in
theorem jcX8_costsOf : Cond.code yX8_costsOf cX8_costsOf 6 (some FieldType.long) ∈ jWS := jWS_of (List.mem_of_getElem? (i := 809) rfl) rfl
theorem jiX8_costsOf : Cond.instanceMethod yX8_costsOf ∈ jWS := jWS_of (List.mem_of_getElem? (i := 808) (by decide +kernel)) rfl
theorem jvX8_costsOf : Cond.selects yX8_costsOf.cls yX8_costsOf yX8_costsOf ∈ jWS := jWS_sel (List.mem_of_getElem? (i := 28) (by decide +kernel)) rfl
theorem jlX8_148 : j_lv2 RX8 148 yX8_costsOf cX8_costsOf 6 (some FieldType.long) 2 := ⟨⟨jcX8_costsOf, jitX8, jWS_of (List.mem_of_getElem? (i := 806) (by decide +kernel)) rfl, by decide +kernel, by decide +kernel⟩, jiX8_costsOf, jvX8_costsOf⟩
set_option maxRecDepth 20000 in
theorem jcX8_partByCents : Cond.code yX8_partByCents cX8_partByCents 10 none ∈ jWS := jWS_of (List.mem_of_getElem? (i := 813) rfl) rfl
theorem jiX8_partByCents : Cond.instanceMethod yX8_partByCents ∈ jWS := jWS_of (List.mem_of_getElem? (i := 812) (by decide +kernel)) rfl
theorem jvX8_partByCents : Cond.selects yX8_partByCents.cls yX8_partByCents yX8_partByCents ∈ jWS := jWS_sel (List.mem_of_getElem? (i := 29) (by decide +kernel)) rfl
