theorem w14 : (.initialized RX12 : Cond) ∈ TB := mTB (List.mem_of_getElem? (i := 14) (by decide +kernel)) (by decide +kernel)
theorem w1082 : (.fieldLink RX12 13 "SwapPressModel" "s" "[I" : Cond) ∈ TB := mTB (List.mem_of_getElem? (i := 1082) (by decide +kernel)) (by decide +kernel)
theorem w1085 : (.fieldLink RX12 23 "SwapPressModel" "names" "[J" : Cond) ∈ TB := mTB (List.mem_of_getElem? (i := 1085) (by decide +kernel)) (by decide +kernel)
theorem w1087 : (.fieldLink RX12 80 "SwapPressModel" "parties" "I" : Cond) ∈ TB := mTB (List.mem_of_getElem? (i := 1087) (by decide +kernel)) (by decide +kernel)
theorem w1088 : (.fieldLink RX12 83 "SwapPressModel" "kinds" "I" : Cond) ∈ TB := mTB (List.mem_of_getElem? (i := 1088) (by decide +kernel)) (by decide +kernel)
theorem w1091 : (.fieldLink RX12 30 "SwapPressModel" "tape" "[B" : Cond) ∈ TB := mTB (List.mem_of_getElem? (i := 1091) (by decide +kernel)) (by decide +kernel)
theorem w1093 : (.fieldLink RX12 93 "SwapPressModel" "size" "I" : Cond) ∈ TB := mTB (List.mem_of_getElem? (i := 1093) (by decide +kernel)) (by decide +kernel)
theorem w1094 : (.fieldLink RX12 90 "SwapPressModel" "spot" "I" : Cond) ∈ TB := mTB (List.mem_of_getElem? (i := 1094) (by decide +kernel)) (by decide +kernel)
theorem w1095 : (.fieldLink RX12 96 "SwapPressModel" "wrong" "I" : Cond) ∈ TB := mTB (List.mem_of_getElem? (i := 1095) (by decide +kernel)) (by decide +kernel)
theorem w1096 : (.fieldLink RX12 34 "SwapPressModel" "wrongAt" "I" : Cond) ∈ TB := mTB (List.mem_of_getElem? (i := 1096) (by decide +kernel)) (by decide +kernel)
theorem w1098 : (.fieldLink RX12 140 "SwapPressModel" "readAt" "I" : Cond) ∈ TB := mTB (List.mem_of_getElem? (i := 1098) (by decide +kernel)) (by decide +kernel)
theorem w1187 : (.methodLink RX12 103 yX12_isIn : Cond) ∈ TB := mTB (List.mem_of_getElem? (i := 1187) (by decide +kernel)) (by decide +kernel)
theorem w1188 : (.static yX12_isIn : Cond) ∈ TB := mTB (List.mem_of_getElem? (i := 1188) (by decide +kernel)) (by decide +kernel)
theorem w1189 : (.code yX12_isIn cX12_isIn 6 (some .boolean) : Cond) ∈ TB := mTB (List.mem_of_getElem? (i := 1189) (by decide +kernel)) (by decide +kernel)
theorem w1190 : (.methodLink RX12 115 yX12_peek : Cond) ∈ TB := mTB (List.mem_of_getElem? (i := 1190) (by decide +kernel)) (by decide +kernel)
theorem w1192 : (.instanceMethod yX12_peek : Cond) ∈ TB := mTB (List.mem_of_getElem? (i := 1192) (by decide +kernel)) (by decide +kernel)
theorem w1193 : (.code yX12_peek cX12_peek 1 (some .int) : Cond) ∈ TB := mTB (List.mem_of_getElem? (i := 1193) (by decide +kernel)) (by decide +kernel)
theorem w1198 : (.methodLink RX12 143 yX12_wordHere : Cond) ∈ TB := mTB (List.mem_of_getElem? (i := 1198) (by decide +kernel)) (by decide +kernel)
theorem w1200 : (.instanceMethod yX12_wordHere : Cond) ∈ TB := mTB (List.mem_of_getElem? (i := 1200) (by decide +kernel)) (by decide +kernel)
theorem w1201 : (.code yX12_wordHere cX12_wordHere 7 (some .int) : Cond) ∈ TB := mTB (List.mem_of_getElem? (i := 1201) (by decide +kernel)) (by decide +kernel)
theorem w1202 : (.methodLink RX12 111 yX12_isLetter : Cond) ∈ TB := mTB (List.mem_of_getElem? (i := 1202) (by decide +kernel)) (by decide +kernel)
theorem w1203 : (.static yX12_isLetter : Cond) ∈ TB := mTB (List.mem_of_getElem? (i := 1203) (by decide +kernel)) (by decide +kernel)
theorem w1204 : (.code yX12_isLetter cX12_isLetter 1 (some .boolean) : Cond) ∈ TB := mTB (List.mem_of_getElem? (i := 1204) (by decide +kernel)) (by decide +kernel)
theorem w1205 : (.constantLong RX12 99 97 : Cond) ∈ TB := mTB (List.mem_of_getElem? (i := 1205) (by decide +kernel)) (by decide +kernel)
theorem w1206 : (.constantLong RX12 101 122 : Cond) ∈ TB := mTB (List.mem_of_getElem? (i := 1206) (by decide +kernel)) (by decide +kernel)
theorem w1207 : (.methodLink RX12 119 yX12_lettersHere : Cond) ∈ TB := mTB (List.mem_of_getElem? (i := 1207) (by decide +kernel)) (by decide +kernel)
theorem w1209 : (.instanceMethod yX12_lettersHere : Cond) ∈ TB := mTB (List.mem_of_getElem? (i := 1209) (by decide +kernel)) (by decide +kernel)
theorem w1210 : (.code yX12_lettersHere cX12_lettersHere 2 (some .int) : Cond) ∈ TB := mTB (List.mem_of_getElem? (i := 1210) (by decide +kernel)) (by decide +kernel)
theorem w1212 : (.methodLink RX12 124 yJ0_length_8abf5 : Cond) ∈ TB := mTB (List.mem_of_getElem? (i := 1212) (by decide +kernel)) (by decide +kernel)
theorem w1213 : (.methodLink RX12 129 yJ0_charAt_5068e : Cond) ∈ TB := mTB (List.mem_of_getElem? (i := 1213) (by decide +kernel)) (by decide +kernel)
theorem w1214 : (.methodLink RX12 136 yX12_fails : Cond) ∈ TB := mTB (List.mem_of_getElem? (i := 1214) (by decide +kernel)) (by decide +kernel)
theorem w1216 : (.instanceMethod yX12_fails : Cond) ∈ TB := mTB (List.mem_of_getElem? (i := 1216) (by decide +kernel)) (by decide +kernel)
theorem w1217 : (.code yX12_fails cX12_fails 3 none : Cond) ∈ TB := mTB (List.mem_of_getElem? (i := 1217) (by decide +kernel)) (by decide +kernel)
theorem w1230 : (.methodLink RX12 146 yX12_nameRead : Cond) ∈ TB := mTB (List.mem_of_getElem? (i := 1230) (by decide +kernel)) (by decide +kernel)
theorem w1232 : (.instanceMethod yX12_nameRead : Cond) ∈ TB := mTB (List.mem_of_getElem? (i := 1232) (by decide +kernel)) (by decide +kernel)
theorem w1233 : (.code yX12_nameRead cX12_nameRead 5 (some .long) : Cond) ∈ TB := mTB (List.mem_of_getElem? (i := 1233) (by decide +kernel)) (by decide +kernel)
theorem w1234 : (.methodLink RX12 150 yX12_find : Cond) ∈ TB := mTB (List.mem_of_getElem? (i := 1234) (by decide +kernel)) (by decide +kernel)
theorem w1236 : (.instanceMethod yX12_find : Cond) ∈ TB := mTB (List.mem_of_getElem? (i := 1236) (by decide +kernel)) (by decide +kernel)
theorem w1237 : (.code yX12_find cX12_find 6 (some .int) : Cond) ∈ TB := mTB (List.mem_of_getElem? (i := 1237) (by decide +kernel)) (by decide +kernel)
theorem w1242 : (.methodLink RX12 133 yX12_isDigit : Cond) ∈ TB := mTB (List.mem_of_getElem? (i := 1242) (by decide +kernel)) (by decide +kernel)
theorem w1243 : (.static yX12_isDigit : Cond) ∈ TB := mTB (List.mem_of_getElem? (i := 1243) (by decide +kernel)) (by decide +kernel)
theorem w1244 : (.code yX12_isDigit cX12_isDigit 1 (some .boolean) : Cond) ∈ TB := mTB (List.mem_of_getElem? (i := 1244) (by decide +kernel)) (by decide +kernel)
theorem w1245 : (.constantLong RX12 107 48 : Cond) ∈ TB := mTB (List.mem_of_getElem? (i := 1245) (by decide +kernel)) (by decide +kernel)
theorem w1246 : (.constantLong RX12 109 57 : Cond) ∈ TB := mTB (List.mem_of_getElem? (i := 1246) (by decide +kernel)) (by decide +kernel)
theorem w1255 : (.methodLink RX12 154 yX12_partyRead : Cond) ∈ TB := mTB (List.mem_of_getElem? (i := 1255) (by decide +kernel)) (by decide +kernel)
theorem w1257 : (.instanceMethod yX12_partyRead : Cond) ∈ TB := mTB (List.mem_of_getElem? (i := 1257) (by decide +kernel)) (by decide +kernel)
theorem w1258 : (.code yX12_partyRead cX12_partyRead 2 (some .int) : Cond) ∈ TB := mTB (List.mem_of_getElem? (i := 1258) (by decide +kernel)) (by decide +kernel)
theorem ws55 : (.selects RX12 yX12_peek yX12_peek : Cond) ∈ TB := mSel (y := yX12_peek) (n := 32) (List.mem_of_getElem? (i := 55) (by decide +kernel)) (by decide +kernel)
theorem ws57 : (.selects RX12 yX12_wordHere yX12_wordHere : Cond) ∈ TB := mSel (y := yX12_wordHere) (n := 32) (List.mem_of_getElem? (i := 57) (by decide +kernel)) (by decide +kernel)
theorem ws58 : (.selects RX12 yX12_lettersHere yX12_lettersHere : Cond) ∈ TB := mSel (y := yX12_lettersHere) (n := 32) (List.mem_of_getElem? (i := 58) (by decide +kernel)) (by decide +kernel)
theorem ws59 : (.selects RX12 yX12_fails yX12_fails : Cond) ∈ TB := mSel (y := yX12_fails) (n := 32) (List.mem_of_getElem? (i := 59) (by decide +kernel)) (by decide +kernel)
theorem ws63 : (.selects RX12 yX12_nameRead yX12_nameRead : Cond) ∈ TB := mSel (y := yX12_nameRead) (n := 32) (List.mem_of_getElem? (i := 63) (by decide +kernel)) (by decide +kernel)
theorem ws64 : (.selects RX12 yX12_find yX12_find : Cond) ∈ TB := mSel (y := yX12_find) (n := 32) (List.mem_of_getElem? (i := 64) (by decide +kernel)) (by decide +kernel)
theorem ws68 : (.selects RX12 yX12_partyRead yX12_partyRead : Cond) ∈ TB := mSel (y := yX12_partyRead) (n := 32) (List.mem_of_getElem? (i := 68) (by decide +kernel)) (by decide +kernel)
theorem dX12_adds_0 : decode cX12_adds 0 = .ok (.iconst 2, 1) := by decide +kernel
theorem dX12_adds_1 : decode cX12_adds 1 = .ok (.iconst 5, 1) := by decide +kernel
theorem dX12_adds_2 : decode cX12_adds 2 = .ok (.aload_n 0, 1) := by decide +kernel
theorem dX12_adds_3 : decode cX12_adds 3 = .ok (.getfield 13, 3) := by decide +kernel
theorem dX12_adds_6 : decode cX12_adds 6 = .ok (.iconst 0, 1) := by decide +kernel
theorem dX12_adds_7 : decode cX12_adds 7 = .ok (.iaload, 1) := by decide +kernel
theorem dX12_adds_8 : decode cX12_adds 8 = .ok (.imul, 1) := by decide +kernel
theorem dX12_adds_9 : decode cX12_adds 9 = .ok (.iadd, 1) := by decide +kernel
theorem dX12_adds_10 : decode cX12_adds 10 = .ok (.istore 5, 2) := by decide +kernel
theorem dX12_adds_12 : decode cX12_adds 12 = .ok (.aload_n 0, 1) := by decide +kernel
theorem dX12_adds_13 : decode cX12_adds 13 = .ok (.getfield 13, 3) := by decide +kernel
theorem dX12_adds_16 : decode cX12_adds 16 = .ok (.iload 5, 2) := by decide +kernel
theorem dX12_adds_18 : decode cX12_adds 18 = .ok (.iload_n 1, 1) := by decide +kernel
theorem dX12_adds_19 : decode cX12_adds 19 = .ok (.iastore, 1) := by decide +kernel
theorem dX12_adds_20 : decode cX12_adds 20 = .ok (.aload_n 0, 1) := by decide +kernel
theorem dX12_adds_21 : decode cX12_adds 21 = .ok (.getfield 13, 3) := by decide +kernel
theorem dX12_adds_24 : decode cX12_adds 24 = .ok (.iload 5, 2) := by decide +kernel
theorem dX12_adds_26 : decode cX12_adds 26 = .ok (.iconst 1, 1) := by decide +kernel
theorem dX12_adds_27 : decode cX12_adds 27 = .ok (.iadd, 1) := by decide +kernel
theorem dX12_adds_28 : decode cX12_adds 28 = .ok (.iload_n 2, 1) := by decide +kernel
theorem dX12_adds_29 : decode cX12_adds 29 = .ok (.iastore, 1) := by decide +kernel
theorem dX12_adds_30 : decode cX12_adds 30 = .ok (.aload_n 0, 1) := by decide +kernel
theorem dX12_adds_31 : decode cX12_adds 31 = .ok (.getfield 13, 3) := by decide +kernel
theorem dX12_adds_34 : decode cX12_adds 34 = .ok (.iload 5, 2) := by decide +kernel
theorem dX12_adds_36 : decode cX12_adds 36 = .ok (.iconst 2, 1) := by decide +kernel
theorem dX12_adds_37 : decode cX12_adds 37 = .ok (.iadd, 1) := by decide +kernel
theorem dX12_adds_38 : decode cX12_adds 38 = .ok (.iload_n 3, 1) := by decide +kernel
theorem dX12_adds_39 : decode cX12_adds 39 = .ok (.iastore, 1) := by decide +kernel
theorem dX12_adds_40 : decode cX12_adds 40 = .ok (.aload_n 0, 1) := by decide +kernel
theorem dX12_adds_41 : decode cX12_adds 41 = .ok (.getfield 13, 3) := by decide +kernel
theorem dX12_adds_44 : decode cX12_adds 44 = .ok (.iload 5, 2) := by decide +kernel
theorem dX12_adds_46 : decode cX12_adds 46 = .ok (.iconst 3, 1) := by decide +kernel
theorem dX12_adds_47 : decode cX12_adds 47 = .ok (.iadd, 1) := by decide +kernel
theorem dX12_adds_48 : decode cX12_adds 48 = .ok (.iload 4, 2) := by decide +kernel
theorem dX12_adds_50 : decode cX12_adds 50 = .ok (.iastore, 1) := by decide +kernel
theorem dX12_adds_51 : decode cX12_adds 51 = .ok (.aload_n 0, 1) := by decide +kernel
theorem dX12_adds_52 : decode cX12_adds 52 = .ok (.getfield 13, 3) := by decide +kernel
theorem dX12_adds_55 : decode cX12_adds 55 = .ok (.iload 5, 2) := by decide +kernel
theorem dX12_adds_57 : decode cX12_adds 57 = .ok (.iconst 4, 1) := by decide +kernel
theorem dX12_adds_58 : decode cX12_adds 58 = .ok (.iadd, 1) := by decide +kernel
theorem dX12_adds_59 : decode cX12_adds 59 = .ok (.iconst 0, 1) := by decide +kernel
theorem dX12_adds_60 : decode cX12_adds 60 = .ok (.iastore, 1) := by decide +kernel
theorem dX12_adds_61 : decode cX12_adds 61 = .ok (.aload_n 0, 1) := by decide +kernel
theorem dX12_adds_62 : decode cX12_adds 62 = .ok (.getfield 13, 3) := by decide +kernel
theorem dX12_adds_65 : decode cX12_adds 65 = .ok (.iconst 0, 1) := by decide +kernel
theorem dX12_adds_66 : decode cX12_adds 66 = .ok (.dup2, 1) := by decide +kernel
theorem dX12_adds_67 : decode cX12_adds 67 = .ok (.iaload, 1) := by decide +kernel
theorem dX12_adds_68 : decode cX12_adds 68 = .ok (.iconst 1, 1) := by decide +kernel
theorem dX12_adds_69 : decode cX12_adds 69 = .ok (.iadd, 1) := by decide +kernel
theorem dX12_adds_70 : decode cX12_adds 70 = .ok (.iastore, 1) := by decide +kernel
theorem dX12_adds_71 : decode cX12_adds 71 = .ok (.return_, 1) := by decide +kernel
theorem dX12_fails_0 : decode cX12_fails 0 = .ok (.aload_n 0, 1) := by decide +kernel
theorem dX12_fails_1 : decode cX12_fails 1 = .ok (.getfield 96, 3) := by decide +kernel
theorem dX12_fails_4 : decode cX12_fails 4 = .ok (.ifCond .eq 4, 3) := by decide +kernel
theorem dX12_fails_7 : decode cX12_fails 7 = .ok (.return_, 1) := by decide +kernel
theorem dX12_fails_8 : decode cX12_fails 8 = .ok (.aload_n 0, 1) := by decide +kernel
theorem dX12_fails_9 : decode cX12_fails 9 = .ok (.iload_n 1, 1) := by decide +kernel
theorem dX12_fails_10 : decode cX12_fails 10 = .ok (.putfield 96, 3) := by decide +kernel
theorem dX12_fails_13 : decode cX12_fails 13 = .ok (.aload_n 0, 1) := by decide +kernel
theorem dX12_fails_14 : decode cX12_fails 14 = .ok (.iload_n 2, 1) := by decide +kernel
theorem dX12_fails_15 : decode cX12_fails 15 = .ok (.putfield 34, 3) := by decide +kernel
theorem dX12_fails_18 : decode cX12_fails 18 = .ok (.return_, 1) := by decide +kernel
theorem dX12_find_0 : decode cX12_find 0 = .ok (.iconst 0, 1) := by decide +kernel
theorem dX12_find_1 : decode cX12_find 1 = .ok (.istore 5, 2) := by decide +kernel
theorem dX12_find_3 : decode cX12_find 3 = .ok (.iload 5, 2) := by decide +kernel
theorem dX12_find_5 : decode cX12_find 5 = .ok (.iload 4, 2) := by decide +kernel
theorem dX12_find_7 : decode cX12_find 7 = .ok (.if_icmp .ge 26, 3) := by decide +kernel
theorem dX12_find_10 : decode cX12_find 10 = .ok (.aload_n 0, 1) := by decide +kernel
theorem dX12_find_11 : decode cX12_find 11 = .ok (.getfield 23, 3) := by decide +kernel
theorem dX12_find_14 : decode cX12_find 14 = .ok (.iload_n 3, 1) := by decide +kernel
theorem dX12_find_15 : decode cX12_find 15 = .ok (.iload 5, 2) := by decide +kernel
theorem dX12_find_17 : decode cX12_find 17 = .ok (.iadd, 1) := by decide +kernel
theorem dX12_find_18 : decode cX12_find 18 = .ok (.laload, 1) := by decide +kernel
theorem dX12_find_19 : decode cX12_find 19 = .ok (.lload_n 1, 1) := by decide +kernel
theorem dX12_find_20 : decode cX12_find 20 = .ok (.lcmp, 1) := by decide +kernel
theorem dX12_find_21 : decode cX12_find 21 = .ok (.ifCond .ne 6, 3) := by decide +kernel
theorem dX12_find_24 : decode cX12_find 24 = .ok (.iload 5, 2) := by decide +kernel
theorem dX12_find_26 : decode cX12_find 26 = .ok (.ireturn, 1) := by decide +kernel
theorem dX12_find_27 : decode cX12_find 27 = .ok (.iinc 5 1, 3) := by decide +kernel
theorem dX12_find_30 : decode cX12_find 30 = .ok (.goto (-27), 3) := by decide +kernel
theorem dX12_find_33 : decode cX12_find 33 = .ok (.iconst (-1), 1) := by decide +kernel
theorem dX12_find_34 : decode cX12_find 34 = .ok (.ireturn, 1) := by decide +kernel
theorem dX12_goes_0 : decode cX12_goes 0 = .ok (.aload_n 0, 1) := by decide +kernel
theorem dX12_goes_1 : decode cX12_goes 1 = .ok (.getfield 13, 3) := by decide +kernel
theorem dX12_goes_4 : decode cX12_goes 4 = .ok (.iconst 0, 1) := by decide +kernel
theorem dX12_goes_5 : decode cX12_goes 5 = .ok (.dup2, 1) := by decide +kernel
theorem dX12_goes_6 : decode cX12_goes 6 = .ok (.iaload, 1) := by decide +kernel
theorem dX12_goes_7 : decode cX12_goes 7 = .ok (.iconst 1, 1) := by decide +kernel
theorem dX12_goes_8 : decode cX12_goes 8 = .ok (.isub, 1) := by decide +kernel
theorem dX12_goes_9 : decode cX12_goes 9 = .ok (.iastore, 1) := by decide +kernel
theorem dX12_goes_10 : decode cX12_goes 10 = .ok (.iconst 2, 1) := by decide +kernel
theorem dX12_goes_11 : decode cX12_goes 11 = .ok (.iconst 5, 1) := by decide +kernel
theorem dX12_goes_12 : decode cX12_goes 12 = .ok (.iload_n 1, 1) := by decide +kernel
theorem dX12_goes_13 : decode cX12_goes 13 = .ok (.imul, 1) := by decide +kernel
theorem dX12_goes_14 : decode cX12_goes 14 = .ok (.iadd, 1) := by decide +kernel
theorem dX12_goes_15 : decode cX12_goes 15 = .ok (.istore_n 2, 1) := by decide +kernel
theorem dX12_goes_16 : decode cX12_goes 16 = .ok (.iload_n 2, 1) := by decide +kernel
theorem dX12_goes_17 : decode cX12_goes 17 = .ok (.iconst 2, 1) := by decide +kernel
theorem dX12_goes_18 : decode cX12_goes 18 = .ok (.iconst 5, 1) := by decide +kernel
theorem dX12_goes_19 : decode cX12_goes 19 = .ok (.aload_n 0, 1) := by decide +kernel
theorem dX12_goes_20 : decode cX12_goes 20 = .ok (.getfield 13, 3) := by decide +kernel
theorem dX12_goes_23 : decode cX12_goes 23 = .ok (.iconst 0, 1) := by decide +kernel
theorem dX12_goes_24 : decode cX12_goes 24 = .ok (.iaload, 1) := by decide +kernel
theorem dX12_goes_25 : decode cX12_goes 25 = .ok (.imul, 1) := by decide +kernel
theorem dX12_goes_26 : decode cX12_goes 26 = .ok (.iadd, 1) := by decide +kernel
theorem dX12_goes_27 : decode cX12_goes 27 = .ok (.if_icmp .ge 23, 3) := by decide +kernel
theorem dX12_goes_30 : decode cX12_goes 30 = .ok (.aload_n 0, 1) := by decide +kernel
theorem dX12_goes_31 : decode cX12_goes 31 = .ok (.getfield 13, 3) := by decide +kernel
theorem dX12_goes_34 : decode cX12_goes 34 = .ok (.iload_n 2, 1) := by decide +kernel
theorem dX12_goes_35 : decode cX12_goes 35 = .ok (.aload_n 0, 1) := by decide +kernel
theorem dX12_goes_36 : decode cX12_goes 36 = .ok (.getfield 13, 3) := by decide +kernel
theorem dX12_goes_39 : decode cX12_goes 39 = .ok (.iload_n 2, 1) := by decide +kernel
theorem dX12_goes_40 : decode cX12_goes 40 = .ok (.iconst 5, 1) := by decide +kernel
theorem dX12_goes_41 : decode cX12_goes 41 = .ok (.iadd, 1) := by decide +kernel
theorem dX12_goes_42 : decode cX12_goes 42 = .ok (.iaload, 1) := by decide +kernel
theorem dX12_goes_43 : decode cX12_goes 43 = .ok (.iastore, 1) := by decide +kernel
theorem dX12_goes_44 : decode cX12_goes 44 = .ok (.iinc 2 1, 3) := by decide +kernel
theorem dX12_goes_47 : decode cX12_goes 47 = .ok (.goto (-31), 3) := by decide +kernel
theorem dX12_goes_50 : decode cX12_goes 50 = .ok (.return_, 1) := by decide +kernel
theorem dX12_isDigit_0 : decode cX12_isDigit 0 = .ok (.iload_n 0, 1) := by decide +kernel
theorem dX12_isDigit_1 : decode cX12_isDigit 1 = .ok (.i2l, 1) := by decide +kernel
theorem dX12_isDigit_2 : decode cX12_isDigit 2 = .ok (.ldc2_w 107, 3) := by decide +kernel
theorem dX12_isDigit_5 : decode cX12_isDigit 5 = .ok (.ldc2_w 109, 3) := by decide +kernel
theorem dX12_isDigit_8 : decode cX12_isDigit 8 = .ok (.invokestatic 103, 3) := by decide +kernel
theorem dX12_isDigit_11 : decode cX12_isDigit 11 = .ok (.ireturn, 1) := by decide +kernel
theorem dX12_isFull_0 : decode cX12_isFull 0 = .ok (.iload_n 1, 1) := by decide +kernel
theorem dX12_isFull_1 : decode cX12_isFull 1 = .ok (.ifCond .ne 12, 3) := by decide +kernel
theorem dX12_isFull_4 : decode cX12_isFull 4 = .ok (.aload_n 0, 1) := by decide +kernel
theorem dX12_isFull_5 : decode cX12_isFull 5 = .ok (.getfield 80, 3) := by decide +kernel
theorem dX12_isFull_8 : decode cX12_isFull 8 = .ok (.bipush 8, 2) := by decide +kernel
theorem dX12_isFull_10 : decode cX12_isFull 10 = .ok (.if_icmp .eq 32, 3) := by decide +kernel
theorem dX12_isFull_13 : decode cX12_isFull 13 = .ok (.iload_n 1, 1) := by decide +kernel
theorem dX12_isFull_14 : decode cX12_isFull 14 = .ok (.iconst 1, 1) := by decide +kernel
theorem dX12_isFull_15 : decode cX12_isFull 15 = .ok (.if_icmp .ne 11, 3) := by decide +kernel
theorem dX12_isFull_18 : decode cX12_isFull 18 = .ok (.aload_n 0, 1) := by decide +kernel
theorem dX12_isFull_19 : decode cX12_isFull 19 = .ok (.getfield 83, 3) := by decide +kernel
theorem dX12_isFull_22 : decode cX12_isFull 22 = .ok (.iconst 4, 1) := by decide +kernel
theorem dX12_isFull_23 : decode cX12_isFull 23 = .ok (.if_icmp .eq 19, 3) := by decide +kernel
theorem dX12_isFull_26 : decode cX12_isFull 26 = .ok (.iload_n 1, 1) := by decide +kernel
theorem dX12_isFull_27 : decode cX12_isFull 27 = .ok (.iconst 2, 1) := by decide +kernel
theorem dX12_isFull_28 : decode cX12_isFull 28 = .ok (.if_icmp .ne 18, 3) := by decide +kernel
theorem dX12_isFull_31 : decode cX12_isFull 31 = .ok (.aload_n 0, 1) := by decide +kernel
theorem dX12_isFull_32 : decode cX12_isFull 32 = .ok (.getfield 13, 3) := by decide +kernel
theorem dX12_isFull_35 : decode cX12_isFull 35 = .ok (.iconst 0, 1) := by decide +kernel
theorem dX12_isFull_36 : decode cX12_isFull 36 = .ok (.iaload, 1) := by decide +kernel
theorem dX12_isFull_37 : decode cX12_isFull 37 = .ok (.bipush 40, 2) := by decide +kernel
theorem dX12_isFull_39 : decode cX12_isFull 39 = .ok (.if_icmp .ne 7, 3) := by decide +kernel
theorem dX12_isFull_42 : decode cX12_isFull 42 = .ok (.iconst 1, 1) := by decide +kernel
theorem dX12_isFull_43 : decode cX12_isFull 43 = .ok (.goto 4, 3) := by decide +kernel
theorem dX12_isFull_46 : decode cX12_isFull 46 = .ok (.iconst 0, 1) := by decide +kernel
theorem dX12_isFull_47 : decode cX12_isFull 47 = .ok (.ireturn, 1) := by decide +kernel
theorem dX12_isIn_0 : decode cX12_isIn 0 = .ok (.lload_n 0, 1) := by decide +kernel
theorem dX12_isIn_1 : decode cX12_isIn 1 = .ok (.lload_n 2, 1) := by decide +kernel
theorem dX12_isIn_2 : decode cX12_isIn 2 = .ok (.lcmp, 1) := by decide +kernel
theorem dX12_isIn_3 : decode cX12_isIn 3 = .ok (.ifCond .lt 14, 3) := by decide +kernel
theorem dX12_isIn_6 : decode cX12_isIn 6 = .ok (.lload_n 0, 1) := by decide +kernel
theorem dX12_isIn_7 : decode cX12_isIn 7 = .ok (.lload 4, 2) := by decide +kernel
theorem dX12_isIn_9 : decode cX12_isIn 9 = .ok (.lcmp, 1) := by decide +kernel
theorem dX12_isIn_10 : decode cX12_isIn 10 = .ok (.ifCond .gt 7, 3) := by decide +kernel
theorem dX12_isIn_13 : decode cX12_isIn 13 = .ok (.iconst 1, 1) := by decide +kernel
theorem dX12_isIn_14 : decode cX12_isIn 14 = .ok (.goto 4, 3) := by decide +kernel
theorem dX12_isIn_17 : decode cX12_isIn 17 = .ok (.iconst 0, 1) := by decide +kernel
theorem dX12_isIn_18 : decode cX12_isIn 18 = .ok (.ireturn, 1) := by decide +kernel
theorem dX12_isLetter_0 : decode cX12_isLetter 0 = .ok (.iload_n 0, 1) := by decide +kernel
theorem dX12_isLetter_1 : decode cX12_isLetter 1 = .ok (.i2l, 1) := by decide +kernel
theorem dX12_isLetter_2 : decode cX12_isLetter 2 = .ok (.ldc2_w 99, 3) := by decide +kernel
theorem dX12_isLetter_5 : decode cX12_isLetter 5 = .ok (.ldc2_w 101, 3) := by decide +kernel
theorem dX12_isLetter_8 : decode cX12_isLetter 8 = .ok (.invokestatic 103, 3) := by decide +kernel
theorem dX12_isLetter_11 : decode cX12_isLetter 11 = .ok (.ireturn, 1) := by decide +kernel
theorem dX12_kindRead_0 : decode cX12_kindRead 0 = .ok (.aload_n 0, 1) := by decide +kernel
theorem dX12_kindRead_1 : decode cX12_kindRead 1 = .ok (.aload_n 0, 1) := by decide +kernel
theorem dX12_kindRead_2 : decode cX12_kindRead 2 = .ok (.invokevirtual 146, 3) := by decide +kernel
theorem dX12_kindRead_5 : decode cX12_kindRead 5 = .ok (.bipush 8, 2) := by decide +kernel
theorem dX12_kindRead_7 : decode cX12_kindRead 7 = .ok (.aload_n 0, 1) := by decide +kernel
theorem dX12_kindRead_8 : decode cX12_kindRead 8 = .ok (.getfield 83, 3) := by decide +kernel
theorem dX12_kindRead_11 : decode cX12_kindRead 11 = .ok (.invokevirtual 150, 3) := by decide +kernel
theorem dX12_kindRead_14 : decode cX12_kindRead 14 = .ok (.istore_n 1, 1) := by decide +kernel
theorem dX12_kindRead_15 : decode cX12_kindRead 15 = .ok (.iload_n 1, 1) := by decide +kernel
theorem dX12_kindRead_16 : decode cX12_kindRead 16 = .ok (.iconst (-1), 1) := by decide +kernel
theorem dX12_kindRead_17 : decode cX12_kindRead 17 = .ok (.if_icmp .ne 12, 3) := by decide +kernel
theorem dX12_kindRead_20 : decode cX12_kindRead 20 = .ok (.aload_n 0, 1) := by decide +kernel
theorem dX12_kindRead_21 : decode cX12_kindRead 21 = .ok (.iconst 3, 1) := by decide +kernel
theorem dX12_kindRead_22 : decode cX12_kindRead 22 = .ok (.aload_n 0, 1) := by decide +kernel
theorem dX12_kindRead_23 : decode cX12_kindRead 23 = .ok (.getfield 140, 3) := by decide +kernel
theorem dX12_kindRead_26 : decode cX12_kindRead 26 = .ok (.invokevirtual 136, 3) := by decide +kernel
theorem dX12_kindRead_29 : decode cX12_kindRead 29 = .ok (.aload_n 0, 1) := by decide +kernel
theorem dX12_kindRead_30 : decode cX12_kindRead 30 = .ok (.getfield 96, 3) := by decide +kernel
theorem dX12_kindRead_33 : decode cX12_kindRead 33 = .ok (.ifCond .ne 7, 3) := by decide +kernel
theorem dX12_kindRead_36 : decode cX12_kindRead 36 = .ok (.iload_n 1, 1) := by decide +kernel
theorem dX12_kindRead_37 : decode cX12_kindRead 37 = .ok (.goto 4, 3) := by decide +kernel
theorem dX12_kindRead_40 : decode cX12_kindRead 40 = .ok (.iconst 0, 1) := by decide +kernel
theorem dX12_kindRead_41 : decode cX12_kindRead 41 = .ok (.ireturn, 1) := by decide +kernel
theorem dX12_lettersHere_0 : decode cX12_lettersHere 0 = .ok (.iconst 0, 1) := by decide +kernel
theorem dX12_lettersHere_1 : decode cX12_lettersHere 1 = .ok (.istore_n 1, 1) := by decide +kernel
theorem dX12_lettersHere_2 : decode cX12_lettersHere 2 = .ok (.aload_n 0, 1) := by decide +kernel
theorem dX12_lettersHere_3 : decode cX12_lettersHere 3 = .ok (.getfield 90, 3) := by decide +kernel
theorem dX12_lettersHere_6 : decode cX12_lettersHere 6 = .ok (.iload_n 1, 1) := by decide +kernel
theorem dX12_lettersHere_7 : decode cX12_lettersHere 7 = .ok (.iadd, 1) := by decide +kernel
theorem dX12_lettersHere_8 : decode cX12_lettersHere 8 = .ok (.aload_n 0, 1) := by decide +kernel
theorem dX12_lettersHere_9 : decode cX12_lettersHere 9 = .ok (.getfield 93, 3) := by decide +kernel
theorem dX12_lettersHere_12 : decode cX12_lettersHere 12 = .ok (.if_icmp .ge 26, 3) := by decide +kernel
theorem dX12_lettersHere_15 : decode cX12_lettersHere 15 = .ok (.aload_n 0, 1) := by decide +kernel
theorem dX12_lettersHere_16 : decode cX12_lettersHere 16 = .ok (.getfield 30, 3) := by decide +kernel
theorem dX12_lettersHere_19 : decode cX12_lettersHere 19 = .ok (.aload_n 0, 1) := by decide +kernel
theorem dX12_lettersHere_20 : decode cX12_lettersHere 20 = .ok (.getfield 90, 3) := by decide +kernel
theorem dX12_lettersHere_23 : decode cX12_lettersHere 23 = .ok (.iload_n 1, 1) := by decide +kernel
theorem dX12_lettersHere_24 : decode cX12_lettersHere 24 = .ok (.iadd, 1) := by decide +kernel
theorem dX12_lettersHere_25 : decode cX12_lettersHere 25 = .ok (.baload, 1) := by decide +kernel
theorem dX12_lettersHere_26 : decode cX12_lettersHere 26 = .ok (.invokestatic 111, 3) := by decide +kernel
theorem dX12_lettersHere_29 : decode cX12_lettersHere 29 = .ok (.ifCond .eq 9, 3) := by decide +kernel
theorem dX12_lettersHere_32 : decode cX12_lettersHere 32 = .ok (.iinc 1 1, 3) := by decide +kernel
theorem dX12_lettersHere_35 : decode cX12_lettersHere 35 = .ok (.goto (-33), 3) := by decide +kernel
theorem dX12_lettersHere_38 : decode cX12_lettersHere 38 = .ok (.iload_n 1, 1) := by decide +kernel
theorem dX12_lettersHere_39 : decode cX12_lettersHere 39 = .ok (.ireturn, 1) := by decide +kernel
theorem dX12_nameRead_0 : decode cX12_nameRead 0 = .ok (.aload_n 0, 1) := by decide +kernel
theorem dX12_nameRead_1 : decode cX12_nameRead 1 = .ok (.getfield 96, 3) := by decide +kernel
theorem dX12_nameRead_4 : decode cX12_nameRead 4 = .ok (.ifCond .eq 5, 3) := by decide +kernel
theorem dX12_nameRead_7 : decode cX12_nameRead 7 = .ok (.lconst 0, 1) := by decide +kernel
theorem dX12_nameRead_8 : decode cX12_nameRead 8 = .ok (.lreturn, 1) := by decide +kernel
theorem dX12_nameRead_9 : decode cX12_nameRead 9 = .ok (.aload_n 0, 1) := by decide +kernel
theorem dX12_nameRead_10 : decode cX12_nameRead 10 = .ok (.invokevirtual 115, 3) := by decide +kernel
theorem dX12_nameRead_13 : decode cX12_nameRead 13 = .ok (.invokestatic 111, 3) := by decide +kernel
theorem dX12_nameRead_16 : decode cX12_nameRead 16 = .ok (.ifCond .eq 20, 3) := by decide +kernel
theorem dX12_nameRead_19 : decode cX12_nameRead 19 = .ok (.aload_n 0, 1) := by decide +kernel
theorem dX12_nameRead_20 : decode cX12_nameRead 20 = .ok (.invokevirtual 119, 3) := by decide +kernel
theorem dX12_nameRead_23 : decode cX12_nameRead 23 = .ok (.bipush 8, 2) := by decide +kernel
theorem dX12_nameRead_25 : decode cX12_nameRead 25 = .ok (.if_icmp .gt 11, 3) := by decide +kernel
theorem dX12_nameRead_28 : decode cX12_nameRead 28 = .ok (.aload_n 0, 1) := by decide +kernel
theorem dX12_nameRead_29 : decode cX12_nameRead 29 = .ok (.invokevirtual 143, 3) := by decide +kernel
theorem dX12_nameRead_32 : decode cX12_nameRead 32 = .ok (.iconst (-1), 1) := by decide +kernel
theorem dX12_nameRead_33 : decode cX12_nameRead 33 = .ok (.if_icmp .eq 14, 3) := by decide +kernel
theorem dX12_nameRead_36 : decode cX12_nameRead 36 = .ok (.aload_n 0, 1) := by decide +kernel
theorem dX12_nameRead_37 : decode cX12_nameRead 37 = .ok (.iconst 1, 1) := by decide +kernel
theorem dX12_nameRead_38 : decode cX12_nameRead 38 = .ok (.aload_n 0, 1) := by decide +kernel
theorem dX12_nameRead_39 : decode cX12_nameRead 39 = .ok (.getfield 90, 3) := by decide +kernel
theorem dX12_nameRead_42 : decode cX12_nameRead 42 = .ok (.invokevirtual 136, 3) := by decide +kernel
theorem dX12_nameRead_45 : decode cX12_nameRead 45 = .ok (.lconst 0, 1) := by decide +kernel
theorem dX12_nameRead_46 : decode cX12_nameRead 46 = .ok (.lreturn, 1) := by decide +kernel
theorem dX12_nameRead_47 : decode cX12_nameRead 47 = .ok (.aload_n 0, 1) := by decide +kernel
theorem dX12_nameRead_48 : decode cX12_nameRead 48 = .ok (.aload_n 0, 1) := by decide +kernel
theorem dX12_nameRead_49 : decode cX12_nameRead 49 = .ok (.getfield 90, 3) := by decide +kernel
theorem dX12_nameRead_52 : decode cX12_nameRead 52 = .ok (.putfield 140, 3) := by decide +kernel
theorem dX12_nameRead_55 : decode cX12_nameRead 55 = .ok (.lconst 0, 1) := by decide +kernel
theorem dX12_nameRead_56 : decode cX12_nameRead 56 = .ok (.lstore_n 1, 1) := by decide +kernel
theorem dX12_nameRead_57 : decode cX12_nameRead 57 = .ok (.aload_n 0, 1) := by decide +kernel
theorem dX12_nameRead_58 : decode cX12_nameRead 58 = .ok (.invokevirtual 119, 3) := by decide +kernel
theorem dX12_nameRead_61 : decode cX12_nameRead 61 = .ok (.istore_n 3, 1) := by decide +kernel
theorem dX12_nameRead_62 : decode cX12_nameRead 62 = .ok (.iconst 0, 1) := by decide +kernel
theorem dX12_nameRead_63 : decode cX12_nameRead 63 = .ok (.istore 4, 2) := by decide +kernel
theorem dX12_nameRead_65 : decode cX12_nameRead 65 = .ok (.iload 4, 2) := by decide +kernel
theorem dX12_nameRead_67 : decode cX12_nameRead 67 = .ok (.iload_n 3, 1) := by decide +kernel
theorem dX12_nameRead_68 : decode cX12_nameRead 68 = .ok (.if_icmp .ge 28, 3) := by decide +kernel
theorem dX12_nameRead_71 : decode cX12_nameRead 71 = .ok (.lload_n 1, 1) := by decide +kernel
theorem dX12_nameRead_72 : decode cX12_nameRead 72 = .ok (.bipush 8, 2) := by decide +kernel
theorem dX12_nameRead_74 : decode cX12_nameRead 74 = .ok (.lshl, 1) := by decide +kernel
theorem dX12_nameRead_75 : decode cX12_nameRead 75 = .ok (.aload_n 0, 1) := by decide +kernel
theorem dX12_nameRead_76 : decode cX12_nameRead 76 = .ok (.getfield 30, 3) := by decide +kernel
theorem dX12_nameRead_79 : decode cX12_nameRead 79 = .ok (.aload_n 0, 1) := by decide +kernel
theorem dX12_nameRead_80 : decode cX12_nameRead 80 = .ok (.getfield 90, 3) := by decide +kernel
theorem dX12_nameRead_83 : decode cX12_nameRead 83 = .ok (.iload 4, 2) := by decide +kernel
theorem dX12_nameRead_85 : decode cX12_nameRead 85 = .ok (.iadd, 1) := by decide +kernel
theorem dX12_nameRead_86 : decode cX12_nameRead 86 = .ok (.baload, 1) := by decide +kernel
theorem dX12_nameRead_87 : decode cX12_nameRead 87 = .ok (.i2l, 1) := by decide +kernel
theorem dX12_nameRead_88 : decode cX12_nameRead 88 = .ok (.lor, 1) := by decide +kernel
theorem dX12_nameRead_89 : decode cX12_nameRead 89 = .ok (.lstore_n 1, 1) := by decide +kernel
theorem dX12_nameRead_90 : decode cX12_nameRead 90 = .ok (.iinc 4 1, 3) := by decide +kernel
theorem dX12_nameRead_93 : decode cX12_nameRead 93 = .ok (.goto (-28), 3) := by decide +kernel
theorem dX12_nameRead_96 : decode cX12_nameRead 96 = .ok (.aload_n 0, 1) := by decide +kernel
theorem dX12_nameRead_97 : decode cX12_nameRead 97 = .ok (.dup, 1) := by decide +kernel
theorem dX12_nameRead_98 : decode cX12_nameRead 98 = .ok (.getfield 90, 3) := by decide +kernel
theorem dX12_nameRead_101 : decode cX12_nameRead 101 = .ok (.iload_n 3, 1) := by decide +kernel
theorem dX12_nameRead_102 : decode cX12_nameRead 102 = .ok (.iadd, 1) := by decide +kernel
theorem dX12_nameRead_103 : decode cX12_nameRead 103 = .ok (.putfield 90, 3) := by decide +kernel
theorem dX12_nameRead_106 : decode cX12_nameRead 106 = .ok (.lload_n 1, 1) := by decide +kernel
theorem dX12_nameRead_107 : decode cX12_nameRead 107 = .ok (.lreturn, 1) := by decide +kernel
theorem dX12_newName_0 : decode cX12_newName 0 = .ok (.aload_n 0, 1) := by decide +kernel
theorem dX12_newName_1 : decode cX12_newName 1 = .ok (.invokevirtual 146, 3) := by decide +kernel
theorem dX12_newName_4 : decode cX12_newName 4 = .ok (.lstore_n 2, 1) := by decide +kernel
theorem dX12_newName_5 : decode cX12_newName 5 = .ok (.aload_n 0, 1) := by decide +kernel
theorem dX12_newName_6 : decode cX12_newName 6 = .ok (.getfield 96, 3) := by decide +kernel
theorem dX12_newName_9 : decode cX12_newName 9 = .ok (.ifCond .ne 41, 3) := by decide +kernel
theorem dX12_newName_12 : decode cX12_newName 12 = .ok (.aload_n 0, 1) := by decide +kernel
theorem dX12_newName_13 : decode cX12_newName 13 = .ok (.lload_n 2, 1) := by decide +kernel
theorem dX12_newName_14 : decode cX12_newName 14 = .ok (.iconst 0, 1) := by decide +kernel
theorem dX12_newName_15 : decode cX12_newName 15 = .ok (.aload_n 0, 1) := by decide +kernel
theorem dX12_newName_16 : decode cX12_newName 16 = .ok (.getfield 80, 3) := by decide +kernel
theorem dX12_newName_19 : decode cX12_newName 19 = .ok (.invokevirtual 150, 3) := by decide +kernel
theorem dX12_newName_22 : decode cX12_newName 22 = .ok (.iconst (-1), 1) := by decide +kernel
theorem dX12_newName_23 : decode cX12_newName 23 = .ok (.if_icmp .ne 18, 3) := by decide +kernel
theorem dX12_newName_26 : decode cX12_newName 26 = .ok (.aload_n 0, 1) := by decide +kernel
theorem dX12_newName_27 : decode cX12_newName 27 = .ok (.lload_n 2, 1) := by decide +kernel
theorem dX12_newName_28 : decode cX12_newName 28 = .ok (.bipush 8, 2) := by decide +kernel
theorem dX12_newName_30 : decode cX12_newName 30 = .ok (.aload_n 0, 1) := by decide +kernel
theorem dX12_newName_31 : decode cX12_newName 31 = .ok (.getfield 83, 3) := by decide +kernel
theorem dX12_newName_34 : decode cX12_newName 34 = .ok (.invokevirtual 150, 3) := by decide +kernel
theorem dX12_newName_37 : decode cX12_newName 37 = .ok (.iconst (-1), 1) := by decide +kernel
theorem dX12_newName_38 : decode cX12_newName 38 = .ok (.if_icmp .eq 12, 3) := by decide +kernel
theorem dX12_newName_41 : decode cX12_newName 41 = .ok (.aload_n 0, 1) := by decide +kernel
theorem dX12_newName_42 : decode cX12_newName 42 = .ok (.iconst 3, 1) := by decide +kernel
theorem dX12_newName_43 : decode cX12_newName 43 = .ok (.aload_n 0, 1) := by decide +kernel
theorem dX12_newName_44 : decode cX12_newName 44 = .ok (.getfield 140, 3) := by decide +kernel
theorem dX12_newName_47 : decode cX12_newName 47 = .ok (.invokevirtual 136, 3) := by decide +kernel
theorem dX12_newName_50 : decode cX12_newName 50 = .ok (.aload_n 0, 1) := by decide +kernel
theorem dX12_newName_51 : decode cX12_newName 51 = .ok (.getfield 23, 3) := by decide +kernel
theorem dX12_newName_54 : decode cX12_newName 54 = .ok (.iload_n 1, 1) := by decide +kernel
theorem dX12_newName_55 : decode cX12_newName 55 = .ok (.lload_n 2, 1) := by decide +kernel
theorem dX12_newName_56 : decode cX12_newName 56 = .ok (.lastore, 1) := by decide +kernel
theorem dX12_newName_57 : decode cX12_newName 57 = .ok (.return_, 1) := by decide +kernel
theorem dX12_numeral_0 : decode cX12_numeral 0 = .ok (.aload_n 0, 1) := by decide +kernel
theorem dX12_numeral_1 : decode cX12_numeral 1 = .ok (.getfield 96, 3) := by decide +kernel
theorem dX12_numeral_4 : decode cX12_numeral 4 = .ok (.ifCond .eq 5, 3) := by decide +kernel
theorem dX12_numeral_7 : decode cX12_numeral 7 = .ok (.iload_n 1, 1) := by decide +kernel
theorem dX12_numeral_8 : decode cX12_numeral 8 = .ok (.ireturn, 1) := by decide +kernel
theorem dX12_numeral_9 : decode cX12_numeral 9 = .ok (.aload_n 0, 1) := by decide +kernel
theorem dX12_numeral_10 : decode cX12_numeral 10 = .ok (.invokevirtual 115, 3) := by decide +kernel
theorem dX12_numeral_13 : decode cX12_numeral 13 = .ok (.invokestatic 133, 3) := by decide +kernel
theorem dX12_numeral_16 : decode cX12_numeral 16 = .ok (.ifCond .ne 14, 3) := by decide +kernel
theorem dX12_numeral_19 : decode cX12_numeral 19 = .ok (.aload_n 0, 1) := by decide +kernel
theorem dX12_numeral_20 : decode cX12_numeral 20 = .ok (.iconst 1, 1) := by decide +kernel
theorem dX12_numeral_21 : decode cX12_numeral 21 = .ok (.aload_n 0, 1) := by decide +kernel
theorem dX12_numeral_22 : decode cX12_numeral 22 = .ok (.getfield 90, 3) := by decide +kernel
theorem dX12_numeral_25 : decode cX12_numeral 25 = .ok (.invokevirtual 136, 3) := by decide +kernel
theorem dX12_numeral_28 : decode cX12_numeral 28 = .ok (.iload_n 1, 1) := by decide +kernel
theorem dX12_numeral_29 : decode cX12_numeral 29 = .ok (.ireturn, 1) := by decide +kernel
theorem dX12_numeral_30 : decode cX12_numeral 30 = .ok (.aload_n 0, 1) := by decide +kernel
theorem dX12_numeral_31 : decode cX12_numeral 31 = .ok (.aload_n 0, 1) := by decide +kernel
theorem dX12_numeral_32 : decode cX12_numeral 32 = .ok (.getfield 90, 3) := by decide +kernel
theorem dX12_numeral_35 : decode cX12_numeral 35 = .ok (.putfield 140, 3) := by decide +kernel
theorem dX12_numeral_38 : decode cX12_numeral 38 = .ok (.iconst 0, 1) := by decide +kernel
theorem dX12_numeral_39 : decode cX12_numeral 39 = .ok (.istore_n 3, 1) := by decide +kernel
theorem dX12_numeral_40 : decode cX12_numeral 40 = .ok (.aload_n 0, 1) := by decide +kernel
theorem dX12_numeral_41 : decode cX12_numeral 41 = .ok (.getfield 90, 3) := by decide +kernel
theorem dX12_numeral_44 : decode cX12_numeral 44 = .ok (.aload_n 0, 1) := by decide +kernel
theorem dX12_numeral_45 : decode cX12_numeral 45 = .ok (.getfield 93, 3) := by decide +kernel
theorem dX12_numeral_48 : decode cX12_numeral 48 = .ok (.if_icmp .ge 63, 3) := by decide +kernel
theorem dX12_numeral_51 : decode cX12_numeral 51 = .ok (.aload_n 0, 1) := by decide +kernel
theorem dX12_numeral_52 : decode cX12_numeral 52 = .ok (.getfield 30, 3) := by decide +kernel
theorem dX12_numeral_55 : decode cX12_numeral 55 = .ok (.aload_n 0, 1) := by decide +kernel
theorem dX12_numeral_56 : decode cX12_numeral 56 = .ok (.getfield 90, 3) := by decide +kernel
theorem dX12_numeral_59 : decode cX12_numeral 59 = .ok (.baload, 1) := by decide +kernel
theorem dX12_numeral_60 : decode cX12_numeral 60 = .ok (.invokestatic 133, 3) := by decide +kernel
theorem dX12_numeral_63 : decode cX12_numeral 63 = .ok (.ifCond .eq 48, 3) := by decide +kernel
theorem dX12_numeral_66 : decode cX12_numeral 66 = .ok (.aload_n 0, 1) := by decide +kernel
theorem dX12_numeral_67 : decode cX12_numeral 67 = .ok (.getfield 90, 3) := by decide +kernel
theorem dX12_numeral_70 : decode cX12_numeral 70 = .ok (.aload_n 0, 1) := by decide +kernel
theorem dX12_numeral_71 : decode cX12_numeral 71 = .ok (.getfield 140, 3) := by decide +kernel
theorem dX12_numeral_74 : decode cX12_numeral 74 = .ok (.isub, 1) := by decide +kernel
theorem dX12_numeral_75 : decode cX12_numeral 75 = .ok (.bipush 8, 2) := by decide +kernel
theorem dX12_numeral_77 : decode cX12_numeral 77 = .ok (.if_icmp .ge 21, 3) := by decide +kernel
theorem dX12_numeral_80 : decode cX12_numeral 80 = .ok (.bipush 10, 2) := by decide +kernel
theorem dX12_numeral_82 : decode cX12_numeral 82 = .ok (.iload_n 3, 1) := by decide +kernel
theorem dX12_numeral_83 : decode cX12_numeral 83 = .ok (.imul, 1) := by decide +kernel
theorem dX12_numeral_84 : decode cX12_numeral 84 = .ok (.aload_n 0, 1) := by decide +kernel
theorem dX12_numeral_85 : decode cX12_numeral 85 = .ok (.getfield 30, 3) := by decide +kernel
theorem dX12_numeral_88 : decode cX12_numeral 88 = .ok (.aload_n 0, 1) := by decide +kernel
theorem dX12_numeral_89 : decode cX12_numeral 89 = .ok (.getfield 90, 3) := by decide +kernel
theorem dX12_numeral_92 : decode cX12_numeral 92 = .ok (.baload, 1) := by decide +kernel
theorem dX12_numeral_93 : decode cX12_numeral 93 = .ok (.iadd, 1) := by decide +kernel
theorem dX12_numeral_94 : decode cX12_numeral 94 = .ok (.bipush 48, 2) := by decide +kernel
theorem dX12_numeral_96 : decode cX12_numeral 96 = .ok (.isub, 1) := by decide +kernel
theorem dX12_numeral_97 : decode cX12_numeral 97 = .ok (.istore_n 3, 1) := by decide +kernel
theorem dX12_numeral_98 : decode cX12_numeral 98 = .ok (.aload_n 0, 1) := by decide +kernel
theorem dX12_numeral_99 : decode cX12_numeral 99 = .ok (.dup, 1) := by decide +kernel
theorem dX12_numeral_100 : decode cX12_numeral 100 = .ok (.getfield 90, 3) := by decide +kernel
theorem dX12_numeral_103 : decode cX12_numeral 103 = .ok (.iconst 1, 1) := by decide +kernel
theorem dX12_numeral_104 : decode cX12_numeral 104 = .ok (.iadd, 1) := by decide +kernel
theorem dX12_numeral_105 : decode cX12_numeral 105 = .ok (.putfield 90, 3) := by decide +kernel
theorem dX12_numeral_108 : decode cX12_numeral 108 = .ok (.goto (-68), 3) := by decide +kernel
theorem dX12_numeral_111 : decode cX12_numeral 111 = .ok (.aload_n 0, 1) := by decide +kernel
theorem dX12_numeral_112 : decode cX12_numeral 112 = .ok (.getfield 90, 3) := by decide +kernel
theorem dX12_numeral_115 : decode cX12_numeral 115 = .ok (.aload_n 0, 1) := by decide +kernel
theorem dX12_numeral_116 : decode cX12_numeral 116 = .ok (.getfield 140, 3) := by decide +kernel
theorem dX12_numeral_119 : decode cX12_numeral 119 = .ok (.isub, 1) := by decide +kernel
theorem dX12_numeral_120 : decode cX12_numeral 120 = .ok (.bipush 8, 2) := by decide +kernel
theorem dX12_numeral_122 : decode cX12_numeral 122 = .ok (.if_icmp .gt 15, 3) := by decide +kernel
theorem dX12_numeral_125 : decode cX12_numeral 125 = .ok (.iload_n 3, 1) := by decide +kernel
theorem dX12_numeral_126 : decode cX12_numeral 126 = .ok (.i2l, 1) := by decide +kernel
theorem dX12_numeral_127 : decode cX12_numeral 127 = .ok (.iload_n 1, 1) := by decide +kernel
theorem dX12_numeral_128 : decode cX12_numeral 128 = .ok (.i2l, 1) := by decide +kernel
theorem dX12_numeral_129 : decode cX12_numeral 129 = .ok (.iload_n 2, 1) := by decide +kernel
theorem dX12_numeral_130 : decode cX12_numeral 130 = .ok (.i2l, 1) := by decide +kernel
theorem dX12_numeral_131 : decode cX12_numeral 131 = .ok (.invokestatic 103, 3) := by decide +kernel
theorem dX12_numeral_134 : decode cX12_numeral 134 = .ok (.ifCond .ne 12, 3) := by decide +kernel
theorem dX12_numeral_137 : decode cX12_numeral 137 = .ok (.aload_n 0, 1) := by decide +kernel
theorem dX12_numeral_138 : decode cX12_numeral 138 = .ok (.iconst 2, 1) := by decide +kernel
theorem dX12_numeral_139 : decode cX12_numeral 139 = .ok (.aload_n 0, 1) := by decide +kernel
theorem dX12_numeral_140 : decode cX12_numeral 140 = .ok (.getfield 140, 3) := by decide +kernel
theorem dX12_numeral_143 : decode cX12_numeral 143 = .ok (.invokevirtual 136, 3) := by decide +kernel
theorem dX12_numeral_146 : decode cX12_numeral 146 = .ok (.aload_n 0, 1) := by decide +kernel
theorem dX12_numeral_147 : decode cX12_numeral 147 = .ok (.getfield 96, 3) := by decide +kernel
theorem dX12_numeral_150 : decode cX12_numeral 150 = .ok (.ifCond .ne 7, 3) := by decide +kernel
theorem dX12_numeral_153 : decode cX12_numeral 153 = .ok (.iload_n 3, 1) := by decide +kernel
theorem dX12_numeral_154 : decode cX12_numeral 154 = .ok (.goto 4, 3) := by decide +kernel
theorem dX12_numeral_157 : decode cX12_numeral 157 = .ok (.iload_n 1, 1) := by decide +kernel
theorem dX12_numeral_158 : decode cX12_numeral 158 = .ok (.ireturn, 1) := by decide +kernel
theorem dX12_otherRead_0 : decode cX12_otherRead 0 = .ok (.aload_n 0, 1) := by decide +kernel
theorem dX12_otherRead_1 : decode cX12_otherRead 1 = .ok (.invokevirtual 154, 3) := by decide +kernel
theorem dX12_otherRead_4 : decode cX12_otherRead 4 = .ok (.istore_n 2, 1) := by decide +kernel
theorem dX12_otherRead_5 : decode cX12_otherRead 5 = .ok (.aload_n 0, 1) := by decide +kernel
theorem dX12_otherRead_6 : decode cX12_otherRead 6 = .ok (.getfield 96, 3) := by decide +kernel
theorem dX12_otherRead_9 : decode cX12_otherRead 9 = .ok (.ifCond .ne 17, 3) := by decide +kernel
theorem dX12_otherRead_12 : decode cX12_otherRead 12 = .ok (.iload_n 2, 1) := by decide +kernel
theorem dX12_otherRead_13 : decode cX12_otherRead 13 = .ok (.iload_n 1, 1) := by decide +kernel
theorem dX12_otherRead_14 : decode cX12_otherRead 14 = .ok (.if_icmp .ne 12, 3) := by decide +kernel
theorem dX12_otherRead_17 : decode cX12_otherRead 17 = .ok (.aload_n 0, 1) := by decide +kernel
theorem dX12_otherRead_18 : decode cX12_otherRead 18 = .ok (.iconst 5, 1) := by decide +kernel
theorem dX12_otherRead_19 : decode cX12_otherRead 19 = .ok (.aload_n 0, 1) := by decide +kernel
theorem dX12_otherRead_20 : decode cX12_otherRead 20 = .ok (.getfield 140, 3) := by decide +kernel
theorem dX12_otherRead_23 : decode cX12_otherRead 23 = .ok (.invokevirtual 136, 3) := by decide +kernel
theorem dX12_otherRead_26 : decode cX12_otherRead 26 = .ok (.iload_n 2, 1) := by decide +kernel
theorem dX12_otherRead_27 : decode cX12_otherRead 27 = .ok (.ireturn, 1) := by decide +kernel
theorem dX12_partyRead_0 : decode cX12_partyRead 0 = .ok (.aload_n 0, 1) := by decide +kernel
theorem dX12_partyRead_1 : decode cX12_partyRead 1 = .ok (.aload_n 0, 1) := by decide +kernel
theorem dX12_partyRead_2 : decode cX12_partyRead 2 = .ok (.invokevirtual 146, 3) := by decide +kernel
theorem dX12_partyRead_5 : decode cX12_partyRead 5 = .ok (.iconst 0, 1) := by decide +kernel
theorem dX12_partyRead_6 : decode cX12_partyRead 6 = .ok (.aload_n 0, 1) := by decide +kernel
theorem dX12_partyRead_7 : decode cX12_partyRead 7 = .ok (.getfield 80, 3) := by decide +kernel
theorem dX12_partyRead_10 : decode cX12_partyRead 10 = .ok (.invokevirtual 150, 3) := by decide +kernel
theorem dX12_partyRead_13 : decode cX12_partyRead 13 = .ok (.istore_n 1, 1) := by decide +kernel
theorem dX12_partyRead_14 : decode cX12_partyRead 14 = .ok (.iload_n 1, 1) := by decide +kernel
theorem dX12_partyRead_15 : decode cX12_partyRead 15 = .ok (.iconst (-1), 1) := by decide +kernel
theorem dX12_partyRead_16 : decode cX12_partyRead 16 = .ok (.if_icmp .ne 12, 3) := by decide +kernel
theorem dX12_partyRead_19 : decode cX12_partyRead 19 = .ok (.aload_n 0, 1) := by decide +kernel
theorem dX12_partyRead_20 : decode cX12_partyRead 20 = .ok (.iconst 3, 1) := by decide +kernel
theorem dX12_partyRead_21 : decode cX12_partyRead 21 = .ok (.aload_n 0, 1) := by decide +kernel
theorem dX12_partyRead_22 : decode cX12_partyRead 22 = .ok (.getfield 140, 3) := by decide +kernel
theorem dX12_partyRead_25 : decode cX12_partyRead 25 = .ok (.invokevirtual 136, 3) := by decide +kernel
theorem dX12_partyRead_28 : decode cX12_partyRead 28 = .ok (.aload_n 0, 1) := by decide +kernel
theorem dX12_partyRead_29 : decode cX12_partyRead 29 = .ok (.getfield 96, 3) := by decide +kernel
theorem dX12_partyRead_32 : decode cX12_partyRead 32 = .ok (.ifCond .ne 7, 3) := by decide +kernel
theorem dX12_partyRead_35 : decode cX12_partyRead 35 = .ok (.iload_n 1, 1) := by decide +kernel
theorem dX12_partyRead_36 : decode cX12_partyRead 36 = .ok (.goto 4, 3) := by decide +kernel
theorem dX12_partyRead_39 : decode cX12_partyRead 39 = .ok (.iconst 0, 1) := by decide +kernel
theorem dX12_partyRead_40 : decode cX12_partyRead 40 = .ok (.ireturn, 1) := by decide +kernel
theorem dX12_peek_0 : decode cX12_peek 0 = .ok (.aload_n 0, 1) := by decide +kernel
theorem dX12_peek_1 : decode cX12_peek 1 = .ok (.getfield 90, 3) := by decide +kernel
theorem dX12_peek_4 : decode cX12_peek 4 = .ok (.aload_n 0, 1) := by decide +kernel
theorem dX12_peek_5 : decode cX12_peek 5 = .ok (.getfield 93, 3) := by decide +kernel
theorem dX12_peek_8 : decode cX12_peek 8 = .ok (.if_icmp .ge 30, 3) := by decide +kernel
theorem dX12_peek_11 : decode cX12_peek 11 = .ok (.aload_n 0, 1) := by decide +kernel
theorem dX12_peek_12 : decode cX12_peek 12 = .ok (.getfield 30, 3) := by decide +kernel
theorem dX12_peek_15 : decode cX12_peek 15 = .ok (.aload_n 0, 1) := by decide +kernel
theorem dX12_peek_16 : decode cX12_peek 16 = .ok (.getfield 90, 3) := by decide +kernel
theorem dX12_peek_19 : decode cX12_peek 19 = .ok (.baload, 1) := by decide +kernel
theorem dX12_peek_20 : decode cX12_peek 20 = .ok (.bipush 32, 2) := by decide +kernel
theorem dX12_peek_22 : decode cX12_peek 22 = .ok (.if_icmp .ne 16, 3) := by decide +kernel
theorem dX12_peek_25 : decode cX12_peek 25 = .ok (.aload_n 0, 1) := by decide +kernel
theorem dX12_peek_26 : decode cX12_peek 26 = .ok (.dup, 1) := by decide +kernel
theorem dX12_peek_27 : decode cX12_peek 27 = .ok (.getfield 90, 3) := by decide +kernel
theorem dX12_peek_30 : decode cX12_peek 30 = .ok (.iconst 1, 1) := by decide +kernel
theorem dX12_peek_31 : decode cX12_peek 31 = .ok (.iadd, 1) := by decide +kernel
theorem dX12_peek_32 : decode cX12_peek 32 = .ok (.putfield 90, 3) := by decide +kernel
theorem dX12_peek_35 : decode cX12_peek 35 = .ok (.goto (-35), 3) := by decide +kernel
theorem dX12_peek_38 : decode cX12_peek 38 = .ok (.aload_n 0, 1) := by decide +kernel
theorem dX12_peek_39 : decode cX12_peek 39 = .ok (.getfield 90, 3) := by decide +kernel
theorem dX12_peek_42 : decode cX12_peek 42 = .ok (.aload_n 0, 1) := by decide +kernel
theorem dX12_peek_43 : decode cX12_peek 43 = .ok (.getfield 93, 3) := by decide +kernel
theorem dX12_peek_46 : decode cX12_peek 46 = .ok (.if_icmp .ge 19, 3) := by decide +kernel
theorem dX12_peek_49 : decode cX12_peek 49 = .ok (.aload_n 0, 1) := by decide +kernel
theorem dX12_peek_50 : decode cX12_peek 50 = .ok (.getfield 30, 3) := by decide +kernel
theorem dX12_peek_53 : decode cX12_peek 53 = .ok (.aload_n 0, 1) := by decide +kernel
theorem dX12_peek_54 : decode cX12_peek 54 = .ok (.getfield 90, 3) := by decide +kernel
theorem dX12_peek_57 : decode cX12_peek 57 = .ok (.baload, 1) := by decide +kernel
theorem dX12_peek_58 : decode cX12_peek 58 = .ok (.sipush 255, 3) := by decide +kernel
theorem dX12_peek_61 : decode cX12_peek 61 = .ok (.iand, 1) := by decide +kernel
theorem dX12_peek_62 : decode cX12_peek 62 = .ok (.goto 4, 3) := by decide +kernel
theorem dX12_peek_65 : decode cX12_peek 65 = .ok (.iconst (-1), 1) := by decide +kernel
theorem dX12_peek_66 : decode cX12_peek 66 = .ok (.ireturn, 1) := by decide +kernel
theorem dX12_tradeAt_0 : decode cX12_tradeAt 0 = .ok (.aload_n 0, 1) := by decide +kernel
theorem dX12_tradeAt_1 : decode cX12_tradeAt 1 = .ok (.getfield 13, 3) := by decide +kernel
theorem dX12_tradeAt_4 : decode cX12_tradeAt 4 = .ok (.iconst 2, 1) := by decide +kernel
theorem dX12_tradeAt_5 : decode cX12_tradeAt 5 = .ok (.iconst 5, 1) := by decide +kernel
theorem dX12_tradeAt_6 : decode cX12_tradeAt 6 = .ok (.iload_n 1, 1) := by decide +kernel
theorem dX12_tradeAt_7 : decode cX12_tradeAt 7 = .ok (.imul, 1) := by decide +kernel
theorem dX12_tradeAt_8 : decode cX12_tradeAt 8 = .ok (.iadd, 1) := by decide +kernel
theorem dX12_tradeAt_9 : decode cX12_tradeAt 9 = .ok (.iload_n 2, 1) := by decide +kernel
theorem dX12_tradeAt_10 : decode cX12_tradeAt 10 = .ok (.iadd, 1) := by decide +kernel
theorem dX12_tradeAt_11 : decode cX12_tradeAt 11 = .ok (.iaload, 1) := by decide +kernel
theorem dX12_tradeAt_12 : decode cX12_tradeAt 12 = .ok (.ireturn, 1) := by decide +kernel
theorem dX12_wordHere_0 : decode cX12_wordHere 0 = .ok (.aload_n 0, 1) := by decide +kernel
theorem dX12_wordHere_1 : decode cX12_wordHere 1 = .ok (.getfield 96, 3) := by decide +kernel
theorem dX12_wordHere_4 : decode cX12_wordHere 4 = .ok (.ifCond .ne 13, 3) := by decide +kernel
theorem dX12_wordHere_7 : decode cX12_wordHere 7 = .ok (.aload_n 0, 1) := by decide +kernel
theorem dX12_wordHere_8 : decode cX12_wordHere 8 = .ok (.invokevirtual 115, 3) := by decide +kernel
theorem dX12_wordHere_11 : decode cX12_wordHere 11 = .ok (.invokestatic 111, 3) := by decide +kernel
theorem dX12_wordHere_14 : decode cX12_wordHere 14 = .ok (.ifCond .ne 5, 3) := by decide +kernel
theorem dX12_wordHere_17 : decode cX12_wordHere 17 = .ok (.iconst (-1), 1) := by decide +kernel
theorem dX12_wordHere_18 : decode cX12_wordHere 18 = .ok (.ireturn, 1) := by decide +kernel
theorem dX12_wordHere_19 : decode cX12_wordHere 19 = .ok (.aload_n 0, 1) := by decide +kernel
theorem dX12_wordHere_20 : decode cX12_wordHere 20 = .ok (.invokevirtual 119, 3) := by decide +kernel
theorem dX12_wordHere_23 : decode cX12_wordHere 23 = .ok (.istore_n 1, 1) := by decide +kernel
theorem dX12_wordHere_24 : decode cX12_wordHere 24 = .ok (.iconst 0, 1) := by decide +kernel
theorem dX12_wordHere_25 : decode cX12_wordHere 25 = .ok (.istore_n 2, 1) := by decide +kernel
theorem dX12_wordHere_26 : decode cX12_wordHere 26 = .ok (.iconst 1, 1) := by decide +kernel
theorem dX12_wordHere_27 : decode cX12_wordHere 27 = .ok (.istore_n 3, 1) := by decide +kernel
theorem dX12_wordHere_28 : decode cX12_wordHere 28 = .ok (.iload_n 3, 1) := by decide +kernel
theorem dX12_wordHere_29 : decode cX12_wordHere 29 = .ok (.ldc 122, 2) := by decide +kernel
theorem dX12_wordHere_31 : decode cX12_wordHere 31 = .ok (.invokevirtual 124, 3) := by decide +kernel
theorem dX12_wordHere_34 : decode cX12_wordHere 34 = .ok (.if_icmp .ge 108, 3) := by decide +kernel
theorem dX12_wordHere_37 : decode cX12_wordHere 37 = .ok (.iload_n 3, 1) := by decide +kernel
theorem dX12_wordHere_38 : decode cX12_wordHere 38 = .ok (.istore 4, 2) := by decide +kernel
theorem dX12_wordHere_40 : decode cX12_wordHere 40 = .ok (.ldc 122, 2) := by decide +kernel
theorem dX12_wordHere_42 : decode cX12_wordHere 42 = .ok (.iload 4, 2) := by decide +kernel
theorem dX12_wordHere_44 : decode cX12_wordHere 44 = .ok (.invokevirtual 129, 3) := by decide +kernel
theorem dX12_wordHere_47 : decode cX12_wordHere 47 = .ok (.bipush 32, 2) := by decide +kernel
theorem dX12_wordHere_49 : decode cX12_wordHere 49 = .ok (.if_icmp .eq 9, 3) := by decide +kernel
theorem dX12_wordHere_52 : decode cX12_wordHere 52 = .ok (.iinc 4 1, 3) := by decide +kernel
theorem dX12_wordHere_55 : decode cX12_wordHere 55 = .ok (.goto (-15), 3) := by decide +kernel
theorem dX12_wordHere_58 : decode cX12_wordHere 58 = .ok (.iload 4, 2) := by decide +kernel
theorem dX12_wordHere_60 : decode cX12_wordHere 60 = .ok (.iload_n 3, 1) := by decide +kernel
theorem dX12_wordHere_61 : decode cX12_wordHere 61 = .ok (.isub, 1) := by decide +kernel
theorem dX12_wordHere_62 : decode cX12_wordHere 62 = .ok (.iload_n 1, 1) := by decide +kernel
theorem dX12_wordHere_63 : decode cX12_wordHere 63 = .ok (.if_icmp .ne 7, 3) := by decide +kernel
theorem dX12_wordHere_66 : decode cX12_wordHere 66 = .ok (.iconst 1, 1) := by decide +kernel
theorem dX12_wordHere_67 : decode cX12_wordHere 67 = .ok (.goto 4, 3) := by decide +kernel
theorem dX12_wordHere_70 : decode cX12_wordHere 70 = .ok (.iconst 0, 1) := by decide +kernel
theorem dX12_wordHere_71 : decode cX12_wordHere 71 = .ok (.istore 5, 2) := by decide +kernel
theorem dX12_wordHere_73 : decode cX12_wordHere 73 = .ok (.iconst 0, 1) := by decide +kernel
theorem dX12_wordHere_74 : decode cX12_wordHere 74 = .ok (.istore 6, 2) := by decide +kernel
theorem dX12_wordHere_76 : decode cX12_wordHere 76 = .ok (.iload 6, 2) := by decide +kernel
theorem dX12_wordHere_78 : decode cX12_wordHere 78 = .ok (.iload_n 1, 1) := by decide +kernel
theorem dX12_wordHere_79 : decode cX12_wordHere 79 = .ok (.if_icmp .ge 45, 3) := by decide +kernel
theorem dX12_wordHere_82 : decode cX12_wordHere 82 = .ok (.iload 5, 2) := by decide +kernel
theorem dX12_wordHere_84 : decode cX12_wordHere 84 = .ok (.ifCond .eq 40, 3) := by decide +kernel
theorem dX12_wordHere_87 : decode cX12_wordHere 87 = .ok (.ldc 122, 2) := by decide +kernel
theorem dX12_wordHere_89 : decode cX12_wordHere 89 = .ok (.iload_n 3, 1) := by decide +kernel
theorem dX12_wordHere_90 : decode cX12_wordHere 90 = .ok (.iload 6, 2) := by decide +kernel
theorem dX12_wordHere_92 : decode cX12_wordHere 92 = .ok (.iadd, 1) := by decide +kernel
theorem dX12_wordHere_93 : decode cX12_wordHere 93 = .ok (.invokevirtual 129, 3) := by decide +kernel
theorem dX12_wordHere_96 : decode cX12_wordHere 96 = .ok (.aload_n 0, 1) := by decide +kernel
theorem dX12_wordHere_97 : decode cX12_wordHere 97 = .ok (.getfield 30, 3) := by decide +kernel
theorem dX12_wordHere_100 : decode cX12_wordHere 100 = .ok (.aload_n 0, 1) := by decide +kernel
theorem dX12_wordHere_101 : decode cX12_wordHere 101 = .ok (.getfield 90, 3) := by decide +kernel
theorem dX12_wordHere_104 : decode cX12_wordHere 104 = .ok (.iload 6, 2) := by decide +kernel
theorem dX12_wordHere_106 : decode cX12_wordHere 106 = .ok (.iadd, 1) := by decide +kernel
theorem dX12_wordHere_107 : decode cX12_wordHere 107 = .ok (.baload, 1) := by decide +kernel
theorem dX12_wordHere_108 : decode cX12_wordHere 108 = .ok (.if_icmp .ne 7, 3) := by decide +kernel
theorem dX12_wordHere_111 : decode cX12_wordHere 111 = .ok (.iconst 1, 1) := by decide +kernel
theorem dX12_wordHere_112 : decode cX12_wordHere 112 = .ok (.goto 4, 3) := by decide +kernel
theorem dX12_wordHere_115 : decode cX12_wordHere 115 = .ok (.iconst 0, 1) := by decide +kernel
theorem dX12_wordHere_116 : decode cX12_wordHere 116 = .ok (.istore 5, 2) := by decide +kernel
theorem dX12_wordHere_118 : decode cX12_wordHere 118 = .ok (.iinc 6 1, 3) := by decide +kernel
theorem dX12_wordHere_121 : decode cX12_wordHere 121 = .ok (.goto (-45), 3) := by decide +kernel
theorem dX12_wordHere_124 : decode cX12_wordHere 124 = .ok (.iload 5, 2) := by decide +kernel
theorem dX12_wordHere_126 : decode cX12_wordHere 126 = .ok (.ifCond .eq 5, 3) := by decide +kernel
theorem dX12_wordHere_129 : decode cX12_wordHere 129 = .ok (.iload_n 2, 1) := by decide +kernel
theorem dX12_wordHere_130 : decode cX12_wordHere 130 = .ok (.ireturn, 1) := by decide +kernel
theorem dX12_wordHere_131 : decode cX12_wordHere 131 = .ok (.iinc 2 1, 3) := by decide +kernel
theorem dX12_wordHere_134 : decode cX12_wordHere 134 = .ok (.iload 4, 2) := by decide +kernel
theorem dX12_wordHere_136 : decode cX12_wordHere 136 = .ok (.iconst 1, 1) := by decide +kernel
theorem dX12_wordHere_137 : decode cX12_wordHere 137 = .ok (.iadd, 1) := by decide +kernel
theorem dX12_wordHere_138 : decode cX12_wordHere 138 = .ok (.istore_n 3, 1) := by decide +kernel
theorem dX12_wordHere_139 : decode cX12_wordHere 139 = .ok (.goto (-111), 3) := by decide +kernel
theorem dX12_wordHere_142 : decode cX12_wordHere 142 = .ok (.iconst (-1), 1) := by decide +kernel
theorem dX12_wordHere_143 : decode cX12_wordHere 143 = .ok (.ireturn, 1) := by decide +kernel
def rf (e : va_E) (i : Nat) : Nat := match e with
  | .inr (_, fs) => match fs[i]? with
    | some (.ref a) => a
    | _ => 0
  | _ => 0
def inf (e : va_E) (i : Nat) : Int32 := match e with
  | .inr (_, fs) => match fs[i]? with
    | some (.int a) => a
    | _ => 0
  | _ => 0
def af (e : va_E) : Nat → Int32 := match e with
  | .inl (_, _, .inl f) => f
  | _ => fun _ => 0
theorem rf_i {S : Nat → va_E} {o k i x : Nat} {fs : List Value} (h : S o = .inr (k, fs)) (hx : fs[i]? = some (.ref x)) : rf (S o) i = x := by
  rw [h]
  show (match fs[i]? with | some (.ref a) => a | _ => 0) = x
  rw [hx]
theorem inf_i {S : Nat → va_E} {o k i : Nat} {x : Int32} {fs : List Value} (h : S o = .inr (k, fs)) (hx : fs[i]? = some (.int x)) : inf (S o) i = x := by
  rw [h]
  show (match fs[i]? with | some (.int a) => a | _ => 0) = x
  rw [hx]
theorem af_i {S : Nat → va_E} {x n : Nat} {c : ClassId} {f : Nat → Int32} (h : S x = .inl (c, n, .inl f)) : af (S x) = f := by rw [h]; rfl
def MK (S : Nat → va_E) (o sp sn : Nat) (wr : Int32) (pa ki rs : Nat) : Prop := inf (S o) 12 = nI sp ∧ inf (S o) 11 = nI sn ∧ inf (S o) 13 = wr ∧ inf (S o) 5 = nI pa ∧ inf (S o) 6 = nI ki ∧ rf (S o) 0 = rs ∧ sp ≤ 901 ∧ sn ≤ 900 ∧ pa ≤ 8 ∧ ki ≤ 4
theorem MKi {S : Nat → va_E} {o k sp sn pa ki rs : Nat} {wr : Int32} {fs : List Value} (h : S o = .inr (k, fs)) (h12 : fs[12]? = some (.int (nI sp))) (h11 : fs[11]? = some (.int (nI sn))) (h13 : fs[13]? = some (.int wr)) (h5 : fs[5]? = some (.int (nI pa))) (h6 : fs[6]? = some (.int (nI ki))) (h0 : fs[0]? = some (.ref rs)) (b1 : sp ≤ 901) (b2 : sn ≤ 900) (b3 : pa ≤ 8) (b4 : ki ≤ 4) : MK S o sp sn wr pa ki rs := ⟨inf_i h h12, inf_i h h11, inf_i h h13, inf_i h h5, inf_i h h6, rf_i h h0, b1, b2, b3, b4⟩
theorem MKe {S : Nat → va_E} {o k sp sn pa ki rs x12 x11 x5 x6 x0 : Nat} {wr x13 : Int32} {fs : List Value} (hM : MK S o sp sn wr pa ki rs) (h : S o = .inr (k, fs)) (h12 : fs[12]? = some (.int (nI x12))) (h11 : fs[11]? = some (.int (nI x11))) (h13 : fs[13]? = some (.int x13)) (h5 : fs[5]? = some (.int (nI x5))) (h6 : fs[6]? = some (.int (nI x6))) (h0 : fs[0]? = some (.ref x0)) (b1 : x12 ≤ 901) (b2 : x11 ≤ 900) (b3 : x5 ≤ 8) (b4 : x6 ≤ 4) : sp = x12 ∧ sn = x11 ∧ wr = x13 ∧ pa = x5 ∧ ki = x6 ∧ rs = x0 := by
  obtain ⟨e1, e2, e3, e4, e5, e6, c1, c2, c3, c4⟩ := hM
  rw [inf_i h h12] at e1
  rw [inf_i h h11] at e2
  rw [inf_i h h13] at e3
  rw [inf_i h h5] at e4
  rw [inf_i h h6] at e5
  rw [rf_i h h0] at e6
  exact ⟨(nI_eq (by omega) (by omega)).mp e1.symm, (nI_eq (by omega) (by omega)).mp e2.symm, e3.symm, (nI_eq (by omega) (by omega)).mp e4.symm, (nI_eq (by omega) (by omega)).mp e5.symm, e6.symm⟩
theorem isInc {v lo hi : Int64} {r : Int32} (h : r = (if lo ≤ v ∧ v ≤ hi then 1 else 0)) : (r = 1 ∧ lo ≤ v ∧ v ≤ hi) ∨ (r = 0 ∧ ¬ (lo ≤ v ∧ v ≤ hi)) := by
  by_cases q : lo ≤ v ∧ v ≤ hi
  · rw [if_pos q] at h; exact Or.inl ⟨h, q⟩
  · rw [if_neg q] at h; exact Or.inr ⟨h, q⟩
theorem inK {x : Int32} {z hi : Int64} {H : Nat} (hz : z = x.toInt64) (h : 0 ≤ z ∧ z ≤ hi) (hH : hi.toInt = (H : Int)) (hb : H < 2 ^ 31) : ∃ k, k ≤ H ∧ x = nI k := by
  obtain ⟨h1, h2⟩ := h
  subst hz
  rw [Int64.le_iff_toInt_le, Int32.toInt_toInt64] at h1 h2
  have e0 : (0 : Int64).toInt = 0 := by decide
  have f0 : (0 : Int32).toInt = 0 := by decide
  obtain ⟨k, hk, rfl⟩ := nI_of (x := x) (by rw [Int32.lt_iff_toInt_lt]; omega)
  rw [nI_toInt hk] at h2
  exact ⟨k, by omega, rfl⟩
theorem inN {x : Int32} {z z2 : Int64} {n : Nat} (hz : z = x.toInt64) (hz2 : z2 = (nI n).toInt64) (h : 0 ≤ z ∧ z ≤ z2) (hn : n < 2 ^ 31) : ∃ k, k ≤ n ∧ x = nI k := inK hz h (by rw [hz2, Int32.toInt_toInt64, nI_toInt hn]) hn
theorem inP {x : Int32} {z z2 : Int64} {n : Nat} (hz : z = x.toInt64) (hz2 : z2 = (pd n).toInt64) (h : 0 ≤ z ∧ z ≤ z2) (hn : n < 2 ^ 31) : ∃ k, k < n ∧ x = nI k := by
  cases n with
  | zero =>
    exfalso
    subst hz2
    have e1 : (pd 0).toInt64.toInt = -1 := by decide
    obtain ⟨h1, h2⟩ := h
    rw [Int64.le_iff_toInt_le] at h1 h2
    have e0 : (0 : Int64).toInt = 0 := by decide
    omega
  | succ n =>
    rw [pd_s] at hz2
    obtain ⟨k, hk, e⟩ := inN hz hz2 h (by omega)
    exact ⟨k, by omega, e⟩
theorem inI {v lo hi : Int32} {z z1 z2 : Int64} (h0 : z = v.toInt64) (h1 : z1 = lo.toInt64) (h2 : z2 = hi.toInt64) (h : z1 ≤ z ∧ z ≤ z2) : ¬ v < lo ∧ v ≤ hi := by
  subst h0 h1 h2
  obtain ⟨g1, g2⟩ := h
  rw [Int64.le_iff_toInt_le, Int32.toInt_toInt64, Int32.toInt_toInt64] at g1 g2
  rw [Int32.lt_iff_toInt_lt, Int32.le_iff_toInt_le]
  omega
theorem okS_up {n : Nat} {f f1 : Nat → Int32} {x : Int32} {i : Nat} (hi : i < 2 ^ 31) (h : ∀ j, j < n → okS j (f j)) (hf : f1 = upd f (nI i).toNatClampNeg x) (hx : okS i x) : ∀ j, j < n → okS j (f1 j) := fun j hj => by
  rw [nI_clamp hi] at hf
  subst hf
  by_cases q : j = i
  · rw [q, pk_us]; exact hx
  · rw [pk_un q]; exact h j hj
theorem okS2_up {n : Nat} {f f1 : Nat → Int32} {x : Int32} {i : Nat} (hi : i < 2 ^ 31) (h : ∀ j, j < n → okS (j % 266) (f j)) (hf : f1 = upd f (nI i).toNatClampNeg x) (hx : okS (i % 266) x) : ∀ j, j < n → okS (j % 266) (f1 j) := fun j hj => by
  rw [nI_clamp hi] at hf
  subst hf
  by_cases q : j = i
  · rw [q, pk_us]; exact hx
  · rw [pk_un q]; exact h j hj
theorem okS_any {i : Nat} {v : Int32} (h : i = 1 ∨ 202 ≤ i ∨ (2 ≤ i ∧ ((i - 2) % 5 = 2 ∨ (i - 2) % 5 = 4))) : okS i v := ⟨fun q => by omega, fun _ _ _ => by omega, fun _ _ _ => by omega⟩
theorem okS_n {i k : Nat} (h0 : i = 0 → k ≤ 40) (h1 : 2 ≤ i → i < 202 → ((i - 2) % 5 = 0 ∨ (i - 2) % 5 = 1) → k < 8) (h3 : 2 ≤ i → i < 202 → (i - 2) % 5 = 3 → k < 4) : okS i (nI k) := ⟨fun q => ⟨k, h0 q, rfl⟩, fun a b c => ⟨k, h1 a b c, rfl⟩, fun a b c => ⟨k, h3 a b c, rfl⟩⟩
theorem sc_631 {k : Nat} {r : Int32} (h : r = sc_ch 6 k) (hk : k < 32) (hr : ¬ r = 32) : k < 31 := by
  by_cases q : k = 31
  · subst q
    exact absurd (h.trans (by decide)) hr
  · omega
def fld (S : Nat → va_E) (o i : Nat) : Nat → Int32 := af (S (rf (S o) i))
theorem fld_i {S : Nat → va_E} {o k i x n : Nat} {c : ClassId} {f : Nat → Int32} {fs : List Value} (h : S o = .inr (k, fs)) (hx : fs[i]? = some (.ref x)) (ha : S x = .inl (c, n, .inl f)) : fld S o i = f := by
  rw [fld, rf_i h hx, af_i ha]
def dg (f : Nat → Int32) : Prop := ∀ n t, n ≤ 40 → f 0 = nI n → t < n → f (2 + 5 * t) ≠ f (2 + 5 * t + 1)
def DGA (f : Nat → Int32) : Prop := ∀ b, b < 10 → dg (fun j => f (266 * b + j))
theorem dg_i {f : Nat → Int32} {n : Nat} (h0 : f 0 = nI n) (hn : n ≤ 40) (h : ∀ t, t < n → f (2 + 5 * t) ≠ f (2 + 5 * t + 1)) : dg f := fun n' t hn' h0' ht => by
  have e := (nI_eq (by omega) (by omega)).mp (h0'.symm.trans h0)
  subst e
  exact h t ht
theorem dg_e {f : Nat → Int32} {n t : Nat} (h : dg f) (h0 : f 0 = nI n) (hn : n ≤ 40) (ht : t < n) : f (2 + 5 * t) ≠ f (2 + 5 * t + 1) := h n t hn h0 ht
theorem dg_0 {f : Nat → Int32} (h0 : f 0 = nI 0) : dg f := dg_i h0 (by omega) (fun t h => absurd h (Nat.not_lt_zero _))
theorem dg_c {f g : Nat → Int32} (h : dg g) (e : ∀ j, j < 202 → f j = g j) : dg f := fun n t hn h0 ht => by
  rw [e _ (by omega), e _ (by omega)]
  rw [e 0 (by omega)] at h0
  exact h n t hn h0 ht
theorem dg_up {f f1 : Nat → Int32} {i : Nat} {x : Int32} (h : dg f) (e : f1 = upd f (nI i).toNatClampNeg x) (hi : i < 2 ^ 31) (hc : i = 1 ∨ 202 ≤ i ∨ (2 ≤ i ∧ ((i - 2) % 5 = 2 ∨ (i - 2) % 5 = 3 ∨ (i - 2) % 5 = 4))) : dg f1 := fun n t hn h0 ht => by
  rw [nI_clamp hi] at e
  subst e
  rw [pk_un (by omega)] at h0
  rw [pk_un (by omega), pk_un (by omega)]
  exact h n t hn h0 ht
theorem dg_adds {g f1 f2 f3 f4 f5 f6 : Nat → Int32} {nn ga gb i1 i2 i3 i4 i5 : Nat} {x3 x4 x5 : Int32} (e1 : f1 = upd g (nI i1).toNatClampNeg (nI ga)) (e2 : f2 = upd f1 (nI i2).toNatClampNeg (nI gb)) (e3 : f3 = upd f2 (nI i3).toNatClampNeg x3) (e4 : f4 = upd f3 (nI i4).toNatClampNeg x4) (e5 : f5 = upd f4 (nI i5).toNatClampNeg x5) (h6 : f6 0 = nI (nn + 1)) (h7 : ∀ j, 1 ≤ j → f6 j = f5 j) (k1 : i1 = 2 + 5 * nn) (k2 : i2 = i1 + 1) (k3 : i3 = i1 + 2) (k4 : i4 = i1 + 3) (k5 : i5 = i1 + 4) (h : dg g) (h0 : g 0 = nI nn) (hn : nn < 40) (ha : ga < 8) (hb : gb < 8) (hab : ga ≠ gb) : dg f6 := dg_i h6 (by omega) (fun t ht => by
  subst k1 k2 k3 k4 k5
  rw [nI_clamp (by omega)] at e1 e2 e3 e4 e5
  subst e1 e2 e3 e4 e5
  rw [h7 _ (by omega), h7 _ (by omega)]
  by_cases q : t = nn
  · subst q
    rw [pk_un (by omega), pk_un (by omega), pk_un (by omega), pk_un (by omega), pk_us, pk_un (by omega), pk_un (by omega), pk_un (by omega), pk_us]
    exact fun z => hab ((nI_eq (by omega) (by omega)).mp z)
  · rw [pk_un (by omega), pk_un (by omega), pk_un (by omega), pk_un (by omega), pk_un (by omega), pk_un (by omega), pk_un (by omega), pk_un (by omega), pk_un (by omega), pk_un (by omega)]
    exact dg_e h h0 (by omega) (by omega))
def gsh (g : Nat → Int32) (a i j : Nat) : Int32 := if a ≤ j ∧ j < i then g (j + 5) else g j
theorem gsh_up {g f f1 : Nat → Int32} {a i i5 : Nat} {y : Int32} (hf : ∀ j, 1 ≤ j → f j = gsh g a i j) (hy : y = f (nI i5).toNatClampNeg) (h5 : i5 = i + 5) (e : f1 = upd f (nI i).toNatClampNeg y) (ha : a ≤ i) (h1 : 1 ≤ i) (hi : i < 300) : ∀ j, 1 ≤ j → f1 j = gsh g a (i + 1) j := fun j hj => by
  subst h5
  rw [nI_clamp (by omega)] at e hy
  subst e
  by_cases q : j = i
  · subst q
    rw [pk_us, hy, hf _ (by omega)]
    unfold gsh
    rw [if_neg (by omega), if_pos (by omega)]
  · rw [pk_un q, hf j hj]
    unfold gsh
    by_cases c : a ≤ j ∧ j < i
    · rw [if_pos c, if_pos (by omega)]
    · rw [if_neg c, if_neg (by omega)]
theorem gsh_b {g : Nat → Int32} {a i j : Nat} (h : j < a) : gsh g a i j = g j := if_neg (by omega)
theorem dg_goes {g f : Nat → Int32} {t nn i : Nat} (h : dg g) (h0 : g 0 = nI nn) (hn : nn ≤ 40) (f0 : f 0 = nI (nn - 1)) (ht : t < nn) (hi : i = 2 + 5 * (nn - 1)) (hf : ∀ j, 1 ≤ j → f j = gsh g (2 + 5 * t) i j) : dg f := dg_i f0 (by omega) (fun u hu => by
  subst hi
  rw [hf _ (by omega), hf _ (by omega)]
  unfold gsh
  by_cases c : u < t
  · rw [if_neg (by omega), if_neg (by omega)]
    exact dg_e h h0 hn (by omega)
  · rw [if_pos (by omega), if_pos (by omega)]
    have q := dg_e (t := u + 1) h h0 hn (by omega)
    rw [show 2 + 5 * u + 5 = 2 + 5 * (u + 1) from by omega, show 2 + 5 * u + 1 + 5 = 2 + 5 * (u + 1) + 1 from by omega]
    exact q)
theorem cpy_up {f f1 : Nat → Int32} {P : Nat → Int32 → Prop} {i : Nat} {y : Int32} (e : f1 = upd f (nI i).toNatClampNeg y) (hi : i < 2 ^ 31) (h : ∀ j, j < i → P j (f j)) (hy : P i y) : ∀ j, j < i + 1 → P j (f1 j) := fun j hj => by
  rw [nI_clamp hi] at e
  subst e
  by_cases q : j = i
  · rw [q, pk_us]; exact hy
  · rw [pk_un q]; exact h j (by omega)
theorem cpb_up {f f1 g s : Nat → Int32} {b i k : Nat} {y : Int32} (h : (∀ j, j < i → f (b + j) = s j) ∧ ∀ j, j < b ∨ b + 266 ≤ j → f j = g j) (e : f1 = upd f (nI k).toNatClampNeg y) (hk : k = b + i) (hy : y = s (nI i).toNatClampNeg) (hi : i < 266) (hb : b < 100000) : (∀ j, j < i + 1 → f1 (b + j) = s j) ∧ ∀ j, j < b ∨ b + 266 ≤ j → f1 j = g j := by
  subst hk
  rw [nI_clamp (by omega)] at e hy
  subst e hy
  refine ⟨fun j hj => ?_, fun j hj => ?_⟩
  · by_cases q : j = i
    · rw [q, pk_us]
    · rw [pk_un (by omega)]; exact h.1 j (by omega)
  · rw [pk_un (by omega)]; exact h.2 j hj
theorem DGA_put {f g s : Nat → Int32} {am b : Nat} (hg : DGA g) (hs : dg s) (hb : b = 266 * am) (h : (∀ j, j < 266 → f (b + j) = s j) ∧ ∀ j, j < b ∨ b + 266 ≤ j → f j = g j) : DGA f := fun c hc => by
  subst hb
  by_cases e : c = am
  · subst e
    exact dg_c hs (fun j hj => h.1 j (by omega))
  · exact dg_c (hg c hc) (fun j hj => h.2 (266 * c + j) (by omega))
theorem csh_up {f f1 g : Nat → Int32} {i k : Nat} {y : Int32} (h : (∀ j, j < i → f j = g (j + 266)) ∧ ∀ j, i ≤ j → f j = g j) (e : f1 = upd f (nI i).toNatClampNeg y) (hk : k = i + 266) (hy : y = f (nI k).toNatClampNeg) (hi : i < 2394) : (∀ j, j < i + 1 → f1 j = g (j + 266)) ∧ ∀ j, i + 1 ≤ j → f1 j = g j := by
  subst hk
  rw [nI_clamp (by omega)] at e hy
  subst e
  refine ⟨fun j hj => ?_, fun j hj => ?_⟩
  · by_cases q : j = i
    · rw [q, pk_us, hy]; exact h.2 _ (by omega)
    · rw [pk_un q]; exact h.1 j (by omega)
  · rw [pk_un (by omega)]; exact h.2 j (by omega)
theorem DGA_sh {f g : Nat → Int32} (hg : DGA g) (h : (∀ j, j < 2394 → f j = g (j + 266)) ∧ ∀ j, 2394 ≤ j → f j = g j) : DGA f := fun b hb => by
  by_cases e : b < 9
  · refine dg_c (hg (b + 1) (by omega)) (fun j hj => ?_)
    show f (266 * b + j) = g (266 * (b + 1) + j)
    rw [h.1 _ (by omega), show 266 * b + j + 266 = 266 * (b + 1) + j from by omega]
  · exact dg_c (hg b hb) (fun j hj => h.2 (266 * b + j) (by omega))
theorem pz_up {f f1 : Nat → Int32} {i : Nat} {v : Int32} (e : f1 = upd f (nI i).toNatClampNeg v) (hi : i < 266) (hv : i < 202 → v = 0) (h : 0 < i → f 0 = nI 0) : f1 0 = nI 0 := by
  rw [nI_clamp (by omega)] at e
  subst e
  by_cases q : i = 0
  · subst q
    rw [pk_us, hv (by omega)]
    rfl
  · rw [pk_un (by omega)]; exact h (by omega)
theorem k50i {cy : Nat → ClassId} {L : List Nat} {kap : Nat → Nat} {pr : Pr} {S : Nat → va_E} {a : Nat} {f : Nat → Int32} (h : Ty cy L kap pr S) (ha : TK L kap a 50) (he : S a = .inl (cy 0, 266, .inl f)) : ∀ j, j < 266 → okS j (f j) := by
  obtain ⟨g, hg, hi⟩ := h.k50 ha
  have e := hg.symm.trans he
  simp only [Sum.inl.injEq, Prod.mk.injEq, true_and] at e
  rw [← e]
  exact hi
theorem k51i {cy : Nat → ClassId} {L : List Nat} {kap : Nat → Nat} {pr : Pr} {S : Nat → va_E} {a : Nat} {f : Nat → Int32} (h : Ty cy L kap pr S) (ha : TK L kap a 51) (he : S a = .inl (cy 0, 266, .inl f)) : ∀ j, j < 266 → okS j (f j) := by
  obtain ⟨g, hg, hi⟩ := h.k51 ha
  have e := hg.symm.trans he
  simp only [Sum.inl.injEq, Prod.mk.injEq, true_and] at e
  rw [← e]
  exact hi
theorem k52i {cy : Nat → ClassId} {L : List Nat} {kap : Nat → Nat} {pr : Pr} {S : Nat → va_E} {a : Nat} {f : Nat → Int32} (h : Ty cy L kap pr S) (ha : TK L kap a 52) (he : S a = .inl (cy 0, 2660, .inl f)) : ∀ j, j < 2660 → okS (j % 266) (f j) := by
  obtain ⟨g, hg, hi⟩ := h.k52 ha
  have e := hg.symm.trans he
  simp only [Sum.inl.injEq, Prod.mk.injEq, true_and] at e
  rw [← e]
  exact hi

def mny (S : Nat → va_E) (o n : Nat) : Prop := af (S (rf (S o) 0)) 0 = nI n
theorem mnyi {S : Nat → va_E} {o k x n q : Nat} {c : ClassId} {f : Nat → Int32} {fs : List Value} (h : S o = .inr (k, fs)) (h0 : fs[0]? = some (.ref x)) (hx : S x = .inl (c, q, .inl f)) (hn : f 0 = nI n) : mny S o n := by
  rw [mny, rf_i h h0, af_i hx]; exact hn
theorem mnye {S : Nat → va_E} {o k x n q : Nat} {c : ClassId} {f : Nat → Int32} {fs : List Value} (hm : mny S o n) (h : S o = .inr (k, fs)) (h0 : fs[0]? = some (.ref x)) (hx : S x = .inl (c, q, .inl f)) : f 0 = nI n := by
  rw [mny, rf_i h h0, af_i hx] at hm; exact hm
theorem up0 {f f1 : Nat → Int32} {i n : Nat} {x : Int32} (hi : i < 2 ^ 31) (h1 : 0 < i) (h : f 0 = nI n) (hf : f1 = upd f (nI i).toNatClampNeg x) : f1 0 = nI n := by
  rw [nI_clamp hi] at hf
  rw [hf, pk_un (by omega)]; exact h
theorem up00 {f f1 : Nat → Int32} {x : Int32} (hf : f1 = upd f (Int32.toNatClampNeg 0) x) : f1 0 = x := by rw [hf]; exact pk_us
theorem okS_5 {k : Nat} {y : Int32} (h : okS (k + 5) y) (h1 : 2 ≤ k) (h2 : k + 5 < 202) : okS k y := ⟨fun q => by omega, fun a b d => h.2.1 (by omega) (by omega) (by omega), fun a b d => h.2.2 (by omega) (by omega) (by omega)⟩
set_option maxHeartbeats 4000000 in
set_option maxRecDepth 100000 in
theorem m_isIn (l : Launch) (dC : Nat → ClassId) (dI : Nat → Nat → Nat) (sz : Nat) (v : Int64) (lo : Int64) (hi : Int64) : Met l yX12_isIn (wT yX12_isIn cX12_isIn 6 (some .boolean)) ({ frames := 0, cells := 0, slots := 0, locals := 0 }) (pcW dC dI [.long v, .long lo, .long hi] sz [] []) (vp_Si (fun r => r = (if lo ≤ v ∧ v ≤ hi then 1 else 0))) 0 0 (fun _ => False) := by
  refine Met.ofW (cc := cX12_isIn) (maxL := 6) (ret := (some .boolean)) (by decide) rfl ?_
  intro p e s m args below meth c s₁ B hml hv
  obtain ⟨rfl, hsz, hP, hK, hD0⟩ := hv
  have hx := B.exec
  have hb := B.bytes
  have hr := B.returns
  have hT : ∀ wd ∈ TB, wd.before [.long v, .long lo, .long hi].toArray s = true := fun wd h => atoms_spec (ws := wT yX12_isIn cX12_isIn 6 (some .boolean)) B.pre wd (List.mem_cons_of_mem _ h)
  have hown : s.vm.findClass RX12 = some m.cls := findClass_of_methodNamed B.named
  have hlocks := B.notSynchronized
  subst hsz
  have hl := lv_entry ([.long v, .long lo, .long hi]) (n := 6) (Nat.le_of_ble_eq_true rfl)
  rw [lg_entry_eq]
  generalize (lg_sl ([.long v, .long lo, .long hi]) ++ List.replicate (6 - (lg_sl ([.long v, .long lo, .long hi])).length) Slot.unset).toArray = ls at hl ⊢
  have hl : lv_has ls 6 [(0, .long v), (2, .long lo), (4, .long hi)] := hl
  refine lv_lload_n hx hb dX12_isIn_0 rfl (lv_at hl 0 rfl) ?_
  refine lv_lload_n hx hb dX12_isIn_1 rfl (lv_at hl 1 rfl) ?_
  refine W.lcmp hx hb dX12_isIn_2 ?_
  refine lv_if_lt (tgt := 17) hx hb dX12_isIn_3 (by decide) (fun c_3 => ?_) (fun c_3 => ?_)
  · refine lv_iconst (v := 0) hx hb dX12_isIn_17 (by decide) ?_
    exact W.zret (ty := .boolean) (v := 0) hx hb hr (by decide) (fun t ht h9 => ⟨0, rfl, (isIn_a c_3), ht⟩) (fun q h => by cases h) dX12_isIn_18
  · refine lv_lload_n hx hb dX12_isIn_6 rfl (lv_at hl 0 rfl) ?_
    refine lv_lload hx hb dX12_isIn_7 (lv_at hl 2 rfl) ?_
    refine W.lcmp hx hb dX12_isIn_9 ?_
    refine lv_if_gt (tgt := 17) hx hb dX12_isIn_10 (by decide) (fun c_10 => ?_) (fun c_10 => ?_)
    · refine lv_iconst (v := 0) hx hb dX12_isIn_17 (by decide) ?_
      exact W.zret (ty := .boolean) (v := 0) hx hb hr (by decide) (fun t ht h9 => ⟨0, rfl, (isIn_b c_10), ht⟩) (fun q h => by cases h) dX12_isIn_18
    · refine lv_iconst (v := 1) hx hb dX12_isIn_13 (by decide) ?_
      refine lv_goto (tgt := 18) hx hb dX12_isIn_14 (by decide) ?_
      exact W.zret (ty := .boolean) (v := 1) hx hb hr (by decide) (fun t ht h9 => ⟨1, rfl, (isIn_1 c_3 c_10), ht⟩) (fun q h => by cases h) dX12_isIn_18

set_option maxHeartbeats 4000000 in
set_option maxRecDepth 100000 in
theorem m_isLetter (l : Launch) (dC : Nat → ClassId) (dI : Nat → Nat → Nat) (sz : Nat) (v : Int32) : Met l yX12_isLetter (wT yX12_isLetter cX12_isLetter 1 (some .boolean)) ({ frames := 1, cells := 0, slots := 0, locals := 25 }) (pcW dC dI [.int v] sz [] []) (vp_Si (fun r => r = 0 ∨ r = 1)) 0 0 (fun _ => False) := by
  refine Met.ofW (cc := cX12_isLetter) (maxL := 1) (ret := (some .boolean)) (by decide) rfl ?_
  intro p e s m args below meth c s₁ B hml hv
  obtain ⟨rfl, hsz, hP, hK, hD0⟩ := hv
  have hx := B.exec
  have hb := B.bytes
  have hr := B.returns
  have hT : ∀ wd ∈ TB, wd.before [.int v].toArray s = true := fun wd h => atoms_spec (ws := wT yX12_isLetter cX12_isLetter 1 (some .boolean)) B.pre wd (List.mem_cons_of_mem _ h)
  have hown : s.vm.findClass RX12 = some m.cls := findClass_of_methodNamed B.named
  have hlocks := B.notSynchronized
  subst hsz
  have hl := lv_entry ([.int v]) (n := 1) (Nat.le_of_ble_eq_true rfl)
  rw [lg_entry_eq]
  generalize (lg_sl ([.int v]) ++ List.replicate (1 - (lg_sl ([.int v])).length) Slot.unset).toArray = ls at hl ⊢
  have hl : lv_has ls 1 [(0, .int v)] := hl
  refine lv_iload_n hx hb dX12_isLetter_0 rfl (lv_at hl 0 rfl) ?_
  refine lv_i2l hx hb dX12_isLetter_1 rfl ?_
  refine lv_topl (fun z_1 ez_1 => ?_)
  refine lv_ldc2 (v := 97) hx hb hown (hT _ w1205) dX12_isLetter_2 ?_
  refine lv_ldc2 (v := 122) hx hb hown (hT _ w1206) dX12_isLetter_5 ?_
  refine vp_callSi (va_Run.run (va_runS (As := [.long z_1, .long 97, .long 122]) (rest := []) ⟨hx, hb, hml, hown, hT⟩ (m_isIn l dC dI s.heap.size z_1 97 122) (va_cwS 3 hT (gS w1187 w1188 w14 w1189) rfl rfl rfl (by decide +kernel) ⟨(Nat.le_of_ble_eq_true rfl), (Nat.le_of_ble_eq_true rfl)⟩) ⟨pcW.blind, pcW.pre (va_P0 _ _ _) (hK.sub (tys' := []) [] rfl) (va_D0 (fun _ => True))⟩ rfl rfl hl.1 rfl (lv_room (Nat.le_of_ble_eq_true rfl)) dX12_isLetter_8 ⟨(Nat.le_of_ble_eq_true rfl), (Nat.le_of_ble_eq_true rfl)⟩)) (fun r_2 hr_2 => ?_)
  rcases isInc hr_2 with hc_ | hc_
  · obtain ⟨rfl, hin_⟩ := hc_
    exact W.zret (ty := .boolean) (v := 1) hx hb hr (by decide) (fun t ht h9 => ⟨1, rfl, Or.inr rfl, ht⟩) (fun q h => by cases h) dX12_isLetter_11
  · obtain ⟨rfl, hin_⟩ := hc_
    exact W.zret (ty := .boolean) (v := 0) hx hb hr (by decide) (fun t ht h9 => ⟨0, rfl, Or.inl rfl, ht⟩) (fun q h => by cases h) dX12_isLetter_11

set_option maxHeartbeats 4000000 in
set_option maxRecDepth 100000 in
theorem m_isDigit (l : Launch) (dC : Nat → ClassId) (dI : Nat → Nat → Nat) (sz : Nat) (v : Int32) : Met l yX12_isDigit (wT yX12_isDigit cX12_isDigit 1 (some .boolean)) ({ frames := 1, cells := 0, slots := 0, locals := 25 }) (pcW dC dI [.int v] sz [] []) (vp_Si (fun r => r = 0 ∨ r = 1)) 0 0 (fun _ => False) := by
  refine Met.ofW (cc := cX12_isDigit) (maxL := 1) (ret := (some .boolean)) (by decide) rfl ?_
  intro p e s m args below meth c s₁ B hml hv
  obtain ⟨rfl, hsz, hP, hK, hD0⟩ := hv
  have hx := B.exec
  have hb := B.bytes
  have hr := B.returns
  have hT : ∀ wd ∈ TB, wd.before [.int v].toArray s = true := fun wd h => atoms_spec (ws := wT yX12_isDigit cX12_isDigit 1 (some .boolean)) B.pre wd (List.mem_cons_of_mem _ h)
  have hown : s.vm.findClass RX12 = some m.cls := findClass_of_methodNamed B.named
  have hlocks := B.notSynchronized
  subst hsz
  have hl := lv_entry ([.int v]) (n := 1) (Nat.le_of_ble_eq_true rfl)
  rw [lg_entry_eq]
  generalize (lg_sl ([.int v]) ++ List.replicate (1 - (lg_sl ([.int v])).length) Slot.unset).toArray = ls at hl ⊢
  have hl : lv_has ls 1 [(0, .int v)] := hl
  refine lv_iload_n hx hb dX12_isDigit_0 rfl (lv_at hl 0 rfl) ?_
  refine lv_i2l hx hb dX12_isDigit_1 rfl ?_
  refine lv_topl (fun z_1 ez_1 => ?_)
  refine lv_ldc2 (v := 48) hx hb hown (hT _ w1245) dX12_isDigit_2 ?_
  refine lv_ldc2 (v := 57) hx hb hown (hT _ w1246) dX12_isDigit_5 ?_
  refine vp_callSi (va_Run.run (va_runS (As := [.long z_1, .long 48, .long 57]) (rest := []) ⟨hx, hb, hml, hown, hT⟩ (m_isIn l dC dI s.heap.size z_1 48 57) (va_cwS 3 hT (gS w1187 w1188 w14 w1189) rfl rfl rfl (by decide +kernel) ⟨(Nat.le_of_ble_eq_true rfl), (Nat.le_of_ble_eq_true rfl)⟩) ⟨pcW.blind, pcW.pre (va_P0 _ _ _) (hK.sub (tys' := []) [] rfl) (va_D0 (fun _ => True))⟩ rfl rfl hl.1 rfl (lv_room (Nat.le_of_ble_eq_true rfl)) dX12_isDigit_8 ⟨(Nat.le_of_ble_eq_true rfl), (Nat.le_of_ble_eq_true rfl)⟩)) (fun r_2 hr_2 => ?_)
  rcases isInc hr_2 with hc_ | hc_
  · obtain ⟨rfl, hin_⟩ := hc_
    exact W.zret (ty := .boolean) (v := 1) hx hb hr (by decide) (fun t ht h9 => ⟨1, rfl, Or.inr rfl, ht⟩) (fun q h => by cases h) dX12_isDigit_11
  · obtain ⟨rfl, hin_⟩ := hc_
    exact W.zret (ty := .boolean) (v := 0) hx hb hr (by decide) (fun t ht h9 => ⟨0, rfl, Or.inl rfl, ht⟩) (fun q h => by cases h) dX12_isDigit_11

set_option maxHeartbeats 4000000 in
set_option maxRecDepth 100000 in
theorem m_peek (l : Launch) (dC : Nat → ClassId) (dI : Nat → Nat → Nat) (cy : Nat → ClassId) (L : List Nat) (kap : Nat → Nat) (pr : Pr) (S : Nat → va_E) (sz : Nat) (o : Nat) (hTy : Ty cy L kap pr S) (hT_o : TK L kap o 12) (sp : Nat) (sn : Nat) (wr : Int32) (pa : Nat) (ki : Nat) (rs : Nat) (hM : MK S o sp sn wr pa ki rs) (hsp : sp ≤ sn) : Met l yX12_peek (wT yX12_peek cX12_peek 1 (some .int)) ({ frames := 0, cells := 0, slots := 0, locals := 0 }) (pcN dC dI [.ref o] sz (va_pl L S) (cyT cy) NLs []) (va_Qi (fun r S' => Ty cy L kap pr S' ∧ Fr kap [12] S S' ∧ (∃ sp' wr', MK S' o sp' sn wr' pa ki rs ∧ sp ≤ sp' ∧ sp' ≤ sn ∧ (wr ≠ 0 → wr' ≠ 0) ∧ (r = -1 ∨ sp' < sn))) (fun S' t => pB dC dI (AL L sz) (va_pl L S') (cyT cy) t) (AL L sz)) 0 0 (AL L sz) := by
  refine Met.ofW (cc := cX12_peek) (maxL := 1) (ret := (some .int)) (by decide) rfl ?_
  intro p e s m args below meth c s₁ B hml hv
  obtain ⟨rfl, hsz, hP, hK, hD0, hN, -⟩ := hv
  have hx := B.exec
  have hb := B.bytes
  have hr := B.returns
  have hT : ∀ wd ∈ TB, wd.before [.ref o].toArray s = true := fun wd h => atoms_spec (ws := wT yX12_peek cX12_peek 1 (some .int)) B.pre wd (List.mem_cons_of_mem _ h)
  have hown : s.vm.findClass RX12 = some m.cls := findClass_of_methodNamed B.named
  have hlocks := B.notSynchronized
  subst hsz
  have hW : PW dC dI L (AL L s.heap.size) s.heap S s.heap [] := ⟨hP, pl_self hD0, va_S.rf⟩
  have hA0 : ∀ q, q ∈ L → AL L s.heap.size q := fun _ h => Or.inl h
  have hA : ∀ q, s.heap.size ≤ q → AL L s.heap.size q := fun _ h => Or.inr h
  have hFr : Fr kap [12] S S := Fr.rf
  have hl := lv_entry ([.ref o]) (n := 1) (Nat.le_of_ble_eq_true rfl)
  rw [lg_entry_eq]
  generalize (lg_sl ([.ref o]) ++ List.replicate (1 - (lg_sl ([.ref o])).length) Slot.unset).toArray = ls at hl ⊢
  have hl : lv_has ls 1 [(0, .ref o)] := hl
  obtain ⟨x_1, x_2, x_3, x_4, x_5, x_6, x_7, x_8, x_9, x_10, x_11, x_12, x_13, x_14, x_15, x_16, x_17, x_18, x_19, x_20, x_21, x_22, x_23, x_24, x_25, x_26, x_27, x_28, x_29, x_30, x_31, hS_o, hT_x_1, hT_x_2, hT_x_3, hT_x_4, hT_x_5, hb_x_6, hb_x_7, hb_x_8, hT_x_10, hb_q2, hb_x_11, hb_x_12, hT_x_17, hT_x_18, hb_x_19, hT_x_20, hT_x_21, hT_x_22, hT_x_23, hT_x_24, hT_x_25, hT_x_26, hT_x_27, hT_x_28, hT_x_29, hT_x_30, hb_x_31⟩ := hTy.k12 hT_o
  have hb_q2 : pr.2 ≤ 900 := hb_q2
  have hS_o : S o = .inr (12, [.ref x_1, .ref x_2, .ref x_3, .ref x_4, .ref x_5, .int (nI x_6), .int (nI x_7), .int (nI x_8), .int x_9, .ref x_10, .int (nI (pr.2)), .int (nI x_11), .int (nI x_12), .int x_13, .int x_14, .int x_15, .int x_16, .ref x_17, .ref x_18, .int (nI x_19), .ref x_20, .ref x_21, .ref x_22, .ref x_23, .ref x_24, .ref x_25, .ref x_26, .ref x_27, .ref x_28, .ref x_29, .ref x_30, .int (nI x_31)]) := hS_o
  obtain ⟨e12_, e11_, e13_, e5_, e6_, e0_⟩ := MKe hM hS_o rfl rfl rfl rfl rfl rfl (by omega) (by omega) (by omega) (by omega)
  subst e12_ e11_ e13_ e5_ e6_ e0_
  have loop : ∀ (fuel : Nat) (gs : Nat) (SS : Nat → va_E) (H : Heap) (locs : List Loc) (ls : Array Slot), 901 - gs < fuel → (SS o = .inr (12, [.ref rs, .ref x_2, .ref x_3, .ref x_4, .ref x_5, .int (nI pa), .int (nI ki), .int (nI x_8), .int x_9, .ref x_10, .int (nI (pr.2)), .int (nI sn), .int (nI gs), .int wr, .int x_14, .int x_15, .int x_16, .ref x_17, .ref x_18, .int (nI x_19), .ref x_20, .ref x_21, .ref x_22, .ref x_23, .ref x_24, .ref x_25, .ref x_26, .ref x_27, .ref x_28, .ref x_29, .ref x_30, .int (nI x_31)])) → (gs ≤ sn) → (sp ≤ gs) → Ty cy L kap pr SS → Fr kap [12] S SS → Fr kap [12, 112] S SS → PW dC dI L (AL L s.heap.size) s.heap SS H locs → lv_has ls 1 [(0, .ref o)] → W p l e (headSpec (wT yX12_peek cX12_peek 1 (some .int)) { frames := 0, cells := 0, slots := 0, locals := 0 }).room s m [.ref o].toArray below meth c H locs 0 0 (MQ below (va_Qi (fun r S' => Ty cy L kap pr S' ∧ Fr kap [12] S S' ∧ (∃ sp' wr', MK S' o sp' sn wr' pa ki rs ∧ sp ≤ sp' ∧ sp' ≤ sn ∧ (wr ≠ 0 → wr' ≠ 0) ∧ (r = -1 ∨ sp' < sn))) (fun S' t => pB dC dI (AL L s.heap.size) (va_pl L S') (cyT cy) t) (AL L s.heap.size)) [.ref o].toArray s 0 0 (AL L s.heap.size)) (F0 m 0 ls []) := by
    intro fuel
    induction fuel with
    | zero => intro gs SS H locs ls h; exact absurd h (Nat.not_lt_zero _)
    | succ fu0 ih0 =>
      intro gs S_32 H locs ls hm0 hSlgs hxgs hygs hTy hFr hFl0 hW hl
      refine lv_aload_n hx hb dX12_peek_0 rfl (lv_at hl 0 rfl) ?_
      refine pl_get (ci := 12) (v := .int (nI gs)) (C := RX12) (T := TX12) (N := 32) hx hb hT iX12 hown hK hW hT_o.1 hSlgs rfl 12 (by decide) w1094 rfl dX12_peek_1 ?_
      refine lv_aload_n hx hb dX12_peek_4 rfl (lv_at hl 0 rfl) ?_
      refine pl_get (ci := 12) (v := .int (nI sn)) (C := RX12) (T := TX12) (N := 32) hx hb hT iX12 hown hK hW hT_o.1 hSlgs rfl 11 (by decide) w1093 rfl dX12_peek_5 ?_
      refine lv_icmp_ge (tgt := 38) hx hb dX12_peek_8 (by decide) (fun c_8 => ?_) (fun c_8 => ?_)
      · have c_8 : sn ≤ gs := (nI_leI (a := sn) (b := gs) (by omega) (by omega)).mp c_8
        refine lv_aload_n hx hb dX12_peek_38 rfl (lv_at hl 0 rfl) ?_
        refine pl_get (ci := 12) (v := .int (nI gs)) (C := RX12) (T := TX12) (N := 32) hx hb hT iX12 hown hK hW hT_o.1 hSlgs rfl 12 (by decide) w1094 rfl dX12_peek_39 ?_
        refine lv_aload_n hx hb dX12_peek_42 rfl (lv_at hl 0 rfl) ?_
        refine pl_get (ci := 12) (v := .int (nI sn)) (C := RX12) (T := TX12) (N := 32) hx hb hT iX12 hown hK hW hT_o.1 hSlgs rfl 11 (by decide) w1093 rfl dX12_peek_43 ?_
        refine lv_icmp_ge (tgt := 65) hx hb dX12_peek_46 (by decide) (fun c_46 => ?_) (fun c_46 => ?_)
        · have c_46 : sn ≤ gs := (nI_leI (a := sn) (b := gs) (by omega) (by omega)).mp c_46
          refine lv_iconst (v := (-1)) hx hb dX12_peek_65 (by decide) ?_
          exact W.iret (v := (-1)) hx hb hr (fun t ht h9 => ⟨⟨(-1), S_32, rfl, ⟨hTy, hFr, ⟨gs, _, (MKi (sp := gs) (sn := sn) (pa := pa) (ki := ki) hSlgs rfl rfl rfl rfl rfl rfl (by omega) (by omega) (by omega) (by omega)), by omega, by omega, (fun h => h), Or.inl rfl⟩⟩, by rw [ht]; exact hW.1, va_K.moved h9.alike hK, hW.2.1⟩, hW.2.2.F ht⟩) hW.2.2.2.2 dX12_peek_66
        · have c_46 : ¬ (sn ≤ gs) := fun hh9 => c_46 ((nI_leI (a := sn) (b := gs) (by omega) (by omega)).mpr hh9)
          refine lv_aload_n hx hb dX12_peek_49 rfl (lv_at hl 0 rfl) ?_
          refine pl_get (ci := 12) (v := .ref x_10) (C := RX12) (T := TX12) (N := 32) hx hb hT iX12 hown hK hW hT_o.1 hSlgs rfl 9 (by decide) w1091 rfl dX12_peek_50 ?_
          refine lv_aload_n hx hb dX12_peek_53 rfl (lv_at hl 0 rfl) ?_
          refine pl_get (ci := 12) (v := .int (nI gs)) (C := RX12) (T := TX12) (N := 32) hx hb hT iX12 hown hK hW hT_o.1 hSlgs rfl 12 (by decide) w1094 rfl dX12_peek_54 ?_
          obtain ⟨f_33, hS_x_10⟩ := hTy.k55 hT_x_10
          refine pl_bald hx hb hK hW hT_x_10.1 hS_x_10 (vp_in_nI (n := gs) (N := 900) (by omega) (by omega)) dX12_peek_57 ?_
          refine lv_topi (fun y_34 ey_34 => ?_)
          refine lv_sipush (v := 255) hx hb dX12_peek_58 (by decide) ?_
          refine lv_iand hx hb dX12_peek_61 ?_
          refine lv_topi (fun z_35 ez_35 => ?_)
          refine lv_goto (tgt := 66) hx hb dX12_peek_62 (by decide) ?_
          exact W.iret (v := z_35) hx hb hr (fun t ht h9 => ⟨⟨z_35, S_32, rfl, ⟨hTy, hFr, ⟨gs, _, (MKi (sp := gs) (sn := sn) (pa := pa) (ki := ki) hSlgs rfl rfl rfl rfl rfl rfl (by omega) (by omega) (by omega) (by omega)), by omega, by omega, (fun h => h), Or.inr (by omega)⟩⟩, by rw [ht]; exact hW.1, va_K.moved h9.alike hK, hW.2.1⟩, hW.2.2.F ht⟩) hW.2.2.2.2 dX12_peek_66
      · have c_8 : ¬ (sn ≤ gs) := fun hh9 => c_8 ((nI_leI (a := sn) (b := gs) (by omega) (by omega)).mpr hh9)
        refine lv_aload_n hx hb dX12_peek_11 rfl (lv_at hl 0 rfl) ?_
        refine pl_get (ci := 12) (v := .ref x_10) (C := RX12) (T := TX12) (N := 32) hx hb hT iX12 hown hK hW hT_o.1 hSlgs rfl 9 (by decide) w1091 rfl dX12_peek_12 ?_
        refine lv_aload_n hx hb dX12_peek_15 rfl (lv_at hl 0 rfl) ?_
        refine pl_get (ci := 12) (v := .int (nI gs)) (C := RX12) (T := TX12) (N := 32) hx hb hT iX12 hown hK hW hT_o.1 hSlgs rfl 12 (by decide) w1094 rfl dX12_peek_16 ?_
        obtain ⟨f_36, hS_x_10⟩ := hTy.k55 hT_x_10
        refine pl_bald hx hb hK hW hT_x_10.1 hS_x_10 (vp_in_nI (n := gs) (N := 900) (by omega) (by omega)) dX12_peek_19 ?_
        refine lv_topi (fun y_37 ey_37 => ?_)
        refine lv_bipush (v := 32) hx hb dX12_peek_20 (by decide) ?_
        refine lv_icmp_ne (tgt := 38) hx hb dX12_peek_22 (by decide) (fun c_22 => ?_) (fun c_22 => ?_)
        · refine lv_aload_n hx hb dX12_peek_38 rfl (lv_at hl 0 rfl) ?_
          refine pl_get (ci := 12) (v := .int (nI gs)) (C := RX12) (T := TX12) (N := 32) hx hb hT iX12 hown hK hW hT_o.1 hSlgs rfl 12 (by decide) w1094 rfl dX12_peek_39 ?_
          refine lv_aload_n hx hb dX12_peek_42 rfl (lv_at hl 0 rfl) ?_
          refine pl_get (ci := 12) (v := .int (nI sn)) (C := RX12) (T := TX12) (N := 32) hx hb hT iX12 hown hK hW hT_o.1 hSlgs rfl 11 (by decide) w1093 rfl dX12_peek_43 ?_
          refine lv_icmp_ge (tgt := 65) hx hb dX12_peek_46 (by decide) (fun c_46 => ?_) (fun c_46 => ?_)
          · have c_46 : sn ≤ gs := (nI_leI (a := sn) (b := gs) (by omega) (by omega)).mp c_46
            refine lv_iconst (v := (-1)) hx hb dX12_peek_65 (by decide) ?_
            exact W.iret (v := (-1)) hx hb hr (fun t ht h9 => ⟨⟨(-1), S_32, rfl, ⟨hTy, hFr, ⟨gs, _, (MKi (sp := gs) (sn := sn) (pa := pa) (ki := ki) hSlgs rfl rfl rfl rfl rfl rfl (by omega) (by omega) (by omega) (by omega)), by omega, by omega, (fun h => h), Or.inl rfl⟩⟩, by rw [ht]; exact hW.1, va_K.moved h9.alike hK, hW.2.1⟩, hW.2.2.F ht⟩) hW.2.2.2.2 dX12_peek_66
          · have c_46 : ¬ (sn ≤ gs) := fun hh9 => c_46 ((nI_leI (a := sn) (b := gs) (by omega) (by omega)).mpr hh9)
            refine lv_aload_n hx hb dX12_peek_49 rfl (lv_at hl 0 rfl) ?_
            refine pl_get (ci := 12) (v := .ref x_10) (C := RX12) (T := TX12) (N := 32) hx hb hT iX12 hown hK hW hT_o.1 hSlgs rfl 9 (by decide) w1091 rfl dX12_peek_50 ?_
            refine lv_aload_n hx hb dX12_peek_53 rfl (lv_at hl 0 rfl) ?_
            refine pl_get (ci := 12) (v := .int (nI gs)) (C := RX12) (T := TX12) (N := 32) hx hb hT iX12 hown hK hW hT_o.1 hSlgs rfl 12 (by decide) w1094 rfl dX12_peek_54 ?_
            refine pl_bald hx hb hK hW hT_x_10.1 hS_x_10 (vp_in_nI (n := gs) (N := 900) (by omega) (by omega)) dX12_peek_57 ?_
            refine lv_topi (fun y_38 ey_38 => ?_)
            refine lv_sipush (v := 255) hx hb dX12_peek_58 (by decide) ?_
            refine lv_iand hx hb dX12_peek_61 ?_
            refine lv_topi (fun z_39 ez_39 => ?_)
            refine lv_goto (tgt := 66) hx hb dX12_peek_62 (by decide) ?_
            exact W.iret (v := z_39) hx hb hr (fun t ht h9 => ⟨⟨z_39, S_32, rfl, ⟨hTy, hFr, ⟨gs, _, (MKi (sp := gs) (sn := sn) (pa := pa) (ki := ki) hSlgs rfl rfl rfl rfl rfl rfl (by omega) (by omega) (by omega) (by omega)), by omega, by omega, (fun h => h), Or.inr (by omega)⟩⟩, by rw [ht]; exact hW.1, va_K.moved h9.alike hK, hW.2.1⟩, hW.2.2.F ht⟩) hW.2.2.2.2 dX12_peek_66
        · refine lv_aload_n hx hb dX12_peek_25 rfl (lv_at hl 0 rfl) ?_
          refine lv_dup hx hb dX12_peek_26 rfl ?_
          refine pl_get (ci := 12) (v := .int (nI gs)) (C := RX12) (T := TX12) (N := 32) hx hb hT iX12 hown hK hW hT_o.1 hSlgs rfl 12 (by decide) w1094 rfl dX12_peek_27 ?_
          refine lv_iconst (v := 1) hx hb dX12_peek_30 (by decide) ?_
          refine lv_iadd hx hb dX12_peek_31 ?_
          refine lv_topi (fun z_40 ez_40 => ?_)
          obtain rfl : z_40 = nI (gs + 1) := ez_40.trans (nI_add (gs) (1))
          refine pl_put (ci := 12) (v := .int (nI (gs + 1))) (ty := .int) (C := RX12) (T := TX12) (N := 32) (fs' := [.ref rs, .ref x_2, .ref x_3, .ref x_4, .ref x_5, .int (nI pa), .int (nI ki), .int (nI x_8), .int x_9, .ref x_10, .int (nI (pr.2)), .int (nI sn), .int (nI (gs + 1)), .int wr, .int x_14, .int x_15, .int x_16, .ref x_17, .ref x_18, .int (nI x_19), .ref x_20, .ref x_21, .ref x_22, .ref x_23, .ref x_24, .ref x_25, .ref x_26, .ref x_27, .ref x_28, .ref x_29, .ref x_30, .int (nI x_31)]) hx hb hT iX12 tyX12 tyX12_ok nmX12 hown hK hW hT_o.1 hSlgs rfl 12 (by decide) w1094 rfl (by decide +kernel) rfl rfl (Nat.le_of_ble_eq_true rfl) rfl dX12_peek_32 (fun H locs S_41 e1 hW => ?_)
          have hTy := hTy.u12 e1 hT_o ⟨rs, x_2, x_3, x_4, x_5, pa, ki, x_8, x_9, x_10, sn, gs + 1, wr, x_14, x_15, x_16, x_17, x_18, x_19, x_20, x_21, x_22, x_23, x_24, x_25, x_26, x_27, x_28, x_29, x_30, x_31, rfl, hT_x_1, hT_x_2, hT_x_3, hT_x_4, hT_x_5, (by omega), (by omega), (by omega), hT_x_10, (by show pr.2 ≤ 900; omega), (by omega), (by omega), hT_x_17, hT_x_18, (by omega), hT_x_20, hT_x_21, hT_x_22, hT_x_23, hT_x_24, hT_x_25, hT_x_26, hT_x_27, hT_x_28, hT_x_29, hT_x_30, (by omega)⟩
          have hS_x_10 := un e1 hT_x_10 hT_o (by decide) hS_x_10
          have hws := (show wrs (.inr (12, [.ref rs, .ref x_2, .ref x_3, .ref x_4, .ref x_5, .int (nI pa), .int (nI ki), .int (nI x_8), .int x_9, .ref x_10, .int (nI (pr.2)), .int (nI sn), .int (nI (gs + 1)), .int wr, .int x_14, .int x_15, .int x_16, .ref x_17, .ref x_18, .int (nI x_19), .ref x_20, .ref x_21, .ref x_22, .ref x_23, .ref x_24, .ref x_25, .ref x_26, .ref x_27, .ref x_28, .ref x_29, .ref x_30, .int (nI x_31)])) = wrs (S_32 o) from by rw [hSlgs]; rfl)
          have hFr := ufs hFr e1 hT_o (by decide) hws
          have hFl0 := ufs hFl0 e1 hT_o (by decide) hws
          have hSlgs := us e1
          refine lv_goto (tgt := 0) hx hb dX12_peek_35 (by decide) ?_
          exact ih0 (gs + 1) _ _ _ ls (by omega) hSlgs (by omega) (by omega) hTy hFr hFl0 hW (lv_sub hl [0] rfl)
  exact loop ((901 - sp) + 1) sp _ _ _ ls (Nat.lt_succ_self _) hS_o (by omega) (by omega) hTy hFr Fr.rf hW (lv_sub hl [0] rfl)

set_option maxHeartbeats 4000000 in
set_option maxRecDepth 100000 in
theorem m_fails (l : Launch) (dC : Nat → ClassId) (dI : Nat → Nat → Nat) (cy : Nat → ClassId) (L : List Nat) (kap : Nat → Nat) (pr : Pr) (S : Nat → va_E) (sz : Nat) (o : Nat) (wh : Int32) (pl : Int32) (hTy : Ty cy L kap pr S) (hT_o : TK L kap o 12) (sp : Nat) (sn : Nat) (wr : Int32) (pa : Nat) (ki : Nat) (rs : Nat) (hM : MK S o sp sn wr pa ki rs) (hsp : sp ≤ sn) (hc : wh ≠ 0) : Met l yX12_fails (wT yX12_fails cX12_fails 3 none) ({ frames := 0, cells := 0, slots := 0, locals := 0 }) (pcN dC dI [.ref o, .int wh, .int pl] sz (va_pl L S) (cyT cy) NLs []) (va_Qv (fun S' => Ty cy L kap pr S' ∧ Fr kap [12, 112] S S' ∧ (∃ sp' wr', MK S' o sp' sn wr' pa ki rs ∧ sp ≤ sp' ∧ sp' ≤ sn ∧ wr' ≠ 0)) (fun S' t => pB dC dI (AL L sz) (va_pl L S') (cyT cy) t) (AL L sz)) 0 0 (AL L sz) := by
  refine Met.ofW (cc := cX12_fails) (maxL := 3) (ret := none) (by decide) rfl ?_
  intro p e s m args below meth c s₁ B hml hv
  obtain ⟨rfl, hsz, hP, hK, hD0, hN, -⟩ := hv
  have hx := B.exec
  have hb := B.bytes
  have hr := B.returns
  have hT : ∀ wd ∈ TB, wd.before [.ref o, .int wh, .int pl].toArray s = true := fun wd h => atoms_spec (ws := wT yX12_fails cX12_fails 3 none) B.pre wd (List.mem_cons_of_mem _ h)
  have hown : s.vm.findClass RX12 = some m.cls := findClass_of_methodNamed B.named
  have hlocks := B.notSynchronized
  subst hsz
  have hW : PW dC dI L (AL L s.heap.size) s.heap S s.heap [] := ⟨hP, pl_self hD0, va_S.rf⟩
  have hA0 : ∀ q, q ∈ L → AL L s.heap.size q := fun _ h => Or.inl h
  have hA : ∀ q, s.heap.size ≤ q → AL L s.heap.size q := fun _ h => Or.inr h
  have hFr : Fr kap [12, 112] S S := Fr.rf
  have hl := lv_entry ([.ref o, .int wh, .int pl]) (n := 3) (Nat.le_of_ble_eq_true rfl)
  rw [lg_entry_eq]
  generalize (lg_sl ([.ref o, .int wh, .int pl]) ++ List.replicate (3 - (lg_sl ([.ref o, .int wh, .int pl])).length) Slot.unset).toArray = ls at hl ⊢
  have hl : lv_has ls 3 [(0, .ref o), (1, .int wh), (2, .int pl)] := hl
  obtain ⟨x_1, x_2, x_3, x_4, x_5, x_6, x_7, x_8, x_9, x_10, x_11, x_12, x_13, x_14, x_15, x_16, x_17, x_18, x_19, x_20, x_21, x_22, x_23, x_24, x_25, x_26, x_27, x_28, x_29, x_30, x_31, hS_o, hT_x_1, hT_x_2, hT_x_3, hT_x_4, hT_x_5, hb_x_6, hb_x_7, hb_x_8, hT_x_10, hb_q2, hb_x_11, hb_x_12, hT_x_17, hT_x_18, hb_x_19, hT_x_20, hT_x_21, hT_x_22, hT_x_23, hT_x_24, hT_x_25, hT_x_26, hT_x_27, hT_x_28, hT_x_29, hT_x_30, hb_x_31⟩ := hTy.k12 hT_o
  have hb_q2 : pr.2 ≤ 900 := hb_q2
  have hS_o : S o = .inr (12, [.ref x_1, .ref x_2, .ref x_3, .ref x_4, .ref x_5, .int (nI x_6), .int (nI x_7), .int (nI x_8), .int x_9, .ref x_10, .int (nI (pr.2)), .int (nI x_11), .int (nI x_12), .int x_13, .int x_14, .int x_15, .int x_16, .ref x_17, .ref x_18, .int (nI x_19), .ref x_20, .ref x_21, .ref x_22, .ref x_23, .ref x_24, .ref x_25, .ref x_26, .ref x_27, .ref x_28, .ref x_29, .ref x_30, .int (nI x_31)]) := hS_o
  obtain ⟨e12_, e11_, e13_, e5_, e6_, e0_⟩ := MKe hM hS_o rfl rfl rfl rfl rfl rfl (by omega) (by omega) (by omega) (by omega)
  subst e12_ e11_ e13_ e5_ e6_ e0_
  refine lv_aload_n hx hb dX12_fails_0 rfl (lv_at hl 0 rfl) ?_
  refine pl_get (ci := 12) (v := .int wr) (C := RX12) (T := TX12) (N := 32) hx hb hT iX12 hown hK hW hT_o.1 hS_o rfl 13 (by decide) w1095 rfl dX12_fails_1 ?_
  refine lv_if_eq (tgt := 8) hx hb dX12_fails_4 (by decide) (fun c_4 => ?_) (fun c_4 => ?_)
  · refine lv_aload_n hx hb dX12_fails_8 rfl (lv_at hl 0 rfl) ?_
    refine lv_iload_n hx hb dX12_fails_9 rfl (lv_at hl 1 rfl) ?_
    refine pl_put (ci := 12) (v := .int wh) (ty := .int) (C := RX12) (T := TX12) (N := 32) (fs' := [.ref rs, .ref x_2, .ref x_3, .ref x_4, .ref x_5, .int (nI pa), .int (nI ki), .int (nI x_8), .int x_9, .ref x_10, .int (nI (pr.2)), .int (nI sn), .int (nI sp), .int wh, .int x_14, .int x_15, .int x_16, .ref x_17, .ref x_18, .int (nI x_19), .ref x_20, .ref x_21, .ref x_22, .ref x_23, .ref x_24, .ref x_25, .ref x_26, .ref x_27, .ref x_28, .ref x_29, .ref x_30, .int (nI x_31)]) hx hb hT iX12 tyX12 tyX12_ok nmX12 hown hK hW hT_o.1 hS_o rfl 13 (by decide) w1095 rfl (by decide +kernel) rfl rfl (Nat.le_of_ble_eq_true rfl) rfl dX12_fails_10 (fun H locs S_32 e1 hW => ?_)
    have hTy := hTy.u12 e1 hT_o ⟨rs, x_2, x_3, x_4, x_5, pa, ki, x_8, x_9, x_10, sn, sp, wh, x_14, x_15, x_16, x_17, x_18, x_19, x_20, x_21, x_22, x_23, x_24, x_25, x_26, x_27, x_28, x_29, x_30, x_31, rfl, hT_x_1, hT_x_2, hT_x_3, hT_x_4, hT_x_5, (by omega), (by omega), (by omega), hT_x_10, (by show pr.2 ≤ 900; omega), (by omega), (by omega), hT_x_17, hT_x_18, (by omega), hT_x_20, hT_x_21, hT_x_22, hT_x_23, hT_x_24, hT_x_25, hT_x_26, hT_x_27, hT_x_28, hT_x_29, hT_x_30, (by omega)⟩
    have hws := trivial
    have hFr := ufw hFr e1 hT_o (by decide) (by decide)
    have hS_o := us e1
    refine lv_aload_n hx hb dX12_fails_13 rfl (lv_at hl 0 rfl) ?_
    refine lv_iload_n hx hb dX12_fails_14 rfl (lv_at hl 2 rfl) ?_
    refine pl_put (ci := 12) (v := .int pl) (ty := .int) (C := RX12) (T := TX12) (N := 32) (fs' := [.ref rs, .ref x_2, .ref x_3, .ref x_4, .ref x_5, .int (nI pa), .int (nI ki), .int (nI x_8), .int x_9, .ref x_10, .int (nI (pr.2)), .int (nI sn), .int (nI sp), .int wh, .int pl, .int x_15, .int x_16, .ref x_17, .ref x_18, .int (nI x_19), .ref x_20, .ref x_21, .ref x_22, .ref x_23, .ref x_24, .ref x_25, .ref x_26, .ref x_27, .ref x_28, .ref x_29, .ref x_30, .int (nI x_31)]) hx hb hT iX12 tyX12 tyX12_ok nmX12 hown hK hW hT_o.1 hS_o rfl 14 (by decide) w1096 rfl (by decide +kernel) rfl rfl (Nat.le_of_ble_eq_true rfl) rfl dX12_fails_15 (fun H locs S_33 e1 hW => ?_)
    have hTy := hTy.u12 e1 hT_o ⟨rs, x_2, x_3, x_4, x_5, pa, ki, x_8, x_9, x_10, sn, sp, wh, pl, x_15, x_16, x_17, x_18, x_19, x_20, x_21, x_22, x_23, x_24, x_25, x_26, x_27, x_28, x_29, x_30, x_31, rfl, hT_x_1, hT_x_2, hT_x_3, hT_x_4, hT_x_5, (by omega), (by omega), (by omega), hT_x_10, (by show pr.2 ≤ 900; omega), (by omega), (by omega), hT_x_17, hT_x_18, (by omega), hT_x_20, hT_x_21, hT_x_22, hT_x_23, hT_x_24, hT_x_25, hT_x_26, hT_x_27, hT_x_28, hT_x_29, hT_x_30, (by omega)⟩
    have hws := trivial
    have hFr := ufw hFr e1 hT_o (by decide) (by decide)
    have hS_o := us e1
    exact W.vret hx hb hr (fun t ht h9 => ⟨⟨S_33, rfl, ⟨hTy, hFr, ⟨sp, _, (MKi (sp := sp) (sn := sn) (pa := pa) (ki := ki) hS_o rfl rfl rfl rfl rfl rfl (by omega) (by omega) (by omega) (by omega)), by omega, by omega, hc⟩⟩, by rw [ht]; exact hW.1, va_K.moved h9.alike hK, hW.2.1⟩, hW.2.2.F ht⟩) hW.2.2.2.2 dX12_fails_18
  · exact W.vret hx hb hr (fun t ht h9 => ⟨⟨S, rfl, ⟨hTy, hFr, ⟨sp, _, (MKi (sp := sp) (sn := sn) (pa := pa) (ki := ki) hS_o rfl rfl rfl rfl rfl rfl (by omega) (by omega) (by omega) (by omega)), by omega, by omega, c_4⟩⟩, by rw [ht]; exact hW.1, va_K.moved h9.alike hK, hW.2.1⟩, hW.2.2.F ht⟩) hW.2.2.2.2 dX12_fails_7

set_option maxHeartbeats 4000000 in
set_option maxRecDepth 100000 in
theorem m_letters (l : Launch) (dC : Nat → ClassId) (dI : Nat → Nat → Nat) (cy : Nat → ClassId) (L : List Nat) (kap : Nat → Nat) (pr : Pr) (S : Nat → va_E) (sz : Nat) (o : Nat) (hTy : Ty cy L kap pr S) (hT_o : TK L kap o 12) (sp : Nat) (sn : Nat) (wr : Int32) (pa : Nat) (ki : Nat) (rs : Nat) (hM : MK S o sp sn wr pa ki rs) (hsp : sp ≤ sn) : Met l yX12_lettersHere (wT yX12_lettersHere cX12_lettersHere 2 (some .int)) ({ frames := 2, cells := 0, slots := 0, locals := 45 }) (pcN dC dI [.ref o] sz (va_pl L S) (cyT cy) NLs []) (vp_Si (fun r => ∃ k, sp + k ≤ sn ∧ r = nI k)) 0 0 (fun _ => False) := by
  refine Met.ofW (cc := cX12_lettersHere) (maxL := 2) (ret := (some .int)) (by decide) rfl ?_
  intro p e s m args below meth c s₁ B hml hv
  obtain ⟨rfl, hsz, hP, hK, hD0, hN, -⟩ := hv
  have hx := B.exec
  have hb := B.bytes
  have hr := B.returns
  have hT : ∀ wd ∈ TB, wd.before [.ref o].toArray s = true := fun wd h => atoms_spec (ws := wT yX12_lettersHere cX12_lettersHere 2 (some .int)) B.pre wd (List.mem_cons_of_mem _ h)
  have hown : s.vm.findClass RX12 = some m.cls := findClass_of_methodNamed B.named
  have hlocks := B.notSynchronized
  subst hsz
  have hW : PW dC dI L (AL L s.heap.size) s.heap S s.heap [] := ⟨hP, pl_self hD0, va_S.rf⟩
  have hFr : Fr kap [] S S := Fr.rf
  have hl := lv_entry ([.ref o]) (n := 2) (Nat.le_of_ble_eq_true rfl)
  rw [lg_entry_eq]
  generalize (lg_sl ([.ref o]) ++ List.replicate (2 - (lg_sl ([.ref o])).length) Slot.unset).toArray = ls at hl ⊢
  have hl : lv_has ls 2 [(0, .ref o)] := hl
  obtain ⟨x_1, x_2, x_3, x_4, x_5, x_6, x_7, x_8, x_9, x_10, x_11, x_12, x_13, x_14, x_15, x_16, x_17, x_18, x_19, x_20, x_21, x_22, x_23, x_24, x_25, x_26, x_27, x_28, x_29, x_30, x_31, hS_o, hT_x_1, hT_x_2, hT_x_3, hT_x_4, hT_x_5, hb_x_6, hb_x_7, hb_x_8, hT_x_10, hb_q2, hb_x_11, hb_x_12, hT_x_17, hT_x_18, hb_x_19, hT_x_20, hT_x_21, hT_x_22, hT_x_23, hT_x_24, hT_x_25, hT_x_26, hT_x_27, hT_x_28, hT_x_29, hT_x_30, hb_x_31⟩ := hTy.k12 hT_o
  have hb_q2 : pr.2 ≤ 900 := hb_q2
  have hS_o : S o = .inr (12, [.ref x_1, .ref x_2, .ref x_3, .ref x_4, .ref x_5, .int (nI x_6), .int (nI x_7), .int (nI x_8), .int x_9, .ref x_10, .int (nI (pr.2)), .int (nI x_11), .int (nI x_12), .int x_13, .int x_14, .int x_15, .int x_16, .ref x_17, .ref x_18, .int (nI x_19), .ref x_20, .ref x_21, .ref x_22, .ref x_23, .ref x_24, .ref x_25, .ref x_26, .ref x_27, .ref x_28, .ref x_29, .ref x_30, .int (nI x_31)]) := hS_o
  obtain ⟨e12_, e11_, e13_, e5_, e6_, e0_⟩ := MKe hM hS_o rfl rfl rfl rfl rfl rfl (by omega) (by omega) (by omega) (by omega)
  subst e12_ e11_ e13_ e5_ e6_ e0_
  refine lv_iconst (v := 0) hx hb dX12_lettersHere_0 (by decide) ?_
  refine lv_istore_n (lv' := [(1, .int 0), (0, .ref o)]) hx hb dX12_lettersHere_1 rfl hl (by decide) rfl (fun ls hl => ?_)
  have loop : ∀ (fuel : Nat) (i : Nat) (ls : Array Slot), 901 - i < fuel → (i ≤ 900) → (sp + i ≤ sn) → lv_has ls 2 [(1, .int (nI i)), (0, .ref o)] → W p l e (headSpec (wT yX12_lettersHere cX12_lettersHere 2 (some .int)) { frames := 2, cells := 0, slots := 0, locals := 45 }).room s m [.ref o].toArray below meth c s.heap [] 0 0 (MQ below (vp_Si (fun r => ∃ k, sp + k ≤ sn ∧ r = nI k)) [.ref o].toArray s 0 0 (fun _ => False)) (F0 m 2 ls []) := by
    intro fuel
    induction fuel with
    | zero => intro i ls h; exact absurd h (Nat.not_lt_zero _)
    | succ fu2 ih2 =>
      intro i ls hm2 hb_i hsi hl
      refine lv_aload_n hx hb dX12_lettersHere_2 rfl (lv_at hl 1 rfl) ?_
      refine pl_get (ci := 12) (v := .int (nI sp)) (C := RX12) (T := TX12) (N := 32) hx hb hT iX12 hown hK hW hT_o.1 hS_o rfl 12 (by decide) w1094 rfl dX12_lettersHere_3 ?_
      refine lv_iload_n hx hb dX12_lettersHere_6 rfl (lv_at hl 0 rfl) ?_
      refine lv_iadd hx hb dX12_lettersHere_7 ?_
      refine lv_topi (fun z_32 ez_32 => ?_)
      obtain rfl : z_32 = nI (sp + i) := ez_32.trans (nI_add (sp) (i))
      refine lv_aload_n hx hb dX12_lettersHere_8 rfl (lv_at hl 1 rfl) ?_
      refine pl_get (ci := 12) (v := .int (nI sn)) (C := RX12) (T := TX12) (N := 32) hx hb hT iX12 hown hK hW hT_o.1 hS_o rfl 11 (by decide) w1093 rfl dX12_lettersHere_9 ?_
      refine lv_icmp_ge (tgt := 38) hx hb dX12_lettersHere_12 (by decide) (fun c_12 => ?_) (fun c_12 => ?_)
      · have c_12 : sn ≤ (sp + i) := (nI_leI (a := sn) (b := sp + i) (by omega) (by omega)).mp c_12
        refine lv_iload_n hx hb dX12_lettersHere_38 rfl (lv_at hl 0 rfl) ?_
        exact W.iret (v := nI i) hx hb hr (fun t ht h9 => ⟨nI i, rfl, ⟨i, by omega, rfl⟩, ht⟩) (fun q h => by cases h) dX12_lettersHere_39
      · have c_12 : ¬ (sn ≤ (sp + i)) := fun hh9 => c_12 ((nI_leI (a := sn) (b := sp + i) (by omega) (by omega)).mpr hh9)
        refine lv_aload_n hx hb dX12_lettersHere_15 rfl (lv_at hl 1 rfl) ?_
        refine pl_get (ci := 12) (v := .ref x_10) (C := RX12) (T := TX12) (N := 32) hx hb hT iX12 hown hK hW hT_o.1 hS_o rfl 9 (by decide) w1091 rfl dX12_lettersHere_16 ?_
        refine lv_aload_n hx hb dX12_lettersHere_19 rfl (lv_at hl 1 rfl) ?_
        refine pl_get (ci := 12) (v := .int (nI sp)) (C := RX12) (T := TX12) (N := 32) hx hb hT iX12 hown hK hW hT_o.1 hS_o rfl 12 (by decide) w1094 rfl dX12_lettersHere_20 ?_
        refine lv_iload_n hx hb dX12_lettersHere_23 rfl (lv_at hl 0 rfl) ?_
        refine lv_iadd hx hb dX12_lettersHere_24 ?_
        refine lv_topi (fun z_33 ez_33 => ?_)
        obtain rfl : z_33 = nI (sp + i) := ez_33.trans (nI_add (sp) (i))
        obtain ⟨f_34, hS_x_10⟩ := hTy.k55 hT_x_10
        refine pl_bald hx hb hK hW hT_x_10.1 hS_x_10 (vp_in_nI (n := sp + i) (N := 900) (by omega) (by omega)) dX12_lettersHere_25 ?_
        refine lv_topi (fun y_35 ey_35 => ?_)
        refine vp_callSi (va_Run.run (va_runS (As := [.int y_35]) (rest := []) ⟨hx, hb, hml, hown, hT⟩ (m_isLetter l dC dI s.heap.size y_35) (va_cwS 1 hT (gS w1202 w1203 w14 w1204) rfl rfl rfl (by decide +kernel) ⟨(Nat.le_of_ble_eq_true rfl), (Nat.le_of_ble_eq_true rfl)⟩) ⟨pcW.blind, pcW.pre (va_P0 _ _ _) (hK.sub (tys' := []) [] rfl) (va_D0 (fun _ => True))⟩ rfl rfl hl.1 rfl (lv_room (Nat.le_of_ble_eq_true rfl)) dX12_lettersHere_26 ⟨(Nat.le_of_ble_eq_true rfl), (Nat.le_of_ble_eq_true rfl)⟩)) (fun r_36 hr_36 => ?_)
        refine lv_if_eq (tgt := 38) hx hb dX12_lettersHere_29 (by decide) (fun c_29 => ?_) (fun c_29 => ?_)
        · refine lv_iload_n hx hb dX12_lettersHere_38 rfl (lv_at hl 0 rfl) ?_
          exact W.iret (v := nI i) hx hb hr (fun t ht h9 => ⟨nI i, rfl, ⟨i, by omega, rfl⟩, ht⟩) (fun q h => by cases h) dX12_lettersHere_39
        · refine lv_iinc (v := nI (i + 1)) (lv' := [(1, .int (nI (i + 1))), (0, .ref o)]) hx hb dX12_lettersHere_32 hl (k := 0) rfl (nI_add (i) 1) (by decide) rfl (fun ls hl => ?_)
          refine lv_goto (tgt := 2) hx hb dX12_lettersHere_35 (by decide) ?_
          exact ih2 (i + 1) ls (by omega) (by omega) (by omega) (lv_sub hl [0, 1] rfl)
  exact loop ((901 - 0) + 1) 0 ls (Nat.lt_succ_self _) (by omega) (by omega) (lv_sub hl [0, 1] rfl)

set_option maxHeartbeats 4000000 in
set_option maxRecDepth 100000 in
theorem m_word (l : Launch) (dC : Nat → ClassId) (dI : Nat → Nat → Nat) (cy : Nat → ClassId) (L : List Nat) (kap : Nat → Nat) (pr : Pr) (ad : (Nat → Nat) × (Nat → Nat)) (S : Nat → va_E) (sz : Nat) (o : Nat) (hTy : Ty cy L kap pr S) (hT_o : TK L kap o 12) (sp : Nat) (sn : Nat) (wr : Int32) (pa : Nat) (ki : Nat) (rs : Nat) (hM : MK S o sp sn wr pa ki rs) (hsp : sp ≤ sn) : Met l yX12_wordHere (wT yX12_wordHere cX12_wordHere 7 (some .int)) ({ frames := 4, cells := 0, slots := 0, locals := 85 }) (pcS dC dI [.ref o] sz L S (cyT cy) NLs ad) (va_Qi (fun r S' => Ty cy L kap pr S' ∧ Fr kap [12] S S' ∧ (∃ sp' wr', MK S' o sp' sn wr' pa ki rs ∧ sp ≤ sp' ∧ sp' ≤ sn ∧ (wr ≠ 0 → wr' ≠ 0))) (fun S' t => pB dC dI (AL L sz) (va_pl L S') (cyT cy) t) (AL L sz)) 0 0 (AL L sz) := by
  refine Met.ofW (cc := cX12_wordHere) (maxL := 7) (ret := (some .int)) (by decide) rfl ?_
  intro p e s m args below meth c s₁ B hml hv
  obtain ⟨rfl, hsz, hP, hK, hD0, hN, hSTR⟩ := hv
  have hx := B.exec
  have hb := B.bytes
  have hr := B.returns
  have hT : ∀ wd ∈ TB, wd.before [.ref o].toArray s = true := fun wd h => atoms_spec (ws := wT yX12_wordHere cX12_wordHere 7 (some .int)) B.pre wd (List.mem_cons_of_mem _ h)
  have hown : s.vm.findClass RX12 = some m.cls := findClass_of_methodNamed B.named
  have hlocks := B.notSynchronized
  subst hsz
  have hW : PW dC dI L (AL L s.heap.size) s.heap S s.heap [] := ⟨hP, pl_self hD0, va_S.rf⟩
  have hA0 : ∀ q, q ∈ L → AL L s.heap.size q := fun _ h => Or.inl h
  have hA : ∀ q, s.heap.size ≤ q → AL L s.heap.size q := fun _ h => Or.inr h
  have hFr : Fr kap [12] S S := Fr.rf
  have hl := lv_entry ([.ref o]) (n := 7) (Nat.le_of_ble_eq_true rfl)
  rw [lg_entry_eq]
  generalize (lg_sl ([.ref o]) ++ List.replicate (7 - (lg_sl ([.ref o])).length) Slot.unset).toArray = ls at hl ⊢
  have hl : lv_has ls 7 [(0, .ref o)] := hl
  obtain ⟨x_1, x_2, x_3, x_4, x_5, x_6, x_7, x_8, x_9, x_10, x_11, x_12, x_13, x_14, x_15, x_16, x_17, x_18, x_19, x_20, x_21, x_22, x_23, x_24, x_25, x_26, x_27, x_28, x_29, x_30, x_31, hS_o, hT_x_1, hT_x_2, hT_x_3, hT_x_4, hT_x_5, hb_x_6, hb_x_7, hb_x_8, hT_x_10, hb_q2, hb_x_11, hb_x_12, hT_x_17, hT_x_18, hb_x_19, hT_x_20, hT_x_21, hT_x_22, hT_x_23, hT_x_24, hT_x_25, hT_x_26, hT_x_27, hT_x_28, hT_x_29, hT_x_30, hb_x_31⟩ := hTy.k12 hT_o
  have hb_q2 : pr.2 ≤ 900 := hb_q2
  have hS_o : S o = .inr (12, [.ref x_1, .ref x_2, .ref x_3, .ref x_4, .ref x_5, .int (nI x_6), .int (nI x_7), .int (nI x_8), .int x_9, .ref x_10, .int (nI (pr.2)), .int (nI x_11), .int (nI x_12), .int x_13, .int x_14, .int x_15, .int x_16, .ref x_17, .ref x_18, .int (nI x_19), .ref x_20, .ref x_21, .ref x_22, .ref x_23, .ref x_24, .ref x_25, .ref x_26, .ref x_27, .ref x_28, .ref x_29, .ref x_30, .int (nI x_31)]) := hS_o
  obtain ⟨e12_, e11_, e13_, e5_, e6_, e0_⟩ := MKe hM hS_o rfl rfl rfl rfl rfl rfl (by omega) (by omega) (by omega) (by omega)
  subst e12_ e11_ e13_ e5_ e6_ e0_
  have hl6 : lenJS.getD 6 0 = 32 := rfl
  refine lv_aload_n hx hb dX12_wordHere_0 rfl (lv_at hl 0 rfl) ?_
  refine pl_get (ci := 12) (v := .int wr) (C := RX12) (T := TX12) (N := 32) hx hb hT iX12 hown hK hW hT_o.1 hS_o rfl 13 (by decide) w1095 rfl dX12_wordHere_1 ?_
  refine lv_if_ne (tgt := 17) hx hb dX12_wordHere_4 (by decide) (fun c_4 => ?_) (fun c_4 => ?_)
  · refine lv_iconst (v := (-1)) hx hb dX12_wordHere_17 (by decide) ?_
    exact W.iret (v := (-1)) hx hb hr (fun t ht h9 => ⟨⟨(-1), S, rfl, ⟨hTy, hFr, ⟨sp, _, (MKi (sp := sp) (sn := sn) (pa := pa) (ki := ki) hS_o rfl rfl rfl rfl rfl rfl (by omega) (by omega) (by omega) (by omega)), by omega, by omega, (fun h => h)⟩⟩, by rw [ht]; exact hW.1, va_K.moved h9.alike hK, hW.2.1⟩, hW.2.2.F ht⟩) hW.2.2.2.2 dX12_wordHere_18
  · refine lv_aload_n hx hb dX12_wordHere_7 rfl (lv_at hl 0 rfl) ?_
    refine pl_calli (va_runV (As := []) (rest := []) ⟨hx, hb, hml, hown, hT⟩ (m_peek l dC dI cy L kap pr S s.heap.size o hTy hT_o sp sn wr pa ki rs (MKi (sp := sp) (sn := sn) (pa := pa) (ki := ki) hS_o rfl rfl rfl rfl rfl rfl (by omega) (by omega) (by omega) (by omega)) (by omega)) (cwV 0 hT (gV w1190 w1192 ws55 w14 w1193) rfl rfl rfl (by decide +kernel) ⟨(Nat.le_of_ble_eq_true rfl), (Nat.le_of_ble_eq_true rfl)⟩) ⟨pcN.blind, pl_recv hK hW hT_o.1 hS_o rfl, pcN.pre hW.1 hK hW.2.1 hN (fun q h => absurd h List.not_mem_nil)⟩ rfl rfl hl.1 rfl (lv_room (Nat.le_of_ble_eq_true rfl)) dX12_wordHere_8 ⟨(Nat.le_of_ble_eq_true rfl), (Nat.le_of_ble_eq_true rfl)⟩) hW hA0 hA (fun r_33 S_32 H locs hrel hW => ?_)
    obtain ⟨hTy, hF1, hx1⟩ := hrel
    have hFr := hFr.tr hF1 (by decide)
    obtain ⟨sp34, wr34, hM34, hpa34, hpb34, hw34, hv34⟩ := hx1
    obtain ⟨x_35, x_36, x_37, x_38, x_39, x_40, x_41, x_42, x_43, x_44, x_45, x_46, x_47, x_48, x_49, x_50, x_51, x_52, x_53, x_54, x_55, x_56, x_57, x_58, x_59, x_60, x_61, x_62, x_63, x_64, x_65, hS_o, hT_x_35, hT_x_36, hT_x_37, hT_x_38, hT_x_39, hb_x_40, hb_x_41, hb_x_42, hT_x_44, hb_q2, hb_x_45, hb_x_46, hT_x_51, hT_x_52, hb_x_53, hT_x_54, hT_x_55, hT_x_56, hT_x_57, hT_x_58, hT_x_59, hT_x_60, hT_x_61, hT_x_62, hT_x_63, hT_x_64, hb_x_65⟩ := hTy.k12 hT_o
    have hb_q2 : pr.2 ≤ 900 := hb_q2
    have hS_o : S_32 o = .inr (12, [.ref x_35, .ref x_36, .ref x_37, .ref x_38, .ref x_39, .int (nI x_40), .int (nI x_41), .int (nI x_42), .int x_43, .ref x_44, .int (nI (pr.2)), .int (nI x_45), .int (nI x_46), .int x_47, .int x_48, .int x_49, .int x_50, .ref x_51, .ref x_52, .int (nI x_53), .ref x_54, .ref x_55, .ref x_56, .ref x_57, .ref x_58, .ref x_59, .ref x_60, .ref x_61, .ref x_62, .ref x_63, .ref x_64, .int (nI x_65)]) := hS_o
    obtain ⟨e12_, e11_, e13_, e5_, e6_, e0_⟩ := MKe hM34 hS_o rfl rfl rfl rfl rfl rfl (by omega) (by omega) (by omega) (by omega)
    subst e12_ e11_ e13_ e5_ e6_ e0_
    refine vp_callSi (va_Run.run (va_runS (As := [.int r_33]) (rest := []) ⟨hx, hb, hml, hown, hT⟩ (m_isLetter l dC dI H.size r_33) (va_cwS 1 hT (gS w1202 w1203 w14 w1204) rfl rfl rfl (by decide +kernel) ⟨(Nat.le_of_ble_eq_true rfl), (Nat.le_of_ble_eq_true rfl)⟩) ⟨pcW.blind, pcW.pre (va_P0 _ _ _) (hK.sub (tys' := []) [] rfl) (va_D0 (fun _ => True))⟩ rfl rfl hl.1 rfl (lv_room (Nat.le_of_ble_eq_true rfl)) dX12_wordHere_11 ⟨(Nat.le_of_ble_eq_true rfl), (Nat.le_of_ble_eq_true rfl)⟩)) (fun r_66 hr_66 => ?_)
    refine lv_if_ne (tgt := 19) hx hb dX12_wordHere_14 (by decide) (fun c_14 => ?_) (fun c_14 => ?_)
    · refine lv_aload_n hx hb dX12_wordHere_19 rfl (lv_at hl 0 rfl) ?_
      refine vp_callSi (va_Run.run (va_runV (As := []) (rest := []) ⟨hx, hb, hml, hown, hT⟩ (m_letters l dC dI cy L kap pr S_32 H.size o hTy hT_o sp34 sn wr34 pa ki rs (MKi (sp := sp34) (sn := sn) (pa := pa) (ki := ki) hS_o rfl rfl rfl rfl rfl rfl (by omega) (by omega) (by omega) (by omega)) (by omega)) (cwV 0 hT (gV w1207 w1209 ws58 w14 w1210) rfl rfl rfl (by decide +kernel) ⟨(Nat.le_of_ble_eq_true rfl), (Nat.le_of_ble_eq_true rfl)⟩) ⟨pcN.blind, pl_recv hK hW hT_o.1 hS_o rfl, pcN.pre hW.1 hK hW.2.1 hN (fun q h => absurd h List.not_mem_nil)⟩ rfl rfl hl.1 rfl (lv_room (Nat.le_of_ble_eq_true rfl)) dX12_wordHere_20 ⟨(Nat.le_of_ble_eq_true rfl), (Nat.le_of_ble_eq_true rfl)⟩)) (fun r_67 hr_67 => ?_)
      obtain ⟨k_68, hb_k_68, rfl⟩ := hr_67
      refine lv_istore_n (lv' := [(1, .int (nI k_68)), (0, .ref o)]) hx hb dX12_wordHere_23 rfl hl (by decide) rfl (fun ls hl => ?_)
      refine lv_iconst (v := 0) hx hb dX12_wordHere_24 (by decide) ?_
      refine lv_istore_n (lv' := [(2, .int 0), (1, .int (nI k_68)), (0, .ref o)]) hx hb dX12_wordHere_25 rfl hl (by decide) rfl (fun ls hl => ?_)
      refine lv_iconst (v := 1) hx hb dX12_wordHere_26 (by decide) ?_
      refine lv_istore_n (lv' := [(3, .int 1), (2, .int 0), (1, .int (nI k_68)), (0, .ref o)]) hx hb dX12_wordHere_27 rfl hl (by decide) rfl (fun ls hl => ?_)
      have loop : ∀ (fuel : Nat) (k9 : Nat) (nn : Int32) (SS : Nat → va_E) (H : Heap) (locs : List Loc) (ls : Array Slot), 33 - k9 < fuel → (k9 ≤ 32) → Ty cy L kap pr SS → Fr kap [12] S SS → Fr kap [] S_32 SS → PW dC dI L (AL L s.heap.size) s.heap SS H locs → lv_has ls 7 [(3, .int (nI k9)), (2, .int nn), (1, .int (nI k_68)), (0, .ref o)] → W p l e (headSpec (wT yX12_wordHere cX12_wordHere 7 (some .int)) { frames := 4, cells := 0, slots := 0, locals := 85 }).room s m [.ref o].toArray below meth c H locs 0 0 (MQ below (va_Qi (fun r S' => Ty cy L kap pr S' ∧ Fr kap [12] S S' ∧ (∃ sp' wr', MK S' o sp' sn wr' pa ki rs ∧ sp ≤ sp' ∧ sp' ≤ sn ∧ (wr ≠ 0 → wr' ≠ 0))) (fun S' t => pB dC dI (AL L s.heap.size) (va_pl L S') (cyT cy) t) (AL L s.heap.size)) [.ref o].toArray s 0 0 (AL L s.heap.size)) (F0 m 28 ls []) := by
        intro fuel
        induction fuel with
        | zero => intro k9 nn SS H locs ls h; exact absurd h (Nat.not_lt_zero _)
        | succ fu28 ih28 =>
          intro k9 nn S_69 H locs ls hm28 hb_k9 hTy hFr hFl28 hW hl
          have hS_o := hFl28.at hT_o (by decide) hS_o
          refine lv_iload_n hx hb dX12_wordHere_28 rfl (lv_at hl 0 rfl) ?_
          refine va_ldcS hx hb hown (hSTR.2.2.2 6 (by decide)) dX12_wordHere_29 ?_
          refine vp_callSi (va_Run.run (va_runV (As := []) (rest := [.int (nI k9)]) ⟨hx, hb, hml, hown, hT⟩ (j_length l ad (AL L s.heap.size) H.size 6 (by omega)) (cwV 0 hT (gV w1212 w437 w438 w16 w439) rfl rfl rfl (by decide +kernel) ⟨(Nat.le_of_ble_eq_true rfl), (Nat.le_of_ble_eq_true rfl)⟩) ⟨pcT.blind, vk_recv hSTR.1 (i := 6) (by omega) hW.2.2, pcT.pre hSTR hW.2.2⟩ rfl rfl hl.1 rfl (lv_room (Nat.le_of_ble_eq_true rfl)) dX12_wordHere_31 ⟨(Nat.le_of_ble_eq_true rfl), (Nat.le_of_ble_eq_true rfl)⟩)) (fun r_70 hr_70 => ?_)
          obtain rfl : r_70 = nI 32 := hr_70
          refine lv_icmp_ge (tgt := 142) hx hb dX12_wordHere_34 (by decide) (fun c_34 => ?_) (fun c_34 => ?_)
          · have c_34 : 32 ≤ k9 := (nI_leI (a := 32) (b := k9) (by omega) (by omega)).mp c_34
            refine lv_iconst (v := (-1)) hx hb dX12_wordHere_142 (by decide) ?_
            exact W.iret (v := (-1)) hx hb hr (fun t ht h9 => ⟨⟨(-1), S_69, rfl, ⟨hTy, hFr, ⟨sp34, _, (MKi (sp := sp34) (sn := sn) (pa := pa) (ki := ki) hS_o rfl rfl rfl rfl rfl rfl (by omega) (by omega) (by omega) (by omega)), by omega, by omega, (fun h => hw34 ((fun h => h) h))⟩⟩, by rw [ht]; exact hW.1, va_K.moved h9.alike hK, hW.2.1⟩, hW.2.2.F ht⟩) hW.2.2.2.2 dX12_wordHere_143
          · have c_34 : ¬ (32 ≤ k9) := fun hh9 => c_34 ((nI_leI (a := 32) (b := k9) (by omega) (by omega)).mpr hh9)
            refine lv_iload_n hx hb dX12_wordHere_37 rfl (lv_at hl 0 rfl) ?_
            refine lv_istore (lv' := [(4, .int (nI k9)), (3, .int (nI k9)), (2, .int nn), (1, .int (nI k_68)), (0, .ref o)]) hx hb dX12_wordHere_38 hl (by decide) rfl (fun ls hl => ?_)
            have loop : ∀ (fuel : Nat) (e9 : Nat) (SS : Nat → va_E) (H : Heap) (locs : List Loc) (ls : Array Slot), 32 - e9 < fuel → (e9 ≤ 31) → (k9 ≤ e9) → Ty cy L kap pr SS → Fr kap [12] S SS → Fr kap [] S_69 SS → PW dC dI L (AL L s.heap.size) s.heap SS H locs → lv_has ls 7 [(4, .int (nI e9)), (3, .int (nI k9)), (2, .int nn), (1, .int (nI k_68)), (0, .ref o)] → W p l e (headSpec (wT yX12_wordHere cX12_wordHere 7 (some .int)) { frames := 4, cells := 0, slots := 0, locals := 85 }).room s m [.ref o].toArray below meth c H locs 0 0 (MQ below (va_Qi (fun r S' => Ty cy L kap pr S' ∧ Fr kap [12] S S' ∧ (∃ sp' wr', MK S' o sp' sn wr' pa ki rs ∧ sp ≤ sp' ∧ sp' ≤ sn ∧ (wr ≠ 0 → wr' ≠ 0))) (fun S' t => pB dC dI (AL L s.heap.size) (va_pl L S') (cyT cy) t) (AL L s.heap.size)) [.ref o].toArray s 0 0 (AL L s.heap.size)) (F0 m 40 ls []) := by
              intro fuel
              induction fuel with
              | zero => intro e9 SS H locs ls h; exact absurd h (Nat.not_lt_zero _)
              | succ fu40 ih40 =>
                intro e9 S_71 H locs ls hm40 hb_e9 hke9 hTy hFr hFl40 hW hl
                have hS_o := hFl40.at hT_o (by decide) hS_o
                have hFl28 := hFl28.tr hFl40 (by decide)
                refine va_ldcS hx hb hown (hSTR.2.2.2 6 (by decide)) dX12_wordHere_40 ?_
                refine lv_iload hx hb dX12_wordHere_42 (lv_at hl 0 rfl) ?_
                refine vp_callSi (va_Run.run (va_runV (As := [.int (nI e9)]) (rest := []) ⟨hx, hb, hml, hown, hT⟩ (j_charAt l ad (AL L s.heap.size) H.size 6 e9 (by omega) (by omega)) (cwV 1 hT (gV w1213 w447 w448 w16 w449) rfl rfl rfl (by decide +kernel) ⟨(Nat.le_of_ble_eq_true rfl), (Nat.le_of_ble_eq_true rfl)⟩) ⟨pcT.blind, vk_recv hSTR.1 (i := 6) (by omega) hW.2.2, pcT.pre hSTR hW.2.2⟩ rfl rfl hl.1 rfl (lv_room (Nat.le_of_ble_eq_true rfl)) dX12_wordHere_44 ⟨(Nat.le_of_ble_eq_true rfl), (Nat.le_of_ble_eq_true rfl)⟩)) (fun r_72 hr_72 => ?_)
                refine lv_bipush (v := 32) hx hb dX12_wordHere_47 (by decide) ?_
                refine lv_icmp_eq (tgt := 58) hx hb dX12_wordHere_49 (by decide) (fun c_49 => ?_) (fun c_49 => ?_)
                · refine lv_iload hx hb dX12_wordHere_58 (lv_at hl 0 rfl) ?_
                  refine lv_iload_n hx hb dX12_wordHere_60 rfl (lv_at hl 1 rfl) ?_
                  refine lv_isub hx hb dX12_wordHere_61 ?_
                  refine lv_topi (fun z_73 ez_73 => ?_)
                  obtain rfl : z_73 = nI (e9 - k9) := ez_73.trans (pk_sub (a := e9) (b := k9) (by omega))
                  refine lv_iload_n hx hb dX12_wordHere_62 rfl (lv_at hl 3 rfl) ?_
                  refine lv_icmp_ne (tgt := 70) hx hb dX12_wordHere_63 (by decide) (fun c_63 => ?_) (fun c_63 => ?_)
                  · have c_63 : ¬ ((e9 - k9) = k_68) := fun hh9 => c_63 ((nI_eq (a := e9 - k9) (b := k_68) (by omega) (by omega)).mpr hh9)
                    refine lv_iconst (v := 0) hx hb dX12_wordHere_70 (by decide) ?_
                    refine lv_istore (lv' := [(5, .int 0), (4, .int (nI e9)), (3, .int (nI k9)), (2, .int nn), (1, .int (nI k_68)), (0, .ref o)]) hx hb dX12_wordHere_71 hl (by decide) rfl (fun ls hl => ?_)
                    refine lv_iconst (v := 0) hx hb dX12_wordHere_73 (by decide) ?_
                    refine lv_istore (lv' := [(6, .int 0), (5, .int 0), (4, .int (nI e9)), (3, .int (nI k9)), (2, .int nn), (1, .int (nI k_68)), (0, .ref o)]) hx hb dX12_wordHere_74 hl (by decide) rfl (fun ls hl => ?_)
                    have loop : ∀ (fuel : Nat) (i : Nat) (lk : Int32) (SS : Nat → va_E) (H : Heap) (locs : List Loc) (ls : Array Slot), 901 - i < fuel → (i ≤ 900) → (lk = 0 ∨ k9 + k_68 = e9) → Ty cy L kap pr SS → Fr kap [12] S SS → Fr kap [] S_71 SS → PW dC dI L (AL L s.heap.size) s.heap SS H locs → lv_has ls 7 [(6, .int (nI i)), (5, .int lk), (4, .int (nI e9)), (3, .int (nI k9)), (2, .int nn), (1, .int (nI k_68)), (0, .ref o)] → W p l e (headSpec (wT yX12_wordHere cX12_wordHere 7 (some .int)) { frames := 4, cells := 0, slots := 0, locals := 85 }).room s m [.ref o].toArray below meth c H locs 0 0 (MQ below (va_Qi (fun r S' => Ty cy L kap pr S' ∧ Fr kap [12] S S' ∧ (∃ sp' wr', MK S' o sp' sn wr' pa ki rs ∧ sp ≤ sp' ∧ sp' ≤ sn ∧ (wr ≠ 0 → wr' ≠ 0))) (fun S' t => pB dC dI (AL L s.heap.size) (va_pl L S') (cyT cy) t) (AL L s.heap.size)) [.ref o].toArray s 0 0 (AL L s.heap.size)) (F0 m 76 ls []) := by
                      intro fuel
                      induction fuel with
                      | zero => intro i lk SS H locs ls h; exact absurd h (Nat.not_lt_zero _)
                      | succ fu76 ih76 =>
                        intro i lk S_74 H locs ls hm76 hb_i hlk hTy hFr hFl76 hW hl
                        have hS_o := hFl76.at hT_o (by decide) hS_o
                        have hFl28 := hFl28.tr hFl76 (by decide)
                        have hFl40 := hFl40.tr hFl76 (by decide)
                        refine lv_iload hx hb dX12_wordHere_76 (lv_at hl 0 rfl) ?_
                        refine lv_iload_n hx hb dX12_wordHere_78 rfl (lv_at hl 5 rfl) ?_
                        refine lv_icmp_ge (tgt := 124) hx hb dX12_wordHere_79 (by decide) (fun c_79 => ?_) (fun c_79 => ?_)
                        · have c_79 : k_68 ≤ i := (nI_leI (a := k_68) (b := i) (by omega) (by omega)).mp c_79
                          refine lv_iload hx hb dX12_wordHere_124 (lv_at hl 1 rfl) ?_
                          refine lv_if_eq (tgt := 131) hx hb dX12_wordHere_126 (by decide) (fun c_126 => ?_) (fun c_126 => ?_)
                          · obtain ⟨u_75, eu_75⟩ : ∃ y : Int32, y = nn + Int32.ofInt (1) := ⟨_, rfl⟩
                            refine lv_iinc (v := u_75) (lv' := [(2, .int u_75), (6, .int (nI i)), (5, .int lk), (4, .int (nI e9)), (3, .int (nI k9)), (1, .int (nI k_68)), (0, .ref o)]) hx hb dX12_wordHere_131 hl (k := 4) rfl eu_75.symm (by decide) rfl (fun ls hl => ?_)
                            refine lv_iload hx hb dX12_wordHere_134 (lv_at hl 3 rfl) ?_
                            refine lv_iconst (v := 1) hx hb dX12_wordHere_136 (by decide) ?_
                            refine lv_iadd hx hb dX12_wordHere_137 ?_
                            refine lv_topi (fun z_76 ez_76 => ?_)
                            obtain rfl : z_76 = nI (e9 + 1) := ez_76.trans (nI_add (e9) (1))
                            refine lv_istore_n (lv' := [(3, .int (nI (e9 + 1))), (2, .int u_75), (6, .int (nI i)), (5, .int lk), (4, .int (nI e9)), (1, .int (nI k_68)), (0, .ref o)]) hx hb dX12_wordHere_138 rfl hl (by decide) rfl (fun ls hl => ?_)
                            refine lv_goto (tgt := 28) hx hb dX12_wordHere_139 (by decide) ?_
                            exact ih28 (e9 + 1) u_75 _ _ _ ls (by omega) (by omega) hTy hFr hFl28 hW (lv_sub hl [0, 1, 5, 6] rfl)
                          · refine lv_iload_n hx hb dX12_wordHere_129 rfl (lv_at hl 4 rfl) ?_
                            exact W.iret (v := nn) hx hb hr (fun t ht h9 => ⟨⟨nn, S_74, rfl, ⟨hTy, hFr, ⟨sp34, _, (MKi (sp := sp34) (sn := sn) (pa := pa) (ki := ki) hS_o rfl rfl rfl rfl rfl rfl (by omega) (by omega) (by omega) (by omega)), by omega, by omega, (fun h => hw34 ((fun h => h) h))⟩⟩, by rw [ht]; exact hW.1, va_K.moved h9.alike hK, hW.2.1⟩, hW.2.2.F ht⟩) hW.2.2.2.2 dX12_wordHere_130
                        · have c_79 : ¬ (k_68 ≤ i) := fun hh9 => c_79 ((nI_leI (a := k_68) (b := i) (by omega) (by omega)).mpr hh9)
                          refine lv_iload hx hb dX12_wordHere_82 (lv_at hl 1 rfl) ?_
                          refine lv_if_eq (tgt := 124) hx hb dX12_wordHere_84 (by decide) (fun c_84 => ?_) (fun c_84 => ?_)
                          · refine lv_iload hx hb dX12_wordHere_124 (lv_at hl 1 rfl) ?_
                            refine lv_if_eq (tgt := 131) hx hb dX12_wordHere_126 (by decide) (fun c_126 => ?_) (fun c_126 => ?_)
                            · obtain ⟨u_77, eu_77⟩ : ∃ y : Int32, y = nn + Int32.ofInt (1) := ⟨_, rfl⟩
                              refine lv_iinc (v := u_77) (lv' := [(2, .int u_77), (6, .int (nI i)), (5, .int lk), (4, .int (nI e9)), (3, .int (nI k9)), (1, .int (nI k_68)), (0, .ref o)]) hx hb dX12_wordHere_131 hl (k := 4) rfl eu_77.symm (by decide) rfl (fun ls hl => ?_)
                              refine lv_iload hx hb dX12_wordHere_134 (lv_at hl 3 rfl) ?_
                              refine lv_iconst (v := 1) hx hb dX12_wordHere_136 (by decide) ?_
                              refine lv_iadd hx hb dX12_wordHere_137 ?_
                              refine lv_topi (fun z_78 ez_78 => ?_)
                              obtain rfl : z_78 = nI (e9 + 1) := ez_78.trans (nI_add (e9) (1))
                              refine lv_istore_n (lv' := [(3, .int (nI (e9 + 1))), (2, .int u_77), (6, .int (nI i)), (5, .int lk), (4, .int (nI e9)), (1, .int (nI k_68)), (0, .ref o)]) hx hb dX12_wordHere_138 rfl hl (by decide) rfl (fun ls hl => ?_)
                              refine lv_goto (tgt := 28) hx hb dX12_wordHere_139 (by decide) ?_
                              exact ih28 (e9 + 1) u_77 _ _ _ ls (by omega) (by omega) hTy hFr hFl28 hW (lv_sub hl [0, 1, 5, 6] rfl)
                            · refine lv_iload_n hx hb dX12_wordHere_129 rfl (lv_at hl 4 rfl) ?_
                              exact W.iret (v := nn) hx hb hr (fun t ht h9 => ⟨⟨nn, S_74, rfl, ⟨hTy, hFr, ⟨sp34, _, (MKi (sp := sp34) (sn := sn) (pa := pa) (ki := ki) hS_o rfl rfl rfl rfl rfl rfl (by omega) (by omega) (by omega) (by omega)), by omega, by omega, (fun h => hw34 ((fun h => h) h))⟩⟩, by rw [ht]; exact hW.1, va_K.moved h9.alike hK, hW.2.1⟩, hW.2.2.F ht⟩) hW.2.2.2.2 dX12_wordHere_130
                          · have hke := hlk.resolve_left c_84
                            refine va_ldcS hx hb hown (hSTR.2.2.2 6 (by decide)) dX12_wordHere_87 ?_
                            refine lv_iload_n hx hb dX12_wordHere_89 rfl (lv_at hl 3 rfl) ?_
                            refine lv_iload hx hb dX12_wordHere_90 (lv_at hl 0 rfl) ?_
                            refine lv_iadd hx hb dX12_wordHere_92 ?_
                            refine lv_topi (fun z_79 ez_79 => ?_)
                            obtain rfl : z_79 = nI (k9 + i) := ez_79.trans (nI_add (k9) (i))
                            refine vp_callSi (va_Run.run (va_runV (As := [.int (nI (k9 + i))]) (rest := []) ⟨hx, hb, hml, hown, hT⟩ (j_charAt l ad (AL L s.heap.size) H.size 6 (k9 + i) (by omega) (by omega)) (cwV 1 hT (gV w1213 w447 w448 w16 w449) rfl rfl rfl (by decide +kernel) ⟨(Nat.le_of_ble_eq_true rfl), (Nat.le_of_ble_eq_true rfl)⟩) ⟨pcT.blind, vk_recv hSTR.1 (i := 6) (by omega) hW.2.2, pcT.pre hSTR hW.2.2⟩ rfl rfl hl.1 rfl (lv_room (Nat.le_of_ble_eq_true rfl)) dX12_wordHere_93 ⟨(Nat.le_of_ble_eq_true rfl), (Nat.le_of_ble_eq_true rfl)⟩)) (fun r_80 hr_80 => ?_)
                            refine lv_aload_n hx hb dX12_wordHere_96 rfl (lv_at hl 6 rfl) ?_
                            refine pl_get (ci := 12) (v := .ref x_44) (C := RX12) (T := TX12) (N := 32) hx hb hT iX12 hown hK hW hT_o.1 hS_o rfl 9 (by decide) w1091 rfl dX12_wordHere_97 ?_
                            refine lv_aload_n hx hb dX12_wordHere_100 rfl (lv_at hl 6 rfl) ?_
                            refine pl_get (ci := 12) (v := .int (nI sp34)) (C := RX12) (T := TX12) (N := 32) hx hb hT iX12 hown hK hW hT_o.1 hS_o rfl 12 (by decide) w1094 rfl dX12_wordHere_101 ?_
                            refine lv_iload hx hb dX12_wordHere_104 (lv_at hl 0 rfl) ?_
                            refine lv_iadd hx hb dX12_wordHere_106 ?_
                            refine lv_topi (fun z_81 ez_81 => ?_)
                            obtain rfl : z_81 = nI (sp34 + i) := ez_81.trans (nI_add (sp34) (i))
                            obtain ⟨f_82, hS_x_44⟩ := hTy.k55 hT_x_44
                            refine pl_bald hx hb hK hW hT_x_44.1 hS_x_44 (vp_in_nI (n := sp34 + i) (N := 900) (by omega) (by omega)) dX12_wordHere_107 ?_
                            refine lv_topi (fun y_83 ey_83 => ?_)
                            refine lv_icmp_ne (tgt := 115) hx hb dX12_wordHere_108 (by decide) (fun c_108 => ?_) (fun c_108 => ?_)
                            · refine lv_iconst (v := 0) hx hb dX12_wordHere_115 (by decide) ?_
                              refine lv_istore (lv' := [(5, .int 0), (6, .int (nI i)), (4, .int (nI e9)), (3, .int (nI k9)), (2, .int nn), (1, .int (nI k_68)), (0, .ref o)]) hx hb dX12_wordHere_116 hl (by decide) rfl (fun ls hl => ?_)
                              refine lv_iinc (v := nI (i + 1)) (lv' := [(6, .int (nI (i + 1))), (5, .int 0), (4, .int (nI e9)), (3, .int (nI k9)), (2, .int nn), (1, .int (nI k_68)), (0, .ref o)]) hx hb dX12_wordHere_118 hl (k := 1) rfl (nI_add (i) 1) (by decide) rfl (fun ls hl => ?_)
                              refine lv_goto (tgt := 76) hx hb dX12_wordHere_121 (by decide) ?_
                              exact ih76 (i + 1) 0 _ _ _ ls (by omega) (by omega) (Or.inl rfl) hTy hFr hFl76 hW (lv_sub hl [0, 1, 2, 3, 4, 5, 6] rfl)
                            · refine lv_iconst (v := 1) hx hb dX12_wordHere_111 (by decide) ?_
                              refine lv_goto (tgt := 116) hx hb dX12_wordHere_112 (by decide) ?_
                              refine lv_istore (lv' := [(5, .int 1), (6, .int (nI i)), (4, .int (nI e9)), (3, .int (nI k9)), (2, .int nn), (1, .int (nI k_68)), (0, .ref o)]) hx hb dX12_wordHere_116 hl (by decide) rfl (fun ls hl => ?_)
                              refine lv_iinc (v := nI (i + 1)) (lv' := [(6, .int (nI (i + 1))), (5, .int 1), (4, .int (nI e9)), (3, .int (nI k9)), (2, .int nn), (1, .int (nI k_68)), (0, .ref o)]) hx hb dX12_wordHere_118 hl (k := 1) rfl (nI_add (i) 1) (by decide) rfl (fun ls hl => ?_)
                              refine lv_goto (tgt := 76) hx hb dX12_wordHere_121 (by decide) ?_
                              exact ih76 (i + 1) 1 _ _ _ ls (by omega) (by omega) (hlk.elim (fun q => absurd q c_84) Or.inr) hTy hFr hFl76 hW (lv_sub hl [0, 1, 2, 3, 4, 5, 6] rfl)
                    exact loop ((901 - 0) + 1) 0 0 _ _ _ ls (Nat.lt_succ_self _) (by omega) (Or.inl rfl) hTy hFr Fr.rf hW (lv_sub hl [0, 1, 2, 3, 4, 5, 6] rfl)
                  · have c_63 : (e9 - k9) = k_68 := (nI_eq (a := e9 - k9) (b := k_68) (by omega) (by omega)).mp c_63
                    refine lv_iconst (v := 1) hx hb dX12_wordHere_66 (by decide) ?_
                    refine lv_goto (tgt := 71) hx hb dX12_wordHere_67 (by decide) ?_
                    refine lv_istore (lv' := [(5, .int 1), (4, .int (nI e9)), (3, .int (nI k9)), (2, .int nn), (1, .int (nI k_68)), (0, .ref o)]) hx hb dX12_wordHere_71 hl (by decide) rfl (fun ls hl => ?_)
                    refine lv_iconst (v := 0) hx hb dX12_wordHere_73 (by decide) ?_
                    refine lv_istore (lv' := [(6, .int 0), (5, .int 1), (4, .int (nI e9)), (3, .int (nI k9)), (2, .int nn), (1, .int (nI k_68)), (0, .ref o)]) hx hb dX12_wordHere_74 hl (by decide) rfl (fun ls hl => ?_)
                    have loop : ∀ (fuel : Nat) (i : Nat) (lk : Int32) (SS : Nat → va_E) (H : Heap) (locs : List Loc) (ls : Array Slot), 901 - i < fuel → (i ≤ 900) → (lk = 0 ∨ k9 + k_68 = e9) → Ty cy L kap pr SS → Fr kap [12] S SS → Fr kap [] S_71 SS → PW dC dI L (AL L s.heap.size) s.heap SS H locs → lv_has ls 7 [(6, .int (nI i)), (5, .int lk), (4, .int (nI e9)), (3, .int (nI k9)), (2, .int nn), (1, .int (nI k_68)), (0, .ref o)] → W p l e (headSpec (wT yX12_wordHere cX12_wordHere 7 (some .int)) { frames := 4, cells := 0, slots := 0, locals := 85 }).room s m [.ref o].toArray below meth c H locs 0 0 (MQ below (va_Qi (fun r S' => Ty cy L kap pr S' ∧ Fr kap [12] S S' ∧ (∃ sp' wr', MK S' o sp' sn wr' pa ki rs ∧ sp ≤ sp' ∧ sp' ≤ sn ∧ (wr ≠ 0 → wr' ≠ 0))) (fun S' t => pB dC dI (AL L s.heap.size) (va_pl L S') (cyT cy) t) (AL L s.heap.size)) [.ref o].toArray s 0 0 (AL L s.heap.size)) (F0 m 76 ls []) := by
                      intro fuel
                      induction fuel with
                      | zero => intro i lk SS H locs ls h; exact absurd h (Nat.not_lt_zero _)
                      | succ fu76 ih76 =>
                        intro i lk S_84 H locs ls hm76 hb_i hlk hTy hFr hFl76 hW hl
                        have hS_o := hFl76.at hT_o (by decide) hS_o
                        have hFl28 := hFl28.tr hFl76 (by decide)
                        have hFl40 := hFl40.tr hFl76 (by decide)
                        refine lv_iload hx hb dX12_wordHere_76 (lv_at hl 0 rfl) ?_
                        refine lv_iload_n hx hb dX12_wordHere_78 rfl (lv_at hl 5 rfl) ?_
                        refine lv_icmp_ge (tgt := 124) hx hb dX12_wordHere_79 (by decide) (fun c_79 => ?_) (fun c_79 => ?_)
                        · have c_79 : k_68 ≤ i := (nI_leI (a := k_68) (b := i) (by omega) (by omega)).mp c_79
                          refine lv_iload hx hb dX12_wordHere_124 (lv_at hl 1 rfl) ?_
                          refine lv_if_eq (tgt := 131) hx hb dX12_wordHere_126 (by decide) (fun c_126 => ?_) (fun c_126 => ?_)
                          · obtain ⟨u_85, eu_85⟩ : ∃ y : Int32, y = nn + Int32.ofInt (1) := ⟨_, rfl⟩
                            refine lv_iinc (v := u_85) (lv' := [(2, .int u_85), (6, .int (nI i)), (5, .int lk), (4, .int (nI e9)), (3, .int (nI k9)), (1, .int (nI k_68)), (0, .ref o)]) hx hb dX12_wordHere_131 hl (k := 4) rfl eu_85.symm (by decide) rfl (fun ls hl => ?_)
                            refine lv_iload hx hb dX12_wordHere_134 (lv_at hl 3 rfl) ?_
                            refine lv_iconst (v := 1) hx hb dX12_wordHere_136 (by decide) ?_
                            refine lv_iadd hx hb dX12_wordHere_137 ?_
                            refine lv_topi (fun z_86 ez_86 => ?_)
                            obtain rfl : z_86 = nI (e9 + 1) := ez_86.trans (nI_add (e9) (1))
                            refine lv_istore_n (lv' := [(3, .int (nI (e9 + 1))), (2, .int u_85), (6, .int (nI i)), (5, .int lk), (4, .int (nI e9)), (1, .int (nI k_68)), (0, .ref o)]) hx hb dX12_wordHere_138 rfl hl (by decide) rfl (fun ls hl => ?_)
                            refine lv_goto (tgt := 28) hx hb dX12_wordHere_139 (by decide) ?_
                            exact ih28 (e9 + 1) u_85 _ _ _ ls (by omega) (by omega) hTy hFr hFl28 hW (lv_sub hl [0, 1, 5, 6] rfl)
                          · refine lv_iload_n hx hb dX12_wordHere_129 rfl (lv_at hl 4 rfl) ?_
                            exact W.iret (v := nn) hx hb hr (fun t ht h9 => ⟨⟨nn, S_84, rfl, ⟨hTy, hFr, ⟨sp34, _, (MKi (sp := sp34) (sn := sn) (pa := pa) (ki := ki) hS_o rfl rfl rfl rfl rfl rfl (by omega) (by omega) (by omega) (by omega)), by omega, by omega, (fun h => hw34 ((fun h => h) h))⟩⟩, by rw [ht]; exact hW.1, va_K.moved h9.alike hK, hW.2.1⟩, hW.2.2.F ht⟩) hW.2.2.2.2 dX12_wordHere_130
                        · have c_79 : ¬ (k_68 ≤ i) := fun hh9 => c_79 ((nI_leI (a := k_68) (b := i) (by omega) (by omega)).mpr hh9)
                          refine lv_iload hx hb dX12_wordHere_82 (lv_at hl 1 rfl) ?_
                          refine lv_if_eq (tgt := 124) hx hb dX12_wordHere_84 (by decide) (fun c_84 => ?_) (fun c_84 => ?_)
                          · refine lv_iload hx hb dX12_wordHere_124 (lv_at hl 1 rfl) ?_
                            refine lv_if_eq (tgt := 131) hx hb dX12_wordHere_126 (by decide) (fun c_126 => ?_) (fun c_126 => ?_)
                            · obtain ⟨u_87, eu_87⟩ : ∃ y : Int32, y = nn + Int32.ofInt (1) := ⟨_, rfl⟩
                              refine lv_iinc (v := u_87) (lv' := [(2, .int u_87), (6, .int (nI i)), (5, .int lk), (4, .int (nI e9)), (3, .int (nI k9)), (1, .int (nI k_68)), (0, .ref o)]) hx hb dX12_wordHere_131 hl (k := 4) rfl eu_87.symm (by decide) rfl (fun ls hl => ?_)
                              refine lv_iload hx hb dX12_wordHere_134 (lv_at hl 3 rfl) ?_
                              refine lv_iconst (v := 1) hx hb dX12_wordHere_136 (by decide) ?_
                              refine lv_iadd hx hb dX12_wordHere_137 ?_
                              refine lv_topi (fun z_88 ez_88 => ?_)
                              obtain rfl : z_88 = nI (e9 + 1) := ez_88.trans (nI_add (e9) (1))
                              refine lv_istore_n (lv' := [(3, .int (nI (e9 + 1))), (2, .int u_87), (6, .int (nI i)), (5, .int lk), (4, .int (nI e9)), (1, .int (nI k_68)), (0, .ref o)]) hx hb dX12_wordHere_138 rfl hl (by decide) rfl (fun ls hl => ?_)
                              refine lv_goto (tgt := 28) hx hb dX12_wordHere_139 (by decide) ?_
                              exact ih28 (e9 + 1) u_87 _ _ _ ls (by omega) (by omega) hTy hFr hFl28 hW (lv_sub hl [0, 1, 5, 6] rfl)
                            · refine lv_iload_n hx hb dX12_wordHere_129 rfl (lv_at hl 4 rfl) ?_
                              exact W.iret (v := nn) hx hb hr (fun t ht h9 => ⟨⟨nn, S_84, rfl, ⟨hTy, hFr, ⟨sp34, _, (MKi (sp := sp34) (sn := sn) (pa := pa) (ki := ki) hS_o rfl rfl rfl rfl rfl rfl (by omega) (by omega) (by omega) (by omega)), by omega, by omega, (fun h => hw34 ((fun h => h) h))⟩⟩, by rw [ht]; exact hW.1, va_K.moved h9.alike hK, hW.2.1⟩, hW.2.2.F ht⟩) hW.2.2.2.2 dX12_wordHere_130
                          · have hke := hlk.resolve_left c_84
                            refine va_ldcS hx hb hown (hSTR.2.2.2 6 (by decide)) dX12_wordHere_87 ?_
                            refine lv_iload_n hx hb dX12_wordHere_89 rfl (lv_at hl 3 rfl) ?_
                            refine lv_iload hx hb dX12_wordHere_90 (lv_at hl 0 rfl) ?_
                            refine lv_iadd hx hb dX12_wordHere_92 ?_
                            refine lv_topi (fun z_89 ez_89 => ?_)
                            obtain rfl : z_89 = nI (k9 + i) := ez_89.trans (nI_add (k9) (i))
                            refine vp_callSi (va_Run.run (va_runV (As := [.int (nI (k9 + i))]) (rest := []) ⟨hx, hb, hml, hown, hT⟩ (j_charAt l ad (AL L s.heap.size) H.size 6 (k9 + i) (by omega) (by omega)) (cwV 1 hT (gV w1213 w447 w448 w16 w449) rfl rfl rfl (by decide +kernel) ⟨(Nat.le_of_ble_eq_true rfl), (Nat.le_of_ble_eq_true rfl)⟩) ⟨pcT.blind, vk_recv hSTR.1 (i := 6) (by omega) hW.2.2, pcT.pre hSTR hW.2.2⟩ rfl rfl hl.1 rfl (lv_room (Nat.le_of_ble_eq_true rfl)) dX12_wordHere_93 ⟨(Nat.le_of_ble_eq_true rfl), (Nat.le_of_ble_eq_true rfl)⟩)) (fun r_90 hr_90 => ?_)
                            refine lv_aload_n hx hb dX12_wordHere_96 rfl (lv_at hl 6 rfl) ?_
                            refine pl_get (ci := 12) (v := .ref x_44) (C := RX12) (T := TX12) (N := 32) hx hb hT iX12 hown hK hW hT_o.1 hS_o rfl 9 (by decide) w1091 rfl dX12_wordHere_97 ?_
                            refine lv_aload_n hx hb dX12_wordHere_100 rfl (lv_at hl 6 rfl) ?_
                            refine pl_get (ci := 12) (v := .int (nI sp34)) (C := RX12) (T := TX12) (N := 32) hx hb hT iX12 hown hK hW hT_o.1 hS_o rfl 12 (by decide) w1094 rfl dX12_wordHere_101 ?_
                            refine lv_iload hx hb dX12_wordHere_104 (lv_at hl 0 rfl) ?_
                            refine lv_iadd hx hb dX12_wordHere_106 ?_
                            refine lv_topi (fun z_91 ez_91 => ?_)
                            obtain rfl : z_91 = nI (sp34 + i) := ez_91.trans (nI_add (sp34) (i))
                            obtain ⟨f_92, hS_x_44⟩ := hTy.k55 hT_x_44
                            refine pl_bald hx hb hK hW hT_x_44.1 hS_x_44 (vp_in_nI (n := sp34 + i) (N := 900) (by omega) (by omega)) dX12_wordHere_107 ?_
                            refine lv_topi (fun y_93 ey_93 => ?_)
                            refine lv_icmp_ne (tgt := 115) hx hb dX12_wordHere_108 (by decide) (fun c_108 => ?_) (fun c_108 => ?_)
                            · refine lv_iconst (v := 0) hx hb dX12_wordHere_115 (by decide) ?_
                              refine lv_istore (lv' := [(5, .int 0), (6, .int (nI i)), (4, .int (nI e9)), (3, .int (nI k9)), (2, .int nn), (1, .int (nI k_68)), (0, .ref o)]) hx hb dX12_wordHere_116 hl (by decide) rfl (fun ls hl => ?_)
                              refine lv_iinc (v := nI (i + 1)) (lv' := [(6, .int (nI (i + 1))), (5, .int 0), (4, .int (nI e9)), (3, .int (nI k9)), (2, .int nn), (1, .int (nI k_68)), (0, .ref o)]) hx hb dX12_wordHere_118 hl (k := 1) rfl (nI_add (i) 1) (by decide) rfl (fun ls hl => ?_)
                              refine lv_goto (tgt := 76) hx hb dX12_wordHere_121 (by decide) ?_
                              exact ih76 (i + 1) 0 _ _ _ ls (by omega) (by omega) (Or.inl rfl) hTy hFr hFl76 hW (lv_sub hl [0, 1, 2, 3, 4, 5, 6] rfl)
                            · refine lv_iconst (v := 1) hx hb dX12_wordHere_111 (by decide) ?_
                              refine lv_goto (tgt := 116) hx hb dX12_wordHere_112 (by decide) ?_
                              refine lv_istore (lv' := [(5, .int 1), (6, .int (nI i)), (4, .int (nI e9)), (3, .int (nI k9)), (2, .int nn), (1, .int (nI k_68)), (0, .ref o)]) hx hb dX12_wordHere_116 hl (by decide) rfl (fun ls hl => ?_)
                              refine lv_iinc (v := nI (i + 1)) (lv' := [(6, .int (nI (i + 1))), (5, .int 1), (4, .int (nI e9)), (3, .int (nI k9)), (2, .int nn), (1, .int (nI k_68)), (0, .ref o)]) hx hb dX12_wordHere_118 hl (k := 1) rfl (nI_add (i) 1) (by decide) rfl (fun ls hl => ?_)
                              refine lv_goto (tgt := 76) hx hb dX12_wordHere_121 (by decide) ?_
                              exact ih76 (i + 1) 1 _ _ _ ls (by omega) (by omega) (hlk.elim (fun q => absurd q c_84) Or.inr) hTy hFr hFl76 hW (lv_sub hl [0, 1, 2, 3, 4, 5, 6] rfl)
                    exact loop ((901 - 0) + 1) 0 1 _ _ _ ls (Nat.lt_succ_self _) (by omega) (Or.inr (by omega)) hTy hFr Fr.rf hW (lv_sub hl [0, 1, 2, 3, 4, 5, 6] rfl)
                · have hk31 := sc_631 hr_72 (by omega) c_49
                  refine lv_iinc (v := nI (e9 + 1)) (lv' := [(4, .int (nI (e9 + 1))), (3, .int (nI k9)), (2, .int nn), (1, .int (nI k_68)), (0, .ref o)]) hx hb dX12_wordHere_52 hl (k := 0) rfl (nI_add (e9) 1) (by decide) rfl (fun ls hl => ?_)
                  refine lv_goto (tgt := 40) hx hb dX12_wordHere_55 (by decide) ?_
                  exact ih40 (e9 + 1) _ _ _ ls (by omega) (by omega) (by omega) hTy hFr hFl40 hW (lv_sub hl [0, 1, 2, 3, 4] rfl)
            exact loop ((32 - k9) + 1) k9 _ _ _ ls (Nat.lt_succ_self _) (by omega) (by omega) hTy hFr Fr.rf hW (lv_sub hl [0, 1, 2, 3, 4] rfl)
      exact loop ((33 - 1) + 1) 1 0 _ _ _ ls (Nat.lt_succ_self _) (by omega) hTy hFr Fr.rf hW (lv_sub hl [0, 1, 2, 3] rfl)
    · refine lv_iconst (v := (-1)) hx hb dX12_wordHere_17 (by decide) ?_
      exact W.iret (v := (-1)) hx hb hr (fun t ht h9 => ⟨⟨(-1), S_32, rfl, ⟨hTy, hFr, ⟨sp34, _, (MKi (sp := sp34) (sn := sn) (pa := pa) (ki := ki) hS_o rfl rfl rfl rfl rfl rfl (by omega) (by omega) (by omega) (by omega)), by omega, by omega, (fun h => hw34 ((fun h => h) h))⟩⟩, by rw [ht]; exact hW.1, va_K.moved h9.alike hK, hW.2.1⟩, hW.2.2.F ht⟩) hW.2.2.2.2 dX12_wordHere_18

set_option maxHeartbeats 4000000 in
set_option maxRecDepth 100000 in
theorem m_numeral (l : Launch) (dC : Nat → ClassId) (dI : Nat → Nat → Nat) (cy : Nat → ClassId) (L : List Nat) (kap : Nat → Nat) (pr : Pr) (S : Nat → va_E) (sz : Nat) (o : Nat) (lo : Int32) (hi : Int32) (hTy : Ty cy L kap pr S) (hT_o : TK L kap o 12) (sp : Nat) (sn : Nat) (wr : Int32) (pa : Nat) (ki : Nat) (rs : Nat) (hM : MK S o sp sn wr pa ki rs) (hsp : sp ≤ sn) : Met l yX12_numeral (wT yX12_numeral cX12_numeral 4 (some .int)) ({ frames := 2, cells := 0, slots := 0, locals := 45 }) (pcN dC dI [.ref o, .int lo, .int hi] sz (va_pl L S) (cyT cy) NLs []) (va_Qi (fun r S' => Ty cy L kap pr S' ∧ Fr kap [12, 112] S S' ∧ (∃ sp' wr', MK S' o sp' sn wr' pa ki rs ∧ sp ≤ sp' ∧ sp' ≤ sn ∧ (wr ≠ 0 → wr' ≠ 0) ∧ (wr' ≠ 0 ∨ (¬ r < lo ∧ r ≤ hi)))) (fun S' t => pB dC dI (AL L sz) (va_pl L S') (cyT cy) t) (AL L sz)) 0 0 (AL L sz) := by
  refine Met.ofW (cc := cX12_numeral) (maxL := 4) (ret := (some .int)) (by decide) rfl ?_
  intro p e s m args below meth c s₁ B hml hv
  obtain ⟨rfl, hsz, hP, hK, hD0, hN, -⟩ := hv
  have hx := B.exec
  have hb := B.bytes
  have hr := B.returns
  have hT : ∀ wd ∈ TB, wd.before [.ref o, .int lo, .int hi].toArray s = true := fun wd h => atoms_spec (ws := wT yX12_numeral cX12_numeral 4 (some .int)) B.pre wd (List.mem_cons_of_mem _ h)
  have hown : s.vm.findClass RX12 = some m.cls := findClass_of_methodNamed B.named
  have hlocks := B.notSynchronized
  subst hsz
  have hW : PW dC dI L (AL L s.heap.size) s.heap S s.heap [] := ⟨hP, pl_self hD0, va_S.rf⟩
  have hA0 : ∀ q, q ∈ L → AL L s.heap.size q := fun _ h => Or.inl h
  have hA : ∀ q, s.heap.size ≤ q → AL L s.heap.size q := fun _ h => Or.inr h
  have hFr : Fr kap [12, 112] S S := Fr.rf
  have hl := lv_entry ([.ref o, .int lo, .int hi]) (n := 4) (Nat.le_of_ble_eq_true rfl)
  rw [lg_entry_eq]
  generalize (lg_sl ([.ref o, .int lo, .int hi]) ++ List.replicate (4 - (lg_sl ([.ref o, .int lo, .int hi])).length) Slot.unset).toArray = ls at hl ⊢
  have hl : lv_has ls 4 [(0, .ref o), (1, .int lo), (2, .int hi)] := hl
  obtain ⟨x_1, x_2, x_3, x_4, x_5, x_6, x_7, x_8, x_9, x_10, x_11, x_12, x_13, x_14, x_15, x_16, x_17, x_18, x_19, x_20, x_21, x_22, x_23, x_24, x_25, x_26, x_27, x_28, x_29, x_30, x_31, hS_o, hT_x_1, hT_x_2, hT_x_3, hT_x_4, hT_x_5, hb_x_6, hb_x_7, hb_x_8, hT_x_10, hb_q2, hb_x_11, hb_x_12, hT_x_17, hT_x_18, hb_x_19, hT_x_20, hT_x_21, hT_x_22, hT_x_23, hT_x_24, hT_x_25, hT_x_26, hT_x_27, hT_x_28, hT_x_29, hT_x_30, hb_x_31⟩ := hTy.k12 hT_o
  have hb_q2 : pr.2 ≤ 900 := hb_q2
  have hS_o : S o = .inr (12, [.ref x_1, .ref x_2, .ref x_3, .ref x_4, .ref x_5, .int (nI x_6), .int (nI x_7), .int (nI x_8), .int x_9, .ref x_10, .int (nI (pr.2)), .int (nI x_11), .int (nI x_12), .int x_13, .int x_14, .int x_15, .int x_16, .ref x_17, .ref x_18, .int (nI x_19), .ref x_20, .ref x_21, .ref x_22, .ref x_23, .ref x_24, .ref x_25, .ref x_26, .ref x_27, .ref x_28, .ref x_29, .ref x_30, .int (nI x_31)]) := hS_o
  obtain ⟨e12_, e11_, e13_, e5_, e6_, e0_⟩ := MKe hM hS_o rfl rfl rfl rfl rfl rfl (by omega) (by omega) (by omega) (by omega)
  subst e12_ e11_ e13_ e5_ e6_ e0_
  refine lv_aload_n hx hb dX12_numeral_0 rfl (lv_at hl 0 rfl) ?_
  refine pl_get (ci := 12) (v := .int wr) (C := RX12) (T := TX12) (N := 32) hx hb hT iX12 hown hK hW hT_o.1 hS_o rfl 13 (by decide) w1095 rfl dX12_numeral_1 ?_
  refine lv_if_eq (tgt := 9) hx hb dX12_numeral_4 (by decide) (fun c_4 => ?_) (fun c_4 => ?_)
  · refine lv_aload_n hx hb dX12_numeral_9 rfl (lv_at hl 0 rfl) ?_
    refine pl_calli (va_runV (As := []) (rest := []) ⟨hx, hb, hml, hown, hT⟩ (m_peek l dC dI cy L kap pr S s.heap.size o hTy hT_o sp sn wr pa ki rs (MKi (sp := sp) (sn := sn) (pa := pa) (ki := ki) hS_o rfl rfl rfl rfl rfl rfl (by omega) (by omega) (by omega) (by omega)) (by omega)) (cwV 0 hT (gV w1190 w1192 ws55 w14 w1193) rfl rfl rfl (by decide +kernel) ⟨(Nat.le_of_ble_eq_true rfl), (Nat.le_of_ble_eq_true rfl)⟩) ⟨pcN.blind, pl_recv hK hW hT_o.1 hS_o rfl, pcN.pre hW.1 hK hW.2.1 hN (fun q h => absurd h List.not_mem_nil)⟩ rfl rfl hl.1 rfl (lv_room (Nat.le_of_ble_eq_true rfl)) dX12_numeral_10 ⟨(Nat.le_of_ble_eq_true rfl), (Nat.le_of_ble_eq_true rfl)⟩) hW hA0 hA (fun r_33 S_32 H locs hrel hW => ?_)
    obtain ⟨hTy, hF1, hx1⟩ := hrel
    have hFr := hFr.tr hF1 (by decide)
    obtain ⟨sp34, wr34, hM34, hpa34, hpb34, hw34, hv34⟩ := hx1
    obtain ⟨x_35, x_36, x_37, x_38, x_39, x_40, x_41, x_42, x_43, x_44, x_45, x_46, x_47, x_48, x_49, x_50, x_51, x_52, x_53, x_54, x_55, x_56, x_57, x_58, x_59, x_60, x_61, x_62, x_63, x_64, x_65, hS_o, hT_x_35, hT_x_36, hT_x_37, hT_x_38, hT_x_39, hb_x_40, hb_x_41, hb_x_42, hT_x_44, hb_q2, hb_x_45, hb_x_46, hT_x_51, hT_x_52, hb_x_53, hT_x_54, hT_x_55, hT_x_56, hT_x_57, hT_x_58, hT_x_59, hT_x_60, hT_x_61, hT_x_62, hT_x_63, hT_x_64, hb_x_65⟩ := hTy.k12 hT_o
    have hb_q2 : pr.2 ≤ 900 := hb_q2
    have hS_o : S_32 o = .inr (12, [.ref x_35, .ref x_36, .ref x_37, .ref x_38, .ref x_39, .int (nI x_40), .int (nI x_41), .int (nI x_42), .int x_43, .ref x_44, .int (nI (pr.2)), .int (nI x_45), .int (nI x_46), .int x_47, .int x_48, .int x_49, .int x_50, .ref x_51, .ref x_52, .int (nI x_53), .ref x_54, .ref x_55, .ref x_56, .ref x_57, .ref x_58, .ref x_59, .ref x_60, .ref x_61, .ref x_62, .ref x_63, .ref x_64, .int (nI x_65)]) := hS_o
    obtain ⟨e12_, e11_, e13_, e5_, e6_, e0_⟩ := MKe hM34 hS_o rfl rfl rfl rfl rfl rfl (by omega) (by omega) (by omega) (by omega)
    subst e12_ e11_ e13_ e5_ e6_ e0_
    refine vp_callSi (va_Run.run (va_runS (As := [.int r_33]) (rest := []) ⟨hx, hb, hml, hown, hT⟩ (m_isDigit l dC dI H.size r_33) (va_cwS 1 hT (gS w1242 w1243 w14 w1244) rfl rfl rfl (by decide +kernel) ⟨(Nat.le_of_ble_eq_true rfl), (Nat.le_of_ble_eq_true rfl)⟩) ⟨pcW.blind, pcW.pre (va_P0 _ _ _) (hK.sub (tys' := []) [] rfl) (va_D0 (fun _ => True))⟩ rfl rfl hl.1 rfl (lv_room (Nat.le_of_ble_eq_true rfl)) dX12_numeral_13 ⟨(Nat.le_of_ble_eq_true rfl), (Nat.le_of_ble_eq_true rfl)⟩)) (fun r_66 hr_66 => ?_)
    refine lv_if_ne (tgt := 30) hx hb dX12_numeral_16 (by decide) (fun c_16 => ?_) (fun c_16 => ?_)
    · refine lv_aload_n hx hb dX12_numeral_30 rfl (lv_at hl 0 rfl) ?_
      refine lv_aload_n hx hb dX12_numeral_31 rfl (lv_at hl 0 rfl) ?_
      refine pl_get (ci := 12) (v := .int (nI sp34)) (C := RX12) (T := TX12) (N := 32) hx hb hT iX12 hown hK hW hT_o.1 hS_o rfl 12 (by decide) w1094 rfl dX12_numeral_32 ?_
      refine pl_put (ci := 12) (v := .int (nI sp34)) (ty := .int) (C := RX12) (T := TX12) (N := 32) (fs' := [.ref rs, .ref x_36, .ref x_37, .ref x_38, .ref x_39, .int (nI pa), .int (nI ki), .int (nI x_42), .int x_43, .ref x_44, .int (nI (pr.2)), .int (nI sn), .int (nI sp34), .int wr34, .int x_48, .int x_49, .int (nI sp34), .ref x_51, .ref x_52, .int (nI x_53), .ref x_54, .ref x_55, .ref x_56, .ref x_57, .ref x_58, .ref x_59, .ref x_60, .ref x_61, .ref x_62, .ref x_63, .ref x_64, .int (nI x_65)]) hx hb hT iX12 tyX12 tyX12_ok nmX12 hown hK hW hT_o.1 hS_o rfl 16 (by decide) w1098 rfl (by decide +kernel) rfl rfl (Nat.le_of_ble_eq_true rfl) rfl dX12_numeral_35 (fun H locs S_67 e1 hW => ?_)
      have hTy := hTy.u12 e1 hT_o ⟨rs, x_36, x_37, x_38, x_39, pa, ki, x_42, x_43, x_44, sn, sp34, wr34, x_48, x_49, nI sp34, x_51, x_52, x_53, x_54, x_55, x_56, x_57, x_58, x_59, x_60, x_61, x_62, x_63, x_64, x_65, rfl, hT_x_35, hT_x_36, hT_x_37, hT_x_38, hT_x_39, (by omega), (by omega), (by omega), hT_x_44, (by show pr.2 ≤ 900; omega), (by omega), (by omega), hT_x_51, hT_x_52, (by omega), hT_x_54, hT_x_55, hT_x_56, hT_x_57, hT_x_58, hT_x_59, hT_x_60, hT_x_61, hT_x_62, hT_x_63, hT_x_64, (by omega)⟩
      have hws := (show wrs (.inr (12, [.ref rs, .ref x_36, .ref x_37, .ref x_38, .ref x_39, .int (nI pa), .int (nI ki), .int (nI x_42), .int x_43, .ref x_44, .int (nI (pr.2)), .int (nI sn), .int (nI sp34), .int wr34, .int x_48, .int x_49, .int (nI sp34), .ref x_51, .ref x_52, .int (nI x_53), .ref x_54, .ref x_55, .ref x_56, .ref x_57, .ref x_58, .ref x_59, .ref x_60, .ref x_61, .ref x_62, .ref x_63, .ref x_64, .int (nI x_65)])) = wrs (S_32 o) from by rw [hS_o]; rfl)
      have hFr := ufs hFr e1 hT_o (by decide) hws
      have hS_o := us e1
      refine lv_iconst (v := 0) hx hb dX12_numeral_38 (by decide) ?_
      refine lv_istore_n (lv' := [(3, .int 0), (0, .ref o), (1, .int lo), (2, .int hi)]) hx hb dX12_numeral_39 rfl hl (by decide) rfl (fun ls hl => ?_)
      have loop : ∀ (fuel : Nat) (vl : Int32) (gs : Nat) (SS : Nat → va_E) (H : Heap) (locs : List Loc) (ls : Array Slot), 901 - gs < fuel → (SS o = .inr (12, [.ref rs, .ref x_36, .ref x_37, .ref x_38, .ref x_39, .int (nI pa), .int (nI ki), .int (nI x_42), .int x_43, .ref x_44, .int (nI (pr.2)), .int (nI sn), .int (nI gs), .int wr34, .int x_48, .int x_49, .int (nI sp34), .ref x_51, .ref x_52, .int (nI x_53), .ref x_54, .ref x_55, .ref x_56, .ref x_57, .ref x_58, .ref x_59, .ref x_60, .ref x_61, .ref x_62, .ref x_63, .ref x_64, .int (nI x_65)])) → (gs ≤ sn) → (sp34 ≤ gs) → Ty cy L kap pr SS → Fr kap [12, 112] S SS → Fr kap [12, 112] S_67 SS → PW dC dI L (AL L s.heap.size) s.heap SS H locs → lv_has ls 4 [(3, .int vl), (0, .ref o), (1, .int lo), (2, .int hi)] → W p l e (headSpec (wT yX12_numeral cX12_numeral 4 (some .int)) { frames := 2, cells := 0, slots := 0, locals := 45 }).room s m [.ref o, .int lo, .int hi].toArray below meth c H locs 0 0 (MQ below (va_Qi (fun r S' => Ty cy L kap pr S' ∧ Fr kap [12, 112] S S' ∧ (∃ sp' wr', MK S' o sp' sn wr' pa ki rs ∧ sp ≤ sp' ∧ sp' ≤ sn ∧ (wr ≠ 0 → wr' ≠ 0) ∧ (wr' ≠ 0 ∨ (¬ r < lo ∧ r ≤ hi)))) (fun S' t => pB dC dI (AL L s.heap.size) (va_pl L S') (cyT cy) t) (AL L s.heap.size)) [.ref o, .int lo, .int hi].toArray s 0 0 (AL L s.heap.size)) (F0 m 40 ls []) := by
        intro fuel
        induction fuel with
        | zero => intro vl gs SS H locs ls h; exact absurd h (Nat.not_lt_zero _)
        | succ fu40 ih40 =>
          intro vl gs S_68 H locs ls hm40 hSlgs hxgs hygs hTy hFr hFl40 hW hl
          refine lv_aload_n hx hb dX12_numeral_40 rfl (lv_at hl 1 rfl) ?_
          refine pl_get (ci := 12) (v := .int (nI gs)) (C := RX12) (T := TX12) (N := 32) hx hb hT iX12 hown hK hW hT_o.1 hSlgs rfl 12 (by decide) w1094 rfl dX12_numeral_41 ?_
          refine lv_aload_n hx hb dX12_numeral_44 rfl (lv_at hl 1 rfl) ?_
          refine pl_get (ci := 12) (v := .int (nI sn)) (C := RX12) (T := TX12) (N := 32) hx hb hT iX12 hown hK hW hT_o.1 hSlgs rfl 11 (by decide) w1093 rfl dX12_numeral_45 ?_
          refine lv_icmp_ge (tgt := 111) hx hb dX12_numeral_48 (by decide) (fun c_48 => ?_) (fun c_48 => ?_)
          · have c_48 : sn ≤ gs := (nI_leI (a := sn) (b := gs) (by omega) (by omega)).mp c_48
            refine lv_aload_n hx hb dX12_numeral_111 rfl (lv_at hl 1 rfl) ?_
            refine pl_get (ci := 12) (v := .int (nI gs)) (C := RX12) (T := TX12) (N := 32) hx hb hT iX12 hown hK hW hT_o.1 hSlgs rfl 12 (by decide) w1094 rfl dX12_numeral_112 ?_
            refine lv_aload_n hx hb dX12_numeral_115 rfl (lv_at hl 1 rfl) ?_
            refine pl_get (ci := 12) (v := .int (nI sp34)) (C := RX12) (T := TX12) (N := 32) hx hb hT iX12 hown hK hW hT_o.1 hSlgs rfl 16 (by decide) w1098 rfl dX12_numeral_116 ?_
            refine lv_isub hx hb dX12_numeral_119 ?_
            refine lv_topi (fun z_69 ez_69 => ?_)
            refine lv_bipush (v := 8) hx hb dX12_numeral_120 (by decide) ?_
            refine lv_icmp_gt (tgt := 137) hx hb dX12_numeral_122 (by decide) (fun c_122 => ?_) (fun c_122 => ?_)
            · refine lv_aload_n hx hb dX12_numeral_137 rfl (lv_at hl 1 rfl) ?_
              refine lv_iconst (v := 2) hx hb dX12_numeral_138 (by decide) ?_
              refine lv_aload_n hx hb dX12_numeral_139 rfl (lv_at hl 1 rfl) ?_
              refine pl_get (ci := 12) (v := .int (nI sp34)) (C := RX12) (T := TX12) (N := 32) hx hb hT iX12 hown hK hW hT_o.1 hSlgs rfl 16 (by decide) w1098 rfl dX12_numeral_140 ?_
              refine pl_callv (va_runV (As := [.int 2, .int (nI sp34)]) (rest := []) ⟨hx, hb, hml, hown, hT⟩ (m_fails l dC dI cy L kap pr S_68 H.size o 2 (nI sp34) hTy hT_o gs sn wr34 pa ki rs (MKi (sp := gs) (sn := sn) (pa := pa) (ki := ki) hSlgs rfl rfl rfl rfl rfl rfl (by omega) (by omega) (by omega) (by omega)) (by omega) (by decide)) (cwV 2 hT (gV w1214 w1216 ws59 w14 w1217) rfl rfl rfl (by decide +kernel) ⟨(Nat.le_of_ble_eq_true rfl), (Nat.le_of_ble_eq_true rfl)⟩) ⟨pcN.blind, pl_recv hK hW hT_o.1 hSlgs rfl, pcN.pre hW.1 hK hW.2.1 hN (fun q h => absurd h List.not_mem_nil)⟩ rfl rfl hl.1 rfl (lv_room (Nat.le_of_ble_eq_true rfl)) dX12_numeral_143 ⟨(Nat.le_of_ble_eq_true rfl), (Nat.le_of_ble_eq_true rfl)⟩) hW hA0 hA (fun S_70 H locs hrel hW => ?_)
              obtain ⟨hTy, hF1, hx1⟩ := hrel
              have hFr := hFr.tr hF1 (by decide)
              have hFl40 := hFl40.tr hF1 (by decide)
              obtain ⟨sp71, wr71, hM71, hpa71, hpb71, hw71⟩ := hx1
              obtain ⟨x_72, x_73, x_74, x_75, x_76, x_77, x_78, x_79, x_80, x_81, x_82, x_83, x_84, x_85, x_86, x_87, x_88, x_89, x_90, x_91, x_92, x_93, x_94, x_95, x_96, x_97, x_98, x_99, x_100, x_101, x_102, hS_o, hT_x_72, hT_x_73, hT_x_74, hT_x_75, hT_x_76, hb_x_77, hb_x_78, hb_x_79, hT_x_81, hb_q2, hb_x_82, hb_x_83, hT_x_88, hT_x_89, hb_x_90, hT_x_91, hT_x_92, hT_x_93, hT_x_94, hT_x_95, hT_x_96, hT_x_97, hT_x_98, hT_x_99, hT_x_100, hT_x_101, hb_x_102⟩ := hTy.k12 hT_o
              have hb_q2 : pr.2 ≤ 900 := hb_q2
              have hS_o : S_70 o = .inr (12, [.ref x_72, .ref x_73, .ref x_74, .ref x_75, .ref x_76, .int (nI x_77), .int (nI x_78), .int (nI x_79), .int x_80, .ref x_81, .int (nI (pr.2)), .int (nI x_82), .int (nI x_83), .int x_84, .int x_85, .int x_86, .int x_87, .ref x_88, .ref x_89, .int (nI x_90), .ref x_91, .ref x_92, .ref x_93, .ref x_94, .ref x_95, .ref x_96, .ref x_97, .ref x_98, .ref x_99, .ref x_100, .ref x_101, .int (nI x_102)]) := hS_o
              obtain ⟨e12_, e11_, e13_, e5_, e6_, e0_⟩ := MKe hM71 hS_o rfl rfl rfl rfl rfl rfl (by omega) (by omega) (by omega) (by omega)
              subst e12_ e11_ e13_ e5_ e6_ e0_
              refine lv_aload_n hx hb dX12_numeral_146 rfl (lv_at hl 1 rfl) ?_
              refine pl_get (ci := 12) (v := .int wr71) (C := RX12) (T := TX12) (N := 32) hx hb hT iX12 hown hK hW hT_o.1 hS_o rfl 13 (by decide) w1095 rfl dX12_numeral_147 ?_
              have c_150 : ¬ wr71 = 0 := hw71
              refine lv_if_ne (tgt := 157) hx hb dX12_numeral_150 (by decide) (fun _ => ?_) (fun h => absurd h c_150)
              refine lv_iload_n hx hb dX12_numeral_157 rfl (lv_at hl 2 rfl) ?_
              exact W.iret (v := lo) hx hb hr (fun t ht h9 => ⟨⟨lo, S_70, rfl, ⟨hTy, hFr, ⟨sp71, _, (MKi (sp := sp71) (sn := sn) (pa := pa) (ki := ki) hS_o rfl rfl rfl rfl rfl rfl (by omega) (by omega) (by omega) (by omega)), by omega, by omega, (fun _ => hw71), Or.inl c_150⟩⟩, by rw [ht]; exact hW.1, va_K.moved h9.alike hK, hW.2.1⟩, hW.2.2.F ht⟩) hW.2.2.2.2 dX12_numeral_158
            · refine lv_iload_n hx hb dX12_numeral_125 rfl (lv_at hl 0 rfl) ?_
              refine lv_i2l hx hb dX12_numeral_126 rfl ?_
              refine lv_topl (fun z_103 ez_103 => ?_)
              refine lv_iload_n hx hb dX12_numeral_127 rfl (lv_at hl 2 rfl) ?_
              refine lv_i2l hx hb dX12_numeral_128 rfl ?_
              refine lv_topl (fun z_104 ez_104 => ?_)
              refine lv_iload_n hx hb dX12_numeral_129 rfl (lv_at hl 3 rfl) ?_
              refine lv_i2l hx hb dX12_numeral_130 rfl ?_
              refine lv_topl (fun z_105 ez_105 => ?_)
              refine vp_callSi (va_Run.run (va_runS (As := [.long z_103, .long z_104, .long z_105]) (rest := []) ⟨hx, hb, hml, hown, hT⟩ (m_isIn l dC dI H.size z_103 z_104 z_105) (va_cwS 3 hT (gS w1187 w1188 w14 w1189) rfl rfl rfl (by decide +kernel) ⟨(Nat.le_of_ble_eq_true rfl), (Nat.le_of_ble_eq_true rfl)⟩) ⟨pcW.blind, pcW.pre (va_P0 _ _ _) (hK.sub (tys' := []) [] rfl) (va_D0 (fun _ => True))⟩ rfl rfl hl.1 rfl (lv_room (Nat.le_of_ble_eq_true rfl)) dX12_numeral_131 ⟨(Nat.le_of_ble_eq_true rfl), (Nat.le_of_ble_eq_true rfl)⟩)) (fun r_106 hr_106 => ?_)
              rcases isInc hr_106 with hc_ | hc_
              · obtain ⟨rfl, hin_⟩ := hc_
                have hinI := inI ez_103 ez_104 ez_105 hin_
                refine lv_if_ne (tgt := 146) hx hb dX12_numeral_134 (by decide) (fun _ => ?_) (fun h => absurd h (by decide))
                refine lv_aload_n hx hb dX12_numeral_146 rfl (lv_at hl 1 rfl) ?_
                refine pl_get (ci := 12) (v := .int wr34) (C := RX12) (T := TX12) (N := 32) hx hb hT iX12 hown hK hW hT_o.1 hSlgs rfl 13 (by decide) w1095 rfl dX12_numeral_147 ?_
                refine lv_if_ne (tgt := 157) hx hb dX12_numeral_150 (by decide) (fun c_150 => ?_) (fun c_150 => ?_)
                · refine lv_iload_n hx hb dX12_numeral_157 rfl (lv_at hl 2 rfl) ?_
                  exact W.iret (v := lo) hx hb hr (fun t ht h9 => ⟨⟨lo, S_68, rfl, ⟨hTy, hFr, ⟨gs, _, (MKi (sp := gs) (sn := sn) (pa := pa) (ki := ki) hSlgs rfl rfl rfl rfl rfl rfl (by omega) (by omega) (by omega) (by omega)), by omega, by omega, (fun h => hw34 ((fun h => h) h)), Or.inl c_150⟩⟩, by rw [ht]; exact hW.1, va_K.moved h9.alike hK, hW.2.1⟩, hW.2.2.F ht⟩) hW.2.2.2.2 dX12_numeral_158
                · refine lv_iload_n hx hb dX12_numeral_153 rfl (lv_at hl 0 rfl) ?_
                  refine lv_goto (tgt := 158) hx hb dX12_numeral_154 (by decide) ?_
                  exact W.iret (v := vl) hx hb hr (fun t ht h9 => ⟨⟨vl, S_68, rfl, ⟨hTy, hFr, ⟨gs, _, (MKi (sp := gs) (sn := sn) (pa := pa) (ki := ki) hSlgs rfl rfl rfl rfl rfl rfl (by omega) (by omega) (by omega) (by omega)), by omega, by omega, (fun h => hw34 ((fun h => h) h)), Or.inr hinI⟩⟩, by rw [ht]; exact hW.1, va_K.moved h9.alike hK, hW.2.1⟩, hW.2.2.F ht⟩) hW.2.2.2.2 dX12_numeral_158
              · obtain ⟨rfl, hin_⟩ := hc_
                refine lv_if_ne (tgt := 146) hx hb dX12_numeral_134 (by decide) (fun h => absurd (by decide) h) (fun _ => ?_)
                refine lv_aload_n hx hb dX12_numeral_137 rfl (lv_at hl 1 rfl) ?_
                refine lv_iconst (v := 2) hx hb dX12_numeral_138 (by decide) ?_
                refine lv_aload_n hx hb dX12_numeral_139 rfl (lv_at hl 1 rfl) ?_
                refine pl_get (ci := 12) (v := .int (nI sp34)) (C := RX12) (T := TX12) (N := 32) hx hb hT iX12 hown hK hW hT_o.1 hSlgs rfl 16 (by decide) w1098 rfl dX12_numeral_140 ?_
                refine pl_callv (va_runV (As := [.int 2, .int (nI sp34)]) (rest := []) ⟨hx, hb, hml, hown, hT⟩ (m_fails l dC dI cy L kap pr S_68 H.size o 2 (nI sp34) hTy hT_o gs sn wr34 pa ki rs (MKi (sp := gs) (sn := sn) (pa := pa) (ki := ki) hSlgs rfl rfl rfl rfl rfl rfl (by omega) (by omega) (by omega) (by omega)) (by omega) (by decide)) (cwV 2 hT (gV w1214 w1216 ws59 w14 w1217) rfl rfl rfl (by decide +kernel) ⟨(Nat.le_of_ble_eq_true rfl), (Nat.le_of_ble_eq_true rfl)⟩) ⟨pcN.blind, pl_recv hK hW hT_o.1 hSlgs rfl, pcN.pre hW.1 hK hW.2.1 hN (fun q h => absurd h List.not_mem_nil)⟩ rfl rfl hl.1 rfl (lv_room (Nat.le_of_ble_eq_true rfl)) dX12_numeral_143 ⟨(Nat.le_of_ble_eq_true rfl), (Nat.le_of_ble_eq_true rfl)⟩) hW hA0 hA (fun S_107 H locs hrel hW => ?_)
                obtain ⟨hTy, hF1, hx1⟩ := hrel
                have hFr := hFr.tr hF1 (by decide)
                have hFl40 := hFl40.tr hF1 (by decide)
                obtain ⟨sp108, wr108, hM108, hpa108, hpb108, hw108⟩ := hx1
                obtain ⟨x_109, x_110, x_111, x_112, x_113, x_114, x_115, x_116, x_117, x_118, x_119, x_120, x_121, x_122, x_123, x_124, x_125, x_126, x_127, x_128, x_129, x_130, x_131, x_132, x_133, x_134, x_135, x_136, x_137, x_138, x_139, hS_o, hT_x_109, hT_x_110, hT_x_111, hT_x_112, hT_x_113, hb_x_114, hb_x_115, hb_x_116, hT_x_118, hb_q2, hb_x_119, hb_x_120, hT_x_125, hT_x_126, hb_x_127, hT_x_128, hT_x_129, hT_x_130, hT_x_131, hT_x_132, hT_x_133, hT_x_134, hT_x_135, hT_x_136, hT_x_137, hT_x_138, hb_x_139⟩ := hTy.k12 hT_o
                have hb_q2 : pr.2 ≤ 900 := hb_q2
                have hS_o : S_107 o = .inr (12, [.ref x_109, .ref x_110, .ref x_111, .ref x_112, .ref x_113, .int (nI x_114), .int (nI x_115), .int (nI x_116), .int x_117, .ref x_118, .int (nI (pr.2)), .int (nI x_119), .int (nI x_120), .int x_121, .int x_122, .int x_123, .int x_124, .ref x_125, .ref x_126, .int (nI x_127), .ref x_128, .ref x_129, .ref x_130, .ref x_131, .ref x_132, .ref x_133, .ref x_134, .ref x_135, .ref x_136, .ref x_137, .ref x_138, .int (nI x_139)]) := hS_o
                obtain ⟨e12_, e11_, e13_, e5_, e6_, e0_⟩ := MKe hM108 hS_o rfl rfl rfl rfl rfl rfl (by omega) (by omega) (by omega) (by omega)
                subst e12_ e11_ e13_ e5_ e6_ e0_
                refine lv_aload_n hx hb dX12_numeral_146 rfl (lv_at hl 1 rfl) ?_
                refine pl_get (ci := 12) (v := .int wr108) (C := RX12) (T := TX12) (N := 32) hx hb hT iX12 hown hK hW hT_o.1 hS_o rfl 13 (by decide) w1095 rfl dX12_numeral_147 ?_
                have c_150 : ¬ wr108 = 0 := hw108
                refine lv_if_ne (tgt := 157) hx hb dX12_numeral_150 (by decide) (fun _ => ?_) (fun h => absurd h c_150)
                refine lv_iload_n hx hb dX12_numeral_157 rfl (lv_at hl 2 rfl) ?_
                exact W.iret (v := lo) hx hb hr (fun t ht h9 => ⟨⟨lo, S_107, rfl, ⟨hTy, hFr, ⟨sp108, _, (MKi (sp := sp108) (sn := sn) (pa := pa) (ki := ki) hS_o rfl rfl rfl rfl rfl rfl (by omega) (by omega) (by omega) (by omega)), by omega, by omega, (fun _ => hw108), Or.inl c_150⟩⟩, by rw [ht]; exact hW.1, va_K.moved h9.alike hK, hW.2.1⟩, hW.2.2.F ht⟩) hW.2.2.2.2 dX12_numeral_158
          · have c_48 : ¬ (sn ≤ gs) := fun hh9 => c_48 ((nI_leI (a := sn) (b := gs) (by omega) (by omega)).mpr hh9)
            refine lv_aload_n hx hb dX12_numeral_51 rfl (lv_at hl 1 rfl) ?_
            refine pl_get (ci := 12) (v := .ref x_44) (C := RX12) (T := TX12) (N := 32) hx hb hT iX12 hown hK hW hT_o.1 hSlgs rfl 9 (by decide) w1091 rfl dX12_numeral_52 ?_
            refine lv_aload_n hx hb dX12_numeral_55 rfl (lv_at hl 1 rfl) ?_
            refine pl_get (ci := 12) (v := .int (nI gs)) (C := RX12) (T := TX12) (N := 32) hx hb hT iX12 hown hK hW hT_o.1 hSlgs rfl 12 (by decide) w1094 rfl dX12_numeral_56 ?_
            obtain ⟨f_140, hS_x_44⟩ := hTy.k55 hT_x_44
            refine pl_bald hx hb hK hW hT_x_44.1 hS_x_44 (vp_in_nI (n := gs) (N := 900) (by omega) (by omega)) dX12_numeral_59 ?_
            refine lv_topi (fun y_141 ey_141 => ?_)
            refine vp_callSi (va_Run.run (va_runS (As := [.int y_141]) (rest := []) ⟨hx, hb, hml, hown, hT⟩ (m_isDigit l dC dI H.size y_141) (va_cwS 1 hT (gS w1242 w1243 w14 w1244) rfl rfl rfl (by decide +kernel) ⟨(Nat.le_of_ble_eq_true rfl), (Nat.le_of_ble_eq_true rfl)⟩) ⟨pcW.blind, pcW.pre (va_P0 _ _ _) (hK.sub (tys' := []) [] rfl) (va_D0 (fun _ => True))⟩ rfl rfl hl.1 rfl (lv_room (Nat.le_of_ble_eq_true rfl)) dX12_numeral_60 ⟨(Nat.le_of_ble_eq_true rfl), (Nat.le_of_ble_eq_true rfl)⟩)) (fun r_142 hr_142 => ?_)
            refine lv_if_eq (tgt := 111) hx hb dX12_numeral_63 (by decide) (fun c_63 => ?_) (fun c_63 => ?_)
            · refine lv_aload_n hx hb dX12_numeral_111 rfl (lv_at hl 1 rfl) ?_
              refine pl_get (ci := 12) (v := .int (nI gs)) (C := RX12) (T := TX12) (N := 32) hx hb hT iX12 hown hK hW hT_o.1 hSlgs rfl 12 (by decide) w1094 rfl dX12_numeral_112 ?_
              refine lv_aload_n hx hb dX12_numeral_115 rfl (lv_at hl 1 rfl) ?_
              refine pl_get (ci := 12) (v := .int (nI sp34)) (C := RX12) (T := TX12) (N := 32) hx hb hT iX12 hown hK hW hT_o.1 hSlgs rfl 16 (by decide) w1098 rfl dX12_numeral_116 ?_
              refine lv_isub hx hb dX12_numeral_119 ?_
              refine lv_topi (fun z_143 ez_143 => ?_)
              refine lv_bipush (v := 8) hx hb dX12_numeral_120 (by decide) ?_
              refine lv_icmp_gt (tgt := 137) hx hb dX12_numeral_122 (by decide) (fun c_122 => ?_) (fun c_122 => ?_)
              · refine lv_aload_n hx hb dX12_numeral_137 rfl (lv_at hl 1 rfl) ?_
                refine lv_iconst (v := 2) hx hb dX12_numeral_138 (by decide) ?_
                refine lv_aload_n hx hb dX12_numeral_139 rfl (lv_at hl 1 rfl) ?_
                refine pl_get (ci := 12) (v := .int (nI sp34)) (C := RX12) (T := TX12) (N := 32) hx hb hT iX12 hown hK hW hT_o.1 hSlgs rfl 16 (by decide) w1098 rfl dX12_numeral_140 ?_
                refine pl_callv (va_runV (As := [.int 2, .int (nI sp34)]) (rest := []) ⟨hx, hb, hml, hown, hT⟩ (m_fails l dC dI cy L kap pr S_68 H.size o 2 (nI sp34) hTy hT_o gs sn wr34 pa ki rs (MKi (sp := gs) (sn := sn) (pa := pa) (ki := ki) hSlgs rfl rfl rfl rfl rfl rfl (by omega) (by omega) (by omega) (by omega)) (by omega) (by decide)) (cwV 2 hT (gV w1214 w1216 ws59 w14 w1217) rfl rfl rfl (by decide +kernel) ⟨(Nat.le_of_ble_eq_true rfl), (Nat.le_of_ble_eq_true rfl)⟩) ⟨pcN.blind, pl_recv hK hW hT_o.1 hSlgs rfl, pcN.pre hW.1 hK hW.2.1 hN (fun q h => absurd h List.not_mem_nil)⟩ rfl rfl hl.1 rfl (lv_room (Nat.le_of_ble_eq_true rfl)) dX12_numeral_143 ⟨(Nat.le_of_ble_eq_true rfl), (Nat.le_of_ble_eq_true rfl)⟩) hW hA0 hA (fun S_144 H locs hrel hW => ?_)
                obtain ⟨hTy, hF1, hx1⟩ := hrel
                have hFr := hFr.tr hF1 (by decide)
                have hFl40 := hFl40.tr hF1 (by decide)
                have hS_x_44 := hF1.at hT_x_44 (by decide) hS_x_44
                obtain ⟨sp145, wr145, hM145, hpa145, hpb145, hw145⟩ := hx1
                obtain ⟨x_146, x_147, x_148, x_149, x_150, x_151, x_152, x_153, x_154, x_155, x_156, x_157, x_158, x_159, x_160, x_161, x_162, x_163, x_164, x_165, x_166, x_167, x_168, x_169, x_170, x_171, x_172, x_173, x_174, x_175, x_176, hS_o, hT_x_146, hT_x_147, hT_x_148, hT_x_149, hT_x_150, hb_x_151, hb_x_152, hb_x_153, hT_x_155, hb_q2, hb_x_156, hb_x_157, hT_x_162, hT_x_163, hb_x_164, hT_x_165, hT_x_166, hT_x_167, hT_x_168, hT_x_169, hT_x_170, hT_x_171, hT_x_172, hT_x_173, hT_x_174, hT_x_175, hb_x_176⟩ := hTy.k12 hT_o
                have hb_q2 : pr.2 ≤ 900 := hb_q2
                have hS_o : S_144 o = .inr (12, [.ref x_146, .ref x_147, .ref x_148, .ref x_149, .ref x_150, .int (nI x_151), .int (nI x_152), .int (nI x_153), .int x_154, .ref x_155, .int (nI (pr.2)), .int (nI x_156), .int (nI x_157), .int x_158, .int x_159, .int x_160, .int x_161, .ref x_162, .ref x_163, .int (nI x_164), .ref x_165, .ref x_166, .ref x_167, .ref x_168, .ref x_169, .ref x_170, .ref x_171, .ref x_172, .ref x_173, .ref x_174, .ref x_175, .int (nI x_176)]) := hS_o
                obtain ⟨e12_, e11_, e13_, e5_, e6_, e0_⟩ := MKe hM145 hS_o rfl rfl rfl rfl rfl rfl (by omega) (by omega) (by omega) (by omega)
                subst e12_ e11_ e13_ e5_ e6_ e0_
                refine lv_aload_n hx hb dX12_numeral_146 rfl (lv_at hl 1 rfl) ?_
                refine pl_get (ci := 12) (v := .int wr145) (C := RX12) (T := TX12) (N := 32) hx hb hT iX12 hown hK hW hT_o.1 hS_o rfl 13 (by decide) w1095 rfl dX12_numeral_147 ?_
                have c_150 : ¬ wr145 = 0 := hw145
                refine lv_if_ne (tgt := 157) hx hb dX12_numeral_150 (by decide) (fun _ => ?_) (fun h => absurd h c_150)
                refine lv_iload_n hx hb dX12_numeral_157 rfl (lv_at hl 2 rfl) ?_
                exact W.iret (v := lo) hx hb hr (fun t ht h9 => ⟨⟨lo, S_144, rfl, ⟨hTy, hFr, ⟨sp145, _, (MKi (sp := sp145) (sn := sn) (pa := pa) (ki := ki) hS_o rfl rfl rfl rfl rfl rfl (by omega) (by omega) (by omega) (by omega)), by omega, by omega, (fun _ => hw145), Or.inl c_150⟩⟩, by rw [ht]; exact hW.1, va_K.moved h9.alike hK, hW.2.1⟩, hW.2.2.F ht⟩) hW.2.2.2.2 dX12_numeral_158
              · refine lv_iload_n hx hb dX12_numeral_125 rfl (lv_at hl 0 rfl) ?_
                refine lv_i2l hx hb dX12_numeral_126 rfl ?_
                refine lv_topl (fun z_177 ez_177 => ?_)
                refine lv_iload_n hx hb dX12_numeral_127 rfl (lv_at hl 2 rfl) ?_
                refine lv_i2l hx hb dX12_numeral_128 rfl ?_
                refine lv_topl (fun z_178 ez_178 => ?_)
                refine lv_iload_n hx hb dX12_numeral_129 rfl (lv_at hl 3 rfl) ?_
                refine lv_i2l hx hb dX12_numeral_130 rfl ?_
                refine lv_topl (fun z_179 ez_179 => ?_)
                refine vp_callSi (va_Run.run (va_runS (As := [.long z_177, .long z_178, .long z_179]) (rest := []) ⟨hx, hb, hml, hown, hT⟩ (m_isIn l dC dI H.size z_177 z_178 z_179) (va_cwS 3 hT (gS w1187 w1188 w14 w1189) rfl rfl rfl (by decide +kernel) ⟨(Nat.le_of_ble_eq_true rfl), (Nat.le_of_ble_eq_true rfl)⟩) ⟨pcW.blind, pcW.pre (va_P0 _ _ _) (hK.sub (tys' := []) [] rfl) (va_D0 (fun _ => True))⟩ rfl rfl hl.1 rfl (lv_room (Nat.le_of_ble_eq_true rfl)) dX12_numeral_131 ⟨(Nat.le_of_ble_eq_true rfl), (Nat.le_of_ble_eq_true rfl)⟩)) (fun r_180 hr_180 => ?_)
                rcases isInc hr_180 with hc_ | hc_
                · obtain ⟨rfl, hin_⟩ := hc_
                  have hinI := inI ez_177 ez_178 ez_179 hin_
                  refine lv_if_ne (tgt := 146) hx hb dX12_numeral_134 (by decide) (fun _ => ?_) (fun h => absurd h (by decide))
                  refine lv_aload_n hx hb dX12_numeral_146 rfl (lv_at hl 1 rfl) ?_
                  refine pl_get (ci := 12) (v := .int wr34) (C := RX12) (T := TX12) (N := 32) hx hb hT iX12 hown hK hW hT_o.1 hSlgs rfl 13 (by decide) w1095 rfl dX12_numeral_147 ?_
                  refine lv_if_ne (tgt := 157) hx hb dX12_numeral_150 (by decide) (fun c_150 => ?_) (fun c_150 => ?_)
                  · refine lv_iload_n hx hb dX12_numeral_157 rfl (lv_at hl 2 rfl) ?_
                    exact W.iret (v := lo) hx hb hr (fun t ht h9 => ⟨⟨lo, S_68, rfl, ⟨hTy, hFr, ⟨gs, _, (MKi (sp := gs) (sn := sn) (pa := pa) (ki := ki) hSlgs rfl rfl rfl rfl rfl rfl (by omega) (by omega) (by omega) (by omega)), by omega, by omega, (fun h => hw34 ((fun h => h) h)), Or.inl c_150⟩⟩, by rw [ht]; exact hW.1, va_K.moved h9.alike hK, hW.2.1⟩, hW.2.2.F ht⟩) hW.2.2.2.2 dX12_numeral_158
                  · refine lv_iload_n hx hb dX12_numeral_153 rfl (lv_at hl 0 rfl) ?_
                    refine lv_goto (tgt := 158) hx hb dX12_numeral_154 (by decide) ?_
                    exact W.iret (v := vl) hx hb hr (fun t ht h9 => ⟨⟨vl, S_68, rfl, ⟨hTy, hFr, ⟨gs, _, (MKi (sp := gs) (sn := sn) (pa := pa) (ki := ki) hSlgs rfl rfl rfl rfl rfl rfl (by omega) (by omega) (by omega) (by omega)), by omega, by omega, (fun h => hw34 ((fun h => h) h)), Or.inr hinI⟩⟩, by rw [ht]; exact hW.1, va_K.moved h9.alike hK, hW.2.1⟩, hW.2.2.F ht⟩) hW.2.2.2.2 dX12_numeral_158
                · obtain ⟨rfl, hin_⟩ := hc_
                  refine lv_if_ne (tgt := 146) hx hb dX12_numeral_134 (by decide) (fun h => absurd (by decide) h) (fun _ => ?_)
                  refine lv_aload_n hx hb dX12_numeral_137 rfl (lv_at hl 1 rfl) ?_
                  refine lv_iconst (v := 2) hx hb dX12_numeral_138 (by decide) ?_
                  refine lv_aload_n hx hb dX12_numeral_139 rfl (lv_at hl 1 rfl) ?_
                  refine pl_get (ci := 12) (v := .int (nI sp34)) (C := RX12) (T := TX12) (N := 32) hx hb hT iX12 hown hK hW hT_o.1 hSlgs rfl 16 (by decide) w1098 rfl dX12_numeral_140 ?_
                  refine pl_callv (va_runV (As := [.int 2, .int (nI sp34)]) (rest := []) ⟨hx, hb, hml, hown, hT⟩ (m_fails l dC dI cy L kap pr S_68 H.size o 2 (nI sp34) hTy hT_o gs sn wr34 pa ki rs (MKi (sp := gs) (sn := sn) (pa := pa) (ki := ki) hSlgs rfl rfl rfl rfl rfl rfl (by omega) (by omega) (by omega) (by omega)) (by omega) (by decide)) (cwV 2 hT (gV w1214 w1216 ws59 w14 w1217) rfl rfl rfl (by decide +kernel) ⟨(Nat.le_of_ble_eq_true rfl), (Nat.le_of_ble_eq_true rfl)⟩) ⟨pcN.blind, pl_recv hK hW hT_o.1 hSlgs rfl, pcN.pre hW.1 hK hW.2.1 hN (fun q h => absurd h List.not_mem_nil)⟩ rfl rfl hl.1 rfl (lv_room (Nat.le_of_ble_eq_true rfl)) dX12_numeral_143 ⟨(Nat.le_of_ble_eq_true rfl), (Nat.le_of_ble_eq_true rfl)⟩) hW hA0 hA (fun S_181 H locs hrel hW => ?_)
                  obtain ⟨hTy, hF1, hx1⟩ := hrel
                  have hFr := hFr.tr hF1 (by decide)
                  have hFl40 := hFl40.tr hF1 (by decide)
                  have hS_x_44 := hF1.at hT_x_44 (by decide) hS_x_44
                  obtain ⟨sp182, wr182, hM182, hpa182, hpb182, hw182⟩ := hx1
                  obtain ⟨x_183, x_184, x_185, x_186, x_187, x_188, x_189, x_190, x_191, x_192, x_193, x_194, x_195, x_196, x_197, x_198, x_199, x_200, x_201, x_202, x_203, x_204, x_205, x_206, x_207, x_208, x_209, x_210, x_211, x_212, x_213, hS_o, hT_x_183, hT_x_184, hT_x_185, hT_x_186, hT_x_187, hb_x_188, hb_x_189, hb_x_190, hT_x_192, hb_q2, hb_x_193, hb_x_194, hT_x_199, hT_x_200, hb_x_201, hT_x_202, hT_x_203, hT_x_204, hT_x_205, hT_x_206, hT_x_207, hT_x_208, hT_x_209, hT_x_210, hT_x_211, hT_x_212, hb_x_213⟩ := hTy.k12 hT_o
                  have hb_q2 : pr.2 ≤ 900 := hb_q2
                  have hS_o : S_181 o = .inr (12, [.ref x_183, .ref x_184, .ref x_185, .ref x_186, .ref x_187, .int (nI x_188), .int (nI x_189), .int (nI x_190), .int x_191, .ref x_192, .int (nI (pr.2)), .int (nI x_193), .int (nI x_194), .int x_195, .int x_196, .int x_197, .int x_198, .ref x_199, .ref x_200, .int (nI x_201), .ref x_202, .ref x_203, .ref x_204, .ref x_205, .ref x_206, .ref x_207, .ref x_208, .ref x_209, .ref x_210, .ref x_211, .ref x_212, .int (nI x_213)]) := hS_o
                  obtain ⟨e12_, e11_, e13_, e5_, e6_, e0_⟩ := MKe hM182 hS_o rfl rfl rfl rfl rfl rfl (by omega) (by omega) (by omega) (by omega)
                  subst e12_ e11_ e13_ e5_ e6_ e0_
                  refine lv_aload_n hx hb dX12_numeral_146 rfl (lv_at hl 1 rfl) ?_
                  refine pl_get (ci := 12) (v := .int wr182) (C := RX12) (T := TX12) (N := 32) hx hb hT iX12 hown hK hW hT_o.1 hS_o rfl 13 (by decide) w1095 rfl dX12_numeral_147 ?_
                  have c_150 : ¬ wr182 = 0 := hw182
                  refine lv_if_ne (tgt := 157) hx hb dX12_numeral_150 (by decide) (fun _ => ?_) (fun h => absurd h c_150)
                  refine lv_iload_n hx hb dX12_numeral_157 rfl (lv_at hl 2 rfl) ?_
                  exact W.iret (v := lo) hx hb hr (fun t ht h9 => ⟨⟨lo, S_181, rfl, ⟨hTy, hFr, ⟨sp182, _, (MKi (sp := sp182) (sn := sn) (pa := pa) (ki := ki) hS_o rfl rfl rfl rfl rfl rfl (by omega) (by omega) (by omega) (by omega)), by omega, by omega, (fun _ => hw182), Or.inl c_150⟩⟩, by rw [ht]; exact hW.1, va_K.moved h9.alike hK, hW.2.1⟩, hW.2.2.F ht⟩) hW.2.2.2.2 dX12_numeral_158
            · refine lv_aload_n hx hb dX12_numeral_66 rfl (lv_at hl 1 rfl) ?_
              refine pl_get (ci := 12) (v := .int (nI gs)) (C := RX12) (T := TX12) (N := 32) hx hb hT iX12 hown hK hW hT_o.1 hSlgs rfl 12 (by decide) w1094 rfl dX12_numeral_67 ?_
              refine lv_aload_n hx hb dX12_numeral_70 rfl (lv_at hl 1 rfl) ?_
              refine pl_get (ci := 12) (v := .int (nI sp34)) (C := RX12) (T := TX12) (N := 32) hx hb hT iX12 hown hK hW hT_o.1 hSlgs rfl 16 (by decide) w1098 rfl dX12_numeral_71 ?_
              refine lv_isub hx hb dX12_numeral_74 ?_
              refine lv_topi (fun z_214 ez_214 => ?_)
              refine lv_bipush (v := 8) hx hb dX12_numeral_75 (by decide) ?_
              refine lv_icmp_ge (tgt := 98) hx hb dX12_numeral_77 (by decide) (fun c_77 => ?_) (fun c_77 => ?_)
              · refine lv_aload_n hx hb dX12_numeral_98 rfl (lv_at hl 1 rfl) ?_
                refine lv_dup hx hb dX12_numeral_99 rfl ?_
                refine pl_get (ci := 12) (v := .int (nI gs)) (C := RX12) (T := TX12) (N := 32) hx hb hT iX12 hown hK hW hT_o.1 hSlgs rfl 12 (by decide) w1094 rfl dX12_numeral_100 ?_
                refine lv_iconst (v := 1) hx hb dX12_numeral_103 (by decide) ?_
                refine lv_iadd hx hb dX12_numeral_104 ?_
                refine lv_topi (fun z_215 ez_215 => ?_)
                obtain rfl : z_215 = nI (gs + 1) := ez_215.trans (nI_add (gs) (1))
                refine pl_put (ci := 12) (v := .int (nI (gs + 1))) (ty := .int) (C := RX12) (T := TX12) (N := 32) (fs' := [.ref rs, .ref x_36, .ref x_37, .ref x_38, .ref x_39, .int (nI pa), .int (nI ki), .int (nI x_42), .int x_43, .ref x_44, .int (nI (pr.2)), .int (nI sn), .int (nI (gs + 1)), .int wr34, .int x_48, .int x_49, .int (nI sp34), .ref x_51, .ref x_52, .int (nI x_53), .ref x_54, .ref x_55, .ref x_56, .ref x_57, .ref x_58, .ref x_59, .ref x_60, .ref x_61, .ref x_62, .ref x_63, .ref x_64, .int (nI x_65)]) hx hb hT iX12 tyX12 tyX12_ok nmX12 hown hK hW hT_o.1 hSlgs rfl 12 (by decide) w1094 rfl (by decide +kernel) rfl rfl (Nat.le_of_ble_eq_true rfl) rfl dX12_numeral_105 (fun H locs S_216 e1 hW => ?_)
                have hTy := hTy.u12 e1 hT_o ⟨rs, x_36, x_37, x_38, x_39, pa, ki, x_42, x_43, x_44, sn, gs + 1, wr34, x_48, x_49, nI sp34, x_51, x_52, x_53, x_54, x_55, x_56, x_57, x_58, x_59, x_60, x_61, x_62, x_63, x_64, x_65, rfl, hT_x_35, hT_x_36, hT_x_37, hT_x_38, hT_x_39, (by omega), (by omega), (by omega), hT_x_44, (by show pr.2 ≤ 900; omega), (by omega), (by omega), hT_x_51, hT_x_52, (by omega), hT_x_54, hT_x_55, hT_x_56, hT_x_57, hT_x_58, hT_x_59, hT_x_60, hT_x_61, hT_x_62, hT_x_63, hT_x_64, (by omega)⟩
                have hS_x_44 := un e1 hT_x_44 hT_o (by decide) hS_x_44
                have hws := (show wrs (.inr (12, [.ref rs, .ref x_36, .ref x_37, .ref x_38, .ref x_39, .int (nI pa), .int (nI ki), .int (nI x_42), .int x_43, .ref x_44, .int (nI (pr.2)), .int (nI sn), .int (nI (gs + 1)), .int wr34, .int x_48, .int x_49, .int (nI sp34), .ref x_51, .ref x_52, .int (nI x_53), .ref x_54, .ref x_55, .ref x_56, .ref x_57, .ref x_58, .ref x_59, .ref x_60, .ref x_61, .ref x_62, .ref x_63, .ref x_64, .int (nI x_65)])) = wrs (S_68 o) from by rw [hSlgs]; rfl)
                have hFr := ufs hFr e1 hT_o (by decide) hws
                have hFl40 := ufs hFl40 e1 hT_o (by decide) hws
                have hSlgs := us e1
                refine lv_goto (tgt := 40) hx hb dX12_numeral_108 (by decide) ?_
                exact ih40 vl (gs + 1) _ _ _ ls (by omega) hSlgs (by omega) (by omega) hTy hFr hFl40 hW (lv_sub hl [0, 1, 2, 3] rfl)
              · refine lv_bipush (v := 10) hx hb dX12_numeral_80 (by decide) ?_
                refine lv_iload_n hx hb dX12_numeral_82 rfl (lv_at hl 0 rfl) ?_
                refine lv_imul hx hb dX12_numeral_83 ?_
                refine lv_topi (fun z_217 ez_217 => ?_)
                refine lv_aload_n hx hb dX12_numeral_84 rfl (lv_at hl 1 rfl) ?_
                refine pl_get (ci := 12) (v := .ref x_44) (C := RX12) (T := TX12) (N := 32) hx hb hT iX12 hown hK hW hT_o.1 hSlgs rfl 9 (by decide) w1091 rfl dX12_numeral_85 ?_
                refine lv_aload_n hx hb dX12_numeral_88 rfl (lv_at hl 1 rfl) ?_
                refine pl_get (ci := 12) (v := .int (nI gs)) (C := RX12) (T := TX12) (N := 32) hx hb hT iX12 hown hK hW hT_o.1 hSlgs rfl 12 (by decide) w1094 rfl dX12_numeral_89 ?_
                refine pl_bald hx hb hK hW hT_x_44.1 hS_x_44 (vp_in_nI (n := gs) (N := 900) (by omega) (by omega)) dX12_numeral_92 ?_
                refine lv_topi (fun y_218 ey_218 => ?_)
                refine lv_iadd hx hb dX12_numeral_93 ?_
                refine lv_topi (fun z_219 ez_219 => ?_)
                refine lv_bipush (v := 48) hx hb dX12_numeral_94 (by decide) ?_
                refine lv_isub hx hb dX12_numeral_96 ?_
                refine lv_topi (fun z_220 ez_220 => ?_)
                refine lv_istore_n (lv' := [(3, .int z_220), (0, .ref o), (1, .int lo), (2, .int hi)]) hx hb dX12_numeral_97 rfl hl (by decide) rfl (fun ls hl => ?_)
                refine lv_aload_n hx hb dX12_numeral_98 rfl (lv_at hl 1 rfl) ?_
                refine lv_dup hx hb dX12_numeral_99 rfl ?_
                refine pl_get (ci := 12) (v := .int (nI gs)) (C := RX12) (T := TX12) (N := 32) hx hb hT iX12 hown hK hW hT_o.1 hSlgs rfl 12 (by decide) w1094 rfl dX12_numeral_100 ?_
                refine lv_iconst (v := 1) hx hb dX12_numeral_103 (by decide) ?_
                refine lv_iadd hx hb dX12_numeral_104 ?_
                refine lv_topi (fun z_221 ez_221 => ?_)
                obtain rfl : z_221 = nI (gs + 1) := ez_221.trans (nI_add (gs) (1))
                refine pl_put (ci := 12) (v := .int (nI (gs + 1))) (ty := .int) (C := RX12) (T := TX12) (N := 32) (fs' := [.ref rs, .ref x_36, .ref x_37, .ref x_38, .ref x_39, .int (nI pa), .int (nI ki), .int (nI x_42), .int x_43, .ref x_44, .int (nI (pr.2)), .int (nI sn), .int (nI (gs + 1)), .int wr34, .int x_48, .int x_49, .int (nI sp34), .ref x_51, .ref x_52, .int (nI x_53), .ref x_54, .ref x_55, .ref x_56, .ref x_57, .ref x_58, .ref x_59, .ref x_60, .ref x_61, .ref x_62, .ref x_63, .ref x_64, .int (nI x_65)]) hx hb hT iX12 tyX12 tyX12_ok nmX12 hown hK hW hT_o.1 hSlgs rfl 12 (by decide) w1094 rfl (by decide +kernel) rfl rfl (Nat.le_of_ble_eq_true rfl) rfl dX12_numeral_105 (fun H locs S_222 e1 hW => ?_)
                have hTy := hTy.u12 e1 hT_o ⟨rs, x_36, x_37, x_38, x_39, pa, ki, x_42, x_43, x_44, sn, gs + 1, wr34, x_48, x_49, nI sp34, x_51, x_52, x_53, x_54, x_55, x_56, x_57, x_58, x_59, x_60, x_61, x_62, x_63, x_64, x_65, rfl, hT_x_35, hT_x_36, hT_x_37, hT_x_38, hT_x_39, (by omega), (by omega), (by omega), hT_x_44, (by show pr.2 ≤ 900; omega), (by omega), (by omega), hT_x_51, hT_x_52, (by omega), hT_x_54, hT_x_55, hT_x_56, hT_x_57, hT_x_58, hT_x_59, hT_x_60, hT_x_61, hT_x_62, hT_x_63, hT_x_64, (by omega)⟩
                have hS_x_44 := un e1 hT_x_44 hT_o (by decide) hS_x_44
                have hws := (show wrs (.inr (12, [.ref rs, .ref x_36, .ref x_37, .ref x_38, .ref x_39, .int (nI pa), .int (nI ki), .int (nI x_42), .int x_43, .ref x_44, .int (nI (pr.2)), .int (nI sn), .int (nI (gs + 1)), .int wr34, .int x_48, .int x_49, .int (nI sp34), .ref x_51, .ref x_52, .int (nI x_53), .ref x_54, .ref x_55, .ref x_56, .ref x_57, .ref x_58, .ref x_59, .ref x_60, .ref x_61, .ref x_62, .ref x_63, .ref x_64, .int (nI x_65)])) = wrs (S_68 o) from by rw [hSlgs]; rfl)
                have hFr := ufs hFr e1 hT_o (by decide) hws
                have hFl40 := ufs hFl40 e1 hT_o (by decide) hws
                have hSlgs := us e1
                refine lv_goto (tgt := 40) hx hb dX12_numeral_108 (by decide) ?_
                exact ih40 z_220 (gs + 1) _ _ _ ls (by omega) hSlgs (by omega) (by omega) hTy hFr hFl40 hW (lv_sub hl [0, 1, 2, 3] rfl)
      exact loop ((901 - sp34) + 1) 0 sp34 _ _ _ ls (Nat.lt_succ_self _) hS_o (by omega) (by omega) hTy hFr Fr.rf hW (lv_sub hl [0, 1, 2, 3] rfl)
    · refine lv_aload_n hx hb dX12_numeral_19 rfl (lv_at hl 0 rfl) ?_
      refine lv_iconst (v := 1) hx hb dX12_numeral_20 (by decide) ?_
      refine lv_aload_n hx hb dX12_numeral_21 rfl (lv_at hl 0 rfl) ?_
      refine pl_get (ci := 12) (v := .int (nI sp34)) (C := RX12) (T := TX12) (N := 32) hx hb hT iX12 hown hK hW hT_o.1 hS_o rfl 12 (by decide) w1094 rfl dX12_numeral_22 ?_
      refine pl_callv (va_runV (As := [.int 1, .int (nI sp34)]) (rest := []) ⟨hx, hb, hml, hown, hT⟩ (m_fails l dC dI cy L kap pr S_32 H.size o 1 (nI sp34) hTy hT_o sp34 sn wr34 pa ki rs (MKi (sp := sp34) (sn := sn) (pa := pa) (ki := ki) hS_o rfl rfl rfl rfl rfl rfl (by omega) (by omega) (by omega) (by omega)) (by omega) (by decide)) (cwV 2 hT (gV w1214 w1216 ws59 w14 w1217) rfl rfl rfl (by decide +kernel) ⟨(Nat.le_of_ble_eq_true rfl), (Nat.le_of_ble_eq_true rfl)⟩) ⟨pcN.blind, pl_recv hK hW hT_o.1 hS_o rfl, pcN.pre hW.1 hK hW.2.1 hN (fun q h => absurd h List.not_mem_nil)⟩ rfl rfl hl.1 rfl (lv_room (Nat.le_of_ble_eq_true rfl)) dX12_numeral_25 ⟨(Nat.le_of_ble_eq_true rfl), (Nat.le_of_ble_eq_true rfl)⟩) hW hA0 hA (fun S_223 H locs hrel hW => ?_)
      obtain ⟨hTy, hF1, hx1⟩ := hrel
      have hFr := hFr.tr hF1 (by decide)
      obtain ⟨sp224, wr224, hM224, hpa224, hpb224, hw224⟩ := hx1
      obtain ⟨x_225, x_226, x_227, x_228, x_229, x_230, x_231, x_232, x_233, x_234, x_235, x_236, x_237, x_238, x_239, x_240, x_241, x_242, x_243, x_244, x_245, x_246, x_247, x_248, x_249, x_250, x_251, x_252, x_253, x_254, x_255, hS_o, hT_x_225, hT_x_226, hT_x_227, hT_x_228, hT_x_229, hb_x_230, hb_x_231, hb_x_232, hT_x_234, hb_q2, hb_x_235, hb_x_236, hT_x_241, hT_x_242, hb_x_243, hT_x_244, hT_x_245, hT_x_246, hT_x_247, hT_x_248, hT_x_249, hT_x_250, hT_x_251, hT_x_252, hT_x_253, hT_x_254, hb_x_255⟩ := hTy.k12 hT_o
      have hb_q2 : pr.2 ≤ 900 := hb_q2
      have hS_o : S_223 o = .inr (12, [.ref x_225, .ref x_226, .ref x_227, .ref x_228, .ref x_229, .int (nI x_230), .int (nI x_231), .int (nI x_232), .int x_233, .ref x_234, .int (nI (pr.2)), .int (nI x_235), .int (nI x_236), .int x_237, .int x_238, .int x_239, .int x_240, .ref x_241, .ref x_242, .int (nI x_243), .ref x_244, .ref x_245, .ref x_246, .ref x_247, .ref x_248, .ref x_249, .ref x_250, .ref x_251, .ref x_252, .ref x_253, .ref x_254, .int (nI x_255)]) := hS_o
      obtain ⟨e12_, e11_, e13_, e5_, e6_, e0_⟩ := MKe hM224 hS_o rfl rfl rfl rfl rfl rfl (by omega) (by omega) (by omega) (by omega)
      subst e12_ e11_ e13_ e5_ e6_ e0_
      refine lv_iload_n hx hb dX12_numeral_28 rfl (lv_at hl 1 rfl) ?_
      exact W.iret (v := lo) hx hb hr (fun t ht h9 => ⟨⟨lo, S_223, rfl, ⟨hTy, hFr, ⟨sp224, _, (MKi (sp := sp224) (sn := sn) (pa := pa) (ki := ki) hS_o rfl rfl rfl rfl rfl rfl (by omega) (by omega) (by omega) (by omega)), by omega, by omega, (fun _ => hw224), Or.inl hw224⟩⟩, by rw [ht]; exact hW.1, va_K.moved h9.alike hK, hW.2.1⟩, hW.2.2.F ht⟩) hW.2.2.2.2 dX12_numeral_29
  · refine lv_iload_n hx hb dX12_numeral_7 rfl (lv_at hl 1 rfl) ?_
    exact W.iret (v := lo) hx hb hr (fun t ht h9 => ⟨⟨lo, S, rfl, ⟨hTy, hFr, ⟨sp, _, (MKi (sp := sp) (sn := sn) (pa := pa) (ki := ki) hS_o rfl rfl rfl rfl rfl rfl (by omega) (by omega) (by omega) (by omega)), by omega, by omega, (fun h => h), Or.inl c_4⟩⟩, by rw [ht]; exact hW.1, va_K.moved h9.alike hK, hW.2.1⟩, hW.2.2.F ht⟩) hW.2.2.2.2 dX12_numeral_8

set_option maxHeartbeats 4000000 in
set_option maxRecDepth 100000 in
theorem m_find (l : Launch) (dC : Nat → ClassId) (dI : Nat → Nat → Nat) (cy : Nat → ClassId) (L : List Nat) (kap : Nat → Nat) (pr : Pr) (S : Nat → va_E) (sz : Nat) (o : Nat) (nm : Int64) (fr : Nat) (mn : Nat) (hTy : Ty cy L kap pr S) (hT_o : TK L kap o 12) (hb_fr : fr ≤ 8) (hb_mn : fr + mn ≤ 12) : Met l yX12_find (wT yX12_find cX12_find 6 (some .int)) ({ frames := 0, cells := 0, slots := 0, locals := 0 }) (pcN dC dI [.ref o, .long nm, .int (nI fr), .int (nI mn)] sz (va_pl L S) (cyT cy) NLs []) (vp_Si (fun r => r = -1 ∨ ∃ k, k < mn ∧ r = nI k)) 0 0 (fun _ => False) := by
  refine Met.ofW (cc := cX12_find) (maxL := 6) (ret := (some .int)) (by decide) rfl ?_
  intro p e s m args below meth c s₁ B hml hv
  obtain ⟨rfl, hsz, hP, hK, hD0, hN, -⟩ := hv
  have hx := B.exec
  have hb := B.bytes
  have hr := B.returns
  have hT : ∀ wd ∈ TB, wd.before [.ref o, .long nm, .int (nI fr), .int (nI mn)].toArray s = true := fun wd h => atoms_spec (ws := wT yX12_find cX12_find 6 (some .int)) B.pre wd (List.mem_cons_of_mem _ h)
  have hown : s.vm.findClass RX12 = some m.cls := findClass_of_methodNamed B.named
  have hlocks := B.notSynchronized
  subst hsz
  have hW : PW dC dI L (AL L s.heap.size) s.heap S s.heap [] := ⟨hP, pl_self hD0, va_S.rf⟩
  have hFr : Fr kap [] S S := Fr.rf
  have hl := lv_entry ([.ref o, .long nm, .int (nI fr), .int (nI mn)]) (n := 6) (Nat.le_of_ble_eq_true rfl)
  rw [lg_entry_eq]
  generalize (lg_sl ([.ref o, .long nm, .int (nI fr), .int (nI mn)]) ++ List.replicate (6 - (lg_sl ([.ref o, .long nm, .int (nI fr), .int (nI mn)])).length) Slot.unset).toArray = ls at hl ⊢
  have hl : lv_has ls 6 [(0, .ref o), (1, .long nm), (3, .int (nI fr)), (4, .int (nI mn))] := hl
  refine lv_iconst (v := 0) hx hb dX12_find_0 (by decide) ?_
  refine lv_istore (lv' := [(5, .int 0), (0, .ref o), (1, .long nm), (3, .int (nI fr)), (4, .int (nI mn))]) hx hb dX12_find_1 hl (by decide) rfl (fun ls hl => ?_)
  have loop : ∀ (fuel : Nat) (i : Nat) (ls : Array Slot), 13 - i < fuel → (i ≤ 12) → lv_has ls 6 [(5, .int (nI i)), (0, .ref o), (1, .long nm), (3, .int (nI fr)), (4, .int (nI mn))] → W p l e (headSpec (wT yX12_find cX12_find 6 (some .int)) { frames := 0, cells := 0, slots := 0, locals := 0 }).room s m [.ref o, .long nm, .int (nI fr), .int (nI mn)].toArray below meth c s.heap [] 0 0 (MQ below (vp_Si (fun r => r = -1 ∨ ∃ k, k < mn ∧ r = nI k)) [.ref o, .long nm, .int (nI fr), .int (nI mn)].toArray s 0 0 (fun _ => False)) (F0 m 3 ls []) := by
    intro fuel
    induction fuel with
    | zero => intro i ls h; exact absurd h (Nat.not_lt_zero _)
    | succ fu3 ih3 =>
      intro i ls hm3 hb_i hl
      refine lv_iload hx hb dX12_find_3 (lv_at hl 0 rfl) ?_
      refine lv_iload hx hb dX12_find_5 (lv_at hl 4 rfl) ?_
      refine lv_icmp_ge (tgt := 33) hx hb dX12_find_7 (by decide) (fun c_7 => ?_) (fun c_7 => ?_)
      · have c_7 : mn ≤ i := (nI_leI (a := mn) (b := i) (by omega) (by omega)).mp c_7
        refine lv_iconst (v := (-1)) hx hb dX12_find_33 (by decide) ?_
        exact W.iret (v := (-1)) hx hb hr (fun t ht h9 => ⟨(-1), rfl, Or.inl rfl, ht⟩) (fun q h => by cases h) dX12_find_34
      · have c_7 : ¬ (mn ≤ i) := fun hh9 => c_7 ((nI_leI (a := mn) (b := i) (by omega) (by omega)).mpr hh9)
        refine lv_aload_n hx hb dX12_find_10 rfl (lv_at hl 1 rfl) ?_
        obtain ⟨x_1, x_2, x_3, x_4, x_5, x_6, x_7, x_8, x_9, x_10, x_11, x_12, x_13, x_14, x_15, x_16, x_17, x_18, x_19, x_20, x_21, x_22, x_23, x_24, x_25, x_26, x_27, x_28, x_29, x_30, x_31, hS_o, hT_x_1, hT_x_2, hT_x_3, hT_x_4, hT_x_5, hb_x_6, hb_x_7, hb_x_8, hT_x_10, hb_q2, hb_x_11, hb_x_12, hT_x_17, hT_x_18, hb_x_19, hT_x_20, hT_x_21, hT_x_22, hT_x_23, hT_x_24, hT_x_25, hT_x_26, hT_x_27, hT_x_28, hT_x_29, hT_x_30, hb_x_31⟩ := hTy.k12 hT_o
        have hb_q2 : pr.2 ≤ 900 := hb_q2
        have hS_o : S o = .inr (12, [.ref x_1, .ref x_2, .ref x_3, .ref x_4, .ref x_5, .int (nI x_6), .int (nI x_7), .int (nI x_8), .int x_9, .ref x_10, .int (nI (pr.2)), .int (nI x_11), .int (nI x_12), .int x_13, .int x_14, .int x_15, .int x_16, .ref x_17, .ref x_18, .int (nI x_19), .ref x_20, .ref x_21, .ref x_22, .ref x_23, .ref x_24, .ref x_25, .ref x_26, .ref x_27, .ref x_28, .ref x_29, .ref x_30, .int (nI x_31)]) := hS_o
        refine pl_get (ci := 12) (v := .ref x_4) (C := RX12) (T := TX12) (N := 32) hx hb hT iX12 hown hK hW hT_o.1 hS_o rfl 3 (by decide) w1085 rfl dX12_find_11 ?_
        refine lv_iload_n hx hb dX12_find_14 rfl (lv_at hl 3 rfl) ?_
        refine lv_iload hx hb dX12_find_15 (lv_at hl 0 rfl) ?_
        refine lv_iadd hx hb dX12_find_17 ?_
        refine lv_topi (fun z_32 ez_32 => ?_)
        obtain rfl : z_32 = nI (fr + i) := ez_32.trans (nI_add (fr) (i))
        obtain ⟨f_33, hS_x_4⟩ := hTy.k53 hT_x_4
        refine pl_lald hx hb hK hW hT_x_4.1 hS_x_4 (vp_in_nI (n := fr + i) (N := 12) (by omega) (by omega)) dX12_find_18 ?_
        refine lv_topl (fun y_34 ey_34 => ?_)
        refine lv_lload_n hx hb dX12_find_19 rfl (lv_at hl 2 rfl) ?_
        refine W.lcmp hx hb dX12_find_20 ?_
        refine lv_if_ne (tgt := 27) hx hb dX12_find_21 (by decide) (fun c_21 => ?_) (fun c_21 => ?_)
        · refine lv_iinc (v := nI (i + 1)) (lv' := [(5, .int (nI (i + 1))), (0, .ref o), (1, .long nm), (3, .int (nI fr)), (4, .int (nI mn))]) hx hb dX12_find_27 hl (k := 0) rfl (nI_add (i) 1) (by decide) rfl (fun ls hl => ?_)
          refine lv_goto (tgt := 3) hx hb dX12_find_30 (by decide) ?_
          exact ih3 (i + 1) ls (by omega) (by omega) (lv_sub hl [0, 1, 2, 3, 4] rfl)
        · refine lv_iload hx hb dX12_find_24 (lv_at hl 0 rfl) ?_
          exact W.iret (v := nI i) hx hb hr (fun t ht h9 => ⟨nI i, rfl, Or.inr ⟨i, by omega, rfl⟩, ht⟩) (fun q h => by cases h) dX12_find_26
  exact loop ((13 - 0) + 1) 0 ls (Nat.lt_succ_self _) (by omega) (lv_sub hl [0, 1, 2, 3, 4] rfl)

set_option maxHeartbeats 4000000 in
set_option maxRecDepth 100000 in
theorem m_name (l : Launch) (dC : Nat → ClassId) (dI : Nat → Nat → Nat) (cy : Nat → ClassId) (L : List Nat) (kap : Nat → Nat) (pr : Pr) (ad : (Nat → Nat) × (Nat → Nat)) (S : Nat → va_E) (sz : Nat) (o : Nat) (hTy : Ty cy L kap pr S) (hT_o : TK L kap o 12) (sp : Nat) (sn : Nat) (wr : Int32) (pa : Nat) (ki : Nat) (rs : Nat) (hM : MK S o sp sn wr pa ki rs) (hsp : sp ≤ sn) : Met l yX12_nameRead (wT yX12_nameRead cX12_nameRead 5 (some .long)) ({ frames := 5, cells := 0, slots := 0, locals := 111 }) (pcS dC dI [.ref o] sz L S (cyT cy) NLs ad) (va_Ql (fun r S' => Ty cy L kap pr S' ∧ Fr kap [12, 112] S S' ∧ (∃ sp' wr', MK S' o sp' sn wr' pa ki rs ∧ sp ≤ sp' ∧ sp' ≤ sn ∧ (wr ≠ 0 → wr' ≠ 0))) (fun S' t => pB dC dI (AL L sz) (va_pl L S') (cyT cy) t) (AL L sz)) 0 0 (AL L sz) := by
  refine Met.ofW (cc := cX12_nameRead) (maxL := 5) (ret := (some .long)) (by decide) rfl ?_
  intro p e s m args below meth c s₁ B hml hv
  obtain ⟨rfl, hsz, hP, hK, hD0, hN, hSTR⟩ := hv
  have hx := B.exec
  have hb := B.bytes
  have hr := B.returns
  have hT : ∀ wd ∈ TB, wd.before [.ref o].toArray s = true := fun wd h => atoms_spec (ws := wT yX12_nameRead cX12_nameRead 5 (some .long)) B.pre wd (List.mem_cons_of_mem _ h)
  have hown : s.vm.findClass RX12 = some m.cls := findClass_of_methodNamed B.named
  have hlocks := B.notSynchronized
  subst hsz
  have hW : PW dC dI L (AL L s.heap.size) s.heap S s.heap [] := ⟨hP, pl_self hD0, va_S.rf⟩
  have hA0 : ∀ q, q ∈ L → AL L s.heap.size q := fun _ h => Or.inl h
  have hA : ∀ q, s.heap.size ≤ q → AL L s.heap.size q := fun _ h => Or.inr h
  have hFr : Fr kap [12, 112] S S := Fr.rf
  have hl := lv_entry ([.ref o]) (n := 5) (Nat.le_of_ble_eq_true rfl)
  rw [lg_entry_eq]
  generalize (lg_sl ([.ref o]) ++ List.replicate (5 - (lg_sl ([.ref o])).length) Slot.unset).toArray = ls at hl ⊢
  have hl : lv_has ls 5 [(0, .ref o)] := hl
  obtain ⟨x_1, x_2, x_3, x_4, x_5, x_6, x_7, x_8, x_9, x_10, x_11, x_12, x_13, x_14, x_15, x_16, x_17, x_18, x_19, x_20, x_21, x_22, x_23, x_24, x_25, x_26, x_27, x_28, x_29, x_30, x_31, hS_o, hT_x_1, hT_x_2, hT_x_3, hT_x_4, hT_x_5, hb_x_6, hb_x_7, hb_x_8, hT_x_10, hb_q2, hb_x_11, hb_x_12, hT_x_17, hT_x_18, hb_x_19, hT_x_20, hT_x_21, hT_x_22, hT_x_23, hT_x_24, hT_x_25, hT_x_26, hT_x_27, hT_x_28, hT_x_29, hT_x_30, hb_x_31⟩ := hTy.k12 hT_o
  have hb_q2 : pr.2 ≤ 900 := hb_q2
  have hS_o : S o = .inr (12, [.ref x_1, .ref x_2, .ref x_3, .ref x_4, .ref x_5, .int (nI x_6), .int (nI x_7), .int (nI x_8), .int x_9, .ref x_10, .int (nI (pr.2)), .int (nI x_11), .int (nI x_12), .int x_13, .int x_14, .int x_15, .int x_16, .ref x_17, .ref x_18, .int (nI x_19), .ref x_20, .ref x_21, .ref x_22, .ref x_23, .ref x_24, .ref x_25, .ref x_26, .ref x_27, .ref x_28, .ref x_29, .ref x_30, .int (nI x_31)]) := hS_o
  obtain ⟨e12_, e11_, e13_, e5_, e6_, e0_⟩ := MKe hM hS_o rfl rfl rfl rfl rfl rfl (by omega) (by omega) (by omega) (by omega)
  subst e12_ e11_ e13_ e5_ e6_ e0_
  refine lv_aload_n hx hb dX12_nameRead_0 rfl (lv_at hl 0 rfl) ?_
  refine pl_get (ci := 12) (v := .int wr) (C := RX12) (T := TX12) (N := 32) hx hb hT iX12 hown hK hW hT_o.1 hS_o rfl 13 (by decide) w1095 rfl dX12_nameRead_1 ?_
  refine lv_if_eq (tgt := 9) hx hb dX12_nameRead_4 (by decide) (fun c_4 => ?_) (fun c_4 => ?_)
  · refine lv_aload_n hx hb dX12_nameRead_9 rfl (lv_at hl 0 rfl) ?_
    refine pl_calli (va_runV (As := []) (rest := []) ⟨hx, hb, hml, hown, hT⟩ (m_peek l dC dI cy L kap pr S s.heap.size o hTy hT_o sp sn wr pa ki rs (MKi (sp := sp) (sn := sn) (pa := pa) (ki := ki) hS_o rfl rfl rfl rfl rfl rfl (by omega) (by omega) (by omega) (by omega)) (by omega)) (cwV 0 hT (gV w1190 w1192 ws55 w14 w1193) rfl rfl rfl (by decide +kernel) ⟨(Nat.le_of_ble_eq_true rfl), (Nat.le_of_ble_eq_true rfl)⟩) ⟨pcN.blind, pl_recv hK hW hT_o.1 hS_o rfl, pcN.pre hW.1 hK hW.2.1 hN (fun q h => absurd h List.not_mem_nil)⟩ rfl rfl hl.1 rfl (lv_room (Nat.le_of_ble_eq_true rfl)) dX12_nameRead_10 ⟨(Nat.le_of_ble_eq_true rfl), (Nat.le_of_ble_eq_true rfl)⟩) hW hA0 hA (fun r_33 S_32 H locs hrel hW => ?_)
    obtain ⟨hTy, hF1, hx1⟩ := hrel
    have hFr := hFr.tr hF1 (by decide)
    obtain ⟨sp34, wr34, hM34, hpa34, hpb34, hw34, hv34⟩ := hx1
    obtain ⟨x_35, x_36, x_37, x_38, x_39, x_40, x_41, x_42, x_43, x_44, x_45, x_46, x_47, x_48, x_49, x_50, x_51, x_52, x_53, x_54, x_55, x_56, x_57, x_58, x_59, x_60, x_61, x_62, x_63, x_64, x_65, hS_o, hT_x_35, hT_x_36, hT_x_37, hT_x_38, hT_x_39, hb_x_40, hb_x_41, hb_x_42, hT_x_44, hb_q2, hb_x_45, hb_x_46, hT_x_51, hT_x_52, hb_x_53, hT_x_54, hT_x_55, hT_x_56, hT_x_57, hT_x_58, hT_x_59, hT_x_60, hT_x_61, hT_x_62, hT_x_63, hT_x_64, hb_x_65⟩ := hTy.k12 hT_o
    have hb_q2 : pr.2 ≤ 900 := hb_q2
    have hS_o : S_32 o = .inr (12, [.ref x_35, .ref x_36, .ref x_37, .ref x_38, .ref x_39, .int (nI x_40), .int (nI x_41), .int (nI x_42), .int x_43, .ref x_44, .int (nI (pr.2)), .int (nI x_45), .int (nI x_46), .int x_47, .int x_48, .int x_49, .int x_50, .ref x_51, .ref x_52, .int (nI x_53), .ref x_54, .ref x_55, .ref x_56, .ref x_57, .ref x_58, .ref x_59, .ref x_60, .ref x_61, .ref x_62, .ref x_63, .ref x_64, .int (nI x_65)]) := hS_o
    obtain ⟨e12_, e11_, e13_, e5_, e6_, e0_⟩ := MKe hM34 hS_o rfl rfl rfl rfl rfl rfl (by omega) (by omega) (by omega) (by omega)
    subst e12_ e11_ e13_ e5_ e6_ e0_
    refine vp_callSi (va_Run.run (va_runS (As := [.int r_33]) (rest := []) ⟨hx, hb, hml, hown, hT⟩ (m_isLetter l dC dI H.size r_33) (va_cwS 1 hT (gS w1202 w1203 w14 w1204) rfl rfl rfl (by decide +kernel) ⟨(Nat.le_of_ble_eq_true rfl), (Nat.le_of_ble_eq_true rfl)⟩) ⟨pcW.blind, pcW.pre (va_P0 _ _ _) (hK.sub (tys' := []) [] rfl) (va_D0 (fun _ => True))⟩ rfl rfl hl.1 rfl (lv_room (Nat.le_of_ble_eq_true rfl)) dX12_nameRead_13 ⟨(Nat.le_of_ble_eq_true rfl), (Nat.le_of_ble_eq_true rfl)⟩)) (fun r_66 hr_66 => ?_)
    refine lv_if_eq (tgt := 36) hx hb dX12_nameRead_16 (by decide) (fun c_16 => ?_) (fun c_16 => ?_)
    · refine lv_aload_n hx hb dX12_nameRead_36 rfl (lv_at hl 0 rfl) ?_
      refine lv_iconst (v := 1) hx hb dX12_nameRead_37 (by decide) ?_
      refine lv_aload_n hx hb dX12_nameRead_38 rfl (lv_at hl 0 rfl) ?_
      refine pl_get (ci := 12) (v := .int (nI sp34)) (C := RX12) (T := TX12) (N := 32) hx hb hT iX12 hown hK hW hT_o.1 hS_o rfl 12 (by decide) w1094 rfl dX12_nameRead_39 ?_
      refine pl_callv (va_runV (As := [.int 1, .int (nI sp34)]) (rest := []) ⟨hx, hb, hml, hown, hT⟩ (m_fails l dC dI cy L kap pr S_32 H.size o 1 (nI sp34) hTy hT_o sp34 sn wr34 pa ki rs (MKi (sp := sp34) (sn := sn) (pa := pa) (ki := ki) hS_o rfl rfl rfl rfl rfl rfl (by omega) (by omega) (by omega) (by omega)) (by omega) (by decide)) (cwV 2 hT (gV w1214 w1216 ws59 w14 w1217) rfl rfl rfl (by decide +kernel) ⟨(Nat.le_of_ble_eq_true rfl), (Nat.le_of_ble_eq_true rfl)⟩) ⟨pcN.blind, pl_recv hK hW hT_o.1 hS_o rfl, pcN.pre hW.1 hK hW.2.1 hN (fun q h => absurd h List.not_mem_nil)⟩ rfl rfl hl.1 rfl (lv_room (Nat.le_of_ble_eq_true rfl)) dX12_nameRead_42 ⟨(Nat.le_of_ble_eq_true rfl), (Nat.le_of_ble_eq_true rfl)⟩) hW hA0 hA (fun S_67 H locs hrel hW => ?_)
      obtain ⟨hTy, hF1, hx1⟩ := hrel
      have hFr := hFr.tr hF1 (by decide)
      obtain ⟨sp68, wr68, hM68, hpa68, hpb68, hw68⟩ := hx1
      obtain ⟨x_69, x_70, x_71, x_72, x_73, x_74, x_75, x_76, x_77, x_78, x_79, x_80, x_81, x_82, x_83, x_84, x_85, x_86, x_87, x_88, x_89, x_90, x_91, x_92, x_93, x_94, x_95, x_96, x_97, x_98, x_99, hS_o, hT_x_69, hT_x_70, hT_x_71, hT_x_72, hT_x_73, hb_x_74, hb_x_75, hb_x_76, hT_x_78, hb_q2, hb_x_79, hb_x_80, hT_x_85, hT_x_86, hb_x_87, hT_x_88, hT_x_89, hT_x_90, hT_x_91, hT_x_92, hT_x_93, hT_x_94, hT_x_95, hT_x_96, hT_x_97, hT_x_98, hb_x_99⟩ := hTy.k12 hT_o
      have hb_q2 : pr.2 ≤ 900 := hb_q2
      have hS_o : S_67 o = .inr (12, [.ref x_69, .ref x_70, .ref x_71, .ref x_72, .ref x_73, .int (nI x_74), .int (nI x_75), .int (nI x_76), .int x_77, .ref x_78, .int (nI (pr.2)), .int (nI x_79), .int (nI x_80), .int x_81, .int x_82, .int x_83, .int x_84, .ref x_85, .ref x_86, .int (nI x_87), .ref x_88, .ref x_89, .ref x_90, .ref x_91, .ref x_92, .ref x_93, .ref x_94, .ref x_95, .ref x_96, .ref x_97, .ref x_98, .int (nI x_99)]) := hS_o
      obtain ⟨e12_, e11_, e13_, e5_, e6_, e0_⟩ := MKe hM68 hS_o rfl rfl rfl rfl rfl rfl (by omega) (by omega) (by omega) (by omega)
      subst e12_ e11_ e13_ e5_ e6_ e0_
      refine lv_lconst (v := 0) hx hb dX12_nameRead_45 (by decide) ?_
      exact W.lret (v := 0) hx hb hr (fun t ht h9 => ⟨⟨0, S_67, rfl, ⟨hTy, hFr, ⟨sp68, _, (MKi (sp := sp68) (sn := sn) (pa := pa) (ki := ki) hS_o rfl rfl rfl rfl rfl rfl (by omega) (by omega) (by omega) (by omega)), by omega, by omega, (fun _ => hw68)⟩⟩, by rw [ht]; exact hW.1, va_K.moved h9.alike hK, hW.2.1⟩, hW.2.2.F ht⟩) hW.2.2.2.2 dX12_nameRead_46
    · refine lv_aload_n hx hb dX12_nameRead_19 rfl (lv_at hl 0 rfl) ?_
      refine vp_callSi (va_Run.run (va_runV (As := []) (rest := []) ⟨hx, hb, hml, hown, hT⟩ (m_letters l dC dI cy L kap pr S_32 H.size o hTy hT_o sp34 sn wr34 pa ki rs (MKi (sp := sp34) (sn := sn) (pa := pa) (ki := ki) hS_o rfl rfl rfl rfl rfl rfl (by omega) (by omega) (by omega) (by omega)) (by omega)) (cwV 0 hT (gV w1207 w1209 ws58 w14 w1210) rfl rfl rfl (by decide +kernel) ⟨(Nat.le_of_ble_eq_true rfl), (Nat.le_of_ble_eq_true rfl)⟩) ⟨pcN.blind, pl_recv hK hW hT_o.1 hS_o rfl, pcN.pre hW.1 hK hW.2.1 hN (fun q h => absurd h List.not_mem_nil)⟩ rfl rfl hl.1 rfl (lv_room (Nat.le_of_ble_eq_true rfl)) dX12_nameRead_20 ⟨(Nat.le_of_ble_eq_true rfl), (Nat.le_of_ble_eq_true rfl)⟩)) (fun r_100 hr_100 => ?_)
      obtain ⟨k_101, hb_k_101, rfl⟩ := hr_100
      refine lv_bipush (v := 8) hx hb dX12_nameRead_23 (by decide) ?_
      refine lv_icmp_gt (tgt := 36) hx hb dX12_nameRead_25 (by decide) (fun c_25 => ?_) (fun c_25 => ?_)
      · have c_25 : 8 < k_101 := (nI_ltI (a := 8) (b := k_101) (by omega) (by omega)).mp c_25
        refine lv_aload_n hx hb dX12_nameRead_36 rfl (lv_at hl 0 rfl) ?_
        refine lv_iconst (v := 1) hx hb dX12_nameRead_37 (by decide) ?_
        refine lv_aload_n hx hb dX12_nameRead_38 rfl (lv_at hl 0 rfl) ?_
        refine pl_get (ci := 12) (v := .int (nI sp34)) (C := RX12) (T := TX12) (N := 32) hx hb hT iX12 hown hK hW hT_o.1 hS_o rfl 12 (by decide) w1094 rfl dX12_nameRead_39 ?_
        refine pl_callv (va_runV (As := [.int 1, .int (nI sp34)]) (rest := []) ⟨hx, hb, hml, hown, hT⟩ (m_fails l dC dI cy L kap pr S_32 H.size o 1 (nI sp34) hTy hT_o sp34 sn wr34 pa ki rs (MKi (sp := sp34) (sn := sn) (pa := pa) (ki := ki) hS_o rfl rfl rfl rfl rfl rfl (by omega) (by omega) (by omega) (by omega)) (by omega) (by decide)) (cwV 2 hT (gV w1214 w1216 ws59 w14 w1217) rfl rfl rfl (by decide +kernel) ⟨(Nat.le_of_ble_eq_true rfl), (Nat.le_of_ble_eq_true rfl)⟩) ⟨pcN.blind, pl_recv hK hW hT_o.1 hS_o rfl, pcN.pre hW.1 hK hW.2.1 hN (fun q h => absurd h List.not_mem_nil)⟩ rfl rfl hl.1 rfl (lv_room (Nat.le_of_ble_eq_true rfl)) dX12_nameRead_42 ⟨(Nat.le_of_ble_eq_true rfl), (Nat.le_of_ble_eq_true rfl)⟩) hW hA0 hA (fun S_102 H locs hrel hW => ?_)
        obtain ⟨hTy, hF1, hx1⟩ := hrel
        have hFr := hFr.tr hF1 (by decide)
        obtain ⟨sp103, wr103, hM103, hpa103, hpb103, hw103⟩ := hx1
        obtain ⟨x_104, x_105, x_106, x_107, x_108, x_109, x_110, x_111, x_112, x_113, x_114, x_115, x_116, x_117, x_118, x_119, x_120, x_121, x_122, x_123, x_124, x_125, x_126, x_127, x_128, x_129, x_130, x_131, x_132, x_133, x_134, hS_o, hT_x_104, hT_x_105, hT_x_106, hT_x_107, hT_x_108, hb_x_109, hb_x_110, hb_x_111, hT_x_113, hb_q2, hb_x_114, hb_x_115, hT_x_120, hT_x_121, hb_x_122, hT_x_123, hT_x_124, hT_x_125, hT_x_126, hT_x_127, hT_x_128, hT_x_129, hT_x_130, hT_x_131, hT_x_132, hT_x_133, hb_x_134⟩ := hTy.k12 hT_o
        have hb_q2 : pr.2 ≤ 900 := hb_q2
        have hS_o : S_102 o = .inr (12, [.ref x_104, .ref x_105, .ref x_106, .ref x_107, .ref x_108, .int (nI x_109), .int (nI x_110), .int (nI x_111), .int x_112, .ref x_113, .int (nI (pr.2)), .int (nI x_114), .int (nI x_115), .int x_116, .int x_117, .int x_118, .int x_119, .ref x_120, .ref x_121, .int (nI x_122), .ref x_123, .ref x_124, .ref x_125, .ref x_126, .ref x_127, .ref x_128, .ref x_129, .ref x_130, .ref x_131, .ref x_132, .ref x_133, .int (nI x_134)]) := hS_o
        obtain ⟨e12_, e11_, e13_, e5_, e6_, e0_⟩ := MKe hM103 hS_o rfl rfl rfl rfl rfl rfl (by omega) (by omega) (by omega) (by omega)
        subst e12_ e11_ e13_ e5_ e6_ e0_
        refine lv_lconst (v := 0) hx hb dX12_nameRead_45 (by decide) ?_
        exact W.lret (v := 0) hx hb hr (fun t ht h9 => ⟨⟨0, S_102, rfl, ⟨hTy, hFr, ⟨sp103, _, (MKi (sp := sp103) (sn := sn) (pa := pa) (ki := ki) hS_o rfl rfl rfl rfl rfl rfl (by omega) (by omega) (by omega) (by omega)), by omega, by omega, (fun _ => hw103)⟩⟩, by rw [ht]; exact hW.1, va_K.moved h9.alike hK, hW.2.1⟩, hW.2.2.F ht⟩) hW.2.2.2.2 dX12_nameRead_46
      · have c_25 : ¬ (8 < k_101) := fun hh9 => c_25 ((nI_ltI (a := 8) (b := k_101) (by omega) (by omega)).mpr hh9)
        refine lv_aload_n hx hb dX12_nameRead_28 rfl (lv_at hl 0 rfl) ?_
        refine pl_calli (va_runV (As := []) (rest := []) ⟨hx, hb, hml, hown, hT⟩ (m_word l dC dI cy L kap pr ad S_32 H.size o hTy hT_o sp34 sn wr34 pa ki rs (MKi (sp := sp34) (sn := sn) (pa := pa) (ki := ki) hS_o rfl rfl rfl rfl rfl rfl (by omega) (by omega) (by omega) (by omega)) (by omega)) (cwV 0 hT (gV w1198 w1200 ws57 w14 w1201) rfl rfl rfl (by decide +kernel) ⟨(Nat.le_of_ble_eq_true rfl), (Nat.le_of_ble_eq_true rfl)⟩) ⟨pcS.blind, pl_recv hK hW hT_o.1 hS_o rfl, pcS.pre hW.1 hK hW.2.1 hN hSTR hW.2.2⟩ rfl rfl hl.1 rfl (lv_room (Nat.le_of_ble_eq_true rfl)) dX12_nameRead_29 ⟨(Nat.le_of_ble_eq_true rfl), (Nat.le_of_ble_eq_true rfl)⟩) hW hA0 hA (fun r_136 S_135 H locs hrel hW => ?_)
        obtain ⟨hTy, hF1, hx1⟩ := hrel
        have hFr := hFr.tr hF1 (by decide)
        obtain ⟨sp137, wr137, hM137, hpa137, hpb137, hw137⟩ := hx1
        obtain ⟨x_138, x_139, x_140, x_141, x_142, x_143, x_144, x_145, x_146, x_147, x_148, x_149, x_150, x_151, x_152, x_153, x_154, x_155, x_156, x_157, x_158, x_159, x_160, x_161, x_162, x_163, x_164, x_165, x_166, x_167, x_168, hS_o, hT_x_138, hT_x_139, hT_x_140, hT_x_141, hT_x_142, hb_x_143, hb_x_144, hb_x_145, hT_x_147, hb_q2, hb_x_148, hb_x_149, hT_x_154, hT_x_155, hb_x_156, hT_x_157, hT_x_158, hT_x_159, hT_x_160, hT_x_161, hT_x_162, hT_x_163, hT_x_164, hT_x_165, hT_x_166, hT_x_167, hb_x_168⟩ := hTy.k12 hT_o
        have hb_q2 : pr.2 ≤ 900 := hb_q2
        have hS_o : S_135 o = .inr (12, [.ref x_138, .ref x_139, .ref x_140, .ref x_141, .ref x_142, .int (nI x_143), .int (nI x_144), .int (nI x_145), .int x_146, .ref x_147, .int (nI (pr.2)), .int (nI x_148), .int (nI x_149), .int x_150, .int x_151, .int x_152, .int x_153, .ref x_154, .ref x_155, .int (nI x_156), .ref x_157, .ref x_158, .ref x_159, .ref x_160, .ref x_161, .ref x_162, .ref x_163, .ref x_164, .ref x_165, .ref x_166, .ref x_167, .int (nI x_168)]) := hS_o
        obtain ⟨e12_, e11_, e13_, e5_, e6_, e0_⟩ := MKe hM137 hS_o rfl rfl rfl rfl rfl rfl (by omega) (by omega) (by omega) (by omega)
        subst e12_ e11_ e13_ e5_ e6_ e0_
        refine lv_iconst (v := (-1)) hx hb dX12_nameRead_32 (by decide) ?_
        refine lv_icmp_eq (tgt := 47) hx hb dX12_nameRead_33 (by decide) (fun c_33 => ?_) (fun c_33 => ?_)
        · refine lv_aload_n hx hb dX12_nameRead_47 rfl (lv_at hl 0 rfl) ?_
          refine lv_aload_n hx hb dX12_nameRead_48 rfl (lv_at hl 0 rfl) ?_
          refine pl_get (ci := 12) (v := .int (nI sp137)) (C := RX12) (T := TX12) (N := 32) hx hb hT iX12 hown hK hW hT_o.1 hS_o rfl 12 (by decide) w1094 rfl dX12_nameRead_49 ?_
          refine pl_put (ci := 12) (v := .int (nI sp137)) (ty := .int) (C := RX12) (T := TX12) (N := 32) (fs' := [.ref rs, .ref x_139, .ref x_140, .ref x_141, .ref x_142, .int (nI pa), .int (nI ki), .int (nI x_145), .int x_146, .ref x_147, .int (nI (pr.2)), .int (nI sn), .int (nI sp137), .int wr137, .int x_151, .int x_152, .int (nI sp137), .ref x_154, .ref x_155, .int (nI x_156), .ref x_157, .ref x_158, .ref x_159, .ref x_160, .ref x_161, .ref x_162, .ref x_163, .ref x_164, .ref x_165, .ref x_166, .ref x_167, .int (nI x_168)]) hx hb hT iX12 tyX12 tyX12_ok nmX12 hown hK hW hT_o.1 hS_o rfl 16 (by decide) w1098 rfl (by decide +kernel) rfl rfl (Nat.le_of_ble_eq_true rfl) rfl dX12_nameRead_52 (fun H locs S_169 e1 hW => ?_)
          have hTy := hTy.u12 e1 hT_o ⟨rs, x_139, x_140, x_141, x_142, pa, ki, x_145, x_146, x_147, sn, sp137, wr137, x_151, x_152, nI sp137, x_154, x_155, x_156, x_157, x_158, x_159, x_160, x_161, x_162, x_163, x_164, x_165, x_166, x_167, x_168, rfl, hT_x_138, hT_x_139, hT_x_140, hT_x_141, hT_x_142, (by omega), (by omega), (by omega), hT_x_147, (by show pr.2 ≤ 900; omega), (by omega), (by omega), hT_x_154, hT_x_155, (by omega), hT_x_157, hT_x_158, hT_x_159, hT_x_160, hT_x_161, hT_x_162, hT_x_163, hT_x_164, hT_x_165, hT_x_166, hT_x_167, (by omega)⟩
          have hws := (show wrs (.inr (12, [.ref rs, .ref x_139, .ref x_140, .ref x_141, .ref x_142, .int (nI pa), .int (nI ki), .int (nI x_145), .int x_146, .ref x_147, .int (nI (pr.2)), .int (nI sn), .int (nI sp137), .int wr137, .int x_151, .int x_152, .int (nI sp137), .ref x_154, .ref x_155, .int (nI x_156), .ref x_157, .ref x_158, .ref x_159, .ref x_160, .ref x_161, .ref x_162, .ref x_163, .ref x_164, .ref x_165, .ref x_166, .ref x_167, .int (nI x_168)])) = wrs (S_135 o) from by rw [hS_o]; rfl)
          have hFr := ufs hFr e1 hT_o (by decide) hws
          have hS_o := us e1
          refine lv_lconst (v := 0) hx hb dX12_nameRead_55 (by decide) ?_
          refine lv_lstore_n (lv' := [(1, .long 0), (0, .ref o)]) hx hb dX12_nameRead_56 rfl hl (by decide) rfl (fun ls hl => ?_)
          refine lv_aload_n hx hb dX12_nameRead_57 rfl (lv_at hl 1 rfl) ?_
          refine vp_callSi (va_Run.run (va_runV (As := []) (rest := []) ⟨hx, hb, hml, hown, hT⟩ (m_letters l dC dI cy L kap pr S_169 H.size o hTy hT_o sp137 sn wr137 pa ki rs (MKi (sp := sp137) (sn := sn) (pa := pa) (ki := ki) hS_o rfl rfl rfl rfl rfl rfl (by omega) (by omega) (by omega) (by omega)) (by omega)) (cwV 0 hT (gV w1207 w1209 ws58 w14 w1210) rfl rfl rfl (by decide +kernel) ⟨(Nat.le_of_ble_eq_true rfl), (Nat.le_of_ble_eq_true rfl)⟩) ⟨pcN.blind, pl_recv hK hW hT_o.1 hS_o rfl, pcN.pre hW.1 hK hW.2.1 hN (fun q h => absurd h List.not_mem_nil)⟩ rfl rfl hl.1 rfl (lv_room (Nat.le_of_ble_eq_true rfl)) dX12_nameRead_58 ⟨(Nat.le_of_ble_eq_true rfl), (Nat.le_of_ble_eq_true rfl)⟩)) (fun r_170 hr_170 => ?_)
          obtain ⟨k_171, hb_k_171, rfl⟩ := hr_170
          refine lv_istore_n (lv' := [(3, .int (nI k_171)), (1, .long 0), (0, .ref o)]) hx hb dX12_nameRead_61 rfl hl (by decide) rfl (fun ls hl => ?_)
          refine lv_iconst (v := 0) hx hb dX12_nameRead_62 (by decide) ?_
          refine lv_istore (lv' := [(4, .int 0), (3, .int (nI k_171)), (1, .long 0), (0, .ref o)]) hx hb dX12_nameRead_63 hl (by decide) rfl (fun ls hl => ?_)
          have loop : ∀ (fuel : Nat) (i : Nat) (vl : Int64) (SS : Nat → va_E) (H : Heap) (locs : List Loc) (ls : Array Slot), 901 - i < fuel → (i ≤ 900) → Ty cy L kap pr SS → Fr kap [12, 112] S SS → Fr kap [] S_169 SS → PW dC dI L (AL L s.heap.size) s.heap SS H locs → lv_has ls 5 [(4, .int (nI i)), (3, .int (nI k_171)), (1, .long vl), (0, .ref o)] → W p l e (headSpec (wT yX12_nameRead cX12_nameRead 5 (some .long)) { frames := 5, cells := 0, slots := 0, locals := 111 }).room s m [.ref o].toArray below meth c H locs 0 0 (MQ below (va_Ql (fun r S' => Ty cy L kap pr S' ∧ Fr kap [12, 112] S S' ∧ (∃ sp' wr', MK S' o sp' sn wr' pa ki rs ∧ sp ≤ sp' ∧ sp' ≤ sn ∧ (wr ≠ 0 → wr' ≠ 0))) (fun S' t => pB dC dI (AL L s.heap.size) (va_pl L S') (cyT cy) t) (AL L s.heap.size)) [.ref o].toArray s 0 0 (AL L s.heap.size)) (F0 m 65 ls []) := by
            intro fuel
            induction fuel with
            | zero => intro i vl SS H locs ls h; exact absurd h (Nat.not_lt_zero _)
            | succ fu65 ih65 =>
              intro i vl S_172 H locs ls hm65 hb_i hTy hFr hFl65 hW hl
              have hS_o := hFl65.at hT_o (by decide) hS_o
              refine lv_iload hx hb dX12_nameRead_65 (lv_at hl 0 rfl) ?_
              refine lv_iload_n hx hb dX12_nameRead_67 rfl (lv_at hl 1 rfl) ?_
              refine lv_icmp_ge (tgt := 96) hx hb dX12_nameRead_68 (by decide) (fun c_68 => ?_) (fun c_68 => ?_)
              · have c_68 : k_171 ≤ i := (nI_leI (a := k_171) (b := i) (by omega) (by omega)).mp c_68
                refine lv_aload_n hx hb dX12_nameRead_96 rfl (lv_at hl 3 rfl) ?_
                refine lv_dup hx hb dX12_nameRead_97 rfl ?_
                refine pl_get (ci := 12) (v := .int (nI sp137)) (C := RX12) (T := TX12) (N := 32) hx hb hT iX12 hown hK hW hT_o.1 hS_o rfl 12 (by decide) w1094 rfl dX12_nameRead_98 ?_
                refine lv_iload_n hx hb dX12_nameRead_101 rfl (lv_at hl 1 rfl) ?_
                refine lv_iadd hx hb dX12_nameRead_102 ?_
                refine lv_topi (fun z_173 ez_173 => ?_)
                obtain rfl : z_173 = nI (sp137 + k_171) := ez_173.trans (nI_add (sp137) (k_171))
                refine pl_put (ci := 12) (v := .int (nI (sp137 + k_171))) (ty := .int) (C := RX12) (T := TX12) (N := 32) (fs' := [.ref rs, .ref x_139, .ref x_140, .ref x_141, .ref x_142, .int (nI pa), .int (nI ki), .int (nI x_145), .int x_146, .ref x_147, .int (nI (pr.2)), .int (nI sn), .int (nI (sp137 + k_171)), .int wr137, .int x_151, .int x_152, .int (nI sp137), .ref x_154, .ref x_155, .int (nI x_156), .ref x_157, .ref x_158, .ref x_159, .ref x_160, .ref x_161, .ref x_162, .ref x_163, .ref x_164, .ref x_165, .ref x_166, .ref x_167, .int (nI x_168)]) hx hb hT iX12 tyX12 tyX12_ok nmX12 hown hK hW hT_o.1 hS_o rfl 12 (by decide) w1094 rfl (by decide +kernel) rfl rfl (Nat.le_of_ble_eq_true rfl) rfl dX12_nameRead_103 (fun H locs S_174 e1 hW => ?_)
                have hTy := hTy.u12 e1 hT_o ⟨rs, x_139, x_140, x_141, x_142, pa, ki, x_145, x_146, x_147, sn, sp137 + k_171, wr137, x_151, x_152, nI sp137, x_154, x_155, x_156, x_157, x_158, x_159, x_160, x_161, x_162, x_163, x_164, x_165, x_166, x_167, x_168, rfl, hT_x_138, hT_x_139, hT_x_140, hT_x_141, hT_x_142, (by omega), (by omega), (by omega), hT_x_147, (by show pr.2 ≤ 900; omega), (by omega), (by omega), hT_x_154, hT_x_155, (by omega), hT_x_157, hT_x_158, hT_x_159, hT_x_160, hT_x_161, hT_x_162, hT_x_163, hT_x_164, hT_x_165, hT_x_166, hT_x_167, (by omega)⟩
                have hws := (show wrs (.inr (12, [.ref rs, .ref x_139, .ref x_140, .ref x_141, .ref x_142, .int (nI pa), .int (nI ki), .int (nI x_145), .int x_146, .ref x_147, .int (nI (pr.2)), .int (nI sn), .int (nI (sp137 + k_171)), .int wr137, .int x_151, .int x_152, .int (nI sp137), .ref x_154, .ref x_155, .int (nI x_156), .ref x_157, .ref x_158, .ref x_159, .ref x_160, .ref x_161, .ref x_162, .ref x_163, .ref x_164, .ref x_165, .ref x_166, .ref x_167, .int (nI x_168)])) = wrs (S_172 o) from by rw [hS_o]; rfl)
                have hFr := ufs hFr e1 hT_o (by decide) hws
                have hS_o := us e1
                refine lv_lload_n hx hb dX12_nameRead_106 rfl (lv_at hl 2 rfl) ?_
                exact W.lret (v := vl) hx hb hr (fun t ht h9 => ⟨⟨vl, S_174, rfl, ⟨hTy, hFr, ⟨sp137 + k_171, _, (MKi (sp := (sp137 + k_171)) (sn := sn) (pa := pa) (ki := ki) hS_o rfl rfl rfl rfl rfl rfl (by omega) (by omega) (by omega) (by omega)), by omega, by omega, (fun h => hw137 ((fun h => hw34 ((fun h => h) h)) h))⟩⟩, by rw [ht]; exact hW.1, va_K.moved h9.alike hK, hW.2.1⟩, hW.2.2.F ht⟩) hW.2.2.2.2 dX12_nameRead_107
              · have c_68 : ¬ (k_171 ≤ i) := fun hh9 => c_68 ((nI_leI (a := k_171) (b := i) (by omega) (by omega)).mpr hh9)
                refine lv_lload_n hx hb dX12_nameRead_71 rfl (lv_at hl 2 rfl) ?_
                refine lv_bipush (v := 8) hx hb dX12_nameRead_72 (by decide) ?_
                refine lv_lshl hx hb dX12_nameRead_74 rfl ?_
                refine lv_topl (fun z_175 ez_175 => ?_)
                refine lv_aload_n hx hb dX12_nameRead_75 rfl (lv_at hl 3 rfl) ?_
                refine pl_get (ci := 12) (v := .ref x_147) (C := RX12) (T := TX12) (N := 32) hx hb hT iX12 hown hK hW hT_o.1 hS_o rfl 9 (by decide) w1091 rfl dX12_nameRead_76 ?_
                refine lv_aload_n hx hb dX12_nameRead_79 rfl (lv_at hl 3 rfl) ?_
                refine pl_get (ci := 12) (v := .int (nI sp137)) (C := RX12) (T := TX12) (N := 32) hx hb hT iX12 hown hK hW hT_o.1 hS_o rfl 12 (by decide) w1094 rfl dX12_nameRead_80 ?_
                refine lv_iload hx hb dX12_nameRead_83 (lv_at hl 0 rfl) ?_
                refine lv_iadd hx hb dX12_nameRead_85 ?_
                refine lv_topi (fun z_176 ez_176 => ?_)
                obtain rfl : z_176 = nI (sp137 + i) := ez_176.trans (nI_add (sp137) (i))
                obtain ⟨f_177, hS_x_147⟩ := hTy.k55 hT_x_147
                refine pl_bald hx hb hK hW hT_x_147.1 hS_x_147 (vp_in_nI (n := sp137 + i) (N := 900) (by omega) (by omega)) dX12_nameRead_86 ?_
                refine lv_topi (fun y_178 ey_178 => ?_)
                refine lv_i2l hx hb dX12_nameRead_87 rfl ?_
                refine lv_topl (fun z_179 ez_179 => ?_)
                refine lv_lor hx hb dX12_nameRead_88 ?_
                refine lv_topl (fun z_180 ez_180 => ?_)
                refine lv_lstore_n (lv' := [(1, .long z_180), (4, .int (nI i)), (3, .int (nI k_171)), (0, .ref o)]) hx hb dX12_nameRead_89 rfl hl (by decide) rfl (fun ls hl => ?_)
                refine lv_iinc (v := nI (i + 1)) (lv' := [(4, .int (nI (i + 1))), (1, .long z_180), (3, .int (nI k_171)), (0, .ref o)]) hx hb dX12_nameRead_90 hl (k := 1) rfl (nI_add (i) 1) (by decide) rfl (fun ls hl => ?_)
                refine lv_goto (tgt := 65) hx hb dX12_nameRead_93 (by decide) ?_
                exact ih65 (i + 1) z_180 _ _ _ ls (by omega) (by omega) hTy hFr hFl65 hW (lv_sub hl [0, 2, 1, 3] rfl)
          exact loop ((901 - 0) + 1) 0 0 _ _ _ ls (Nat.lt_succ_self _) (by omega) hTy hFr Fr.rf hW (lv_sub hl [0, 1, 2, 3] rfl)
        · refine lv_aload_n hx hb dX12_nameRead_36 rfl (lv_at hl 0 rfl) ?_
          refine lv_iconst (v := 1) hx hb dX12_nameRead_37 (by decide) ?_
          refine lv_aload_n hx hb dX12_nameRead_38 rfl (lv_at hl 0 rfl) ?_
          refine pl_get (ci := 12) (v := .int (nI sp137)) (C := RX12) (T := TX12) (N := 32) hx hb hT iX12 hown hK hW hT_o.1 hS_o rfl 12 (by decide) w1094 rfl dX12_nameRead_39 ?_
          refine pl_callv (va_runV (As := [.int 1, .int (nI sp137)]) (rest := []) ⟨hx, hb, hml, hown, hT⟩ (m_fails l dC dI cy L kap pr S_135 H.size o 1 (nI sp137) hTy hT_o sp137 sn wr137 pa ki rs (MKi (sp := sp137) (sn := sn) (pa := pa) (ki := ki) hS_o rfl rfl rfl rfl rfl rfl (by omega) (by omega) (by omega) (by omega)) (by omega) (by decide)) (cwV 2 hT (gV w1214 w1216 ws59 w14 w1217) rfl rfl rfl (by decide +kernel) ⟨(Nat.le_of_ble_eq_true rfl), (Nat.le_of_ble_eq_true rfl)⟩) ⟨pcN.blind, pl_recv hK hW hT_o.1 hS_o rfl, pcN.pre hW.1 hK hW.2.1 hN (fun q h => absurd h List.not_mem_nil)⟩ rfl rfl hl.1 rfl (lv_room (Nat.le_of_ble_eq_true rfl)) dX12_nameRead_42 ⟨(Nat.le_of_ble_eq_true rfl), (Nat.le_of_ble_eq_true rfl)⟩) hW hA0 hA (fun S_181 H locs hrel hW => ?_)
          obtain ⟨hTy, hF1, hx1⟩ := hrel
          have hFr := hFr.tr hF1 (by decide)
          obtain ⟨sp182, wr182, hM182, hpa182, hpb182, hw182⟩ := hx1
          obtain ⟨x_183, x_184, x_185, x_186, x_187, x_188, x_189, x_190, x_191, x_192, x_193, x_194, x_195, x_196, x_197, x_198, x_199, x_200, x_201, x_202, x_203, x_204, x_205, x_206, x_207, x_208, x_209, x_210, x_211, x_212, x_213, hS_o, hT_x_183, hT_x_184, hT_x_185, hT_x_186, hT_x_187, hb_x_188, hb_x_189, hb_x_190, hT_x_192, hb_q2, hb_x_193, hb_x_194, hT_x_199, hT_x_200, hb_x_201, hT_x_202, hT_x_203, hT_x_204, hT_x_205, hT_x_206, hT_x_207, hT_x_208, hT_x_209, hT_x_210, hT_x_211, hT_x_212, hb_x_213⟩ := hTy.k12 hT_o
          have hb_q2 : pr.2 ≤ 900 := hb_q2
          have hS_o : S_181 o = .inr (12, [.ref x_183, .ref x_184, .ref x_185, .ref x_186, .ref x_187, .int (nI x_188), .int (nI x_189), .int (nI x_190), .int x_191, .ref x_192, .int (nI (pr.2)), .int (nI x_193), .int (nI x_194), .int x_195, .int x_196, .int x_197, .int x_198, .ref x_199, .ref x_200, .int (nI x_201), .ref x_202, .ref x_203, .ref x_204, .ref x_205, .ref x_206, .ref x_207, .ref x_208, .ref x_209, .ref x_210, .ref x_211, .ref x_212, .int (nI x_213)]) := hS_o
          obtain ⟨e12_, e11_, e13_, e5_, e6_, e0_⟩ := MKe hM182 hS_o rfl rfl rfl rfl rfl rfl (by omega) (by omega) (by omega) (by omega)
          subst e12_ e11_ e13_ e5_ e6_ e0_
          refine lv_lconst (v := 0) hx hb dX12_nameRead_45 (by decide) ?_
          exact W.lret (v := 0) hx hb hr (fun t ht h9 => ⟨⟨0, S_181, rfl, ⟨hTy, hFr, ⟨sp182, _, (MKi (sp := sp182) (sn := sn) (pa := pa) (ki := ki) hS_o rfl rfl rfl rfl rfl rfl (by omega) (by omega) (by omega) (by omega)), by omega, by omega, (fun _ => hw182)⟩⟩, by rw [ht]; exact hW.1, va_K.moved h9.alike hK, hW.2.1⟩, hW.2.2.F ht⟩) hW.2.2.2.2 dX12_nameRead_46
  · refine lv_lconst (v := 0) hx hb dX12_nameRead_7 (by decide) ?_
    exact W.lret (v := 0) hx hb hr (fun t ht h9 => ⟨⟨0, S, rfl, ⟨hTy, hFr, ⟨sp, _, (MKi (sp := sp) (sn := sn) (pa := pa) (ki := ki) hS_o rfl rfl rfl rfl rfl rfl (by omega) (by omega) (by omega) (by omega)), by omega, by omega, (fun h => h)⟩⟩, by rw [ht]; exact hW.1, va_K.moved h9.alike hK, hW.2.1⟩, hW.2.2.F ht⟩) hW.2.2.2.2 dX12_nameRead_8

set_option maxHeartbeats 4000000 in
set_option maxRecDepth 100000 in
theorem m_newName (l : Launch) (dC : Nat → ClassId) (dI : Nat → Nat → Nat) (cy : Nat → ClassId) (L : List Nat) (kap : Nat → Nat) (pr : Pr) (ad : (Nat → Nat) × (Nat → Nat)) (S : Nat → va_E) (sz : Nat) (o : Nat) (ax : Nat) (hTy : Ty cy L kap pr S) (hT_o : TK L kap o 12) (hb_ax : ax < 12) (sp : Nat) (sn : Nat) (wr : Int32) (pa : Nat) (ki : Nat) (rs : Nat) (hM : MK S o sp sn wr pa ki rs) (hsp : sp ≤ sn) : Met l yX12_newName (wT yX12_newName cX12_newName 4 none) ({ frames := 6, cells := 0, slots := 0, locals := 135 }) (pcS dC dI [.ref o, .int (nI ax)] sz L S (cyT cy) NLs ad) (va_Qv (fun S' => Ty cy L kap pr S' ∧ Fr kap [12, 53, 112] S S' ∧ (∃ sp' wr', MK S' o sp' sn wr' pa ki rs ∧ sp ≤ sp' ∧ sp' ≤ sn ∧ (wr ≠ 0 → wr' ≠ 0))) (fun S' t => pB dC dI (AL L sz) (va_pl L S') (cyT cy) t) (AL L sz)) 0 0 (AL L sz) := by
  refine Met.ofW (cc := cX12_newName) (maxL := 4) (ret := none) (by decide) rfl ?_
  intro p e s m args below meth c s₁ B hml hv
  obtain ⟨rfl, hsz, hP, hK, hD0, hN, hSTR⟩ := hv
  have hx := B.exec
  have hb := B.bytes
  have hr := B.returns
  have hT : ∀ wd ∈ TB, wd.before [.ref o, .int (nI ax)].toArray s = true := fun wd h => atoms_spec (ws := wT yX12_newName cX12_newName 4 none) B.pre wd (List.mem_cons_of_mem _ h)
  have hown : s.vm.findClass RX12 = some m.cls := findClass_of_methodNamed B.named
  have hlocks := B.notSynchronized
  subst hsz
  have hW : PW dC dI L (AL L s.heap.size) s.heap S s.heap [] := ⟨hP, pl_self hD0, va_S.rf⟩
  have hA0 : ∀ q, q ∈ L → AL L s.heap.size q := fun _ h => Or.inl h
  have hA : ∀ q, s.heap.size ≤ q → AL L s.heap.size q := fun _ h => Or.inr h
  have hFr : Fr kap [12, 53, 112] S S := Fr.rf
  have hl := lv_entry ([.ref o, .int (nI ax)]) (n := 4) (Nat.le_of_ble_eq_true rfl)
  rw [lg_entry_eq]
  generalize (lg_sl ([.ref o, .int (nI ax)]) ++ List.replicate (4 - (lg_sl ([.ref o, .int (nI ax)])).length) Slot.unset).toArray = ls at hl ⊢
  have hl : lv_has ls 4 [(0, .ref o), (1, .int (nI ax))] := hl
  obtain ⟨x_1, x_2, x_3, x_4, x_5, x_6, x_7, x_8, x_9, x_10, x_11, x_12, x_13, x_14, x_15, x_16, x_17, x_18, x_19, x_20, x_21, x_22, x_23, x_24, x_25, x_26, x_27, x_28, x_29, x_30, x_31, hS_o, hT_x_1, hT_x_2, hT_x_3, hT_x_4, hT_x_5, hb_x_6, hb_x_7, hb_x_8, hT_x_10, hb_q2, hb_x_11, hb_x_12, hT_x_17, hT_x_18, hb_x_19, hT_x_20, hT_x_21, hT_x_22, hT_x_23, hT_x_24, hT_x_25, hT_x_26, hT_x_27, hT_x_28, hT_x_29, hT_x_30, hb_x_31⟩ := hTy.k12 hT_o
  have hb_q2 : pr.2 ≤ 900 := hb_q2
  have hS_o : S o = .inr (12, [.ref x_1, .ref x_2, .ref x_3, .ref x_4, .ref x_5, .int (nI x_6), .int (nI x_7), .int (nI x_8), .int x_9, .ref x_10, .int (nI (pr.2)), .int (nI x_11), .int (nI x_12), .int x_13, .int x_14, .int x_15, .int x_16, .ref x_17, .ref x_18, .int (nI x_19), .ref x_20, .ref x_21, .ref x_22, .ref x_23, .ref x_24, .ref x_25, .ref x_26, .ref x_27, .ref x_28, .ref x_29, .ref x_30, .int (nI x_31)]) := hS_o
  obtain ⟨e12_, e11_, e13_, e5_, e6_, e0_⟩ := MKe hM hS_o rfl rfl rfl rfl rfl rfl (by omega) (by omega) (by omega) (by omega)
  subst e12_ e11_ e13_ e5_ e6_ e0_
  refine lv_aload_n hx hb dX12_newName_0 rfl (lv_at hl 0 rfl) ?_
  refine pl_calll (va_runV (As := []) (rest := []) ⟨hx, hb, hml, hown, hT⟩ (m_name l dC dI cy L kap pr ad S s.heap.size o hTy hT_o sp sn wr pa ki rs (MKi (sp := sp) (sn := sn) (pa := pa) (ki := ki) hS_o rfl rfl rfl rfl rfl rfl (by omega) (by omega) (by omega) (by omega)) (by omega)) (cwV 0 hT (gV w1230 w1232 ws63 w14 w1233) rfl rfl rfl (by decide +kernel) ⟨(Nat.le_of_ble_eq_true rfl), (Nat.le_of_ble_eq_true rfl)⟩) ⟨pcS.blind, pl_recv hK hW hT_o.1 hS_o rfl, pcS.pre hW.1 hK hW.2.1 hN hSTR hW.2.2⟩ rfl rfl hl.1 rfl (lv_room (Nat.le_of_ble_eq_true rfl)) dX12_newName_1 ⟨(Nat.le_of_ble_eq_true rfl), (Nat.le_of_ble_eq_true rfl)⟩) hW hA0 hA (fun r_33 S_32 H locs hrel hW => ?_)
  obtain ⟨hTy, hF1, hx1⟩ := hrel
  have hFr := hFr.tr hF1 (by decide)
  obtain ⟨sp34, wr34, hM34, hpa34, hpb34, hw34⟩ := hx1
  obtain ⟨x_35, x_36, x_37, x_38, x_39, x_40, x_41, x_42, x_43, x_44, x_45, x_46, x_47, x_48, x_49, x_50, x_51, x_52, x_53, x_54, x_55, x_56, x_57, x_58, x_59, x_60, x_61, x_62, x_63, x_64, x_65, hS_o, hT_x_35, hT_x_36, hT_x_37, hT_x_38, hT_x_39, hb_x_40, hb_x_41, hb_x_42, hT_x_44, hb_q2, hb_x_45, hb_x_46, hT_x_51, hT_x_52, hb_x_53, hT_x_54, hT_x_55, hT_x_56, hT_x_57, hT_x_58, hT_x_59, hT_x_60, hT_x_61, hT_x_62, hT_x_63, hT_x_64, hb_x_65⟩ := hTy.k12 hT_o
  have hb_q2 : pr.2 ≤ 900 := hb_q2
  have hS_o : S_32 o = .inr (12, [.ref x_35, .ref x_36, .ref x_37, .ref x_38, .ref x_39, .int (nI x_40), .int (nI x_41), .int (nI x_42), .int x_43, .ref x_44, .int (nI (pr.2)), .int (nI x_45), .int (nI x_46), .int x_47, .int x_48, .int x_49, .int x_50, .ref x_51, .ref x_52, .int (nI x_53), .ref x_54, .ref x_55, .ref x_56, .ref x_57, .ref x_58, .ref x_59, .ref x_60, .ref x_61, .ref x_62, .ref x_63, .ref x_64, .int (nI x_65)]) := hS_o
  obtain ⟨e12_, e11_, e13_, e5_, e6_, e0_⟩ := MKe hM34 hS_o rfl rfl rfl rfl rfl rfl (by omega) (by omega) (by omega) (by omega)
  subst e12_ e11_ e13_ e5_ e6_ e0_
  refine lv_lstore_n (lv' := [(2, .long r_33), (0, .ref o), (1, .int (nI ax))]) hx hb dX12_newName_4 rfl hl (by decide) rfl (fun ls hl => ?_)
  refine lv_aload_n hx hb dX12_newName_5 rfl (lv_at hl 1 rfl) ?_
  refine pl_get (ci := 12) (v := .int wr34) (C := RX12) (T := TX12) (N := 32) hx hb hT iX12 hown hK hW hT_o.1 hS_o rfl 13 (by decide) w1095 rfl dX12_newName_6 ?_
  refine lv_if_ne (tgt := 50) hx hb dX12_newName_9 (by decide) (fun c_9 => ?_) (fun c_9 => ?_)
  · refine lv_aload_n hx hb dX12_newName_50 rfl (lv_at hl 1 rfl) ?_
    refine pl_get (ci := 12) (v := .ref x_38) (C := RX12) (T := TX12) (N := 32) hx hb hT iX12 hown hK hW hT_o.1 hS_o rfl 3 (by decide) w1085 rfl dX12_newName_51 ?_
    refine lv_iload_n hx hb dX12_newName_54 rfl (lv_at hl 2 rfl) ?_
    refine lv_lload_n hx hb dX12_newName_55 rfl (lv_at hl 0 rfl) ?_
    obtain ⟨f_66, hS_x_38⟩ := hTy.k53 hT_x_38
    refine pl_last hx hb hK hW hT_x_38.1 hS_x_38 (vp_in_nI (n := ax) (N := 12) (by omega) (by omega)) dX12_newName_56 (fun H locs f_68 S_67 ef_f_68 e1 hW => ?_)
    have hTy := hTy.u53 e1 hT_x_38 ⟨f_68, rfl⟩
    have hS_o := un e1 hT_o hT_x_38 (by decide) hS_o
    have hFr := uf hFr e1 hT_x_38 (by decide) (by decide)
    have hS_x_38 := us e1
    exact W.vret hx hb hr (fun t ht h9 => ⟨⟨S_67, rfl, ⟨hTy, hFr, ⟨sp34, _, (MKi (sp := sp34) (sn := sn) (pa := pa) (ki := ki) hS_o rfl rfl rfl rfl rfl rfl (by omega) (by omega) (by omega) (by omega)), by omega, by omega, (fun h => hw34 ((fun h => h) h))⟩⟩, by rw [ht]; exact hW.1, va_K.moved h9.alike hK, hW.2.1⟩, hW.2.2.F ht⟩) hW.2.2.2.2 dX12_newName_57
  · refine lv_aload_n hx hb dX12_newName_12 rfl (lv_at hl 1 rfl) ?_
    refine lv_lload_n hx hb dX12_newName_13 rfl (lv_at hl 0 rfl) ?_
    refine lv_iconst (v := 0) hx hb dX12_newName_14 (by decide) ?_
    refine lv_aload_n hx hb dX12_newName_15 rfl (lv_at hl 1 rfl) ?_
    refine pl_get (ci := 12) (v := .int (nI pa)) (C := RX12) (T := TX12) (N := 32) hx hb hT iX12 hown hK hW hT_o.1 hS_o rfl 5 (by decide) w1087 rfl dX12_newName_16 ?_
    refine vp_callSi (va_Run.run (va_runV (As := [.long r_33, .int 0, .int (nI pa)]) (rest := []) ⟨hx, hb, hml, hown, hT⟩ (m_find l dC dI cy L kap pr S_32 H.size o r_33 0 pa hTy hT_o (by omega) (by omega)) (cwV 3 hT (gV w1234 w1236 ws64 w14 w1237) rfl rfl rfl (by decide +kernel) ⟨(Nat.le_of_ble_eq_true rfl), (Nat.le_of_ble_eq_true rfl)⟩) ⟨pcN.blind, pl_recv hK hW hT_o.1 hS_o rfl, pcN.pre hW.1 hK hW.2.1 hN (fun q h => absurd h List.not_mem_nil)⟩ rfl rfl hl.1 rfl (lv_room (Nat.le_of_ble_eq_true rfl)) dX12_newName_19 ⟨(Nat.le_of_ble_eq_true rfl), (Nat.le_of_ble_eq_true rfl)⟩)) (fun r_69 hr_69 => ?_)
    refine lv_iconst (v := (-1)) hx hb dX12_newName_22 (by decide) ?_
    refine lv_icmp_ne (tgt := 41) hx hb dX12_newName_23 (by decide) (fun c_23 => ?_) (fun c_23 => ?_)
    · refine lv_aload_n hx hb dX12_newName_41 rfl (lv_at hl 1 rfl) ?_
      refine lv_iconst (v := 3) hx hb dX12_newName_42 (by decide) ?_
      refine lv_aload_n hx hb dX12_newName_43 rfl (lv_at hl 1 rfl) ?_
      refine pl_get (ci := 12) (v := .int x_50) (C := RX12) (T := TX12) (N := 32) hx hb hT iX12 hown hK hW hT_o.1 hS_o rfl 16 (by decide) w1098 rfl dX12_newName_44 ?_
      refine pl_callv (va_runV (As := [.int 3, .int x_50]) (rest := []) ⟨hx, hb, hml, hown, hT⟩ (m_fails l dC dI cy L kap pr S_32 H.size o 3 x_50 hTy hT_o sp34 sn wr34 pa ki rs (MKi (sp := sp34) (sn := sn) (pa := pa) (ki := ki) hS_o rfl rfl rfl rfl rfl rfl (by omega) (by omega) (by omega) (by omega)) (by omega) (by decide)) (cwV 2 hT (gV w1214 w1216 ws59 w14 w1217) rfl rfl rfl (by decide +kernel) ⟨(Nat.le_of_ble_eq_true rfl), (Nat.le_of_ble_eq_true rfl)⟩) ⟨pcN.blind, pl_recv hK hW hT_o.1 hS_o rfl, pcN.pre hW.1 hK hW.2.1 hN (fun q h => absurd h List.not_mem_nil)⟩ rfl rfl hl.1 rfl (lv_room (Nat.le_of_ble_eq_true rfl)) dX12_newName_47 ⟨(Nat.le_of_ble_eq_true rfl), (Nat.le_of_ble_eq_true rfl)⟩) hW hA0 hA (fun S_70 H locs hrel hW => ?_)
      obtain ⟨hTy, hF1, hx1⟩ := hrel
      have hFr := hFr.tr hF1 (by decide)
      obtain ⟨sp71, wr71, hM71, hpa71, hpb71, hw71⟩ := hx1
      obtain ⟨x_72, x_73, x_74, x_75, x_76, x_77, x_78, x_79, x_80, x_81, x_82, x_83, x_84, x_85, x_86, x_87, x_88, x_89, x_90, x_91, x_92, x_93, x_94, x_95, x_96, x_97, x_98, x_99, x_100, x_101, x_102, hS_o, hT_x_72, hT_x_73, hT_x_74, hT_x_75, hT_x_76, hb_x_77, hb_x_78, hb_x_79, hT_x_81, hb_q2, hb_x_82, hb_x_83, hT_x_88, hT_x_89, hb_x_90, hT_x_91, hT_x_92, hT_x_93, hT_x_94, hT_x_95, hT_x_96, hT_x_97, hT_x_98, hT_x_99, hT_x_100, hT_x_101, hb_x_102⟩ := hTy.k12 hT_o
      have hb_q2 : pr.2 ≤ 900 := hb_q2
      have hS_o : S_70 o = .inr (12, [.ref x_72, .ref x_73, .ref x_74, .ref x_75, .ref x_76, .int (nI x_77), .int (nI x_78), .int (nI x_79), .int x_80, .ref x_81, .int (nI (pr.2)), .int (nI x_82), .int (nI x_83), .int x_84, .int x_85, .int x_86, .int x_87, .ref x_88, .ref x_89, .int (nI x_90), .ref x_91, .ref x_92, .ref x_93, .ref x_94, .ref x_95, .ref x_96, .ref x_97, .ref x_98, .ref x_99, .ref x_100, .ref x_101, .int (nI x_102)]) := hS_o
      obtain ⟨e12_, e11_, e13_, e5_, e6_, e0_⟩ := MKe hM71 hS_o rfl rfl rfl rfl rfl rfl (by omega) (by omega) (by omega) (by omega)
      subst e12_ e11_ e13_ e5_ e6_ e0_
      refine lv_aload_n hx hb dX12_newName_50 rfl (lv_at hl 1 rfl) ?_
      refine pl_get (ci := 12) (v := .ref x_75) (C := RX12) (T := TX12) (N := 32) hx hb hT iX12 hown hK hW hT_o.1 hS_o rfl 3 (by decide) w1085 rfl dX12_newName_51 ?_
      refine lv_iload_n hx hb dX12_newName_54 rfl (lv_at hl 2 rfl) ?_
      refine lv_lload_n hx hb dX12_newName_55 rfl (lv_at hl 0 rfl) ?_
      obtain ⟨f_103, hS_x_75⟩ := hTy.k53 hT_x_75
      refine pl_last hx hb hK hW hT_x_75.1 hS_x_75 (vp_in_nI (n := ax) (N := 12) (by omega) (by omega)) dX12_newName_56 (fun H locs f_105 S_104 ef_f_105 e1 hW => ?_)
      have hTy := hTy.u53 e1 hT_x_75 ⟨f_105, rfl⟩
      have hS_o := un e1 hT_o hT_x_75 (by decide) hS_o
      have hFr := uf hFr e1 hT_x_75 (by decide) (by decide)
      have hS_x_75 := us e1
      exact W.vret hx hb hr (fun t ht h9 => ⟨⟨S_104, rfl, ⟨hTy, hFr, ⟨sp71, _, (MKi (sp := sp71) (sn := sn) (pa := pa) (ki := ki) hS_o rfl rfl rfl rfl rfl rfl (by omega) (by omega) (by omega) (by omega)), by omega, by omega, (fun _ => hw71)⟩⟩, by rw [ht]; exact hW.1, va_K.moved h9.alike hK, hW.2.1⟩, hW.2.2.F ht⟩) hW.2.2.2.2 dX12_newName_57
    · refine lv_aload_n hx hb dX12_newName_26 rfl (lv_at hl 1 rfl) ?_
      refine lv_lload_n hx hb dX12_newName_27 rfl (lv_at hl 0 rfl) ?_
      refine lv_bipush (v := 8) hx hb dX12_newName_28 (by decide) ?_
      refine lv_aload_n hx hb dX12_newName_30 rfl (lv_at hl 1 rfl) ?_
      refine pl_get (ci := 12) (v := .int (nI ki)) (C := RX12) (T := TX12) (N := 32) hx hb hT iX12 hown hK hW hT_o.1 hS_o rfl 6 (by decide) w1088 rfl dX12_newName_31 ?_
      refine vp_callSi (va_Run.run (va_runV (As := [.long r_33, .int 8, .int (nI ki)]) (rest := []) ⟨hx, hb, hml, hown, hT⟩ (m_find l dC dI cy L kap pr S_32 H.size o r_33 8 ki hTy hT_o (by omega) (by omega)) (cwV 3 hT (gV w1234 w1236 ws64 w14 w1237) rfl rfl rfl (by decide +kernel) ⟨(Nat.le_of_ble_eq_true rfl), (Nat.le_of_ble_eq_true rfl)⟩) ⟨pcN.blind, pl_recv hK hW hT_o.1 hS_o rfl, pcN.pre hW.1 hK hW.2.1 hN (fun q h => absurd h List.not_mem_nil)⟩ rfl rfl hl.1 rfl (lv_room (Nat.le_of_ble_eq_true rfl)) dX12_newName_34 ⟨(Nat.le_of_ble_eq_true rfl), (Nat.le_of_ble_eq_true rfl)⟩)) (fun r_106 hr_106 => ?_)
      refine lv_iconst (v := (-1)) hx hb dX12_newName_37 (by decide) ?_
      refine lv_icmp_eq (tgt := 50) hx hb dX12_newName_38 (by decide) (fun c_38 => ?_) (fun c_38 => ?_)
      · refine lv_aload_n hx hb dX12_newName_50 rfl (lv_at hl 1 rfl) ?_
        refine pl_get (ci := 12) (v := .ref x_38) (C := RX12) (T := TX12) (N := 32) hx hb hT iX12 hown hK hW hT_o.1 hS_o rfl 3 (by decide) w1085 rfl dX12_newName_51 ?_
        refine lv_iload_n hx hb dX12_newName_54 rfl (lv_at hl 2 rfl) ?_
        refine lv_lload_n hx hb dX12_newName_55 rfl (lv_at hl 0 rfl) ?_
        obtain ⟨f_107, hS_x_38⟩ := hTy.k53 hT_x_38
        refine pl_last hx hb hK hW hT_x_38.1 hS_x_38 (vp_in_nI (n := ax) (N := 12) (by omega) (by omega)) dX12_newName_56 (fun H locs f_109 S_108 ef_f_109 e1 hW => ?_)
        have hTy := hTy.u53 e1 hT_x_38 ⟨f_109, rfl⟩
        have hS_o := un e1 hT_o hT_x_38 (by decide) hS_o
        have hFr := uf hFr e1 hT_x_38 (by decide) (by decide)
        have hS_x_38 := us e1
        exact W.vret hx hb hr (fun t ht h9 => ⟨⟨S_108, rfl, ⟨hTy, hFr, ⟨sp34, _, (MKi (sp := sp34) (sn := sn) (pa := pa) (ki := ki) hS_o rfl rfl rfl rfl rfl rfl (by omega) (by omega) (by omega) (by omega)), by omega, by omega, (fun h => hw34 ((fun h => h) h))⟩⟩, by rw [ht]; exact hW.1, va_K.moved h9.alike hK, hW.2.1⟩, hW.2.2.F ht⟩) hW.2.2.2.2 dX12_newName_57
      · refine lv_aload_n hx hb dX12_newName_41 rfl (lv_at hl 1 rfl) ?_
        refine lv_iconst (v := 3) hx hb dX12_newName_42 (by decide) ?_
        refine lv_aload_n hx hb dX12_newName_43 rfl (lv_at hl 1 rfl) ?_
        refine pl_get (ci := 12) (v := .int x_50) (C := RX12) (T := TX12) (N := 32) hx hb hT iX12 hown hK hW hT_o.1 hS_o rfl 16 (by decide) w1098 rfl dX12_newName_44 ?_
        refine pl_callv (va_runV (As := [.int 3, .int x_50]) (rest := []) ⟨hx, hb, hml, hown, hT⟩ (m_fails l dC dI cy L kap pr S_32 H.size o 3 x_50 hTy hT_o sp34 sn wr34 pa ki rs (MKi (sp := sp34) (sn := sn) (pa := pa) (ki := ki) hS_o rfl rfl rfl rfl rfl rfl (by omega) (by omega) (by omega) (by omega)) (by omega) (by decide)) (cwV 2 hT (gV w1214 w1216 ws59 w14 w1217) rfl rfl rfl (by decide +kernel) ⟨(Nat.le_of_ble_eq_true rfl), (Nat.le_of_ble_eq_true rfl)⟩) ⟨pcN.blind, pl_recv hK hW hT_o.1 hS_o rfl, pcN.pre hW.1 hK hW.2.1 hN (fun q h => absurd h List.not_mem_nil)⟩ rfl rfl hl.1 rfl (lv_room (Nat.le_of_ble_eq_true rfl)) dX12_newName_47 ⟨(Nat.le_of_ble_eq_true rfl), (Nat.le_of_ble_eq_true rfl)⟩) hW hA0 hA (fun S_110 H locs hrel hW => ?_)
        obtain ⟨hTy, hF1, hx1⟩ := hrel
        have hFr := hFr.tr hF1 (by decide)
        obtain ⟨sp111, wr111, hM111, hpa111, hpb111, hw111⟩ := hx1
        obtain ⟨x_112, x_113, x_114, x_115, x_116, x_117, x_118, x_119, x_120, x_121, x_122, x_123, x_124, x_125, x_126, x_127, x_128, x_129, x_130, x_131, x_132, x_133, x_134, x_135, x_136, x_137, x_138, x_139, x_140, x_141, x_142, hS_o, hT_x_112, hT_x_113, hT_x_114, hT_x_115, hT_x_116, hb_x_117, hb_x_118, hb_x_119, hT_x_121, hb_q2, hb_x_122, hb_x_123, hT_x_128, hT_x_129, hb_x_130, hT_x_131, hT_x_132, hT_x_133, hT_x_134, hT_x_135, hT_x_136, hT_x_137, hT_x_138, hT_x_139, hT_x_140, hT_x_141, hb_x_142⟩ := hTy.k12 hT_o
        have hb_q2 : pr.2 ≤ 900 := hb_q2
        have hS_o : S_110 o = .inr (12, [.ref x_112, .ref x_113, .ref x_114, .ref x_115, .ref x_116, .int (nI x_117), .int (nI x_118), .int (nI x_119), .int x_120, .ref x_121, .int (nI (pr.2)), .int (nI x_122), .int (nI x_123), .int x_124, .int x_125, .int x_126, .int x_127, .ref x_128, .ref x_129, .int (nI x_130), .ref x_131, .ref x_132, .ref x_133, .ref x_134, .ref x_135, .ref x_136, .ref x_137, .ref x_138, .ref x_139, .ref x_140, .ref x_141, .int (nI x_142)]) := hS_o
        obtain ⟨e12_, e11_, e13_, e5_, e6_, e0_⟩ := MKe hM111 hS_o rfl rfl rfl rfl rfl rfl (by omega) (by omega) (by omega) (by omega)
        subst e12_ e11_ e13_ e5_ e6_ e0_
        refine lv_aload_n hx hb dX12_newName_50 rfl (lv_at hl 1 rfl) ?_
        refine pl_get (ci := 12) (v := .ref x_115) (C := RX12) (T := TX12) (N := 32) hx hb hT iX12 hown hK hW hT_o.1 hS_o rfl 3 (by decide) w1085 rfl dX12_newName_51 ?_
        refine lv_iload_n hx hb dX12_newName_54 rfl (lv_at hl 2 rfl) ?_
        refine lv_lload_n hx hb dX12_newName_55 rfl (lv_at hl 0 rfl) ?_
        obtain ⟨f_143, hS_x_115⟩ := hTy.k53 hT_x_115
        refine pl_last hx hb hK hW hT_x_115.1 hS_x_115 (vp_in_nI (n := ax) (N := 12) (by omega) (by omega)) dX12_newName_56 (fun H locs f_145 S_144 ef_f_145 e1 hW => ?_)
        have hTy := hTy.u53 e1 hT_x_115 ⟨f_145, rfl⟩
        have hS_o := un e1 hT_o hT_x_115 (by decide) hS_o
        have hFr := uf hFr e1 hT_x_115 (by decide) (by decide)
        have hS_x_115 := us e1
        exact W.vret hx hb hr (fun t ht h9 => ⟨⟨S_144, rfl, ⟨hTy, hFr, ⟨sp111, _, (MKi (sp := sp111) (sn := sn) (pa := pa) (ki := ki) hS_o rfl rfl rfl rfl rfl rfl (by omega) (by omega) (by omega) (by omega)), by omega, by omega, (fun _ => hw111)⟩⟩, by rw [ht]; exact hW.1, va_K.moved h9.alike hK, hW.2.1⟩, hW.2.2.F ht⟩) hW.2.2.2.2 dX12_newName_57

set_option maxHeartbeats 4000000 in
set_option maxRecDepth 100000 in
theorem m_party (l : Launch) (dC : Nat → ClassId) (dI : Nat → Nat → Nat) (cy : Nat → ClassId) (L : List Nat) (kap : Nat → Nat) (pr : Pr) (ad : (Nat → Nat) × (Nat → Nat)) (S : Nat → va_E) (sz : Nat) (o : Nat) (hTy : Ty cy L kap pr S) (hT_o : TK L kap o 12) (sp : Nat) (sn : Nat) (wr : Int32) (pa : Nat) (ki : Nat) (rs : Nat) (hM : MK S o sp sn wr pa ki rs) (hsp : sp ≤ sn) : Met l yX12_partyRead (wT yX12_partyRead cX12_partyRead 2 (some .int)) ({ frames := 6, cells := 0, slots := 0, locals := 135 }) (pcS dC dI [.ref o] sz L S (cyT cy) NLs ad) (va_Qi (fun r S' => Ty cy L kap pr S' ∧ Fr kap [12, 112] S S' ∧ (∃ sp' wr', MK S' o sp' sn wr' pa ki rs ∧ sp ≤ sp' ∧ sp' ≤ sn ∧ (wr ≠ 0 → wr' ≠ 0) ∧ ∃ k, k < 8 ∧ r = nI k)) (fun S' t => pB dC dI (AL L sz) (va_pl L S') (cyT cy) t) (AL L sz)) 0 0 (AL L sz) := by
  refine Met.ofW (cc := cX12_partyRead) (maxL := 2) (ret := (some .int)) (by decide) rfl ?_
  intro p e s m args below meth c s₁ B hml hv
  obtain ⟨rfl, hsz, hP, hK, hD0, hN, hSTR⟩ := hv
  have hx := B.exec
  have hb := B.bytes
  have hr := B.returns
  have hT : ∀ wd ∈ TB, wd.before [.ref o].toArray s = true := fun wd h => atoms_spec (ws := wT yX12_partyRead cX12_partyRead 2 (some .int)) B.pre wd (List.mem_cons_of_mem _ h)
  have hown : s.vm.findClass RX12 = some m.cls := findClass_of_methodNamed B.named
  have hlocks := B.notSynchronized
  subst hsz
  have hW : PW dC dI L (AL L s.heap.size) s.heap S s.heap [] := ⟨hP, pl_self hD0, va_S.rf⟩
  have hA0 : ∀ q, q ∈ L → AL L s.heap.size q := fun _ h => Or.inl h
  have hA : ∀ q, s.heap.size ≤ q → AL L s.heap.size q := fun _ h => Or.inr h
  have hFr : Fr kap [12, 112] S S := Fr.rf
  have hl := lv_entry ([.ref o]) (n := 2) (Nat.le_of_ble_eq_true rfl)
  rw [lg_entry_eq]
  generalize (lg_sl ([.ref o]) ++ List.replicate (2 - (lg_sl ([.ref o])).length) Slot.unset).toArray = ls at hl ⊢
  have hl : lv_has ls 2 [(0, .ref o)] := hl
  obtain ⟨x_1, x_2, x_3, x_4, x_5, x_6, x_7, x_8, x_9, x_10, x_11, x_12, x_13, x_14, x_15, x_16, x_17, x_18, x_19, x_20, x_21, x_22, x_23, x_24, x_25, x_26, x_27, x_28, x_29, x_30, x_31, hS_o, hT_x_1, hT_x_2, hT_x_3, hT_x_4, hT_x_5, hb_x_6, hb_x_7, hb_x_8, hT_x_10, hb_q2, hb_x_11, hb_x_12, hT_x_17, hT_x_18, hb_x_19, hT_x_20, hT_x_21, hT_x_22, hT_x_23, hT_x_24, hT_x_25, hT_x_26, hT_x_27, hT_x_28, hT_x_29, hT_x_30, hb_x_31⟩ := hTy.k12 hT_o
  have hb_q2 : pr.2 ≤ 900 := hb_q2
  have hS_o : S o = .inr (12, [.ref x_1, .ref x_2, .ref x_3, .ref x_4, .ref x_5, .int (nI x_6), .int (nI x_7), .int (nI x_8), .int x_9, .ref x_10, .int (nI (pr.2)), .int (nI x_11), .int (nI x_12), .int x_13, .int x_14, .int x_15, .int x_16, .ref x_17, .ref x_18, .int (nI x_19), .ref x_20, .ref x_21, .ref x_22, .ref x_23, .ref x_24, .ref x_25, .ref x_26, .ref x_27, .ref x_28, .ref x_29, .ref x_30, .int (nI x_31)]) := hS_o
  obtain ⟨e12_, e11_, e13_, e5_, e6_, e0_⟩ := MKe hM hS_o rfl rfl rfl rfl rfl rfl (by omega) (by omega) (by omega) (by omega)
  subst e12_ e11_ e13_ e5_ e6_ e0_
  refine lv_aload_n hx hb dX12_partyRead_0 rfl (lv_at hl 0 rfl) ?_
  refine lv_aload_n hx hb dX12_partyRead_1 rfl (lv_at hl 0 rfl) ?_
  refine pl_calll (va_runV (As := []) (rest := [.ref o]) ⟨hx, hb, hml, hown, hT⟩ (m_name l dC dI cy L kap pr ad S s.heap.size o hTy hT_o sp sn wr pa ki rs (MKi (sp := sp) (sn := sn) (pa := pa) (ki := ki) hS_o rfl rfl rfl rfl rfl rfl (by omega) (by omega) (by omega) (by omega)) (by omega)) (cwV 0 hT (gV w1230 w1232 ws63 w14 w1233) rfl rfl rfl (by decide +kernel) ⟨(Nat.le_of_ble_eq_true rfl), (Nat.le_of_ble_eq_true rfl)⟩) ⟨pcS.blind, pl_recv hK hW hT_o.1 hS_o rfl, pcS.pre hW.1 hK hW.2.1 hN hSTR hW.2.2⟩ rfl rfl hl.1 rfl (lv_room (Nat.le_of_ble_eq_true rfl)) dX12_partyRead_2 ⟨(Nat.le_of_ble_eq_true rfl), (Nat.le_of_ble_eq_true rfl)⟩) hW hA0 hA (fun r_33 S_32 H locs hrel hW => ?_)
  obtain ⟨hTy, hF1, hx1⟩ := hrel
  have hFr := hFr.tr hF1 (by decide)
  obtain ⟨sp34, wr34, hM34, hpa34, hpb34, hw34⟩ := hx1
  obtain ⟨x_35, x_36, x_37, x_38, x_39, x_40, x_41, x_42, x_43, x_44, x_45, x_46, x_47, x_48, x_49, x_50, x_51, x_52, x_53, x_54, x_55, x_56, x_57, x_58, x_59, x_60, x_61, x_62, x_63, x_64, x_65, hS_o, hT_x_35, hT_x_36, hT_x_37, hT_x_38, hT_x_39, hb_x_40, hb_x_41, hb_x_42, hT_x_44, hb_q2, hb_x_45, hb_x_46, hT_x_51, hT_x_52, hb_x_53, hT_x_54, hT_x_55, hT_x_56, hT_x_57, hT_x_58, hT_x_59, hT_x_60, hT_x_61, hT_x_62, hT_x_63, hT_x_64, hb_x_65⟩ := hTy.k12 hT_o
  have hb_q2 : pr.2 ≤ 900 := hb_q2
  have hS_o : S_32 o = .inr (12, [.ref x_35, .ref x_36, .ref x_37, .ref x_38, .ref x_39, .int (nI x_40), .int (nI x_41), .int (nI x_42), .int x_43, .ref x_44, .int (nI (pr.2)), .int (nI x_45), .int (nI x_46), .int x_47, .int x_48, .int x_49, .int x_50, .ref x_51, .ref x_52, .int (nI x_53), .ref x_54, .ref x_55, .ref x_56, .ref x_57, .ref x_58, .ref x_59, .ref x_60, .ref x_61, .ref x_62, .ref x_63, .ref x_64, .int (nI x_65)]) := hS_o
  obtain ⟨e12_, e11_, e13_, e5_, e6_, e0_⟩ := MKe hM34 hS_o rfl rfl rfl rfl rfl rfl (by omega) (by omega) (by omega) (by omega)
  subst e12_ e11_ e13_ e5_ e6_ e0_
  refine lv_iconst (v := 0) hx hb dX12_partyRead_5 (by decide) ?_
  refine lv_aload_n hx hb dX12_partyRead_6 rfl (lv_at hl 0 rfl) ?_
  refine pl_get (ci := 12) (v := .int (nI pa)) (C := RX12) (T := TX12) (N := 32) hx hb hT iX12 hown hK hW hT_o.1 hS_o rfl 5 (by decide) w1087 rfl dX12_partyRead_7 ?_
  refine vp_callSi (va_Run.run (va_runV (As := [.long r_33, .int 0, .int (nI pa)]) (rest := []) ⟨hx, hb, hml, hown, hT⟩ (m_find l dC dI cy L kap pr S_32 H.size o r_33 0 pa hTy hT_o (by omega) (by omega)) (cwV 3 hT (gV w1234 w1236 ws64 w14 w1237) rfl rfl rfl (by decide +kernel) ⟨(Nat.le_of_ble_eq_true rfl), (Nat.le_of_ble_eq_true rfl)⟩) ⟨pcN.blind, pl_recv hK hW hT_o.1 hS_o rfl, pcN.pre hW.1 hK hW.2.1 hN (fun q h => absurd h List.not_mem_nil)⟩ rfl rfl hl.1 rfl (lv_room (Nat.le_of_ble_eq_true rfl)) dX12_partyRead_10 ⟨(Nat.le_of_ble_eq_true rfl), (Nat.le_of_ble_eq_true rfl)⟩)) (fun r_66 hr_66 => ?_)
  refine lv_istore_n (lv' := [(1, .int r_66), (0, .ref o)]) hx hb dX12_partyRead_13 rfl hl (by decide) rfl (fun ls hl => ?_)
  refine lv_iload_n hx hb dX12_partyRead_14 rfl (lv_at hl 0 rfl) ?_
  refine lv_iconst (v := (-1)) hx hb dX12_partyRead_15 (by decide) ?_
  refine lv_icmp_ne (tgt := 28) hx hb dX12_partyRead_16 (by decide) (fun c_16 => ?_) (fun c_16 => ?_)
  · refine lv_aload_n hx hb dX12_partyRead_28 rfl (lv_at hl 1 rfl) ?_
    refine pl_get (ci := 12) (v := .int wr34) (C := RX12) (T := TX12) (N := 32) hx hb hT iX12 hown hK hW hT_o.1 hS_o rfl 13 (by decide) w1095 rfl dX12_partyRead_29 ?_
    refine lv_if_ne (tgt := 39) hx hb dX12_partyRead_32 (by decide) (fun c_32 => ?_) (fun c_32 => ?_)
    · refine lv_iconst (v := 0) hx hb dX12_partyRead_39 (by decide) ?_
      exact W.iret (v := 0) hx hb hr (fun t ht h9 => ⟨⟨0, S_32, rfl, ⟨hTy, hFr, ⟨sp34, _, (MKi (sp := sp34) (sn := sn) (pa := pa) (ki := ki) hS_o rfl rfl rfl rfl rfl rfl (by omega) (by omega) (by omega) (by omega)), by omega, by omega, (fun h => hw34 ((fun h => h) h)), ⟨0, by omega, rfl⟩⟩⟩, by rw [ht]; exact hW.1, va_K.moved h9.alike hK, hW.2.1⟩, hW.2.2.F ht⟩) hW.2.2.2.2 dX12_partyRead_40
    · refine lv_iload_n hx hb dX12_partyRead_35 rfl (lv_at hl 0 rfl) ?_
      refine lv_goto (tgt := 40) hx hb dX12_partyRead_36 (by decide) ?_
      exact W.iret (v := r_66) hx hb hr (fun t ht h9 => ⟨⟨r_66, S_32, rfl, ⟨hTy, hFr, ⟨sp34, _, (MKi (sp := sp34) (sn := sn) (pa := pa) (ki := ki) hS_o rfl rfl rfl rfl rfl rfl (by omega) (by omega) (by omega) (by omega)), by omega, by omega, (fun h => hw34 ((fun h => h) h)), (by obtain ⟨k, hk, e⟩ := hr_66.resolve_left c_16; exact ⟨k, by omega, e⟩)⟩⟩, by rw [ht]; exact hW.1, va_K.moved h9.alike hK, hW.2.1⟩, hW.2.2.F ht⟩) hW.2.2.2.2 dX12_partyRead_40
  · refine lv_aload_n hx hb dX12_partyRead_19 rfl (lv_at hl 1 rfl) ?_
    refine lv_iconst (v := 3) hx hb dX12_partyRead_20 (by decide) ?_
    refine lv_aload_n hx hb dX12_partyRead_21 rfl (lv_at hl 1 rfl) ?_
    refine pl_get (ci := 12) (v := .int x_50) (C := RX12) (T := TX12) (N := 32) hx hb hT iX12 hown hK hW hT_o.1 hS_o rfl 16 (by decide) w1098 rfl dX12_partyRead_22 ?_
    refine pl_callv (va_runV (As := [.int 3, .int x_50]) (rest := []) ⟨hx, hb, hml, hown, hT⟩ (m_fails l dC dI cy L kap pr S_32 H.size o 3 x_50 hTy hT_o sp34 sn wr34 pa ki rs (MKi (sp := sp34) (sn := sn) (pa := pa) (ki := ki) hS_o rfl rfl rfl rfl rfl rfl (by omega) (by omega) (by omega) (by omega)) (by omega) (by decide)) (cwV 2 hT (gV w1214 w1216 ws59 w14 w1217) rfl rfl rfl (by decide +kernel) ⟨(Nat.le_of_ble_eq_true rfl), (Nat.le_of_ble_eq_true rfl)⟩) ⟨pcN.blind, pl_recv hK hW hT_o.1 hS_o rfl, pcN.pre hW.1 hK hW.2.1 hN (fun q h => absurd h List.not_mem_nil)⟩ rfl rfl hl.1 rfl (lv_room (Nat.le_of_ble_eq_true rfl)) dX12_partyRead_25 ⟨(Nat.le_of_ble_eq_true rfl), (Nat.le_of_ble_eq_true rfl)⟩) hW hA0 hA (fun S_67 H locs hrel hW => ?_)
    obtain ⟨hTy, hF1, hx1⟩ := hrel
    have hFr := hFr.tr hF1 (by decide)
    obtain ⟨sp68, wr68, hM68, hpa68, hpb68, hw68⟩ := hx1
    obtain ⟨x_69, x_70, x_71, x_72, x_73, x_74, x_75, x_76, x_77, x_78, x_79, x_80, x_81, x_82, x_83, x_84, x_85, x_86, x_87, x_88, x_89, x_90, x_91, x_92, x_93, x_94, x_95, x_96, x_97, x_98, x_99, hS_o, hT_x_69, hT_x_70, hT_x_71, hT_x_72, hT_x_73, hb_x_74, hb_x_75, hb_x_76, hT_x_78, hb_q2, hb_x_79, hb_x_80, hT_x_85, hT_x_86, hb_x_87, hT_x_88, hT_x_89, hT_x_90, hT_x_91, hT_x_92, hT_x_93, hT_x_94, hT_x_95, hT_x_96, hT_x_97, hT_x_98, hb_x_99⟩ := hTy.k12 hT_o
    have hb_q2 : pr.2 ≤ 900 := hb_q2
    have hS_o : S_67 o = .inr (12, [.ref x_69, .ref x_70, .ref x_71, .ref x_72, .ref x_73, .int (nI x_74), .int (nI x_75), .int (nI x_76), .int x_77, .ref x_78, .int (nI (pr.2)), .int (nI x_79), .int (nI x_80), .int x_81, .int x_82, .int x_83, .int x_84, .ref x_85, .ref x_86, .int (nI x_87), .ref x_88, .ref x_89, .ref x_90, .ref x_91, .ref x_92, .ref x_93, .ref x_94, .ref x_95, .ref x_96, .ref x_97, .ref x_98, .int (nI x_99)]) := hS_o
    obtain ⟨e12_, e11_, e13_, e5_, e6_, e0_⟩ := MKe hM68 hS_o rfl rfl rfl rfl rfl rfl (by omega) (by omega) (by omega) (by omega)
    subst e12_ e11_ e13_ e5_ e6_ e0_
    refine lv_aload_n hx hb dX12_partyRead_28 rfl (lv_at hl 1 rfl) ?_
    refine pl_get (ci := 12) (v := .int wr68) (C := RX12) (T := TX12) (N := 32) hx hb hT iX12 hown hK hW hT_o.1 hS_o rfl 13 (by decide) w1095 rfl dX12_partyRead_29 ?_
    have c_32 : ¬ wr68 = 0 := hw68
    refine lv_if_ne (tgt := 39) hx hb dX12_partyRead_32 (by decide) (fun _ => ?_) (fun h => absurd h c_32)
    refine lv_iconst (v := 0) hx hb dX12_partyRead_39 (by decide) ?_
    exact W.iret (v := 0) hx hb hr (fun t ht h9 => ⟨⟨0, S_67, rfl, ⟨hTy, hFr, ⟨sp68, _, (MKi (sp := sp68) (sn := sn) (pa := pa) (ki := ki) hS_o rfl rfl rfl rfl rfl rfl (by omega) (by omega) (by omega) (by omega)), by omega, by omega, (fun _ => hw68), ⟨0, by omega, rfl⟩⟩⟩, by rw [ht]; exact hW.1, va_K.moved h9.alike hK, hW.2.1⟩, hW.2.2.F ht⟩) hW.2.2.2.2 dX12_partyRead_40

set_option maxHeartbeats 4000000 in
set_option maxRecDepth 100000 in
theorem m_other (l : Launch) (dC : Nat → ClassId) (dI : Nat → Nat → Nat) (cy : Nat → ClassId) (L : List Nat) (kap : Nat → Nat) (pr : Pr) (ad : (Nat → Nat) × (Nat → Nat)) (S : Nat → va_E) (sz : Nat) (o : Nat) (on : Int32) (hTy : Ty cy L kap pr S) (hT_o : TK L kap o 12) (sp : Nat) (sn : Nat) (wr : Int32) (pa : Nat) (ki : Nat) (rs : Nat) (hM : MK S o sp sn wr pa ki rs) (hsp : sp ≤ sn) : Met l yX12_otherRead (wT yX12_otherRead cX12_otherRead 3 (some .int)) ({ frames := 7, cells := 0, slots := 0, locals := 156 }) (pcS dC dI [.ref o, .int on] sz L S (cyT cy) NLs ad) (va_Qi (fun r S' => Ty cy L kap pr S' ∧ Fr kap [12, 112] S S' ∧ (∃ sp' wr', MK S' o sp' sn wr' pa ki rs ∧ sp ≤ sp' ∧ sp' ≤ sn ∧ (wr ≠ 0 → wr' ≠ 0) ∧ (∃ k, k < 8 ∧ r = nI k) ∧ (wr' ≠ 0 ∨ r ≠ on))) (fun S' t => pB dC dI (AL L sz) (va_pl L S') (cyT cy) t) (AL L sz)) 0 0 (AL L sz) := by
  refine Met.ofW (cc := cX12_otherRead) (maxL := 3) (ret := (some .int)) (by decide) rfl ?_
  intro p e s m args below meth c s₁ B hml hv
  obtain ⟨rfl, hsz, hP, hK, hD0, hN, hSTR⟩ := hv
  have hx := B.exec
  have hb := B.bytes
  have hr := B.returns
  have hT : ∀ wd ∈ TB, wd.before [.ref o, .int on].toArray s = true := fun wd h => atoms_spec (ws := wT yX12_otherRead cX12_otherRead 3 (some .int)) B.pre wd (List.mem_cons_of_mem _ h)
  have hown : s.vm.findClass RX12 = some m.cls := findClass_of_methodNamed B.named
  have hlocks := B.notSynchronized
  subst hsz
  have hW : PW dC dI L (AL L s.heap.size) s.heap S s.heap [] := ⟨hP, pl_self hD0, va_S.rf⟩
  have hA0 : ∀ q, q ∈ L → AL L s.heap.size q := fun _ h => Or.inl h
  have hA : ∀ q, s.heap.size ≤ q → AL L s.heap.size q := fun _ h => Or.inr h
  have hFr : Fr kap [12, 112] S S := Fr.rf
  have hl := lv_entry ([.ref o, .int on]) (n := 3) (Nat.le_of_ble_eq_true rfl)
  rw [lg_entry_eq]
  generalize (lg_sl ([.ref o, .int on]) ++ List.replicate (3 - (lg_sl ([.ref o, .int on])).length) Slot.unset).toArray = ls at hl ⊢
  have hl : lv_has ls 3 [(0, .ref o), (1, .int on)] := hl
  obtain ⟨x_1, x_2, x_3, x_4, x_5, x_6, x_7, x_8, x_9, x_10, x_11, x_12, x_13, x_14, x_15, x_16, x_17, x_18, x_19, x_20, x_21, x_22, x_23, x_24, x_25, x_26, x_27, x_28, x_29, x_30, x_31, hS_o, hT_x_1, hT_x_2, hT_x_3, hT_x_4, hT_x_5, hb_x_6, hb_x_7, hb_x_8, hT_x_10, hb_q2, hb_x_11, hb_x_12, hT_x_17, hT_x_18, hb_x_19, hT_x_20, hT_x_21, hT_x_22, hT_x_23, hT_x_24, hT_x_25, hT_x_26, hT_x_27, hT_x_28, hT_x_29, hT_x_30, hb_x_31⟩ := hTy.k12 hT_o
  have hb_q2 : pr.2 ≤ 900 := hb_q2
  have hS_o : S o = .inr (12, [.ref x_1, .ref x_2, .ref x_3, .ref x_4, .ref x_5, .int (nI x_6), .int (nI x_7), .int (nI x_8), .int x_9, .ref x_10, .int (nI (pr.2)), .int (nI x_11), .int (nI x_12), .int x_13, .int x_14, .int x_15, .int x_16, .ref x_17, .ref x_18, .int (nI x_19), .ref x_20, .ref x_21, .ref x_22, .ref x_23, .ref x_24, .ref x_25, .ref x_26, .ref x_27, .ref x_28, .ref x_29, .ref x_30, .int (nI x_31)]) := hS_o
  obtain ⟨e12_, e11_, e13_, e5_, e6_, e0_⟩ := MKe hM hS_o rfl rfl rfl rfl rfl rfl (by omega) (by omega) (by omega) (by omega)
  subst e12_ e11_ e13_ e5_ e6_ e0_
  refine lv_aload_n hx hb dX12_otherRead_0 rfl (lv_at hl 0 rfl) ?_
  refine pl_calli (va_runV (As := []) (rest := []) ⟨hx, hb, hml, hown, hT⟩ (m_party l dC dI cy L kap pr ad S s.heap.size o hTy hT_o sp sn wr pa ki rs (MKi (sp := sp) (sn := sn) (pa := pa) (ki := ki) hS_o rfl rfl rfl rfl rfl rfl (by omega) (by omega) (by omega) (by omega)) (by omega)) (cwV 0 hT (gV w1255 w1257 ws68 w14 w1258) rfl rfl rfl (by decide +kernel) ⟨(Nat.le_of_ble_eq_true rfl), (Nat.le_of_ble_eq_true rfl)⟩) ⟨pcS.blind, pl_recv hK hW hT_o.1 hS_o rfl, pcS.pre hW.1 hK hW.2.1 hN hSTR hW.2.2⟩ rfl rfl hl.1 rfl (lv_room (Nat.le_of_ble_eq_true rfl)) dX12_otherRead_1 ⟨(Nat.le_of_ble_eq_true rfl), (Nat.le_of_ble_eq_true rfl)⟩) hW hA0 hA (fun r_33 S_32 H locs hrel hW => ?_)
  obtain ⟨hTy, hF1, hx1⟩ := hrel
  have hFr := hFr.tr hF1 (by decide)
  obtain ⟨sp34, wr34, hM34, hpa34, hpb34, hw34, hv34⟩ := hx1
  obtain ⟨x_35, x_36, x_37, x_38, x_39, x_40, x_41, x_42, x_43, x_44, x_45, x_46, x_47, x_48, x_49, x_50, x_51, x_52, x_53, x_54, x_55, x_56, x_57, x_58, x_59, x_60, x_61, x_62, x_63, x_64, x_65, hS_o, hT_x_35, hT_x_36, hT_x_37, hT_x_38, hT_x_39, hb_x_40, hb_x_41, hb_x_42, hT_x_44, hb_q2, hb_x_45, hb_x_46, hT_x_51, hT_x_52, hb_x_53, hT_x_54, hT_x_55, hT_x_56, hT_x_57, hT_x_58, hT_x_59, hT_x_60, hT_x_61, hT_x_62, hT_x_63, hT_x_64, hb_x_65⟩ := hTy.k12 hT_o
  have hb_q2 : pr.2 ≤ 900 := hb_q2
  have hS_o : S_32 o = .inr (12, [.ref x_35, .ref x_36, .ref x_37, .ref x_38, .ref x_39, .int (nI x_40), .int (nI x_41), .int (nI x_42), .int x_43, .ref x_44, .int (nI (pr.2)), .int (nI x_45), .int (nI x_46), .int x_47, .int x_48, .int x_49, .int x_50, .ref x_51, .ref x_52, .int (nI x_53), .ref x_54, .ref x_55, .ref x_56, .ref x_57, .ref x_58, .ref x_59, .ref x_60, .ref x_61, .ref x_62, .ref x_63, .ref x_64, .int (nI x_65)]) := hS_o
  obtain ⟨e12_, e11_, e13_, e5_, e6_, e0_⟩ := MKe hM34 hS_o rfl rfl rfl rfl rfl rfl (by omega) (by omega) (by omega) (by omega)
  subst e12_ e11_ e13_ e5_ e6_ e0_
  obtain ⟨k_66, hb_k_66, rfl⟩ := hv34
  refine lv_istore_n (lv' := [(2, .int (nI k_66)), (0, .ref o), (1, .int on)]) hx hb dX12_otherRead_4 rfl hl (by decide) rfl (fun ls hl => ?_)
  refine lv_aload_n hx hb dX12_otherRead_5 rfl (lv_at hl 1 rfl) ?_
  refine pl_get (ci := 12) (v := .int wr34) (C := RX12) (T := TX12) (N := 32) hx hb hT iX12 hown hK hW hT_o.1 hS_o rfl 13 (by decide) w1095 rfl dX12_otherRead_6 ?_
  refine lv_if_ne (tgt := 26) hx hb dX12_otherRead_9 (by decide) (fun c_9 => ?_) (fun c_9 => ?_)
  · refine lv_iload_n hx hb dX12_otherRead_26 rfl (lv_at hl 0 rfl) ?_
    exact W.iret (v := nI k_66) hx hb hr (fun t ht h9 => ⟨⟨nI k_66, S_32, rfl, ⟨hTy, hFr, ⟨sp34, _, (MKi (sp := sp34) (sn := sn) (pa := pa) (ki := ki) hS_o rfl rfl rfl rfl rfl rfl (by omega) (by omega) (by omega) (by omega)), by omega, by omega, (fun h => hw34 ((fun h => h) h)), ⟨k_66, by omega, rfl⟩, Or.inl c_9⟩⟩, by rw [ht]; exact hW.1, va_K.moved h9.alike hK, hW.2.1⟩, hW.2.2.F ht⟩) hW.2.2.2.2 dX12_otherRead_27
  · refine lv_iload_n hx hb dX12_otherRead_12 rfl (lv_at hl 0 rfl) ?_
    refine lv_iload_n hx hb dX12_otherRead_13 rfl (lv_at hl 2 rfl) ?_
    refine lv_icmp_ne (tgt := 26) hx hb dX12_otherRead_14 (by decide) (fun c_14 => ?_) (fun c_14 => ?_)
    · refine lv_iload_n hx hb dX12_otherRead_26 rfl (lv_at hl 0 rfl) ?_
      exact W.iret (v := nI k_66) hx hb hr (fun t ht h9 => ⟨⟨nI k_66, S_32, rfl, ⟨hTy, hFr, ⟨sp34, _, (MKi (sp := sp34) (sn := sn) (pa := pa) (ki := ki) hS_o rfl rfl rfl rfl rfl rfl (by omega) (by omega) (by omega) (by omega)), by omega, by omega, (fun h => hw34 ((fun h => h) h)), ⟨k_66, by omega, rfl⟩, Or.inr c_14⟩⟩, by rw [ht]; exact hW.1, va_K.moved h9.alike hK, hW.2.1⟩, hW.2.2.F ht⟩) hW.2.2.2.2 dX12_otherRead_27
    · refine lv_aload_n hx hb dX12_otherRead_17 rfl (lv_at hl 1 rfl) ?_
      refine lv_iconst (v := 5) hx hb dX12_otherRead_18 (by decide) ?_
      refine lv_aload_n hx hb dX12_otherRead_19 rfl (lv_at hl 1 rfl) ?_
      refine pl_get (ci := 12) (v := .int x_50) (C := RX12) (T := TX12) (N := 32) hx hb hT iX12 hown hK hW hT_o.1 hS_o rfl 16 (by decide) w1098 rfl dX12_otherRead_20 ?_
      refine pl_callv (va_runV (As := [.int 5, .int x_50]) (rest := []) ⟨hx, hb, hml, hown, hT⟩ (m_fails l dC dI cy L kap pr S_32 H.size o 5 x_50 hTy hT_o sp34 sn wr34 pa ki rs (MKi (sp := sp34) (sn := sn) (pa := pa) (ki := ki) hS_o rfl rfl rfl rfl rfl rfl (by omega) (by omega) (by omega) (by omega)) (by omega) (by decide)) (cwV 2 hT (gV w1214 w1216 ws59 w14 w1217) rfl rfl rfl (by decide +kernel) ⟨(Nat.le_of_ble_eq_true rfl), (Nat.le_of_ble_eq_true rfl)⟩) ⟨pcN.blind, pl_recv hK hW hT_o.1 hS_o rfl, pcN.pre hW.1 hK hW.2.1 hN (fun q h => absurd h List.not_mem_nil)⟩ rfl rfl hl.1 rfl (lv_room (Nat.le_of_ble_eq_true rfl)) dX12_otherRead_23 ⟨(Nat.le_of_ble_eq_true rfl), (Nat.le_of_ble_eq_true rfl)⟩) hW hA0 hA (fun S_67 H locs hrel hW => ?_)
      obtain ⟨hTy, hF1, hx1⟩ := hrel
      have hFr := hFr.tr hF1 (by decide)
      obtain ⟨sp68, wr68, hM68, hpa68, hpb68, hw68⟩ := hx1
      obtain ⟨x_69, x_70, x_71, x_72, x_73, x_74, x_75, x_76, x_77, x_78, x_79, x_80, x_81, x_82, x_83, x_84, x_85, x_86, x_87, x_88, x_89, x_90, x_91, x_92, x_93, x_94, x_95, x_96, x_97, x_98, x_99, hS_o, hT_x_69, hT_x_70, hT_x_71, hT_x_72, hT_x_73, hb_x_74, hb_x_75, hb_x_76, hT_x_78, hb_q2, hb_x_79, hb_x_80, hT_x_85, hT_x_86, hb_x_87, hT_x_88, hT_x_89, hT_x_90, hT_x_91, hT_x_92, hT_x_93, hT_x_94, hT_x_95, hT_x_96, hT_x_97, hT_x_98, hb_x_99⟩ := hTy.k12 hT_o
      have hb_q2 : pr.2 ≤ 900 := hb_q2
      have hS_o : S_67 o = .inr (12, [.ref x_69, .ref x_70, .ref x_71, .ref x_72, .ref x_73, .int (nI x_74), .int (nI x_75), .int (nI x_76), .int x_77, .ref x_78, .int (nI (pr.2)), .int (nI x_79), .int (nI x_80), .int x_81, .int x_82, .int x_83, .int x_84, .ref x_85, .ref x_86, .int (nI x_87), .ref x_88, .ref x_89, .ref x_90, .ref x_91, .ref x_92, .ref x_93, .ref x_94, .ref x_95, .ref x_96, .ref x_97, .ref x_98, .int (nI x_99)]) := hS_o
      obtain ⟨e12_, e11_, e13_, e5_, e6_, e0_⟩ := MKe hM68 hS_o rfl rfl rfl rfl rfl rfl (by omega) (by omega) (by omega) (by omega)
      subst e12_ e11_ e13_ e5_ e6_ e0_
      refine lv_iload_n hx hb dX12_otherRead_26 rfl (lv_at hl 0 rfl) ?_
      exact W.iret (v := nI k_66) hx hb hr (fun t ht h9 => ⟨⟨nI k_66, S_67, rfl, ⟨hTy, hFr, ⟨sp68, _, (MKi (sp := sp68) (sn := sn) (pa := pa) (ki := ki) hS_o rfl rfl rfl rfl rfl rfl (by omega) (by omega) (by omega) (by omega)), by omega, by omega, (fun _ => hw68), ⟨k_66, by omega, rfl⟩, Or.inl hw68⟩⟩, by rw [ht]; exact hW.1, va_K.moved h9.alike hK, hW.2.1⟩, hW.2.2.F ht⟩) hW.2.2.2.2 dX12_otherRead_27

set_option maxHeartbeats 4000000 in
set_option maxRecDepth 100000 in
theorem m_kind (l : Launch) (dC : Nat → ClassId) (dI : Nat → Nat → Nat) (cy : Nat → ClassId) (L : List Nat) (kap : Nat → Nat) (pr : Pr) (ad : (Nat → Nat) × (Nat → Nat)) (S : Nat → va_E) (sz : Nat) (o : Nat) (hTy : Ty cy L kap pr S) (hT_o : TK L kap o 12) (sp : Nat) (sn : Nat) (wr : Int32) (pa : Nat) (ki : Nat) (rs : Nat) (hM : MK S o sp sn wr pa ki rs) (hsp : sp ≤ sn) : Met l yX12_kindRead (wT yX12_kindRead cX12_kindRead 2 (some .int)) ({ frames := 6, cells := 0, slots := 0, locals := 135 }) (pcS dC dI [.ref o] sz L S (cyT cy) NLs ad) (va_Qi (fun r S' => Ty cy L kap pr S' ∧ Fr kap [12, 112] S S' ∧ (∃ sp' wr', MK S' o sp' sn wr' pa ki rs ∧ sp ≤ sp' ∧ sp' ≤ sn ∧ (wr ≠ 0 → wr' ≠ 0) ∧ ∃ k, k < 4 ∧ r = nI k)) (fun S' t => pB dC dI (AL L sz) (va_pl L S') (cyT cy) t) (AL L sz)) 0 0 (AL L sz) := by
  refine Met.ofW (cc := cX12_kindRead) (maxL := 2) (ret := (some .int)) (by decide) rfl ?_
  intro p e s m args below meth c s₁ B hml hv
  obtain ⟨rfl, hsz, hP, hK, hD0, hN, hSTR⟩ := hv
  have hx := B.exec
  have hb := B.bytes
  have hr := B.returns
  have hT : ∀ wd ∈ TB, wd.before [.ref o].toArray s = true := fun wd h => atoms_spec (ws := wT yX12_kindRead cX12_kindRead 2 (some .int)) B.pre wd (List.mem_cons_of_mem _ h)
  have hown : s.vm.findClass RX12 = some m.cls := findClass_of_methodNamed B.named
  have hlocks := B.notSynchronized
  subst hsz
  have hW : PW dC dI L (AL L s.heap.size) s.heap S s.heap [] := ⟨hP, pl_self hD0, va_S.rf⟩
  have hA0 : ∀ q, q ∈ L → AL L s.heap.size q := fun _ h => Or.inl h
  have hA : ∀ q, s.heap.size ≤ q → AL L s.heap.size q := fun _ h => Or.inr h
  have hFr : Fr kap [12, 112] S S := Fr.rf
  have hl := lv_entry ([.ref o]) (n := 2) (Nat.le_of_ble_eq_true rfl)
  rw [lg_entry_eq]
  generalize (lg_sl ([.ref o]) ++ List.replicate (2 - (lg_sl ([.ref o])).length) Slot.unset).toArray = ls at hl ⊢
  have hl : lv_has ls 2 [(0, .ref o)] := hl
  obtain ⟨x_1, x_2, x_3, x_4, x_5, x_6, x_7, x_8, x_9, x_10, x_11, x_12, x_13, x_14, x_15, x_16, x_17, x_18, x_19, x_20, x_21, x_22, x_23, x_24, x_25, x_26, x_27, x_28, x_29, x_30, x_31, hS_o, hT_x_1, hT_x_2, hT_x_3, hT_x_4, hT_x_5, hb_x_6, hb_x_7, hb_x_8, hT_x_10, hb_q2, hb_x_11, hb_x_12, hT_x_17, hT_x_18, hb_x_19, hT_x_20, hT_x_21, hT_x_22, hT_x_23, hT_x_24, hT_x_25, hT_x_26, hT_x_27, hT_x_28, hT_x_29, hT_x_30, hb_x_31⟩ := hTy.k12 hT_o
  have hb_q2 : pr.2 ≤ 900 := hb_q2
  have hS_o : S o = .inr (12, [.ref x_1, .ref x_2, .ref x_3, .ref x_4, .ref x_5, .int (nI x_6), .int (nI x_7), .int (nI x_8), .int x_9, .ref x_10, .int (nI (pr.2)), .int (nI x_11), .int (nI x_12), .int x_13, .int x_14, .int x_15, .int x_16, .ref x_17, .ref x_18, .int (nI x_19), .ref x_20, .ref x_21, .ref x_22, .ref x_23, .ref x_24, .ref x_25, .ref x_26, .ref x_27, .ref x_28, .ref x_29, .ref x_30, .int (nI x_31)]) := hS_o
  obtain ⟨e12_, e11_, e13_, e5_, e6_, e0_⟩ := MKe hM hS_o rfl rfl rfl rfl rfl rfl (by omega) (by omega) (by omega) (by omega)
  subst e12_ e11_ e13_ e5_ e6_ e0_
  refine lv_aload_n hx hb dX12_kindRead_0 rfl (lv_at hl 0 rfl) ?_
  refine lv_aload_n hx hb dX12_kindRead_1 rfl (lv_at hl 0 rfl) ?_
  refine pl_calll (va_runV (As := []) (rest := [.ref o]) ⟨hx, hb, hml, hown, hT⟩ (m_name l dC dI cy L kap pr ad S s.heap.size o hTy hT_o sp sn wr pa ki rs (MKi (sp := sp) (sn := sn) (pa := pa) (ki := ki) hS_o rfl rfl rfl rfl rfl rfl (by omega) (by omega) (by omega) (by omega)) (by omega)) (cwV 0 hT (gV w1230 w1232 ws63 w14 w1233) rfl rfl rfl (by decide +kernel) ⟨(Nat.le_of_ble_eq_true rfl), (Nat.le_of_ble_eq_true rfl)⟩) ⟨pcS.blind, pl_recv hK hW hT_o.1 hS_o rfl, pcS.pre hW.1 hK hW.2.1 hN hSTR hW.2.2⟩ rfl rfl hl.1 rfl (lv_room (Nat.le_of_ble_eq_true rfl)) dX12_kindRead_2 ⟨(Nat.le_of_ble_eq_true rfl), (Nat.le_of_ble_eq_true rfl)⟩) hW hA0 hA (fun r_33 S_32 H locs hrel hW => ?_)
  obtain ⟨hTy, hF1, hx1⟩ := hrel
  have hFr := hFr.tr hF1 (by decide)
  obtain ⟨sp34, wr34, hM34, hpa34, hpb34, hw34⟩ := hx1
  obtain ⟨x_35, x_36, x_37, x_38, x_39, x_40, x_41, x_42, x_43, x_44, x_45, x_46, x_47, x_48, x_49, x_50, x_51, x_52, x_53, x_54, x_55, x_56, x_57, x_58, x_59, x_60, x_61, x_62, x_63, x_64, x_65, hS_o, hT_x_35, hT_x_36, hT_x_37, hT_x_38, hT_x_39, hb_x_40, hb_x_41, hb_x_42, hT_x_44, hb_q2, hb_x_45, hb_x_46, hT_x_51, hT_x_52, hb_x_53, hT_x_54, hT_x_55, hT_x_56, hT_x_57, hT_x_58, hT_x_59, hT_x_60, hT_x_61, hT_x_62, hT_x_63, hT_x_64, hb_x_65⟩ := hTy.k12 hT_o
  have hb_q2 : pr.2 ≤ 900 := hb_q2
  have hS_o : S_32 o = .inr (12, [.ref x_35, .ref x_36, .ref x_37, .ref x_38, .ref x_39, .int (nI x_40), .int (nI x_41), .int (nI x_42), .int x_43, .ref x_44, .int (nI (pr.2)), .int (nI x_45), .int (nI x_46), .int x_47, .int x_48, .int x_49, .int x_50, .ref x_51, .ref x_52, .int (nI x_53), .ref x_54, .ref x_55, .ref x_56, .ref x_57, .ref x_58, .ref x_59, .ref x_60, .ref x_61, .ref x_62, .ref x_63, .ref x_64, .int (nI x_65)]) := hS_o
  obtain ⟨e12_, e11_, e13_, e5_, e6_, e0_⟩ := MKe hM34 hS_o rfl rfl rfl rfl rfl rfl (by omega) (by omega) (by omega) (by omega)
  subst e12_ e11_ e13_ e5_ e6_ e0_
  refine lv_bipush (v := 8) hx hb dX12_kindRead_5 (by decide) ?_
  refine lv_aload_n hx hb dX12_kindRead_7 rfl (lv_at hl 0 rfl) ?_
  refine pl_get (ci := 12) (v := .int (nI ki)) (C := RX12) (T := TX12) (N := 32) hx hb hT iX12 hown hK hW hT_o.1 hS_o rfl 6 (by decide) w1088 rfl dX12_kindRead_8 ?_
  refine vp_callSi (va_Run.run (va_runV (As := [.long r_33, .int 8, .int (nI ki)]) (rest := []) ⟨hx, hb, hml, hown, hT⟩ (m_find l dC dI cy L kap pr S_32 H.size o r_33 8 ki hTy hT_o (by omega) (by omega)) (cwV 3 hT (gV w1234 w1236 ws64 w14 w1237) rfl rfl rfl (by decide +kernel) ⟨(Nat.le_of_ble_eq_true rfl), (Nat.le_of_ble_eq_true rfl)⟩) ⟨pcN.blind, pl_recv hK hW hT_o.1 hS_o rfl, pcN.pre hW.1 hK hW.2.1 hN (fun q h => absurd h List.not_mem_nil)⟩ rfl rfl hl.1 rfl (lv_room (Nat.le_of_ble_eq_true rfl)) dX12_kindRead_11 ⟨(Nat.le_of_ble_eq_true rfl), (Nat.le_of_ble_eq_true rfl)⟩)) (fun r_66 hr_66 => ?_)
  refine lv_istore_n (lv' := [(1, .int r_66), (0, .ref o)]) hx hb dX12_kindRead_14 rfl hl (by decide) rfl (fun ls hl => ?_)
  refine lv_iload_n hx hb dX12_kindRead_15 rfl (lv_at hl 0 rfl) ?_
  refine lv_iconst (v := (-1)) hx hb dX12_kindRead_16 (by decide) ?_
  refine lv_icmp_ne (tgt := 29) hx hb dX12_kindRead_17 (by decide) (fun c_17 => ?_) (fun c_17 => ?_)
  · refine lv_aload_n hx hb dX12_kindRead_29 rfl (lv_at hl 1 rfl) ?_
    refine pl_get (ci := 12) (v := .int wr34) (C := RX12) (T := TX12) (N := 32) hx hb hT iX12 hown hK hW hT_o.1 hS_o rfl 13 (by decide) w1095 rfl dX12_kindRead_30 ?_
    refine lv_if_ne (tgt := 40) hx hb dX12_kindRead_33 (by decide) (fun c_33 => ?_) (fun c_33 => ?_)
    · refine lv_iconst (v := 0) hx hb dX12_kindRead_40 (by decide) ?_
      exact W.iret (v := 0) hx hb hr (fun t ht h9 => ⟨⟨0, S_32, rfl, ⟨hTy, hFr, ⟨sp34, _, (MKi (sp := sp34) (sn := sn) (pa := pa) (ki := ki) hS_o rfl rfl rfl rfl rfl rfl (by omega) (by omega) (by omega) (by omega)), by omega, by omega, (fun h => hw34 ((fun h => h) h)), ⟨0, by omega, rfl⟩⟩⟩, by rw [ht]; exact hW.1, va_K.moved h9.alike hK, hW.2.1⟩, hW.2.2.F ht⟩) hW.2.2.2.2 dX12_kindRead_41
    · refine lv_iload_n hx hb dX12_kindRead_36 rfl (lv_at hl 0 rfl) ?_
      refine lv_goto (tgt := 41) hx hb dX12_kindRead_37 (by decide) ?_
      exact W.iret (v := r_66) hx hb hr (fun t ht h9 => ⟨⟨r_66, S_32, rfl, ⟨hTy, hFr, ⟨sp34, _, (MKi (sp := sp34) (sn := sn) (pa := pa) (ki := ki) hS_o rfl rfl rfl rfl rfl rfl (by omega) (by omega) (by omega) (by omega)), by omega, by omega, (fun h => hw34 ((fun h => h) h)), (by obtain ⟨k, hk, e⟩ := hr_66.resolve_left c_17; exact ⟨k, by omega, e⟩)⟩⟩, by rw [ht]; exact hW.1, va_K.moved h9.alike hK, hW.2.1⟩, hW.2.2.F ht⟩) hW.2.2.2.2 dX12_kindRead_41
  · refine lv_aload_n hx hb dX12_kindRead_20 rfl (lv_at hl 1 rfl) ?_
    refine lv_iconst (v := 3) hx hb dX12_kindRead_21 (by decide) ?_
    refine lv_aload_n hx hb dX12_kindRead_22 rfl (lv_at hl 1 rfl) ?_
    refine pl_get (ci := 12) (v := .int x_50) (C := RX12) (T := TX12) (N := 32) hx hb hT iX12 hown hK hW hT_o.1 hS_o rfl 16 (by decide) w1098 rfl dX12_kindRead_23 ?_
    refine pl_callv (va_runV (As := [.int 3, .int x_50]) (rest := []) ⟨hx, hb, hml, hown, hT⟩ (m_fails l dC dI cy L kap pr S_32 H.size o 3 x_50 hTy hT_o sp34 sn wr34 pa ki rs (MKi (sp := sp34) (sn := sn) (pa := pa) (ki := ki) hS_o rfl rfl rfl rfl rfl rfl (by omega) (by omega) (by omega) (by omega)) (by omega) (by decide)) (cwV 2 hT (gV w1214 w1216 ws59 w14 w1217) rfl rfl rfl (by decide +kernel) ⟨(Nat.le_of_ble_eq_true rfl), (Nat.le_of_ble_eq_true rfl)⟩) ⟨pcN.blind, pl_recv hK hW hT_o.1 hS_o rfl, pcN.pre hW.1 hK hW.2.1 hN (fun q h => absurd h List.not_mem_nil)⟩ rfl rfl hl.1 rfl (lv_room (Nat.le_of_ble_eq_true rfl)) dX12_kindRead_26 ⟨(Nat.le_of_ble_eq_true rfl), (Nat.le_of_ble_eq_true rfl)⟩) hW hA0 hA (fun S_67 H locs hrel hW => ?_)
    obtain ⟨hTy, hF1, hx1⟩ := hrel
    have hFr := hFr.tr hF1 (by decide)
    obtain ⟨sp68, wr68, hM68, hpa68, hpb68, hw68⟩ := hx1
    obtain ⟨x_69, x_70, x_71, x_72, x_73, x_74, x_75, x_76, x_77, x_78, x_79, x_80, x_81, x_82, x_83, x_84, x_85, x_86, x_87, x_88, x_89, x_90, x_91, x_92, x_93, x_94, x_95, x_96, x_97, x_98, x_99, hS_o, hT_x_69, hT_x_70, hT_x_71, hT_x_72, hT_x_73, hb_x_74, hb_x_75, hb_x_76, hT_x_78, hb_q2, hb_x_79, hb_x_80, hT_x_85, hT_x_86, hb_x_87, hT_x_88, hT_x_89, hT_x_90, hT_x_91, hT_x_92, hT_x_93, hT_x_94, hT_x_95, hT_x_96, hT_x_97, hT_x_98, hb_x_99⟩ := hTy.k12 hT_o
    have hb_q2 : pr.2 ≤ 900 := hb_q2
    have hS_o : S_67 o = .inr (12, [.ref x_69, .ref x_70, .ref x_71, .ref x_72, .ref x_73, .int (nI x_74), .int (nI x_75), .int (nI x_76), .int x_77, .ref x_78, .int (nI (pr.2)), .int (nI x_79), .int (nI x_80), .int x_81, .int x_82, .int x_83, .int x_84, .ref x_85, .ref x_86, .int (nI x_87), .ref x_88, .ref x_89, .ref x_90, .ref x_91, .ref x_92, .ref x_93, .ref x_94, .ref x_95, .ref x_96, .ref x_97, .ref x_98, .int (nI x_99)]) := hS_o
    obtain ⟨e12_, e11_, e13_, e5_, e6_, e0_⟩ := MKe hM68 hS_o rfl rfl rfl rfl rfl rfl (by omega) (by omega) (by omega) (by omega)
    subst e12_ e11_ e13_ e5_ e6_ e0_
    refine lv_aload_n hx hb dX12_kindRead_29 rfl (lv_at hl 1 rfl) ?_
    refine pl_get (ci := 12) (v := .int wr68) (C := RX12) (T := TX12) (N := 32) hx hb hT iX12 hown hK hW hT_o.1 hS_o rfl 13 (by decide) w1095 rfl dX12_kindRead_30 ?_
    have c_33 : ¬ wr68 = 0 := hw68
    refine lv_if_ne (tgt := 40) hx hb dX12_kindRead_33 (by decide) (fun _ => ?_) (fun h => absurd h c_33)
    refine lv_iconst (v := 0) hx hb dX12_kindRead_40 (by decide) ?_
    exact W.iret (v := 0) hx hb hr (fun t ht h9 => ⟨⟨0, S_67, rfl, ⟨hTy, hFr, ⟨sp68, _, (MKi (sp := sp68) (sn := sn) (pa := pa) (ki := ki) hS_o rfl rfl rfl rfl rfl rfl (by omega) (by omega) (by omega) (by omega)), by omega, by omega, (fun _ => hw68), ⟨0, by omega, rfl⟩⟩⟩, by rw [ht]; exact hW.1, va_K.moved h9.alike hK, hW.2.1⟩, hW.2.2.F ht⟩) hW.2.2.2.2 dX12_kindRead_41

set_option maxHeartbeats 4000000 in
set_option maxRecDepth 100000 in
theorem m_isFull (l : Launch) (dC : Nat → ClassId) (dI : Nat → Nat → Nat) (cy : Nat → ClassId) (L : List Nat) (kap : Nat → Nat) (pr : Pr) (S : Nat → va_E) (sz : Nat) (o : Nat) (wz : Int32) (hTy : Ty cy L kap pr S) (hT_o : TK L kap o 12) (sp : Nat) (sn : Nat) (wr : Int32) (pa : Nat) (ki : Nat) (rs : Nat) (hM : MK S o sp sn wr pa ki rs) (hsp : sp ≤ sn) : Met l yX12_isFull (wT yX12_isFull cX12_isFull 2 (some .boolean)) ({ frames := 0, cells := 0, slots := 0, locals := 0 }) (pcN dC dI [.ref o, .int wz] sz (va_pl L S) (cyT cy) NLs []) (vp_Si (fun r => r = 1 ∨ (r = 0 ∧ (wz = 0 → pa < 8) ∧ (wz = 1 → ki < 4) ∧ (wz = 2 → ∃ n, n < 40 ∧ mny S o n)))) 0 0 (fun _ => False) := by
  refine Met.ofW (cc := cX12_isFull) (maxL := 2) (ret := (some .boolean)) (by decide) rfl ?_
  intro p e s m args below meth c s₁ B hml hv
  obtain ⟨rfl, hsz, hP, hK, hD0, hN, -⟩ := hv
  have hx := B.exec
  have hb := B.bytes
  have hr := B.returns
  have hT : ∀ wd ∈ TB, wd.before [.ref o, .int wz].toArray s = true := fun wd h => atoms_spec (ws := wT yX12_isFull cX12_isFull 2 (some .boolean)) B.pre wd (List.mem_cons_of_mem _ h)
  have hown : s.vm.findClass RX12 = some m.cls := findClass_of_methodNamed B.named
  have hlocks := B.notSynchronized
  subst hsz
  have hW : PW dC dI L (AL L s.heap.size) s.heap S s.heap [] := ⟨hP, pl_self hD0, va_S.rf⟩
  have hFr : Fr kap [] S S := Fr.rf
  have hl := lv_entry ([.ref o, .int wz]) (n := 2) (Nat.le_of_ble_eq_true rfl)
  rw [lg_entry_eq]
  generalize (lg_sl ([.ref o, .int wz]) ++ List.replicate (2 - (lg_sl ([.ref o, .int wz])).length) Slot.unset).toArray = ls at hl ⊢
  have hl : lv_has ls 2 [(0, .ref o), (1, .int wz)] := hl
  obtain ⟨x_1, x_2, x_3, x_4, x_5, x_6, x_7, x_8, x_9, x_10, x_11, x_12, x_13, x_14, x_15, x_16, x_17, x_18, x_19, x_20, x_21, x_22, x_23, x_24, x_25, x_26, x_27, x_28, x_29, x_30, x_31, hS_o, hT_x_1, hT_x_2, hT_x_3, hT_x_4, hT_x_5, hb_x_6, hb_x_7, hb_x_8, hT_x_10, hb_q2, hb_x_11, hb_x_12, hT_x_17, hT_x_18, hb_x_19, hT_x_20, hT_x_21, hT_x_22, hT_x_23, hT_x_24, hT_x_25, hT_x_26, hT_x_27, hT_x_28, hT_x_29, hT_x_30, hb_x_31⟩ := hTy.k12 hT_o
  have hb_q2 : pr.2 ≤ 900 := hb_q2
  have hS_o : S o = .inr (12, [.ref x_1, .ref x_2, .ref x_3, .ref x_4, .ref x_5, .int (nI x_6), .int (nI x_7), .int (nI x_8), .int x_9, .ref x_10, .int (nI (pr.2)), .int (nI x_11), .int (nI x_12), .int x_13, .int x_14, .int x_15, .int x_16, .ref x_17, .ref x_18, .int (nI x_19), .ref x_20, .ref x_21, .ref x_22, .ref x_23, .ref x_24, .ref x_25, .ref x_26, .ref x_27, .ref x_28, .ref x_29, .ref x_30, .int (nI x_31)]) := hS_o
  obtain ⟨e12_, e11_, e13_, e5_, e6_, e0_⟩ := MKe hM hS_o rfl rfl rfl rfl rfl rfl (by omega) (by omega) (by omega) (by omega)
  subst e12_ e11_ e13_ e5_ e6_ e0_
  refine lv_iload_n hx hb dX12_isFull_0 rfl (lv_at hl 1 rfl) ?_
  refine lv_if_ne (tgt := 13) hx hb dX12_isFull_1 (by decide) (fun c_1 => ?_) (fun c_1 => ?_)
  · refine lv_iload_n hx hb dX12_isFull_13 rfl (lv_at hl 1 rfl) ?_
    refine lv_iconst (v := 1) hx hb dX12_isFull_14 (by decide) ?_
    refine lv_icmp_ne (tgt := 26) hx hb dX12_isFull_15 (by decide) (fun c_15 => ?_) (fun c_15 => ?_)
    · refine lv_iload_n hx hb dX12_isFull_26 rfl (lv_at hl 1 rfl) ?_
      refine lv_iconst (v := 2) hx hb dX12_isFull_27 (by decide) ?_
      refine lv_icmp_ne (tgt := 46) hx hb dX12_isFull_28 (by decide) (fun c_28 => ?_) (fun c_28 => ?_)
      · refine lv_iconst (v := 0) hx hb dX12_isFull_46 (by decide) ?_
        exact W.zret (ty := .boolean) (v := 0) hx hb hr (by decide) (fun t ht h9 => ⟨0, rfl, Or.inr ⟨rfl, fun h => absurd h c_1, fun h => absurd h c_15, fun h => absurd h c_28⟩, ht⟩) (fun q h => by cases h) dX12_isFull_47
      · refine lv_aload_n hx hb dX12_isFull_31 rfl (lv_at hl 0 rfl) ?_
        refine pl_get (ci := 12) (v := .ref rs) (C := RX12) (T := TX12) (N := 32) hx hb hT iX12 hown hK hW hT_o.1 hS_o rfl 0 (by decide) w1082 rfl dX12_isFull_32 ?_
        refine lv_iconst (v := 0) hx hb dX12_isFull_35 (by decide) ?_
        obtain ⟨f_32, hS_rs, hi_f_32⟩ := hTy.k50 hT_x_1
        refine pl_iald hx hb hK hW hT_x_1.1 hS_rs (vp_in_nI (n := 0) (N := 266) (by omega) (by omega)) dX12_isFull_36 ?_
        refine lv_topi (fun y_33 ey_33 => ?_)
        have hv_y_33 : okS (0) y_33 := by rw [ey_33]; show okS _ (f_32 (nI (0)).toNatClampNeg); rw [nI_clamp (by omega)]; exact hi_f_32 (0) (by omega)
        obtain ⟨k_34, hb_k_34, hq_k_34⟩ := hv_y_33.1 rfl
        obtain rfl : y_33 = nI k_34 := hq_k_34
        refine lv_bipush (v := 40) hx hb dX12_isFull_37 (by decide) ?_
        refine lv_icmp_ne (tgt := 46) hx hb dX12_isFull_39 (by decide) (fun c_39 => ?_) (fun c_39 => ?_)
        · have c_39 : ¬ (k_34 = 40) := fun hh9 => c_39 ((nI_eq (a := k_34) (b := 40) (by omega) (by omega)).mpr hh9)
          refine lv_iconst (v := 0) hx hb dX12_isFull_46 (by decide) ?_
          exact W.zret (ty := .boolean) (v := 0) hx hb hr (by decide) (fun t ht h9 => ⟨0, rfl, Or.inr ⟨rfl, fun h => absurd h c_1, fun h => absurd h c_15, fun _ => ⟨k_34, by omega, mnyi hS_o rfl hS_rs ey_33.symm⟩⟩, ht⟩) (fun q h => by cases h) dX12_isFull_47
        · have c_39 : k_34 = 40 := (nI_eq (a := k_34) (b := 40) (by omega) (by omega)).mp c_39
          refine lv_iconst (v := 1) hx hb dX12_isFull_42 (by decide) ?_
          refine lv_goto (tgt := 47) hx hb dX12_isFull_43 (by decide) ?_
          exact W.zret (ty := .boolean) (v := 1) hx hb hr (by decide) (fun t ht h9 => ⟨1, rfl, Or.inl rfl, ht⟩) (fun q h => by cases h) dX12_isFull_47
    · refine lv_aload_n hx hb dX12_isFull_18 rfl (lv_at hl 0 rfl) ?_
      refine pl_get (ci := 12) (v := .int (nI ki)) (C := RX12) (T := TX12) (N := 32) hx hb hT iX12 hown hK hW hT_o.1 hS_o rfl 6 (by decide) w1088 rfl dX12_isFull_19 ?_
      refine lv_iconst (v := 4) hx hb dX12_isFull_22 (by decide) ?_
      refine lv_icmp_eq (tgt := 42) hx hb dX12_isFull_23 (by decide) (fun c_23 => ?_) (fun c_23 => ?_)
      · have c_23 : ki = 4 := (nI_eq (a := ki) (b := 4) (by omega) (by omega)).mp c_23
        refine lv_iconst (v := 1) hx hb dX12_isFull_42 (by decide) ?_
        refine lv_goto (tgt := 47) hx hb dX12_isFull_43 (by decide) ?_
        exact W.zret (ty := .boolean) (v := 1) hx hb hr (by decide) (fun t ht h9 => ⟨1, rfl, Or.inl rfl, ht⟩) (fun q h => by cases h) dX12_isFull_47
      · have c_23 : ¬ (ki = 4) := fun hh9 => c_23 ((nI_eq (a := ki) (b := 4) (by omega) (by omega)).mpr hh9)
        refine lv_iload_n hx hb dX12_isFull_26 rfl (lv_at hl 1 rfl) ?_
        refine lv_iconst (v := 2) hx hb dX12_isFull_27 (by decide) ?_
        refine lv_icmp_ne (tgt := 46) hx hb dX12_isFull_28 (by decide) (fun c_28 => ?_) (fun c_28 => ?_)
        · refine lv_iconst (v := 0) hx hb dX12_isFull_46 (by decide) ?_
          exact W.zret (ty := .boolean) (v := 0) hx hb hr (by decide) (fun t ht h9 => ⟨0, rfl, Or.inr ⟨rfl, fun h => absurd h c_1, fun _ => by omega, fun h => absurd h c_28⟩, ht⟩) (fun q h => by cases h) dX12_isFull_47
        · refine lv_aload_n hx hb dX12_isFull_31 rfl (lv_at hl 0 rfl) ?_
          refine pl_get (ci := 12) (v := .ref rs) (C := RX12) (T := TX12) (N := 32) hx hb hT iX12 hown hK hW hT_o.1 hS_o rfl 0 (by decide) w1082 rfl dX12_isFull_32 ?_
          refine lv_iconst (v := 0) hx hb dX12_isFull_35 (by decide) ?_
          obtain ⟨f_35, hS_rs, hi_f_35⟩ := hTy.k50 hT_x_1
          refine pl_iald hx hb hK hW hT_x_1.1 hS_rs (vp_in_nI (n := 0) (N := 266) (by omega) (by omega)) dX12_isFull_36 ?_
          refine lv_topi (fun y_36 ey_36 => ?_)
          have hv_y_36 : okS (0) y_36 := by rw [ey_36]; show okS _ (f_35 (nI (0)).toNatClampNeg); rw [nI_clamp (by omega)]; exact hi_f_35 (0) (by omega)
          obtain ⟨k_37, hb_k_37, hq_k_37⟩ := hv_y_36.1 rfl
          obtain rfl : y_36 = nI k_37 := hq_k_37
          refine lv_bipush (v := 40) hx hb dX12_isFull_37 (by decide) ?_
          refine lv_icmp_ne (tgt := 46) hx hb dX12_isFull_39 (by decide) (fun c_39 => ?_) (fun c_39 => ?_)
          · have c_39 : ¬ (k_37 = 40) := fun hh9 => c_39 ((nI_eq (a := k_37) (b := 40) (by omega) (by omega)).mpr hh9)
            refine lv_iconst (v := 0) hx hb dX12_isFull_46 (by decide) ?_
            exact W.zret (ty := .boolean) (v := 0) hx hb hr (by decide) (fun t ht h9 => ⟨0, rfl, Or.inr ⟨rfl, fun h => absurd h c_1, fun _ => by omega, fun _ => ⟨k_37, by omega, mnyi hS_o rfl hS_rs ey_36.symm⟩⟩, ht⟩) (fun q h => by cases h) dX12_isFull_47
          · have c_39 : k_37 = 40 := (nI_eq (a := k_37) (b := 40) (by omega) (by omega)).mp c_39
            refine lv_iconst (v := 1) hx hb dX12_isFull_42 (by decide) ?_
            refine lv_goto (tgt := 47) hx hb dX12_isFull_43 (by decide) ?_
            exact W.zret (ty := .boolean) (v := 1) hx hb hr (by decide) (fun t ht h9 => ⟨1, rfl, Or.inl rfl, ht⟩) (fun q h => by cases h) dX12_isFull_47
  · refine lv_aload_n hx hb dX12_isFull_4 rfl (lv_at hl 0 rfl) ?_
    refine pl_get (ci := 12) (v := .int (nI pa)) (C := RX12) (T := TX12) (N := 32) hx hb hT iX12 hown hK hW hT_o.1 hS_o rfl 5 (by decide) w1087 rfl dX12_isFull_5 ?_
    refine lv_bipush (v := 8) hx hb dX12_isFull_8 (by decide) ?_
    refine lv_icmp_eq (tgt := 42) hx hb dX12_isFull_10 (by decide) (fun c_10 => ?_) (fun c_10 => ?_)
    · have c_10 : pa = 8 := (nI_eq (a := pa) (b := 8) (by omega) (by omega)).mp c_10
      refine lv_iconst (v := 1) hx hb dX12_isFull_42 (by decide) ?_
      refine lv_goto (tgt := 47) hx hb dX12_isFull_43 (by decide) ?_
      exact W.zret (ty := .boolean) (v := 1) hx hb hr (by decide) (fun t ht h9 => ⟨1, rfl, Or.inl rfl, ht⟩) (fun q h => by cases h) dX12_isFull_47
    · have c_10 : ¬ (pa = 8) := fun hh9 => c_10 ((nI_eq (a := pa) (b := 8) (by omega) (by omega)).mpr hh9)
      refine lv_iload_n hx hb dX12_isFull_13 rfl (lv_at hl 1 rfl) ?_
      refine lv_iconst (v := 1) hx hb dX12_isFull_14 (by decide) ?_
      refine lv_icmp_ne (tgt := 26) hx hb dX12_isFull_15 (by decide) (fun c_15 => ?_) (fun c_15 => ?_)
      · refine lv_iload_n hx hb dX12_isFull_26 rfl (lv_at hl 1 rfl) ?_
        refine lv_iconst (v := 2) hx hb dX12_isFull_27 (by decide) ?_
        refine lv_icmp_ne (tgt := 46) hx hb dX12_isFull_28 (by decide) (fun c_28 => ?_) (fun c_28 => ?_)
        · refine lv_iconst (v := 0) hx hb dX12_isFull_46 (by decide) ?_
          exact W.zret (ty := .boolean) (v := 0) hx hb hr (by decide) (fun t ht h9 => ⟨0, rfl, Or.inr ⟨rfl, fun _ => by omega, fun h => absurd h c_15, fun h => absurd h c_28⟩, ht⟩) (fun q h => by cases h) dX12_isFull_47
        · refine lv_aload_n hx hb dX12_isFull_31 rfl (lv_at hl 0 rfl) ?_
          refine pl_get (ci := 12) (v := .ref rs) (C := RX12) (T := TX12) (N := 32) hx hb hT iX12 hown hK hW hT_o.1 hS_o rfl 0 (by decide) w1082 rfl dX12_isFull_32 ?_
          refine lv_iconst (v := 0) hx hb dX12_isFull_35 (by decide) ?_
          obtain ⟨f_38, hS_rs, hi_f_38⟩ := hTy.k50 hT_x_1
          refine pl_iald hx hb hK hW hT_x_1.1 hS_rs (vp_in_nI (n := 0) (N := 266) (by omega) (by omega)) dX12_isFull_36 ?_
          refine lv_topi (fun y_39 ey_39 => ?_)
          have hv_y_39 : okS (0) y_39 := by rw [ey_39]; show okS _ (f_38 (nI (0)).toNatClampNeg); rw [nI_clamp (by omega)]; exact hi_f_38 (0) (by omega)
          obtain ⟨k_40, hb_k_40, hq_k_40⟩ := hv_y_39.1 rfl
          obtain rfl : y_39 = nI k_40 := hq_k_40
          refine lv_bipush (v := 40) hx hb dX12_isFull_37 (by decide) ?_
          refine lv_icmp_ne (tgt := 46) hx hb dX12_isFull_39 (by decide) (fun c_39 => ?_) (fun c_39 => ?_)
          · have c_39 : ¬ (k_40 = 40) := fun hh9 => c_39 ((nI_eq (a := k_40) (b := 40) (by omega) (by omega)).mpr hh9)
            refine lv_iconst (v := 0) hx hb dX12_isFull_46 (by decide) ?_
            exact W.zret (ty := .boolean) (v := 0) hx hb hr (by decide) (fun t ht h9 => ⟨0, rfl, Or.inr ⟨rfl, fun _ => by omega, fun h => absurd h c_15, fun _ => ⟨k_40, by omega, mnyi hS_o rfl hS_rs ey_39.symm⟩⟩, ht⟩) (fun q h => by cases h) dX12_isFull_47
          · have c_39 : k_40 = 40 := (nI_eq (a := k_40) (b := 40) (by omega) (by omega)).mp c_39
            refine lv_iconst (v := 1) hx hb dX12_isFull_42 (by decide) ?_
            refine lv_goto (tgt := 47) hx hb dX12_isFull_43 (by decide) ?_
            exact W.zret (ty := .boolean) (v := 1) hx hb hr (by decide) (fun t ht h9 => ⟨1, rfl, Or.inl rfl, ht⟩) (fun q h => by cases h) dX12_isFull_47
      · refine lv_aload_n hx hb dX12_isFull_18 rfl (lv_at hl 0 rfl) ?_
        refine pl_get (ci := 12) (v := .int (nI ki)) (C := RX12) (T := TX12) (N := 32) hx hb hT iX12 hown hK hW hT_o.1 hS_o rfl 6 (by decide) w1088 rfl dX12_isFull_19 ?_
        refine lv_iconst (v := 4) hx hb dX12_isFull_22 (by decide) ?_
        refine lv_icmp_eq (tgt := 42) hx hb dX12_isFull_23 (by decide) (fun c_23 => ?_) (fun c_23 => ?_)
        · have c_23 : ki = 4 := (nI_eq (a := ki) (b := 4) (by omega) (by omega)).mp c_23
          refine lv_iconst (v := 1) hx hb dX12_isFull_42 (by decide) ?_
          refine lv_goto (tgt := 47) hx hb dX12_isFull_43 (by decide) ?_
          exact W.zret (ty := .boolean) (v := 1) hx hb hr (by decide) (fun t ht h9 => ⟨1, rfl, Or.inl rfl, ht⟩) (fun q h => by cases h) dX12_isFull_47
        · have c_23 : ¬ (ki = 4) := fun hh9 => c_23 ((nI_eq (a := ki) (b := 4) (by omega) (by omega)).mpr hh9)
          refine lv_iload_n hx hb dX12_isFull_26 rfl (lv_at hl 1 rfl) ?_
          refine lv_iconst (v := 2) hx hb dX12_isFull_27 (by decide) ?_
          refine lv_icmp_ne (tgt := 46) hx hb dX12_isFull_28 (by decide) (fun c_28 => ?_) (fun c_28 => ?_)
          · refine lv_iconst (v := 0) hx hb dX12_isFull_46 (by decide) ?_
            exact W.zret (ty := .boolean) (v := 0) hx hb hr (by decide) (fun t ht h9 => ⟨0, rfl, Or.inr ⟨rfl, fun _ => by omega, fun _ => by omega, fun h => absurd h c_28⟩, ht⟩) (fun q h => by cases h) dX12_isFull_47
          · refine lv_aload_n hx hb dX12_isFull_31 rfl (lv_at hl 0 rfl) ?_
            refine pl_get (ci := 12) (v := .ref rs) (C := RX12) (T := TX12) (N := 32) hx hb hT iX12 hown hK hW hT_o.1 hS_o rfl 0 (by decide) w1082 rfl dX12_isFull_32 ?_
            refine lv_iconst (v := 0) hx hb dX12_isFull_35 (by decide) ?_
            obtain ⟨f_41, hS_rs, hi_f_41⟩ := hTy.k50 hT_x_1
            refine pl_iald hx hb hK hW hT_x_1.1 hS_rs (vp_in_nI (n := 0) (N := 266) (by omega) (by omega)) dX12_isFull_36 ?_
            refine lv_topi (fun y_42 ey_42 => ?_)
            have hv_y_42 : okS (0) y_42 := by rw [ey_42]; show okS _ (f_41 (nI (0)).toNatClampNeg); rw [nI_clamp (by omega)]; exact hi_f_41 (0) (by omega)
            obtain ⟨k_43, hb_k_43, hq_k_43⟩ := hv_y_42.1 rfl
            obtain rfl : y_42 = nI k_43 := hq_k_43
            refine lv_bipush (v := 40) hx hb dX12_isFull_37 (by decide) ?_
            refine lv_icmp_ne (tgt := 46) hx hb dX12_isFull_39 (by decide) (fun c_39 => ?_) (fun c_39 => ?_)
            · have c_39 : ¬ (k_43 = 40) := fun hh9 => c_39 ((nI_eq (a := k_43) (b := 40) (by omega) (by omega)).mpr hh9)
              refine lv_iconst (v := 0) hx hb dX12_isFull_46 (by decide) ?_
              exact W.zret (ty := .boolean) (v := 0) hx hb hr (by decide) (fun t ht h9 => ⟨0, rfl, Or.inr ⟨rfl, fun _ => by omega, fun _ => by omega, fun _ => ⟨k_43, by omega, mnyi hS_o rfl hS_rs ey_42.symm⟩⟩, ht⟩) (fun q h => by cases h) dX12_isFull_47
            · have c_39 : k_43 = 40 := (nI_eq (a := k_43) (b := 40) (by omega) (by omega)).mp c_39
              refine lv_iconst (v := 1) hx hb dX12_isFull_42 (by decide) ?_
              refine lv_goto (tgt := 47) hx hb dX12_isFull_43 (by decide) ?_
              exact W.zret (ty := .boolean) (v := 1) hx hb hr (by decide) (fun t ht h9 => ⟨1, rfl, Or.inl rfl, ht⟩) (fun q h => by cases h) dX12_isFull_47

set_option maxHeartbeats 4000000 in
set_option maxRecDepth 100000 in
theorem m_tradeAt (l : Launch) (dC : Nat → ClassId) (dI : Nat → Nat → Nat) (cy : Nat → ClassId) (L : List Nat) (kap : Nat → Nat) (pr : Pr) (S : Nat → va_E) (sz : Nat) (o : Nat) (t : Nat) (wa : Nat) (hTy : Ty cy L kap pr S) (hT_o : TK L kap o 12) (hb_t : t < 40) (hb_wa : wa < 5) : Met l yX12_tradeAt (wT yX12_tradeAt cX12_tradeAt 3 (some .int)) ({ frames := 0, cells := 0, slots := 0, locals := 0 }) (pcN dC dI [.ref o, .int (nI t), .int (nI wa)] sz (va_pl L S) (cyT cy) NLs []) (vp_Si (fun r => okS (2 + 5 * t + wa) r ∧ r = af (S (rf (S o) 0)) (2 + 5 * t + wa))) 0 0 (fun _ => False) := by
  refine Met.ofW (cc := cX12_tradeAt) (maxL := 3) (ret := (some .int)) (by decide) rfl ?_
  intro p e s m args below meth c s₁ B hml hv
  obtain ⟨rfl, hsz, hP, hK, hD0, hN, -⟩ := hv
  have hx := B.exec
  have hb := B.bytes
  have hr := B.returns
  have hT : ∀ wd ∈ TB, wd.before [.ref o, .int (nI t), .int (nI wa)].toArray s = true := fun wd h => atoms_spec (ws := wT yX12_tradeAt cX12_tradeAt 3 (some .int)) B.pre wd (List.mem_cons_of_mem _ h)
  have hown : s.vm.findClass RX12 = some m.cls := findClass_of_methodNamed B.named
  have hlocks := B.notSynchronized
  subst hsz
  have hW : PW dC dI L (AL L s.heap.size) s.heap S s.heap [] := ⟨hP, pl_self hD0, va_S.rf⟩
  have hFr : Fr kap [] S S := Fr.rf
  have hl := lv_entry ([.ref o, .int (nI t), .int (nI wa)]) (n := 3) (Nat.le_of_ble_eq_true rfl)
  rw [lg_entry_eq]
  generalize (lg_sl ([.ref o, .int (nI t), .int (nI wa)]) ++ List.replicate (3 - (lg_sl ([.ref o, .int (nI t), .int (nI wa)])).length) Slot.unset).toArray = ls at hl ⊢
  have hl : lv_has ls 3 [(0, .ref o), (1, .int (nI t)), (2, .int (nI wa))] := hl
  refine lv_aload_n hx hb dX12_tradeAt_0 rfl (lv_at hl 0 rfl) ?_
  obtain ⟨x_1, x_2, x_3, x_4, x_5, x_6, x_7, x_8, x_9, x_10, x_11, x_12, x_13, x_14, x_15, x_16, x_17, x_18, x_19, x_20, x_21, x_22, x_23, x_24, x_25, x_26, x_27, x_28, x_29, x_30, x_31, hS_o, hT_x_1, hT_x_2, hT_x_3, hT_x_4, hT_x_5, hb_x_6, hb_x_7, hb_x_8, hT_x_10, hb_q2, hb_x_11, hb_x_12, hT_x_17, hT_x_18, hb_x_19, hT_x_20, hT_x_21, hT_x_22, hT_x_23, hT_x_24, hT_x_25, hT_x_26, hT_x_27, hT_x_28, hT_x_29, hT_x_30, hb_x_31⟩ := hTy.k12 hT_o
  have hb_q2 : pr.2 ≤ 900 := hb_q2
  have hS_o : S o = .inr (12, [.ref x_1, .ref x_2, .ref x_3, .ref x_4, .ref x_5, .int (nI x_6), .int (nI x_7), .int (nI x_8), .int x_9, .ref x_10, .int (nI (pr.2)), .int (nI x_11), .int (nI x_12), .int x_13, .int x_14, .int x_15, .int x_16, .ref x_17, .ref x_18, .int (nI x_19), .ref x_20, .ref x_21, .ref x_22, .ref x_23, .ref x_24, .ref x_25, .ref x_26, .ref x_27, .ref x_28, .ref x_29, .ref x_30, .int (nI x_31)]) := hS_o
  refine pl_get (ci := 12) (v := .ref x_1) (C := RX12) (T := TX12) (N := 32) hx hb hT iX12 hown hK hW hT_o.1 hS_o rfl 0 (by decide) w1082 rfl dX12_tradeAt_1 ?_
  refine lv_iconst (v := 2) hx hb dX12_tradeAt_4 (by decide) ?_
  refine lv_iconst (v := 5) hx hb dX12_tradeAt_5 (by decide) ?_
  refine lv_iload_n hx hb dX12_tradeAt_6 rfl (lv_at hl 1 rfl) ?_
  refine lv_imul hx hb dX12_tradeAt_7 ?_
  refine lv_topi (fun z_32 ez_32 => ?_)
  obtain rfl : z_32 = nI (5 * t) := ez_32.trans (pk_mul (5) (t))
  refine lv_iadd hx hb dX12_tradeAt_8 ?_
  refine lv_topi (fun z_33 ez_33 => ?_)
  obtain rfl : z_33 = nI (2 + (5 * t)) := ez_33.trans (nI_add (2) (5 * t))
  refine lv_iload_n hx hb dX12_tradeAt_9 rfl (lv_at hl 2 rfl) ?_
  refine lv_iadd hx hb dX12_tradeAt_10 ?_
  refine lv_topi (fun z_34 ez_34 => ?_)
  obtain rfl : z_34 = nI ((2 + (5 * t)) + wa) := ez_34.trans (nI_add (2 + (5 * t)) (wa))
  obtain ⟨f_35, hS_x_1, hi_f_35⟩ := hTy.k50 hT_x_1
  refine pl_iald hx hb hK hW hT_x_1.1 hS_x_1 (vp_in_nI (n := (2 + (5 * t)) + wa) (N := 266) (by omega) (by omega)) dX12_tradeAt_11 ?_
  refine lv_topi (fun y_36 ey_36 => ?_)
  have hv_y_36 : okS ((2 + (5 * t)) + wa) y_36 := by rw [ey_36]; show okS _ (f_35 (nI ((2 + (5 * t)) + wa)).toNatClampNeg); rw [nI_clamp (by omega)]; exact hi_f_35 ((2 + (5 * t)) + wa) (by omega)
  exact W.iret (v := y_36) hx hb hr (fun t ht h9 => ⟨y_36, rfl, ⟨hv_y_36, by rw [rf_i hS_o rfl, af_i hS_x_1, ey_36, nI_clamp (by omega)]⟩, ht⟩) (fun q h => by cases h) dX12_tradeAt_12

set_option maxHeartbeats 4000000 in
set_option maxRecDepth 100000 in
theorem m_adds (l : Launch) (dC : Nat → ClassId) (dI : Nat → Nat → Nat) (cy : Nat → ClassId) (L : List Nat) (kap : Nat → Nat) (pr : Pr) (S : Nat → va_E) (sz : Nat) (o : Nat) (ga : Nat) (gb : Nat) (am : Int32) (kd : Nat) (hTy : Ty cy L kap pr S) (hT_o : TK L kap o 12) (hb_ga : ga < 8) (hb_gb : gb < 8) (hb_kd : kd < 4) (nn : Nat) (hn : mny S o nn) (h40 : nn < 40) (hdg : dg (fld S o 0)) (hab : ga ≠ gb) : Met l yX12_adds (wT yX12_adds cX12_adds 6 none) ({ frames := 0, cells := 0, slots := 0, locals := 0 }) (pcN dC dI [.ref o, .int (nI ga), .int (nI gb), .int am, .int (nI kd)] sz (va_pl L S) (cyT cy) NLs []) (va_Qv (fun S' => Ty cy L kap pr S' ∧ Fr kap [50] S S' ∧ (mny S' o (nn + 1) ∧ dg (fld S' o 0))) (fun S' t => pB dC dI (AL L sz) (va_pl L S') (cyT cy) t) (AL L sz)) 0 0 (AL L sz) := by
  refine Met.ofW (cc := cX12_adds) (maxL := 6) (ret := none) (by decide) rfl ?_
  intro p e s m args below meth c s₁ B hml hv
  obtain ⟨rfl, hsz, hP, hK, hD0, hN, -⟩ := hv
  have hx := B.exec
  have hb := B.bytes
  have hr := B.returns
  have hT : ∀ wd ∈ TB, wd.before [.ref o, .int (nI ga), .int (nI gb), .int am, .int (nI kd)].toArray s = true := fun wd h => atoms_spec (ws := wT yX12_adds cX12_adds 6 none) B.pre wd (List.mem_cons_of_mem _ h)
  have hown : s.vm.findClass RX12 = some m.cls := findClass_of_methodNamed B.named
  have hlocks := B.notSynchronized
  subst hsz
  have hW : PW dC dI L (AL L s.heap.size) s.heap S s.heap [] := ⟨hP, pl_self hD0, va_S.rf⟩
  have hA0 : ∀ q, q ∈ L → AL L s.heap.size q := fun _ h => Or.inl h
  have hA : ∀ q, s.heap.size ≤ q → AL L s.heap.size q := fun _ h => Or.inr h
  have hFr : Fr kap [50] S S := Fr.rf
  have hl := lv_entry ([.ref o, .int (nI ga), .int (nI gb), .int am, .int (nI kd)]) (n := 6) (Nat.le_of_ble_eq_true rfl)
  rw [lg_entry_eq]
  generalize (lg_sl ([.ref o, .int (nI ga), .int (nI gb), .int am, .int (nI kd)]) ++ List.replicate (6 - (lg_sl ([.ref o, .int (nI ga), .int (nI gb), .int am, .int (nI kd)])).length) Slot.unset).toArray = ls at hl ⊢
  have hl : lv_has ls 6 [(0, .ref o), (1, .int (nI ga)), (2, .int (nI gb)), (3, .int am), (4, .int (nI kd))] := hl
  obtain ⟨x_1, x_2, x_3, x_4, x_5, x_6, x_7, x_8, x_9, x_10, x_11, x_12, x_13, x_14, x_15, x_16, x_17, x_18, x_19, x_20, x_21, x_22, x_23, x_24, x_25, x_26, x_27, x_28, x_29, x_30, x_31, hS_o, hT_x_1, hT_x_2, hT_x_3, hT_x_4, hT_x_5, hb_x_6, hb_x_7, hb_x_8, hT_x_10, hb_q2, hb_x_11, hb_x_12, hT_x_17, hT_x_18, hb_x_19, hT_x_20, hT_x_21, hT_x_22, hT_x_23, hT_x_24, hT_x_25, hT_x_26, hT_x_27, hT_x_28, hT_x_29, hT_x_30, hb_x_31⟩ := hTy.k12 hT_o
  have hb_q2 : pr.2 ≤ 900 := hb_q2
  have hS_o : S o = .inr (12, [.ref x_1, .ref x_2, .ref x_3, .ref x_4, .ref x_5, .int (nI x_6), .int (nI x_7), .int (nI x_8), .int x_9, .ref x_10, .int (nI (pr.2)), .int (nI x_11), .int (nI x_12), .int x_13, .int x_14, .int x_15, .int x_16, .ref x_17, .ref x_18, .int (nI x_19), .ref x_20, .ref x_21, .ref x_22, .ref x_23, .ref x_24, .ref x_25, .ref x_26, .ref x_27, .ref x_28, .ref x_29, .ref x_30, .int (nI x_31)]) := hS_o
  obtain ⟨f_32, hS_x_1, hi_f_32⟩ := hTy.k50 hT_x_1
  have h0_ : f_32 0 = nI nn := mnye hn hS_o rfl hS_x_1
  have hdg_ : dg f_32 := by have q := hdg; rw [fld_i hS_o rfl hS_x_1] at q; exact q
  have h0g_ := h0_
  refine lv_iconst (v := 2) hx hb dX12_adds_0 (by decide) ?_
  refine lv_iconst (v := 5) hx hb dX12_adds_1 (by decide) ?_
  refine lv_aload_n hx hb dX12_adds_2 rfl (lv_at hl 0 rfl) ?_
  refine pl_get (ci := 12) (v := .ref x_1) (C := RX12) (T := TX12) (N := 32) hx hb hT iX12 hown hK hW hT_o.1 hS_o rfl 0 (by decide) w1082 rfl dX12_adds_3 ?_
  refine lv_iconst (v := 0) hx hb dX12_adds_6 (by decide) ?_
  refine pl_iald hx hb hK hW hT_x_1.1 hS_x_1 (vp_in_nI (n := 0) (N := 266) (by omega) (by omega)) dX12_adds_7 ?_
  refine lv_topi (fun y_33 ey_33 => ?_)
  obtain rfl : y_33 = nI nn := ey_33.trans h0_
  refine lv_imul hx hb dX12_adds_8 ?_
  refine lv_topi (fun z_34 ez_34 => ?_)
  obtain rfl : z_34 = nI (5 * nn) := ez_34.trans (pk_mul (5) (nn))
  refine lv_iadd hx hb dX12_adds_9 ?_
  refine lv_topi (fun z_35 ez_35 => ?_)
  obtain rfl : z_35 = nI (2 + (5 * nn)) := ez_35.trans (nI_add (2) (5 * nn))
  refine lv_istore (lv' := [(5, .int (nI (2 + (5 * nn)))), (0, .ref o), (1, .int (nI ga)), (2, .int (nI gb)), (3, .int am), (4, .int (nI kd))]) hx hb dX12_adds_10 hl (by decide) rfl (fun ls hl => ?_)
  refine lv_aload_n hx hb dX12_adds_12 rfl (lv_at hl 1 rfl) ?_
  refine pl_get (ci := 12) (v := .ref x_1) (C := RX12) (T := TX12) (N := 32) hx hb hT iX12 hown hK hW hT_o.1 hS_o rfl 0 (by decide) w1082 rfl dX12_adds_13 ?_
  refine lv_iload hx hb dX12_adds_16 (lv_at hl 0 rfl) ?_
  refine lv_iload_n hx hb dX12_adds_18 rfl (lv_at hl 2 rfl) ?_
  refine pl_iast hx hb hK hW hT_x_1.1 hS_x_1 (vp_in_nI (n := 2 + (5 * nn)) (N := 266) (by omega) (by omega)) dX12_adds_19 (fun H locs f_37 S_36 ef_f_37 e1 hW => ?_)
  have hok_ : okS (2 + (5 * nn)) (nI (ga)) := (okS_n (by omega) (by omega) (by omega))
  have hi_f_37 := okS_up (i := 2 + (5 * nn)) (by omega) hi_f_32 ef_f_37 hok_
  have hTy := hTy.u50 e1 hT_x_1 ⟨f_37, rfl, hi_f_37⟩
  have hS_o := un e1 hT_o hT_x_1 (by decide) hS_o
  have hFr := uf hFr e1 hT_x_1 (by decide) (by decide)
  have hS_x_1 := us e1
  have h0_ : f_37 0 = nI nn := up0 (i := 2 + (5 * nn)) (by omega) (by omega) h0_ ef_f_37
  refine lv_aload_n hx hb dX12_adds_20 rfl (lv_at hl 1 rfl) ?_
  refine pl_get (ci := 12) (v := .ref x_1) (C := RX12) (T := TX12) (N := 32) hx hb hT iX12 hown hK hW hT_o.1 hS_o rfl 0 (by decide) w1082 rfl dX12_adds_21 ?_
  refine lv_iload hx hb dX12_adds_24 (lv_at hl 0 rfl) ?_
  refine lv_iconst (v := 1) hx hb dX12_adds_26 (by decide) ?_
  refine lv_iadd hx hb dX12_adds_27 ?_
  refine lv_topi (fun z_38 ez_38 => ?_)
  obtain rfl : z_38 = nI ((2 + (5 * nn)) + 1) := ez_38.trans (nI_add (2 + (5 * nn)) (1))
  refine lv_iload_n hx hb dX12_adds_28 rfl (lv_at hl 3 rfl) ?_
  refine pl_iast hx hb hK hW hT_x_1.1 hS_x_1 (vp_in_nI (n := (2 + (5 * nn)) + 1) (N := 266) (by omega) (by omega)) dX12_adds_29 (fun H locs f_40 S_39 ef_f_40 e1 hW => ?_)
  have hok_ : okS ((2 + (5 * nn)) + 1) (nI (gb)) := (okS_n (by omega) (by omega) (by omega))
  have hi_f_40 := okS_up (i := (2 + (5 * nn)) + 1) (by omega) hi_f_37 ef_f_40 hok_
  have hTy := hTy.u50 e1 hT_x_1 ⟨f_40, rfl, hi_f_40⟩
  have hS_o := un e1 hT_o hT_x_1 (by decide) hS_o
  have hFr := uf hFr e1 hT_x_1 (by decide) (by decide)
  have hS_x_1 := us e1
  have h0_ : f_40 0 = nI nn := up0 (i := (2 + (5 * nn)) + 1) (by omega) (by omega) h0_ ef_f_40
  refine lv_aload_n hx hb dX12_adds_30 rfl (lv_at hl 1 rfl) ?_
  refine pl_get (ci := 12) (v := .ref x_1) (C := RX12) (T := TX12) (N := 32) hx hb hT iX12 hown hK hW hT_o.1 hS_o rfl 0 (by decide) w1082 rfl dX12_adds_31 ?_
  refine lv_iload hx hb dX12_adds_34 (lv_at hl 0 rfl) ?_
  refine lv_iconst (v := 2) hx hb dX12_adds_36 (by decide) ?_
  refine lv_iadd hx hb dX12_adds_37 ?_
  refine lv_topi (fun z_41 ez_41 => ?_)
  obtain rfl : z_41 = nI ((2 + (5 * nn)) + 2) := ez_41.trans (nI_add (2 + (5 * nn)) (2))
  refine lv_iload_n hx hb dX12_adds_38 rfl (lv_at hl 4 rfl) ?_
  refine pl_iast hx hb hK hW hT_x_1.1 hS_x_1 (vp_in_nI (n := (2 + (5 * nn)) + 2) (N := 266) (by omega) (by omega)) dX12_adds_39 (fun H locs f_43 S_42 ef_f_43 e1 hW => ?_)
  have hi_f_43 := okS_up (i := (2 + (5 * nn)) + 2) (by omega) hi_f_40 ef_f_43 (okS_any (by omega))
  have hTy := hTy.u50 e1 hT_x_1 ⟨f_43, rfl, hi_f_43⟩
  have hS_o := un e1 hT_o hT_x_1 (by decide) hS_o
  have hFr := uf hFr e1 hT_x_1 (by decide) (by decide)
  have hS_x_1 := us e1
  have h0_ : f_43 0 = nI nn := up0 (i := (2 + (5 * nn)) + 2) (by omega) (by omega) h0_ ef_f_43
  refine lv_aload_n hx hb dX12_adds_40 rfl (lv_at hl 1 rfl) ?_
  refine pl_get (ci := 12) (v := .ref x_1) (C := RX12) (T := TX12) (N := 32) hx hb hT iX12 hown hK hW hT_o.1 hS_o rfl 0 (by decide) w1082 rfl dX12_adds_41 ?_
  refine lv_iload hx hb dX12_adds_44 (lv_at hl 0 rfl) ?_
  refine lv_iconst (v := 3) hx hb dX12_adds_46 (by decide) ?_
  refine lv_iadd hx hb dX12_adds_47 ?_
  refine lv_topi (fun z_44 ez_44 => ?_)
  obtain rfl : z_44 = nI ((2 + (5 * nn)) + 3) := ez_44.trans (nI_add (2 + (5 * nn)) (3))
  refine lv_iload hx hb dX12_adds_48 (lv_at hl 5 rfl) ?_
  refine pl_iast hx hb hK hW hT_x_1.1 hS_x_1 (vp_in_nI (n := (2 + (5 * nn)) + 3) (N := 266) (by omega) (by omega)) dX12_adds_50 (fun H locs f_46 S_45 ef_f_46 e1 hW => ?_)
  have hok_ : okS ((2 + (5 * nn)) + 3) (nI (kd)) := (okS_n (by omega) (by omega) (by omega))
  have hi_f_46 := okS_up (i := (2 + (5 * nn)) + 3) (by omega) hi_f_43 ef_f_46 hok_
  have hTy := hTy.u50 e1 hT_x_1 ⟨f_46, rfl, hi_f_46⟩
  have hS_o := un e1 hT_o hT_x_1 (by decide) hS_o
  have hFr := uf hFr e1 hT_x_1 (by decide) (by decide)
  have hS_x_1 := us e1
  have h0_ : f_46 0 = nI nn := up0 (i := (2 + (5 * nn)) + 3) (by omega) (by omega) h0_ ef_f_46
  refine lv_aload_n hx hb dX12_adds_51 rfl (lv_at hl 1 rfl) ?_
  refine pl_get (ci := 12) (v := .ref x_1) (C := RX12) (T := TX12) (N := 32) hx hb hT iX12 hown hK hW hT_o.1 hS_o rfl 0 (by decide) w1082 rfl dX12_adds_52 ?_
  refine lv_iload hx hb dX12_adds_55 (lv_at hl 0 rfl) ?_
  refine lv_iconst (v := 4) hx hb dX12_adds_57 (by decide) ?_
  refine lv_iadd hx hb dX12_adds_58 ?_
  refine lv_topi (fun z_47 ez_47 => ?_)
  obtain rfl : z_47 = nI ((2 + (5 * nn)) + 4) := ez_47.trans (nI_add (2 + (5 * nn)) (4))
  refine lv_iconst (v := 0) hx hb dX12_adds_59 (by decide) ?_
  refine pl_iast hx hb hK hW hT_x_1.1 hS_x_1 (vp_in_nI (n := (2 + (5 * nn)) + 4) (N := 266) (by omega) (by omega)) dX12_adds_60 (fun H locs f_49 S_48 ef_f_49 e1 hW => ?_)
  have hok_ : okS ((2 + (5 * nn)) + 4) (nI (0)) := (okS_n (by omega) (by omega) (by omega))
  have hi_f_49 := okS_up (i := (2 + (5 * nn)) + 4) (by omega) hi_f_46 ef_f_49 hok_
  have hTy := hTy.u50 e1 hT_x_1 ⟨f_49, rfl, hi_f_49⟩
  have hS_o := un e1 hT_o hT_x_1 (by decide) hS_o
  have hFr := uf hFr e1 hT_x_1 (by decide) (by decide)
  have hS_x_1 := us e1
  have h0_ : f_49 0 = nI nn := up0 (i := (2 + (5 * nn)) + 4) (by omega) (by omega) h0_ ef_f_49
  refine lv_aload_n hx hb dX12_adds_61 rfl (lv_at hl 1 rfl) ?_
  refine pl_get (ci := 12) (v := .ref x_1) (C := RX12) (T := TX12) (N := 32) hx hb hT iX12 hown hK hW hT_o.1 hS_o rfl 0 (by decide) w1082 rfl dX12_adds_62 ?_
  refine lv_iconst (v := 0) hx hb dX12_adds_65 (by decide) ?_
  refine lv_dup2_11 hx hb dX12_adds_66 rfl rfl ?_
  refine pl_iald hx hb hK hW hT_x_1.1 hS_x_1 (vp_in_nI (n := 0) (N := 266) (by omega) (by omega)) dX12_adds_67 ?_
  refine lv_topi (fun y_50 ey_50 => ?_)
  obtain rfl : y_50 = nI nn := ey_50.trans h0_
  refine lv_iconst (v := 1) hx hb dX12_adds_68 (by decide) ?_
  refine lv_iadd hx hb dX12_adds_69 ?_
  refine lv_topi (fun z_51 ez_51 => ?_)
  obtain rfl : z_51 = nI (nn + 1) := ez_51.trans (nI_add (nn) (1))
  refine pl_iast hx hb hK hW hT_x_1.1 hS_x_1 (vp_in_nI (n := 0) (N := 266) (by omega) (by omega)) dX12_adds_70 (fun H locs f_53 S_52 ef_f_53 e1 hW => ?_)
  have hok_ : okS 0 (nI (nn + 1)) := (okS_n (by omega) (by omega) (by omega))
  have hi_f_53 := okS_up (i := 0) (by omega) hi_f_49 ef_f_53 hok_
  have hTy := hTy.u50 e1 hT_x_1 ⟨f_53, rfl, hi_f_53⟩
  have hS_o := un e1 hT_o hT_x_1 (by decide) hS_o
  have hFr := uf hFr e1 hT_x_1 (by decide) (by decide)
  have hS_x_1 := us e1
  have h0_ : f_53 0 = nI (nn + 1) := up00 ef_f_53
  exact W.vret hx hb hr (fun t ht h9 => ⟨⟨S_52, rfl, ⟨hTy, hFr, ⟨(mnyi hS_o rfl hS_x_1 h0_), by rw [fld_i hS_o rfl hS_x_1]; exact dg_adds ef_f_37 ef_f_40 ef_f_43 ef_f_46 ef_f_49 h0_ (fun j hj => by rw [ef_f_53]; exact pk_un (fun q => by rw [q] at hj; exact absurd hj (by decide))) (by omega) (by omega) (by omega) (by omega) (by omega) hdg_ h0g_ (by omega) (by omega) (by omega) hab⟩⟩, by rw [ht]; exact hW.1, va_K.moved h9.alike hK, hW.2.1⟩, hW.2.2.F ht⟩) hW.2.2.2.2 dX12_adds_71

set_option maxHeartbeats 4000000 in
set_option maxRecDepth 100000 in
theorem m_goes (l : Launch) (dC : Nat → ClassId) (dI : Nat → Nat → Nat) (cy : Nat → ClassId) (L : List Nat) (kap : Nat → Nat) (pr : Pr) (S : Nat → va_E) (sz : Nat) (o : Nat) (t : Nat) (hTy : Ty cy L kap pr S) (hT_o : TK L kap o 12) (hb_t : t < 40) (nn : Nat) (hn : mny S o nn) (hlt : t < nn) (h40 : nn ≤ 40) (hdg : dg (fld S o 0)) : Met l yX12_goes (wT yX12_goes cX12_goes 3 none) ({ frames := 0, cells := 0, slots := 0, locals := 0 }) (pcN dC dI [.ref o, .int (nI t)] sz (va_pl L S) (cyT cy) NLs []) (va_Qv (fun S' => Ty cy L kap pr S' ∧ Fr kap [50] S S' ∧ (mny S' o (nn - 1) ∧ (∀ j, 1 ≤ j → j < 2 + 5 * t → af (S' (rf (S' o) 0)) j = af (S (rf (S o) 0)) j) ∧ dg (fld S' o 0))) (fun S' t => pB dC dI (AL L sz) (va_pl L S') (cyT cy) t) (AL L sz)) 0 0 (AL L sz) := by
  refine Met.ofW (cc := cX12_goes) (maxL := 3) (ret := none) (by decide) rfl ?_
  intro p e s m args below meth c s₁ B hml hv
  obtain ⟨rfl, hsz, hP, hK, hD0, hN, -⟩ := hv
  have hx := B.exec
  have hb := B.bytes
  have hr := B.returns
  have hT : ∀ wd ∈ TB, wd.before [.ref o, .int (nI t)].toArray s = true := fun wd h => atoms_spec (ws := wT yX12_goes cX12_goes 3 none) B.pre wd (List.mem_cons_of_mem _ h)
  have hown : s.vm.findClass RX12 = some m.cls := findClass_of_methodNamed B.named
  have hlocks := B.notSynchronized
  subst hsz
  have hW : PW dC dI L (AL L s.heap.size) s.heap S s.heap [] := ⟨hP, pl_self hD0, va_S.rf⟩
  have hA0 : ∀ q, q ∈ L → AL L s.heap.size q := fun _ h => Or.inl h
  have hA : ∀ q, s.heap.size ≤ q → AL L s.heap.size q := fun _ h => Or.inr h
  have hFr : Fr kap [50] S S := Fr.rf
  have hl := lv_entry ([.ref o, .int (nI t)]) (n := 3) (Nat.le_of_ble_eq_true rfl)
  rw [lg_entry_eq]
  generalize (lg_sl ([.ref o, .int (nI t)]) ++ List.replicate (3 - (lg_sl ([.ref o, .int (nI t)])).length) Slot.unset).toArray = ls at hl ⊢
  have hl : lv_has ls 3 [(0, .ref o), (1, .int (nI t))] := hl
  obtain ⟨x_1, x_2, x_3, x_4, x_5, x_6, x_7, x_8, x_9, x_10, x_11, x_12, x_13, x_14, x_15, x_16, x_17, x_18, x_19, x_20, x_21, x_22, x_23, x_24, x_25, x_26, x_27, x_28, x_29, x_30, x_31, hS_o, hT_x_1, hT_x_2, hT_x_3, hT_x_4, hT_x_5, hb_x_6, hb_x_7, hb_x_8, hT_x_10, hb_q2, hb_x_11, hb_x_12, hT_x_17, hT_x_18, hb_x_19, hT_x_20, hT_x_21, hT_x_22, hT_x_23, hT_x_24, hT_x_25, hT_x_26, hT_x_27, hT_x_28, hT_x_29, hT_x_30, hb_x_31⟩ := hTy.k12 hT_o
  have hb_q2 : pr.2 ≤ 900 := hb_q2
  have hS_o : S o = .inr (12, [.ref x_1, .ref x_2, .ref x_3, .ref x_4, .ref x_5, .int (nI x_6), .int (nI x_7), .int (nI x_8), .int x_9, .ref x_10, .int (nI (pr.2)), .int (nI x_11), .int (nI x_12), .int x_13, .int x_14, .int x_15, .int x_16, .ref x_17, .ref x_18, .int (nI x_19), .ref x_20, .ref x_21, .ref x_22, .ref x_23, .ref x_24, .ref x_25, .ref x_26, .ref x_27, .ref x_28, .ref x_29, .ref x_30, .int (nI x_31)]) := hS_o
  obtain ⟨f_32, hS_x_1, hi_f_32⟩ := hTy.k50 hT_x_1
  have h0_ : f_32 0 = nI nn := mnye hn hS_o rfl hS_x_1
  obtain ⟨fb0, hfb0⟩ : ∃ g : Nat → Int32, g = f_32 := ⟨_, rfl⟩
  have hfbS : fld S o 0 = fb0 := by rw [fld_i hS_o rfl hS_x_1, hfb0]
  have hfb00 : fb0 0 = nI nn := by rw [hfb0]; exact h0_
  refine lv_aload_n hx hb dX12_goes_0 rfl (lv_at hl 0 rfl) ?_
  refine pl_get (ci := 12) (v := .ref x_1) (C := RX12) (T := TX12) (N := 32) hx hb hT iX12 hown hK hW hT_o.1 hS_o rfl 0 (by decide) w1082 rfl dX12_goes_1 ?_
  refine lv_iconst (v := 0) hx hb dX12_goes_4 (by decide) ?_
  refine lv_dup2_11 hx hb dX12_goes_5 rfl rfl ?_
  refine pl_iald hx hb hK hW hT_x_1.1 hS_x_1 (vp_in_nI (n := 0) (N := 266) (by omega) (by omega)) dX12_goes_6 ?_
  refine lv_topi (fun y_33 ey_33 => ?_)
  obtain rfl : y_33 = nI nn := ey_33.trans h0_
  refine lv_iconst (v := 1) hx hb dX12_goes_7 (by decide) ?_
  refine lv_isub hx hb dX12_goes_8 ?_
  refine lv_topi (fun z_34 ez_34 => ?_)
  obtain rfl : z_34 = nI (nn - 1) := ez_34.trans (pk_sub (a := nn) (b := 1) (by omega))
  refine pl_iast hx hb hK hW hT_x_1.1 hS_x_1 (vp_in_nI (n := 0) (N := 266) (by omega) (by omega)) dX12_goes_9 (fun H locs f_36 S_35 ef_f_36 e1 hW => ?_)
  have hok_ : okS 0 (nI (nn - 1)) := (okS_n (by omega) (by omega) (by omega))
  have hi_f_36 := okS_up (i := 0) (by omega) hi_f_32 ef_f_36 hok_
  have hTy := hTy.u50 e1 hT_x_1 ⟨f_36, rfl, hi_f_36⟩
  have hS_o := un e1 hT_o hT_x_1 (by decide) hS_o
  have hFr := uf hFr e1 hT_x_1 (by decide) (by decide)
  have hS_x_1 := us e1
  have h0_ : f_36 0 = nI (nn - 1) := up00 ef_f_36
  have hbl : ∀ j, 1 ≤ j → f_36 j = gsh fb0 (2 + 5 * t) (2 + 5 * t) j := fun j h1 => by rw [ef_f_36, hfb0]; exact (pk_un (fun q => by rw [q] at h1; exact absurd h1 (by decide))).trans (if_neg (by omega)).symm
  refine lv_iconst (v := 2) hx hb dX12_goes_10 (by decide) ?_
  refine lv_iconst (v := 5) hx hb dX12_goes_11 (by decide) ?_
  refine lv_iload_n hx hb dX12_goes_12 rfl (lv_at hl 1 rfl) ?_
  refine lv_imul hx hb dX12_goes_13 ?_
  refine lv_topi (fun z_37 ez_37 => ?_)
  obtain rfl : z_37 = nI (5 * t) := ez_37.trans (pk_mul (5) (t))
  refine lv_iadd hx hb dX12_goes_14 ?_
  refine lv_topi (fun z_38 ez_38 => ?_)
  obtain rfl : z_38 = nI (2 + (5 * t)) := ez_38.trans (nI_add (2) (5 * t))
  refine lv_istore_n (lv' := [(2, .int (nI (2 + (5 * t)))), (0, .ref o), (1, .int (nI t))]) hx hb dX12_goes_15 rfl hl (by decide) rfl (fun ls hl => ?_)
  have loop : ∀ (fuel : Nat) (i : Nat) (SS : Nat → va_E) (H : Heap) (locs : List Loc) (ls : Array Slot), 203 - i < fuel → (i ≤ 202) → (2 + 5 * t ≤ i) → (i ≤ 2 + 5 * (nn - 1)) → (af (SS x_1) 0 = nI (nn - 1)) → (∀ j, 1 ≤ j → af (SS x_1) j = gsh fb0 (2 + 5 * t) i j) → Ty cy L kap pr SS → Fr kap [50] S SS → Fr kap [50] S_35 SS → PW dC dI L (AL L s.heap.size) s.heap SS H locs → lv_has ls 3 [(2, .int (nI i)), (0, .ref o), (1, .int (nI t))] → W p l e (headSpec (wT yX12_goes cX12_goes 3 none) { frames := 0, cells := 0, slots := 0, locals := 0 }).room s m [.ref o, .int (nI t)].toArray below meth c H locs 0 0 (MQ below (va_Qv (fun S' => Ty cy L kap pr S' ∧ Fr kap [50] S S' ∧ (mny S' o (nn - 1) ∧ (∀ j, 1 ≤ j → j < 2 + 5 * t → af (S' (rf (S' o) 0)) j = af (S (rf (S o) 0)) j) ∧ dg (fld S' o 0))) (fun S' t => pB dC dI (AL L s.heap.size) (va_pl L S') (cyT cy) t) (AL L s.heap.size)) [.ref o, .int (nI t)].toArray s 0 0 (AL L s.heap.size)) (F0 m 16 ls []) := by
    intro fuel
    induction fuel with
    | zero => intro i SS H locs ls h; exact absurd h (Nat.not_lt_zero _)
    | succ fu16 ih16 =>
      intro i S_39 H locs ls hm16 hb_i hi2 hi3 hgm hgb hTy hFr hFl16 hW hl
      have hS_o := hFl16.at hT_o (by decide) hS_o
      obtain ⟨f_40, hS_x_1, hi_f_40⟩ := hTy.k50 hT_x_1
      have h0_ : f_40 0 = nI (nn - 1) := by rw [← af_i hS_x_1]; exact hgm
      have hbl := fun j h1 => (congrFun (af_i hS_x_1).symm j).trans (hgb j h1)
      refine lv_iload_n hx hb dX12_goes_16 rfl (lv_at hl 0 rfl) ?_
      refine lv_iconst (v := 2) hx hb dX12_goes_17 (by decide) ?_
      refine lv_iconst (v := 5) hx hb dX12_goes_18 (by decide) ?_
      refine lv_aload_n hx hb dX12_goes_19 rfl (lv_at hl 1 rfl) ?_
      refine pl_get (ci := 12) (v := .ref x_1) (C := RX12) (T := TX12) (N := 32) hx hb hT iX12 hown hK hW hT_o.1 hS_o rfl 0 (by decide) w1082 rfl dX12_goes_20 ?_
      refine lv_iconst (v := 0) hx hb dX12_goes_23 (by decide) ?_
      refine pl_iald hx hb hK hW hT_x_1.1 hS_x_1 (vp_in_nI (n := 0) (N := 266) (by omega) (by omega)) dX12_goes_24 ?_
      refine lv_topi (fun y_41 ey_41 => ?_)
      obtain rfl : y_41 = nI (nn - 1) := ey_41.trans h0_
      refine lv_imul hx hb dX12_goes_25 ?_
      refine lv_topi (fun z_42 ez_42 => ?_)
      obtain rfl : z_42 = nI (5 * (nn - 1)) := ez_42.trans (pk_mul (5) (nn - 1))
      refine lv_iadd hx hb dX12_goes_26 ?_
      refine lv_topi (fun z_43 ez_43 => ?_)
      obtain rfl : z_43 = nI (2 + (5 * (nn - 1))) := ez_43.trans (nI_add (2) (5 * (nn - 1)))
      refine lv_icmp_ge (tgt := 50) hx hb dX12_goes_27 (by decide) (fun c_27 => ?_) (fun c_27 => ?_)
      · have c_27 : (2 + (5 * (nn - 1))) ≤ i := (nI_leI (a := 2 + (5 * (nn - 1))) (b := i) (by omega) (by omega)).mp c_27
        exact W.vret hx hb hr (fun t ht h9 => ⟨⟨S_39, rfl, ⟨hTy, hFr, ⟨(mnyi hS_o rfl hS_x_1 h0_), fun j h1 h2 => by show fld _ o 0 j = fld S o 0 j; rw [hfbS, fld_i hS_o rfl hS_x_1]; exact (hbl j h1).trans (gsh_b h2), by rw [fld_i hS_o rfl hS_x_1]; exact dg_goes (by rw [hfbS] at hdg; exact hdg) hfb00 h40 h0_ hlt (by omega) hbl⟩⟩, by rw [ht]; exact hW.1, va_K.moved h9.alike hK, hW.2.1⟩, hW.2.2.F ht⟩) hW.2.2.2.2 dX12_goes_50
      · have c_27 : ¬ ((2 + (5 * (nn - 1))) ≤ i) := fun hh9 => c_27 ((nI_leI (a := 2 + (5 * (nn - 1))) (b := i) (by omega) (by omega)).mpr hh9)
        refine lv_aload_n hx hb dX12_goes_30 rfl (lv_at hl 1 rfl) ?_
        refine pl_get (ci := 12) (v := .ref x_1) (C := RX12) (T := TX12) (N := 32) hx hb hT iX12 hown hK hW hT_o.1 hS_o rfl 0 (by decide) w1082 rfl dX12_goes_31 ?_
        refine lv_iload_n hx hb dX12_goes_34 rfl (lv_at hl 0 rfl) ?_
        refine lv_aload_n hx hb dX12_goes_35 rfl (lv_at hl 1 rfl) ?_
        refine pl_get (ci := 12) (v := .ref x_1) (C := RX12) (T := TX12) (N := 32) hx hb hT iX12 hown hK hW hT_o.1 hS_o rfl 0 (by decide) w1082 rfl dX12_goes_36 ?_
        refine lv_iload_n hx hb dX12_goes_39 rfl (lv_at hl 0 rfl) ?_
        refine lv_iconst (v := 5) hx hb dX12_goes_40 (by decide) ?_
        refine lv_iadd hx hb dX12_goes_41 ?_
        refine lv_topi (fun z_44 ez_44 => ?_)
        obtain rfl : z_44 = nI (i + 5) := ez_44.trans (nI_add (i) (5))
        refine pl_iald hx hb hK hW hT_x_1.1 hS_x_1 (vp_in_nI (n := i + 5) (N := 266) (by omega) (by omega)) dX12_goes_42 ?_
        refine lv_topi (fun y_45 ey_45 => ?_)
        have hv_y_45 : okS (i + 5) y_45 := by rw [ey_45]; show okS _ (f_40 (nI (i + 5)).toNatClampNeg); rw [nI_clamp (by omega)]; exact hi_f_40 (i + 5) (by omega)
        refine pl_iast hx hb hK hW hT_x_1.1 hS_x_1 (vp_in_nI (n := i) (N := 266) (by omega) (by omega)) dX12_goes_43 (fun H locs f_47 S_46 ef_f_47 e1 hW => ?_)
        have hi_f_47 := okS_up (i := i) (by omega) hi_f_40 ef_f_47 (okS_5 hv_y_45 (by omega) (by omega))
        have hTy := hTy.u50 e1 hT_x_1 ⟨f_47, rfl, hi_f_47⟩
        have hS_o := un e1 hT_o hT_x_1 (by decide) hS_o
        have hFr := uf hFr e1 hT_x_1 (by decide) (by decide)
        have hFl16 := uf hFl16 e1 hT_x_1 (by decide) (by decide)
        have hS_x_1 := us e1
        have h0_ : f_47 0 = nI (nn - 1) := up0 (i := i) (by omega) (by omega) h0_ ef_f_47
        have hbl := gsh_up hbl ey_45 (by omega) ef_f_47 (by omega) (by omega) (by omega)
        refine lv_iinc (v := nI (i + 1)) (lv' := [(2, .int (nI (i + 1))), (0, .ref o), (1, .int (nI t))]) hx hb dX12_goes_44 hl (k := 0) rfl (nI_add (i) 1) (by decide) rfl (fun ls hl => ?_)
        refine lv_goto (tgt := 16) hx hb dX12_goes_47 (by decide) ?_
        exact ih16 (i + 1) _ _ _ ls (by omega) (by omega) (by omega) (by omega) (by rw [af_i hS_x_1]; exact h0_) (by rw [af_i hS_x_1]; exact hbl) hTy hFr hFl16 hW (lv_sub hl [0, 1, 2] rfl)
  exact loop ((203 - (2 + (5 * t))) + 1) (2 + (5 * t)) _ _ _ ls (Nat.lt_succ_self _) (by omega) (by omega) (by omega) (by rw [af_i hS_x_1]; exact h0_) (by rw [af_i hS_x_1]; exact hbl) hTy hFr Fr.rf hW (lv_sub hl [0, 1, 2] rfl)

