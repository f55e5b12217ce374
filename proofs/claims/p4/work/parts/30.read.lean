theorem w14 : (.initialized RX12 : Cond) ∈ TB := mTB (List.mem_of_getElem? (i := 14) (by decide +kernel)) (by decide +kernel)
theorem w1082 : (.fieldLink RX12 13 "SwapPressModel" "s" "[I" : Cond) ∈ TB := mTB (List.mem_of_getElem? (i := 1082) (by decide +kernel)) (by decide +kernel)
theorem w1085 : (.fieldLink RX12 23 "SwapPressModel" "names" "[J" : Cond) ∈ TB := mTB (List.mem_of_getElem? (i := 1085) (by decide +kernel)) (by decide +kernel)
theorem w1087 : (.fieldLink RX12 80 "SwapPressModel" "parties" "I" : Cond) ∈ TB := mTB (List.mem_of_getElem? (i := 1087) (by decide +kernel)) (by decide +kernel)
theorem w1088 : (.fieldLink RX12 83 "SwapPressModel" "kinds" "I" : Cond) ∈ TB := mTB (List.mem_of_getElem? (i := 1088) (by decide +kernel)) (by decide +kernel)
theorem w1091 : (.fieldLink RX12 30 "SwapPressModel" "tape" "[B" : Cond) ∈ TB := mTB (List.mem_of_getElem? (i := 1091) (by decide +kernel)) (by decide +kernel)
theorem w1093 : (.fieldLink RX12 93 "SwapPressModel" "size" "I" : Cond) ∈ TB := mTB (List.mem_of_getElem? (i := 1093) (by decide +kernel)) (by decide +kernel)
theorem w1094 : (.fieldLink RX12 90 "SwapPressModel" "spot" "I" : Cond) ∈ TB := mTB (List.mem_of_getElem? (i := 1094) (by decide +kernel)) (by decide +kernel)
theorem w1095 : (.fieldLink RX12 96 "SwapPressModel" "wrong" "I" : Cond) ∈ TB := mTB (List.mem_of_getElem? (i := 1095) (by decide +kernel)) (by decide +kernel)
theorem w1096 : (.fieldLink RX12 34 "SwapPressModel" "wrongAt" "I" : Cond) ∈ TB := mTB (List.mem_of_getElem? (i := 1096) (by decide +kernel)) (by decide +kernel)
theorem w1098 : (.fieldLink RX12 140 "SwapPressModel" "readAt" "I" : Cond) ∈ TB := mTB (List.mem_of_getElem? (i := 1098) (by decide +kernel)) (by decide +kernel)
theorem w1187 : (.methodLink RX12 103 yX12_isIn : Cond) ∈ TB := mTB (List.mem_of_getElem? (i := 1187) (by decide +kernel)) (by decide +kernel)
theorem w1188 : (.static yX12_isIn : Cond) ∈ TB := mTB (List.mem_of_getElem? (i := 1188) (by decide +kernel)) (by decide +kernel)
theorem w1189 : (.code yX12_isIn cX12_isIn 6 (some .boolean) : Cond) ∈ TB := mTB (List.mem_of_getElem? (i := 1189) (by decide +kernel)) (by decide +kernel)
theorem w1190 : (.methodLink RX12 115 yX12_peek : Cond) ∈ TB := mTB (List.mem_of_getElem? (i := 1190) (by decide +kernel)) (by decide +kernel)
theorem w1192 : (.instanceMethod yX12_peek : Cond) ∈ TB := mTB (List.mem_of_getElem? (i := 1192) (by decide +kernel)) (by decide +kernel)
theorem w1193 : (.code yX12_peek cX12_peek 1 (some .int) : Cond) ∈ TB := mTB (List.mem_of_getElem? (i := 1193) (by decide +kernel)) (by decide +kernel)
theorem w1198 : (.methodLink RX12 143 yX12_wordHere : Cond) ∈ TB := mTB (List.mem_of_getElem? (i := 1198) (by decide +kernel)) (by decide +kernel)
theorem w1200 : (.instanceMethod yX12_wordHere : Cond) ∈ TB := mTB (List.mem_of_getElem? (i := 1200) (by decide +kernel)) (by decide +kernel)
theorem w1201 : (.code yX12_wordHere cX12_wordHere 7 (some .int) : Cond) ∈ TB := mTB (List.mem_of_getElem? (i := 1201) (by decide +kernel)) (by decide +kernel)
theorem w1202 : (.methodLink RX12 111 yX12_isLetter : Cond) ∈ TB := mTB (List.mem_of_getElem? (i := 1202) (by decide +kernel)) (by decide +kernel)
theorem w1203 : (.static yX12_isLetter : Cond) ∈ TB := mTB (List.mem_of_getElem? (i := 1203) (by decide +kernel)) (by decide +kernel)
theorem w1204 : (.code yX12_isLetter cX12_isLetter 1 (some .boolean) : Cond) ∈ TB := mTB (List.mem_of_getElem? (i := 1204) (by decide +kernel)) (by decide +kernel)
theorem w1205 : (.constantLong RX12 99 97 : Cond) ∈ TB := mTB (List.mem_of_getElem? (i := 1205) (by decide +kernel)) (by decide +kernel)
theorem w1206 : (.constantLong RX12 101 122 : Cond) ∈ TB := mTB (List.mem_of_getElem? (i := 1206) (by decide +kernel)) (by decide +kernel)
theorem w1207 : (.methodLink RX12 119 yX12_lettersHere : Cond) ∈ TB := mTB (List.mem_of_getElem? (i := 1207) (by decide +kernel)) (by decide +kernel)
theorem w1209 : (.instanceMethod yX12_lettersHere : Cond) ∈ TB := mTB (List.mem_of_getElem? (i := 1209) (by decide +kernel)) (by decide +kernel)
theorem w1210 : (.code yX12_lettersHere cX12_lettersHere 2 (some .int) : Cond) ∈ TB := mTB (List.mem_of_getElem? (i := 1210) (by decide +kernel)) (by decide +kernel)
theorem w1212 : (.methodLink RX12 124 yJ0_length_8abf5 : Cond) ∈ TB := mTB (List.mem_of_getElem? (i := 1212) (by decide +kernel)) (by decide +kernel)
theorem w1213 : (.methodLink RX12 129 yJ0_charAt_5068e : Cond) ∈ TB := mTB (List.mem_of_getElem? (i := 1213) (by decide +kernel)) (by decide +kernel)
theorem w1214 : (.methodLink RX12 136 yX12_fails : Cond) ∈ TB := mTB (List.mem_of_getElem? (i := 1214) (by decide +kernel)) (by decide +kernel)
theorem w1216 : (.instanceMethod yX12_fails : Cond) ∈ TB := mTB (List.mem_of_getElem? (i := 1216) (by decide +kernel)) (by decide +kernel)
theorem w1217 : (.code yX12_fails cX12_fails 3 none : Cond) ∈ TB := mTB (List.mem_of_getElem? (i := 1217) (by decide +kernel)) (by decide +kernel)
theorem w1230 : (.methodLink RX12 146 yX12_nameRead : Cond) ∈ TB := mTB (List.mem_of_getElem? (i := 1230) (by decide +kernel)) (by decide +kernel)
theorem w1232 : (.instanceMethod yX12_nameRead : Cond) ∈ TB := mTB (List.mem_of_getElem? (i := 1232) (by decide +kernel)) (by decide +kernel)
theorem w1233 : (.code yX12_nameRead cX12_nameRead 5 (some .long) : Cond) ∈ TB := mTB (List.mem_of_getElem? (i := 1233) (by decide +kernel)) (by decide +kernel)
theorem w1234 : (.methodLink RX12 150 yX12_find : Cond) ∈ TB := mTB (List.mem_of_getElem? (i := 1234) (by decide +kernel)) (by decide +kernel)
theorem w1236 : (.instanceMethod yX12_find : Cond) ∈ TB := mTB (List.mem_of_getElem? (i := 1236) (by decide +kernel)) (by decide +kernel)
theorem w1237 : (.code yX12_find cX12_find 6 (some .int) : Cond) ∈ TB := mTB (List.mem_of_getElem? (i := 1237) (by decide +kernel)) (by decide +kernel)
theorem w1242 : (.methodLink RX12 133 yX12_isDigit : Cond) ∈ TB := mTB (List.mem_of_getElem? (i := 1242) (by decide +kernel)) (by decide +kernel)
theorem w1243 : (.static yX12_isDigit : Cond) ∈ TB := mTB (List.mem_of_getElem? (i := 1243) (by decide +kernel)) (by decide +kernel)
theorem w1244 : (.code yX12_isDigit cX12_isDigit 1 (some .boolean) : Cond) ∈ TB := mTB (List.mem_of_getElem? (i := 1244) (by decide +kernel)) (by decide +kernel)
theorem w1245 : (.constantLong RX12 107 48 : Cond) ∈ TB := mTB (List.mem_of_getElem? (i := 1245) (by decide +kernel)) (by decide +kernel)
theorem w1246 : (.constantLong RX12 109 57 : Cond) ∈ TB := mTB (List.mem_of_getElem? (i := 1246) (by decide +kernel)) (by decide +kernel)
theorem w1255 : (.methodLink RX12 154 yX12_partyRead : Cond) ∈ TB := mTB (List.mem_of_getElem? (i := 1255) (by decide +kernel)) (by decide +kernel)
theorem w1257 : (.instanceMethod yX12_partyRead : Cond) ∈ TB := mTB (List.mem_of_getElem? (i := 1257) (by decide +kernel)) (by decide +kernel)
theorem w1258 : (.code yX12_partyRead cX12_partyRead 2 (some .int) : Cond) ∈ TB := mTB (List.mem_of_getElem? (i := 1258) (by decide +kernel)) (by decide +kernel)
theorem ws55 : (.selects RX12 yX12_peek yX12_peek : Cond) ∈ TB := mSel (y := yX12_peek) (n := 32) (List.mem_of_getElem? (i := 55) (by decide +kernel)) (by decide +kernel)
theorem ws57 : (.selects RX12 yX12_wordHere yX12_wordHere : Cond) ∈ TB := mSel (y := yX12_wordHere) (n := 32) (List.mem_of_getElem? (i := 57) (by decide +kernel)) (by decide +kernel)
theorem ws58 : (.selects RX12 yX12_lettersHere yX12_lettersHere : Cond) ∈ TB := mSel (y := yX12_lettersHere) (n := 32) (List.mem_of_getElem? (i := 58) (by decide +kernel)) (by decide +kernel)
theorem ws59 : (.selects RX12 yX12_fails yX12_fails : Cond) ∈ TB := mSel (y := yX12_fails) (n := 32) (List.mem_of_getElem? (i := 59) (by decide +kernel)) (by decide +kernel)
theorem ws63 : (.selects RX12 yX12_nameRead yX12_nameRead : Cond) ∈ TB := mSel (y := yX12_nameRead) (n := 32) (List.mem_of_getElem? (i := 63) (by decide +kernel)) (by decide +kernel)
theorem ws64 : (.selects RX12 yX12_find yX12_find : Cond) ∈ TB := mSel (y := yX12_find) (n := 32) (List.mem_of_getElem? (i := 64) (by decide +kernel)) (by decide +kernel)
theorem ws68 : (.selects RX12 yX12_partyRead yX12_partyRead : Cond) ∈ TB := mSel (y := yX12_partyRead) (n := 32) (List.mem_of_getElem? (i := 68) (by decide +kernel)) (by decide +kernel)
theorem dX12_adds_0 : decode cX12_adds 0 = .ok (.iconst 2, 1) := by decide +kernel
theorem dX12_adds_1 : decode cX12_adds 1 = .ok (.iconst 5, 1) := by decide +kernel
theorem dX12_adds_2 : decode cX12_adds 2 = .ok (.aload_n 0, 1) := by decide +kernel
theorem dX12_adds_3 : decode cX12_adds 3 = .ok (.getfield 13, 3) := by decide +kernel
theorem dX12_adds_6 : decode cX12_adds 6 = .ok (.iconst 0, 1) := by decide +kernel
theorem dX12_adds_7 : decode cX12_adds 7 = .ok (.iaload, 1) := by decide +kernel
theorem dX12_adds_8 : decode cX12_adds 8 = .ok (.imul, 1) := by decide +kernel
theorem dX12_adds_9 : decode cX12_adds 9 = .ok (.iadd, 1) := by decide +kernel
theorem dX12_adds_10 : decode cX12_adds 10 = .ok (.istore 5, 2) := by decide +kernel
theorem dX12_adds_12 : decode cX12_adds 12 = .ok (.aload_n 0, 1) := by decide +kernel
theorem dX12_adds_13 : decode cX12_adds 13 = .ok (.getfield 13, 3) := by decide +kernel
theorem dX12_adds_16 : decode cX12_adds 16 = .ok (.iload 5, 2) := by decide +kernel
theorem dX12_adds_18 : decode cX12_adds 18 = .ok (.iload_n 1, 1) := by decide +kernel
theorem dX12_adds_19 : decode cX12_adds 19 = .ok (.iastore, 1) := by decide +kernel
theorem dX12_adds_20 : decode cX12_adds 20 = .ok (.aload_n 0, 1) := by decide +kernel
theorem dX12_adds_21 : decode cX12_adds 21 = .ok (.getfield 13, 3) := by decide +kernel
theorem dX12_adds_24 : decode cX12_adds 24 = .ok (.iload 5, 2) := by decide +kernel
theorem dX12_adds_26 : decode cX12_adds 26 = .ok (.iconst 1, 1) := by decide +kernel
theorem dX12_adds_27 : decode cX12_adds 27 = .ok (.iadd, 1) := by decide +kernel
theorem dX12_adds_28 : decode cX12_adds 28 = .ok (.iload_n 2, 1) := by decide +kernel
theorem dX12_adds_29 : decode cX12_adds 29 = .ok (.iastore, 1) := by decide +kernel
theorem dX12_adds_30 : decode cX12_adds 30 = .ok (.aload_n 0, 1) := by decide +kernel
theorem dX12_adds_31 : decode cX12_adds 31 = .ok (.getfield 13, 3) := by decide +kernel
theorem dX12_adds_34 : decode cX12_adds 34 = .ok (.iload 5, 2) := by decide +kernel
theorem dX12_adds_36 : decode cX12_adds 36 = .ok (.iconst 2, 1) := by decide +kernel
theorem dX12_adds_37 : decode cX12_adds 37 = .ok (.iadd, 1) := by decide +kernel
theorem dX12_adds_38 : decode cX12_adds 38 = .ok (.iload_n 3, 1) := by decide +kernel
theorem dX12_adds_39 : decode cX12_adds 39 = .ok (.iastore, 1) := by decide +kernel
theorem dX12_adds_40 : decode cX12_adds 40 = .ok (.aload_n 0, 1) := by decide +kernel
theorem dX12_adds_41 : decode cX12_adds 41 = .ok (.getfield 13, 3) := by decide +kernel
theorem dX12_adds_44 : decode cX12_adds 44 = .ok (.iload 5, 2) := by decide +kernel
theorem dX12_adds_46 : decode cX12_adds 46 = .ok (.iconst 3, 1) := by decide +kernel
theorem dX12_adds_47 : decode cX12_adds 47 = .ok (.iadd, 1) := by decide +kernel
theorem dX12_adds_48 : decode cX12_adds 48 = .ok (.iload 4, 2) := by decide +kernel
theorem dX12_adds_50 : decode cX12_adds 50 = .ok (.iastore, 1) := by decide +kernel
theorem dX12_adds_51 : decode cX12_adds 51 = .ok (.aload_n 0, 1) := by decide +kernel
theorem dX12_adds_52 : decode cX12_adds 52 = .ok (.getfield 13, 3) := by decide +kernel
theorem dX12_adds_55 : decode cX12_adds 55 = .ok (.iload 5, 2) := by decide +kernel
theorem dX12_adds_57 : decode cX12_adds 57 = .ok (.iconst 4, 1) := by decide +kernel
theorem dX12_adds_58 : decode cX12_adds 58 = .ok (.iadd, 1) := by decide +kernel
theorem dX12_adds_59 : decode cX12_adds 59 = .ok (.iconst 0, 1) := by decide +kernel
theorem dX12_adds_60 : decode cX12_adds 60 = .ok (.iastore, 1) := by decide +kernel
theorem dX12_adds_61 : decode cX12_adds 61 = .ok (.aload_n 0, 1) := by decide +kernel
theorem dX12_adds_62 : decode cX12_adds 62 = .ok (.getfield 13, 3) := by decide +kernel
theorem dX12_adds_65 : decode cX12_adds 65 = .ok (.iconst 0, 1) := by decide +kernel
theorem dX12_adds_66 : decode cX12_adds 66 = .ok (.dup2, 1) := by decide +kernel
theorem dX12_adds_67 : decode cX12_adds 67 = .ok (.iaload, 1) := by decide +kernel
theorem dX12_adds_68 : decode cX12_adds 68 = .ok (.iconst 1, 1) := by decide +kernel
theorem dX12_adds_69 : decode cX12_adds 69 = .ok (.iadd, 1) := by decide +kernel
theorem dX12_adds_70 : decode cX12_adds 70 = .ok (.iastore, 1) := by decide +kernel
theorem dX12_adds_71 : decode cX12_adds 71 = .ok (.return_, 1) := by decide +kernel
theorem dX12_fails_0 : decode cX12_fails 0 = .ok (.aload_n 0, 1) := by decide +kernel
theorem dX12_fails_1 : decode cX12_fails 1 = .ok (.getfield 96, 3) := by decide +kernel
theorem dX12_fails_4 : decode cX12_fails 4 = .ok (.ifCond .eq 4, 3) := by decide +kernel
theorem dX12_fails_7 : decode cX12_fails 7 = .ok (.return_, 1) := by decide +kernel
theorem dX12_fails_8 : decode cX12_fails 8 = .ok (.aload_n 0, 1) := by decide +kernel
theorem dX12_fails_9 : decode cX12_fails 9 = .ok (.iload_n 1, 1) := by decide +kernel
theorem dX12_fails_10 : decode cX12_fails 10 = .ok (.putfield 96, 3) := by decide +kernel
theorem dX12_fails_13 : decode cX12_fails 13 = .ok (.aload_n 0, 1) := by decide +kernel
theorem dX12_fails_14 : decode cX12_fails 14 = .ok (.iload_n 2, 1) := by decide +kernel
theorem dX12_fails_15 : decode cX12_fails 15 = .ok (.putfield 34, 3) := by decide +kernel
theorem dX12_fails_18 : decode cX12_fails 18 = .ok (.return_, 1) := by decide +kernel
theorem dX12_find_0 : decode cX12_find 0 = .ok (.iconst 0, 1) := by decide +kernel
theorem dX12_find_1 : decode cX12_find 1 = .ok (.istore 5, 2) := by decide +kernel
theorem dX12_find_3 : decode cX12_find 3 = .ok (.iload 5, 2) := by decide +kernel
theorem dX12_find_5 : decode cX12_find 5 = .ok (.iload 4, 2) := by decide +kernel
theorem dX12_find_7 : decode cX12_find 7 = .ok (.if_icmp .ge 26, 3) := by decide +kernel
theorem dX12_find_10 : decode cX12_find 10 = .ok (.aload_n 0, 1) := by decide +kernel
theorem dX12_find_11 : decode cX12_find 11 = .ok (.getfield 23, 3) := by decide +kernel
theorem dX12_find_14 : decode cX12_find 14 = .ok (.iload_n 3, 1) := by decide +kernel
theorem dX12_find_15 : decode cX12_find 15 = .ok (.iload 5, 2) := by decide +kernel
theorem dX12_find_17 : decode cX12_find 17 = .ok (.iadd, 1) := by decide +kernel
theorem dX12_find_18 : decode cX12_find 18 = .ok (.laload, 1) := by decide +kernel
theorem dX12_find_19 : decode cX12_find 19 = .ok (.lload_n 1, 1) := by decide +kernel
theorem dX12_find_20 : decode cX12_find 20 = .ok (.lcmp, 1) := by decide +kernel
theorem dX12_find_21 : decode cX12_find 21 = .ok (.ifCond .ne 6, 3) := by decide +kernel
theorem dX12_find_24 : decode cX12_find 24 = .ok (.iload 5, 2) := by decide +kernel
theorem dX12_find_26 : decode cX12_find 26 = .ok (.ireturn, 1) := by decide +kernel
theorem dX12_find_27 : decode cX12_find 27 = .ok (.iinc 5 1, 3) := by decide +kernel
theorem dX12_find_30 : decode cX12_find 30 = .ok (.goto (-27), 3) := by decide +kernel
theorem dX12_find_33 : decode cX12_find 33 = .ok (.iconst (-1), 1) := by decide +kernel
theorem dX12_find_34 : decode cX12_find 34 = .ok (.ireturn, 1) := by decide +kernel
theorem dX12_goes_0 : decode cX12_goes 0 = .ok (.aload_n 0, 1) := by decide +kernel
theorem dX12_goes_1 : decode cX12_goes 1 = .ok (.getfield 13, 3) := by decide +kernel
theorem dX12_goes_4 : decode cX12_goes 4 = .ok (.iconst 0, 1) := by decide +kernel
theorem dX12_goes_5 : decode cX12_goes 5 = .ok (.dup2, 1) := by decide +kernel
theorem dX12_goes_6 : decode cX12_goes 6 = .ok (.iaload, 1) := by decide +kernel
theorem dX12_goes_7 : decode cX12_goes 7 = .ok (.iconst 1, 1) := by decide +kernel
theorem dX12_goes_8 : decode cX12_goes 8 = .ok (.isub, 1) := by decide +kernel
theorem dX12_goes_9 : decode cX12_goes 9 = .ok (.iastore, 1) := by decide +kernel
theorem dX12_goes_10 : decode cX12_goes 10 = .ok (.iconst 2, 1) := by decide +kernel
theorem dX12_goes_11 : decode cX12_goes 11 = .ok (.iconst 5, 1) := by decide +kernel
theorem dX12_goes_12 : decode cX12_goes 12 = .ok (.iload_n 1, 1) := by decide +kernel
theorem dX12_goes_13 : decode cX12_goes 13 = .ok (.imul, 1) := by decide +kernel
theorem dX12_goes_14 : decode cX12_goes 14 = .ok (.iadd, 1) := by decide +kernel
theorem dX12_goes_15 : decode cX12_goes 15 = .ok (.istore_n 2, 1) := by decide +kernel
theorem dX12_goes_16 : decode cX12_goes 16 = .ok (.iload_n 2, 1) := by decide +kernel
theorem dX12_goes_17 : decode cX12_goes 17 = .ok (.iconst 2, 1) := by decide +kernel
theorem dX12_goes_18 : decode cX12_goes 18 = .ok (.iconst 5, 1) := by decide +kernel
theorem dX12_goes_19 : decode cX12_goes 19 = .ok (.aload_n 0, 1) := by decide +kernel
theorem dX12_goes_20 : decode cX12_goes 20 = .ok (.getfield 13, 3) := by decide +kernel
theorem dX12_goes_23 : decode cX12_goes 23 = .ok (.iconst 0, 1) := by decide +kernel
theorem dX12_goes_24 : decode cX12_goes 24 = .ok (.iaload, 1) := by decide +kernel
theorem dX12_goes_25 : decode cX12_goes 25 = .ok (.imul, 1) := by decide +kernel
theorem dX12_goes_26 : decode cX12_goes 26 = .ok (.iadd, 1) := by decide +kernel
theorem dX12_goes_27 : decode cX12_goes 27 = .ok (.if_icmp .ge 23, 3) := by decide +kernel
theorem dX12_goes_30 : decode cX12_goes 30 = .ok (.aload_n 0, 1) := by decide +kernel
theorem dX12_goes_31 : decode cX12_goes 31 = .ok (.getfield 13, 3) := by decide +kernel
theorem dX12_goes_34 : decode cX12_goes 34 = .ok (.iload_n 2, 1) := by decide +kernel
theorem dX12_goes_35 : decode cX12_goes 35 = .ok (.aload_n 0, 1) := by decide +kernel
theorem dX12_goes_36 : decode cX12_goes 36 = .ok (.getfield 13, 3) := by decide +kernel
theorem dX12_goes_39 : decode cX12_goes 39 = .ok (.iload_n 2, 1) := by decide +kernel
theorem dX12_goes_40 : decode cX12_goes 40 = .ok (.iconst 5, 1) := by decide +kernel
theorem dX12_goes_41 : decode cX12_goes 41 = .ok (.iadd, 1) := by decide +kernel
theorem dX12_goes_42 : decode cX12_goes 42 = .ok (.iaload, 1) := by decide +kernel
theorem dX12_goes_43 : decode cX12_goes 43 = .ok (.iastore, 1) := by decide +kernel
theorem dX12_goes_44 : decode cX12_goes 44 = .ok (.iinc 2 1, 3) := by decide +kernel
theorem dX12_goes_47 : decode cX12_goes 47 = .ok (.goto (-31), 3) := by decide +kernel
theorem dX12_goes_50 : decode cX12_goes 50 = .ok (.return_, 1) := by decide +kernel
theorem dX12_isDigit_0 : decode cX12_isDigit 0 = .ok (.iload_n 0, 1) := by decide +kernel
theorem dX12_isDigit_1 : decode cX12_isDigit 1 = .ok (.i2l, 1) := by decide +kernel
theorem dX12_isDigit_2 : decode cX12_isDigit 2 = .ok (.ldc2_w 107, 3) := by decide +kernel
theorem dX12_isDigit_5 : decode cX12_isDigit 5 = .ok (.ldc2_w 109, 3) := by decide +kernel
theorem dX12_isDigit_8 : decode cX12_isDigit 8 = .ok (.invokestatic 103, 3) := by decide +kernel
theorem dX12_isDigit_11 : decode cX12_isDigit 11 = .ok (.ireturn, 1) := by decide +kernel
theorem dX12_isFull_0 : decode cX12_isFull 0 = .ok (.iload_n 1, 1) := by decide +kernel
theorem dX12_isFull_1 : decode cX12_isFull 1 = .ok (.ifCond .ne 12, 3) := by decide +kernel
theorem dX12_isFull_4 : decode cX12_isFull 4 = .ok (.aload_n 0, 1) := by decide +kernel
theorem dX12_isFull_5 : decode cX12_isFull 5 = .ok (.getfield 80, 3) := by decide +kernel
theorem dX12_isFull_8 : decode cX12_isFull 8 = .ok (.bipush 8, 2) := by decide +kernel
theorem dX12_isFull_10 : decode cX12_isFull 10 = .ok (.if_icmp .eq 32, 3) := by decide +kernel
theorem dX12_isFull_13 : decode cX12_isFull 13 = .ok (.iload_n 1, 1) := by decide +kernel
theorem dX12_isFull_14 : decode cX12_isFull 14 = .ok (.iconst 1, 1) := by decide +kernel
theorem dX12_isFull_15 : decode cX12_isFull 15 = .ok (.if_icmp .ne 11, 3) := by decide +kernel
theorem dX12_isFull_18 : decode cX12_isFull 18 = .ok (.aload_n 0, 1) := by decide +kernel
theorem dX12_isFull_19 : decode cX12_isFull 19 = .ok (.getfield 83, 3) := by decide +kernel
theorem dX12_isFull_22 : decode cX12_isFull 22 = .ok (.iconst 4, 1) := by decide +kernel
theorem dX12_isFull_23 : decode cX12_isFull 23 = .ok (.if_icmp .eq 19, 3) := by decide +kernel
theorem dX12_isFull_26 : decode cX12_isFull 26 = .ok (.iload_n 1, 1) := by decide +kernel
theorem dX12_isFull_27 : decode cX12_isFull 27 = .ok (.iconst 2, 1) := by decide +kernel
theorem dX12_isFull_28 : decode cX12_isFull 28 = .ok (.if_icmp .ne 18, 3) := by decide +kernel
theorem dX12_isFull_31 : decode cX12_isFull 31 = .ok (.aload_n 0, 1) := by decide +kernel
theorem dX12_isFull_32 : decode cX12_isFull 32 = .ok (.getfield 13, 3) := by decide +kernel
theorem dX12_isFull_35 : decode cX12_isFull 35 = .ok (.iconst 0, 1) := by decide +kernel
theorem dX12_isFull_36 : decode cX12_isFull 36 = .ok (.iaload, 1) := by decide +kernel
theorem dX12_isFull_37 : decode cX12_isFull 37 = .ok (.bipush 40, 2) := by decide +kernel
theorem dX12_isFull_39 : decode cX12_isFull 39 = .ok (.if_icmp .ne 7, 3) := by decide +kernel
theorem dX12_isFull_42 : decode cX12_isFull 42 = .ok (.iconst 1, 1) := by decide +kernel
theorem dX12_isFull_43 : decode cX12_isFull 43 = .ok (.goto 4, 3) := by decide +kernel
theorem dX12_isFull_46 : decode cX12_isFull 46 = .ok (.iconst 0, 1) := by decide +kernel
theorem dX12_isFull_47 : decode cX12_isFull 47 = .ok (.ireturn, 1) := by decide +kernel
theorem dX12_isIn_0 : decode cX12_isIn 0 = .ok (.lload_n 0, 1) := by decide +kernel
theorem dX12_isIn_1 : decode cX12_isIn 1 = .ok (.lload_n 2, 1) := by decide +kernel
theorem dX12_isIn_2 : decode cX12_isIn 2 = .ok (.lcmp, 1) := by decide +kernel
theorem dX12_isIn_3 : decode cX12_isIn 3 = .ok (.ifCond .lt 14, 3) := by decide +kernel
theorem dX12_isIn_6 : decode cX12_isIn 6 = .ok (.lload_n 0, 1) := by decide +kernel
theorem dX12_isIn_7 : decode cX12_isIn 7 = .ok (.lload 4, 2) := by decide +kernel
theorem dX12_isIn_9 : decode cX12_isIn 9 = .ok (.lcmp, 1) := by decide +kernel
theorem dX12_isIn_10 : decode cX12_isIn 10 = .ok (.ifCond .gt 7, 3) := by decide +kernel
theorem dX12_isIn_13 : decode cX12_isIn 13 = .ok (.iconst 1, 1) := by decide +kernel
theorem dX12_isIn_14 : decode cX12_isIn 14 = .ok (.goto 4, 3) := by decide +kernel
theorem dX12_isIn_17 : decode cX12_isIn 17 = .ok (.iconst 0, 1) := by decide +kernel
theorem dX12_isIn_18 : decode cX12_isIn 18 = .ok (.ireturn, 1) := by decide +kernel
theorem dX12_isLetter_0 : decode cX12_isLetter 0 = .ok (.iload_n 0, 1) := by decide +kernel
theorem dX12_isLetter_1 : decode cX12_isLetter 1 = .ok (.i2l, 1) := by decide +kernel
theorem dX12_isLetter_2 : decode cX12_isLetter 2 = .ok (.ldc2_w 99, 3) := by decide +kernel
theorem dX12_isLetter_5 : decode cX12_isLetter 5 = .ok (.ldc2_w 101, 3) := by decide +kernel
theorem dX12_isLetter_8 : decode cX12_isLetter 8 = .ok (.invokestatic 103, 3) := by decide +kernel
theorem dX12_isLetter_11 : decode cX12_isLetter 11 = .ok (.ireturn, 1) := by decide +kernel
theorem dX12_kindRead_0 : decode cX12_kindRead 0 = .ok (.aload_n 0, 1) := by decide +kernel
theorem dX12_kindRead_1 : decode cX12_kindRead 1 = .ok (.aload_n 0, 1) := by decide +kernel
theorem dX12_kindRead_2 : decode cX12_kindRead 2 = .ok (.invokevirtual 146, 3) := by decide +kernel
theorem dX12_kindRead_5 : decode cX12_kindRead 5 = .ok (.bipush 8, 2) := by decide +kernel
theorem dX12_kindRead_7 : decode cX12_kindRead 7 = .ok (.aload_n 0, 1) := by decide +kernel
theorem dX12_kindRead_8 : decode cX12_kindRead 8 = .ok (.getfield 83, 3) := by decide +kernel
theorem dX12_kindRead_11 : decode cX12_kindRead 11 = .ok (.invokevirtual 150, 3) := by decide +kernel
theorem dX12_kindRead_14 : decode cX12_kindRead 14 = .ok (.istore_n 1, 1) := by decide +kernel
theorem dX12_kindRead_15 : decode cX12_kindRead 15 = .ok (.iload_n 1, 1) := by decide +kernel
theorem dX12_kindRead_16 : decode cX12_kindRead 16 = .ok (.iconst (-1), 1) := by decide +kernel
theorem dX12_kindRead_17 : decode cX12_kindRead 17 = .ok (.if_icmp .ne 12, 3) := by decide +kernel
theorem dX12_kindRead_20 : decode cX12_kindRead 20 = .ok (.aload_n 0, 1) := by decide +kernel
theorem dX12_kindRead_21 : decode cX12_kindRead 21 = .ok (.iconst 3, 1) := by decide +kernel
theorem dX12_kindRead_22 : decode cX12_kindRead 22 = .ok (.aload_n 0, 1) := by decide +kernel
theorem dX12_kindRead_23 : decode cX12_kindRead 23 = .ok (.getfield 140, 3) := by decide +kernel
theorem dX12_kindRead_26 : decode cX12_kindRead 26 = .ok (.invokevirtual 136, 3) := by decide +kernel
theorem dX12_kindRead_29 : decode cX12_kindRead 29 = .ok (.aload_n 0, 1) := by decide +kernel
theorem dX12_kindRead_30 : decode cX12_kindRead 30 = .ok (.getfield 96, 3) := by decide +kernel
theorem dX12_kindRead_33 : decode cX12_kindRead 33 = .ok (.ifCond .ne 7, 3) := by decide +kernel
theorem dX12_kindRead_36 : decode cX12_kindRead 36 = .ok (.iload_n 1, 1) := by decide +kernel
theorem dX12_kindRead_37 : decode cX12_kindRead 37 = .ok (.goto 4, 3) := by decide +kernel
theorem dX12_kindRead_40 : decode cX12_kindRead 40 = .ok (.iconst 0, 1) := by decide +kernel
theorem dX12_kindRead_41 : decode cX12_kindRead 41 = .ok (.ireturn, 1) := by decide +kernel
theorem dX12_lettersHere_0 : decode cX12_lettersHere 0 = .ok (.iconst 0, 1) := by decide +kernel
theorem dX12_lettersHere_1 : decode cX12_lettersHere 1 = .ok (.istore_n 1, 1) := by decide +kernel
theorem dX12_lettersHere_2 : decode cX12_lettersHere 2 = .ok (.aload_n 0, 1) := by decide +kernel
theorem dX12_lettersHere_3 : decode cX12_lettersHere 3 = .ok (.getfield 90, 3) := by decide +kernel
theorem dX12_lettersHere_6 : decode cX12_lettersHere 6 = .ok (.iload_n 1, 1) := by decide +kernel
theorem dX12_lettersHere_7 : decode cX12_lettersHere 7 = .ok (.iadd, 1) := by decide +kernel
theorem dX12_lettersHere_8 : decode cX12_lettersHere 8 = .ok (.aload_n 0, 1) := by decide +kernel
theorem dX12_lettersHere_9 : decode cX12_lettersHere 9 = .ok (.getfield 93, 3) := by decide +kernel
theorem dX12_lettersHere_12 : decode cX12_lettersHere 12 = .ok (.if_icmp .ge 26, 3) := by decide +kernel
theorem dX12_lettersHere_15 : decode cX12_lettersHere 15 = .ok (.aload_n 0, 1) := by decide +kernel
theorem dX12_lettersHere_16 : decode cX12_lettersHere 16 = .ok (.getfield 30, 3) := by decide +kernel
theorem dX12_lettersHere_19 : decode cX12_lettersHere 19 = .ok (.aload_n 0, 1) := by decide +kernel
theorem dX12_lettersHere_20 : decode cX12_lettersHere 20 = .ok (.getfield 90, 3) := by decide +kernel
theorem dX12_lettersHere_23 : decode cX12_lettersHere 23 = .ok (.iload_n 1, 1) := by decide +kernel
theorem dX12_lettersHere_24 : decode cX12_lettersHere 24 = .ok (.iadd, 1) := by decide +kernel
theorem dX12_lettersHere_25 : decode cX12_lettersHere 25 = .ok (.baload, 1) := by decide +kernel
theorem dX12_lettersHere_26 : decode cX12_lettersHere 26 = .ok (.invokestatic 111, 3) := by decide +kernel
theorem dX12_lettersHere_29 : decode cX12_lettersHere 29 = .ok (.ifCond .eq 9, 3) := by decide +kernel
theorem dX12_lettersHere_32 : decode cX12_lettersHere 32 = .ok (.iinc 1 1, 3) := by decide +kernel
theorem dX12_lettersHere_35 : decode cX12_lettersHere 35 = .ok (.goto (-33), 3) := by decide +kernel
theorem dX12_lettersHere_38 : decode cX12_lettersHere 38 = .ok (.iload_n 1, 1) := by decide +kernel
theorem dX12_lettersHere_39 : decode cX12_lettersHere 39 = .ok (.ireturn, 1) := by decide +kernel
theorem dX12_nameRead_0 : decode cX12_nameRead 0 = .ok (.aload_n 0, 1) := by decide +kernel
theorem dX12_nameRead_1 : decode cX12_nameRead 1 = .ok (.getfield 96, 3) := by decide +kernel
theorem dX12_nameRead_4 : decode cX12_nameRead 4 = .ok (.ifCond .eq 5, 3) := by decide +kernel
theorem dX12_nameRead_7 : decode cX12_nameRead 7 = .ok (.lconst 0, 1) := by decide +kernel
theorem dX12_nameRead_8 : decode cX12_nameRead 8 = .ok (.lreturn, 1) := by decide +kernel
theorem dX12_nameRead_9 : decode cX12_nameRead 9 = .ok (.aload_n 0, 1) := by decide +kernel
theorem dX12_nameRead_10 : decode cX12_nameRead 10 = .ok (.invokevirtual 115, 3) := by decide +kernel
theorem dX12_nameRead_13 : decode cX12_nameRead 13 = .ok (.invokestatic 111, 3) := by decide +kernel
theorem dX12_nameRead_16 : decode cX12_nameRead 16 = .ok (.ifCond .eq 20, 3) := by decide +kernel
theorem dX12_nameRead_19 : decode cX12_nameRead 19 = .ok (.aload_n 0, 1) := by decide +kernel
theorem dX12_nameRead_20 : decode cX12_nameRead 20 = .ok (.invokevirtual 119, 3) := by decide +kernel
theorem dX12_nameRead_23 : decode cX12_nameRead 23 = .ok (.bipush 8, 2) := by decide +kernel
theorem dX12_nameRead_25 : decode cX12_nameRead 25 = .ok (.if_icmp .gt 11, 3) := by decide +kernel
theorem dX12_nameRead_28 : decode cX12_nameRead 28 = .ok (.aload_n 0, 1) := by decide +kernel
theorem dX12_nameRead_29 : decode cX12_nameRead 29 = .ok (.invokevirtual 143, 3) := by decide +kernel
theorem dX12_nameRead_32 : decode cX12_nameRead 32 = .ok (.iconst (-1), 1) := by decide +kernel
theorem dX12_nameRead_33 : decode cX12_nameRead 33 = .ok (.if_icmp .eq 14, 3) := by decide +kernel
theorem dX12_nameRead_36 : decode cX12_nameRead 36 = .ok (.aload_n 0, 1) := by decide +kernel
theorem dX12_nameRead_37 : decode cX12_nameRead 37 = .ok (.iconst 1, 1) := by decide +kernel
theorem dX12_nameRead_38 : decode cX12_nameRead 38 = .ok (.aload_n 0, 1) := by decide +kernel
theorem dX12_nameRead_39 : decode cX12_nameRead 39 = .ok (.getfield 90, 3) := by decide +kernel
theorem dX12_nameRead_42 : decode cX12_nameRead 42 = .ok (.invokevirtual 136, 3) := by decide +kernel
theorem dX12_nameRead_45 : decode cX12_nameRead 45 = .ok (.lconst 0, 1) := by decide +kernel
theorem dX12_nameRead_46 : decode cX12_nameRead 46 = .ok (.lreturn, 1) := by decide +kernel
theorem dX12_nameRead_47 : decode cX12_nameRead 47 = .ok (.aload_n 0, 1) := by decide +kernel
theorem dX12_nameRead_48 : decode cX12_nameRead 48 = .ok (.aload_n 0, 1) := by decide +kernel
theorem dX12_nameRead_49 : decode cX12_nameRead 49 = .ok (.getfield 90, 3) := by decide +kernel
theorem dX12_nameRead_52 : decode cX12_nameRead 52 = .ok (.putfield 140, 3) := by decide +kernel
theorem dX12_nameRead_55 : decode cX12_nameRead 55 = .ok (.lconst 0, 1) := by decide +kernel
theorem dX12_nameRead_56 : decode cX12_nameRead 56 = .ok (.lstore_n 1, 1) := by decide +kernel
theorem dX12_nameRead_57 : decode cX12_nameRead 57 = .ok (.aload_n 0, 1) := by decide +kernel
theorem dX12_nameRead_58 : decode cX12_nameRead 58 = .ok (.invokevirtual 119, 3) := by decide +kernel
theorem dX12_nameRead_61 : decode cX12_nameRead 61 = .ok (.istore_n 3, 1) := by decide +kernel
theorem dX12_nameRead_62 : decode cX12_nameRead 62 = .ok (.iconst 0, 1) := by decide +kernel
theorem dX12_nameRead_63 : decode cX12_nameRead 63 = .ok (.istore 4, 2) := by decide +kernel
theorem dX12_nameRead_65 : decode cX12_nameRead 65 = .ok (.iload 4, 2) := by decide +kernel
theorem dX12_nameRead_67 : decode cX12_nameRead 67 = .ok (.iload_n 3, 1) := by decide +kernel
theorem dX12_nameRead_68 : decode cX12_nameRead 68 = .ok (.if_icmp .ge 28, 3) := by decide +kernel
theorem dX12_nameRead_71 : decode cX12_nameRead 71 = .ok (.lload_n 1, 1) := by decide +kernel
theorem dX12_nameRead_72 : decode cX12_nameRead 72 = .ok (.bipush 8, 2) := by decide +kernel
theorem dX12_nameRead_74 : decode cX12_nameRead 74 = .ok (.lshl, 1) := by decide +kernel
theorem dX12_nameRead_75 : decode cX12_nameRead 75 = .ok (.aload_n 0, 1) := by decide +kernel
theorem dX12_nameRead_76 : decode cX12_nameRead 76 = .ok (.getfield 30, 3) := by decide +kernel
theorem dX12_nameRead_79 : decode cX12_nameRead 79 = .ok (.aload_n 0, 1) := by decide +kernel
theorem dX12_nameRead_80 : decode cX12_nameRead 80 = .ok (.getfield 90, 3) := by decide +kernel
theorem dX12_nameRead_83 : decode cX12_nameRead 83 = .ok (.iload 4, 2) := by decide +kernel
theorem dX12_nameRead_85 : decode cX12_nameRead 85 = .ok (.iadd, 1) := by decide +kernel
theorem dX12_nameRead_86 : decode cX12_nameRead 86 = .ok (.baload, 1) := by decide +kernel
theorem dX12_nameRead_87 : decode cX12_nameRead 87 = .ok (.i2l, 1) := by decide +kernel
theorem dX12_nameRead_88 : decode cX12_nameRead 88 = .ok (.lor, 1) := by decide +kernel
theorem dX12_nameRead_89 : decode cX12_nameRead 89 = .ok (.lstore_n 1, 1) := by decide +kernel
theorem dX12_nameRead_90 : decode cX12_nameRead 90 = .ok (.iinc 4 1, 3) := by decide +kernel
theorem dX12_nameRead_93 : decode cX12_nameRead 93 = .ok (.goto (-28), 3) := by decide +kernel
theorem dX12_nameRead_96 : decode cX12_nameRead 96 = .ok (.aload_n 0, 1) := by decide +kernel
theorem dX12_nameRead_97 : decode cX12_nameRead 97 = .ok (.dup, 1) := by decide +kernel
theorem dX12_nameRead_98 : decode cX12_nameRead 98 = .ok (.getfield 90, 3) := by decide +kernel
theorem dX12_nameRead_101 : decode cX12_nameRead 101 = .ok (.iload_n 3, 1) := by decide +kernel
theorem dX12_nameRead_102 : decode cX12_nameRead 102 = .ok (.iadd, 1) := by decide +kernel
theorem dX12_nameRead_103 : decode cX12_nameRead 103 = .ok (.putfield 90, 3) := by decide +kernel
theorem dX12_nameRead_106 : decode cX12_nameRead 106 = .ok (.lload_n 1, 1) := by decide +kernel
theorem dX12_nameRead_107 : decode cX12_nameRead 107 = .ok (.lreturn, 1) := by decide +kernel
theorem dX12_newName_0 : decode cX12_newName 0 = .ok (.aload_n 0, 1) := by decide +kernel
theorem dX12_newName_1 : decode cX12_newName 1 = .ok (.invokevirtual 146, 3) := by decide +kernel
theorem dX12_newName_4 : decode cX12_newName 4 = .ok (.lstore_n 2, 1) := by decide +kernel
theorem dX12_newName_5 : decode cX12_newName 5 = .ok (.aload_n 0, 1) := by decide +kernel
theorem dX12_newName_6 : decode cX12_newName 6 = .ok (.getfield 96, 3) := by decide +kernel
theorem dX12_newName_9 : decode cX12_newName 9 = .ok (.ifCond .ne 41, 3) := by decide +kernel
theorem dX12_newName_12 : decode cX12_newName 12 = .ok (.aload_n 0, 1) := by decide +kernel
theorem dX12_newName_13 : decode cX12_newName 13 = .ok (.lload_n 2, 1) := by decide +kernel
theorem dX12_newName_14 : decode cX12_newName 14 = .ok (.iconst 0, 1) := by decide +kernel
theorem dX12_newName_15 : decode cX12_newName 15 = .ok (.aload_n 0, 1) := by decide +kernel
theorem dX12_newName_16 : decode cX12_newName 16 = .ok (.getfield 80, 3) := by decide +kernel
theorem dX12_newName_19 : decode cX12_newName 19 = .ok (.invokevirtual 150, 3) := by decide +kernel
theorem dX12_newName_22 : decode cX12_newName 22 = .ok (.iconst (-1), 1) := by decide +kernel
theorem dX12_newName_23 : decode cX12_newName 23 = .ok (.if_icmp .ne 18, 3) := by decide +kernel
theorem dX12_newName_26 : decode cX12_newName 26 = .ok (.aload_n 0, 1) := by decide +kernel
theorem dX12_newName_27 : decode cX12_newName 27 = .ok (.lload_n 2, 1) := by decide +kernel
theorem dX12_newName_28 : decode cX12_newName 28 = .ok (.bipush 8, 2) := by decide +kernel
theorem dX12_newName_30 : decode cX12_newName 30 = .ok (.aload_n 0, 1) := by decide +kernel
theorem dX12_newName_31 : decode cX12_newName 31 = .ok (.getfield 83, 3) := by decide +kernel
theorem dX12_newName_34 : decode cX12_newName 34 = .ok (.invokevirtual 150, 3) := by decide +kernel
theorem dX12_newName_37 : decode cX12_newName 37 = .ok (.iconst (-1), 1) := by decide +kernel
theorem dX12_newName_38 : decode cX12_newName 38 = .ok (.if_icmp .eq 12, 3) := by decide +kernel
theorem dX12_newName_41 : decode cX12_newName 41 = .ok (.aload_n 0, 1) := by decide +kernel
theorem dX12_newName_42 : decode cX12_newName 42 = .ok (.iconst 3, 1) := by decide +kernel
theorem dX12_newName_43 : decode cX12_newName 43 = .ok (.aload_n 0, 1) := by decide +kernel
theorem dX12_newName_44 : decode cX12_newName 44 = .ok (.getfield 140, 3) := by decide +kernel
theorem dX12_newName_47 : decode cX12_newName 47 = .ok (.invokevirtual 136, 3) := by decide +kernel
theorem dX12_newName_50 : decode cX12_newName 50 = .ok (.aload_n 0, 1) := by decide +kernel
theorem dX12_newName_51 : decode cX12_newName 51 = .ok (.getfield 23, 3) := by decide +kernel
theorem dX12_newName_54 : decode cX12_newName 54 = .ok (.iload_n 1, 1) := by decide +kernel
theorem dX12_newName_55 : decode cX12_newName 55 = .ok (.lload_n 2, 1) := by decide +kernel
theorem dX12_newName_56 : decode cX12_newName 56 = .ok (.lastore, 1) := by decide +kernel
theorem dX12_newName_57 : decode cX12_newName 57 = .ok (.return_, 1) := by decide +kernel
theorem dX12_numeral_0 : decode cX12_numeral 0 = .ok (.aload_n 0, 1) := by decide +kernel
theorem dX12_numeral_1 : decode cX12_numeral 1 = .ok (.getfield 96, 3) := by decide +kernel
theorem dX12_numeral_4 : decode cX12_numeral 4 = .ok (.ifCond .eq 5, 3) := by decide +kernel
theorem dX12_numeral_7 : decode cX12_numeral 7 = .ok (.iload_n 1, 1) := by decide +kernel
theorem dX12_numeral_8 : decode cX12_numeral 8 = .ok (.ireturn, 1) := by decide +kernel
theorem dX12_numeral_9 : decode cX12_numeral 9 = .ok (.aload_n 0, 1) := by decide +kernel
theorem dX12_numeral_10 : decode cX12_numeral 10 = .ok (.invokevirtual 115, 3) := by decide +kernel
theorem dX12_numeral_13 : decode cX12_numeral 13 = .ok (.invokestatic 133, 3) := by decide +kernel
theorem dX12_numeral_16 : decode cX12_numeral 16 = .ok (.ifCond .ne 14, 3) := by decide +kernel
theorem dX12_numeral_19 : decode cX12_numeral 19 = .ok (.aload_n 0, 1) := by decide +kernel
theorem dX12_numeral_20 : decode cX12_numeral 20 = .ok (.iconst 1, 1) := by decide +kernel
theorem dX12_numeral_21 : decode cX12_numeral 21 = .ok (.aload_n 0, 1) := by decide +kernel
theorem dX12_numeral_22 : decode cX12_numeral 22 = .ok (.getfield 90, 3) := by decide +kernel
theorem dX12_numeral_25 : decode cX12_numeral 25 = .ok (.invokevirtual 136, 3) := by decide +kernel
theorem dX12_numeral_28 : decode cX12_numeral 28 = .ok (.iload_n 1, 1) := by decide +kernel
theorem dX12_numeral_29 : decode cX12_numeral 29 = .ok (.ireturn, 1) := by decide +kernel
theorem dX12_numeral_30 : decode cX12_numeral 30 = .ok (.aload_n 0, 1) := by decide +kernel
theorem dX12_numeral_31 : decode cX12_numeral 31 = .ok (.aload_n 0, 1) := by decide +kernel
theorem dX12_numeral_32 : decode cX12_numeral 32 = .ok (.getfield 90, 3) := by decide +kernel
theorem dX12_numeral_35 : decode cX12_numeral 35 = .ok (.putfield 140, 3) := by decide +kernel
theorem dX12_numeral_38 : decode cX12_numeral 38 = .ok (.iconst 0, 1) := by decide +kernel
theorem dX12_numeral_39 : decode cX12_numeral 39 = .ok (.istore_n 3, 1) := by decide +kernel
theorem dX12_numeral_40 : decode cX12_numeral 40 = .ok (.aload_n 0, 1) := by decide +kernel
theorem dX12_numeral_41 : decode cX12_numeral 41 = .ok (.getfield 90, 3) := by decide +kernel
theorem dX12_numeral_44 : decode cX12_numeral 44 = .ok (.aload_n 0, 1) := by decide +kernel
theorem dX12_numeral_45 : decode cX12_numeral 45 = .ok (.getfield 93, 3) := by decide +kernel
theorem dX12_numeral_48 : decode cX12_numeral 48 = .ok (.if_icmp .ge 63, 3) := by decide +kernel
theorem dX12_numeral_51 : decode cX12_numeral 51 = .ok (.aload_n 0, 1) := by decide +kernel
theorem dX12_numeral_52 : decode cX12_numeral 52 = .ok (.getfield 30, 3) := by decide +kernel
theorem dX12_numeral_55 : decode cX12_numeral 55 = .ok (.aload_n 0, 1) := by decide +kernel
theorem dX12_numeral_56 : decode cX12_numeral 56 = .ok (.getfield 90, 3) := by decide +kernel
theorem dX12_numeral_59 : decode cX12_numeral 59 = .ok (.baload, 1) := by decide +kernel
theorem dX12_numeral_60 : decode cX12_numeral 60 = .ok (.invokestatic 133, 3) := by decide +kernel
theorem dX12_numeral_63 : decode cX12_numeral 63 = .ok (.ifCond .eq 48, 3) := by decide +kernel
theorem dX12_numeral_66 : decode cX12_numeral 66 = .ok (.aload_n 0, 1) := by decide +kernel
theorem dX12_numeral_67 : decode cX12_numeral 67 = .ok (.getfield 90, 3) := by decide +kernel
theorem dX12_numeral_70 : decode cX12_numeral 70 = .ok (.aload_n 0, 1) := by decide +kernel
theorem dX12_numeral_71 : decode cX12_numeral 71 = .ok (.getfield 140, 3) := by decide +kernel
theorem dX12_numeral_74 : decode cX12_numeral 74 = .ok (.isub, 1) := by decide +kernel
theorem dX12_numeral_75 : decode cX12_numeral 75 = .ok (.bipush 8, 2) := by decide +kernel
theorem dX12_numeral_77 : decode cX12_numeral 77 = .ok (.if_icmp .ge 21, 3) := by decide +kernel
theorem dX12_numeral_80 : decode cX12_numeral 80 = .ok (.bipush 10, 2) := by decide +kernel
theorem dX12_numeral_82 : decode cX12_numeral 82 = .ok (.iload_n 3, 1) := by decide +kernel
theorem dX12_numeral_83 : decode cX12_numeral 83 = .ok (.imul, 1) := by decide +kernel
theorem dX12_numeral_84 : decode cX12_numeral 84 = .ok (.aload_n 0, 1) := by decide +kernel
theorem dX12_numeral_85 : decode cX12_numeral 85 = .ok (.getfield 30, 3) := by decide +kernel
theorem dX12_numeral_88 : decode cX12_numeral 88 = .ok (.aload_n 0, 1) := by decide +kernel
theorem dX12_numeral_89 : decode cX12_numeral 89 = .ok (.getfield 90, 3) := by decide +kernel
theorem dX12_numeral_92 : decode cX12_numeral 92 = .ok (.baload, 1) := by decide +kernel
theorem dX12_numeral_93 : decode cX12_numeral 93 = .ok (.iadd, 1) := by decide +kernel
theorem dX12_numeral_94 : decode cX12_numeral 94 = .ok (.bipush 48, 2) := by decide +kernel
theorem dX12_numeral_96 : decode cX12_numeral 96 = .ok (.isub, 1) := by decide +kernel
theorem dX12_numeral_97 : decode cX12_numeral 97 = .ok (.istore_n 3, 1) := by decide +kernel
theorem dX12_numeral_98 : decode cX12_numeral 98 = .ok (.aload_n 0, 1) := by decide +kernel
theorem dX12_numeral_99 : decode cX12_numeral 99 = .ok (.dup, 1) := by decide +kernel
theorem dX12_numeral_100 : decode cX12_numeral 100 = .ok (.getfield 90, 3) := by decide +kernel
theorem dX12_numeral_103 : decode cX12_numeral 103 = .ok (.iconst 1, 1) := by decide +kernel
theorem dX12_numeral_104 : decode cX12_numeral 104 = .ok (.iadd, 1) := by decide +kernel
theorem dX12_numeral_105 : decode cX12_numeral 105 = .ok (.putfield 90, 3) := by decide +kernel
theorem dX12_numeral_108 : decode cX12_numeral 108 = .ok (.goto (-68), 3) := by decide +kernel
theorem dX12_numeral_111 : decode cX12_numeral 111 = .ok (.aload_n 0, 1) := by decide +kernel
theorem dX12_numeral_112 : decode cX12_numeral 112 = .ok (.getfield 90, 3) := by decide +kernel
theorem dX12_numeral_115 : decode cX12_numeral 115 = .ok (.aload_n 0, 1) := by decide +kernel
theorem dX12_numeral_116 : decode cX12_numeral 116 = .ok (.getfield 140, 3) := by decide +kernel
theorem dX12_numeral_119 : decode cX12_numeral 119 = .ok (.isub, 1) := by decide +kernel
theorem dX12_numeral_120 : decode cX12_numeral 120 = .ok (.bipush 8, 2) := by decide +kernel
theorem dX12_numeral_122 : decode cX12_numeral 122 = .ok (.if_icmp .gt 15, 3) := by decide +kernel
theorem dX12_numeral_125 : decode cX12_numeral 125 = .ok (.iload_n 3, 1) := by decide +kernel
theorem dX12_numeral_126 : decode cX12_numeral 126 = .ok (.i2l, 1) := by decide +kernel
theorem dX12_numeral_127 : decode cX12_numeral 127 = .ok (.iload_n 1, 1) := by decide +kernel
theorem dX12_numeral_128 : decode cX12_numeral 128 = .ok (.i2l, 1) := by decide +kernel
theorem dX12_numeral_129 : decode cX12_numeral 129 = .ok (.iload_n 2, 1) := by decide +kernel
theorem dX12_numeral_130 : decode cX12_numeral 130 = .ok (.i2l, 1) := by decide +kernel
theorem dX12_numeral_131 : decode cX12_numeral 131 = .ok (.invokestatic 103, 3) := by decide +kernel
theorem dX12_numeral_134 : decode cX12_numeral 134 = .ok (.ifCond .ne 12, 3) := by decide +kernel
theorem dX12_numeral_137 : decode cX12_numeral 137 = .ok (.aload_n 0, 1) := by decide +kernel
theorem dX12_numeral_138 : decode cX12_numeral 138 = .ok (.iconst 2, 1) := by decide +kernel
theorem dX12_numeral_139 : decode cX12_numeral 139 = .ok (.aload_n 0, 1) := by decide +kernel
theorem dX12_numeral_140 : decode cX12_numeral 140 = .ok (.getfield 140, 3) := by decide +kernel
theorem dX12_numeral_143 : decode cX12_numeral 143 = .ok (.invokevirtual 136, 3) := by decide +kernel
theorem dX12_numeral_146 : decode cX12_numeral 146 = .ok (.aload_n 0, 1) := by decide +kernel
theorem dX12_numeral_147 : decode cX12_numeral 147 = .ok (.getfield 96, 3) := by decide +kernel
theorem dX12_numeral_150 : decode cX12_numeral 150 = .ok (.ifCond .ne 7, 3) := by decide +kernel
theorem dX12_numeral_153 : decode cX12_numeral 153 = .ok (.iload_n 3, 1) := by decide +kernel
theorem dX12_numeral_154 : decode cX12_numeral 154 = .ok (.goto 4, 3) := by decide +kernel
theorem dX12_numeral_157 : decode cX12_numeral 157 = .ok (.iload_n 1, 1) := by decide +kernel
theorem dX12_numeral_158 : decode cX12_numeral 158 = .ok (.ireturn, 1) := by decide +kernel
theorem dX12_otherRead_0 : decode cX12_otherRead 0 = .ok (.aload_n 0, 1) := by decide +kernel
theorem dX12_otherRead_1 : decode cX12_otherRead 1 = .ok (.invokevirtual 154, 3) := by decide +kernel
theorem dX12_otherRead_4 : decode cX12_otherRead 4 = .ok (.istore_n 2, 1) := by decide +kernel
theorem dX12_otherRead_5 : decode cX12_otherRead 5 = .ok (.aload_n 0, 1) := by decide +kernel
theorem dX12_otherRead_6 : decode cX12_otherRead 6 = .ok (.getfield 96, 3) := by decide +kernel
theorem dX12_otherRead_9 : decode cX12_otherRead 9 = .ok (.ifCond .ne 17, 3) := by decide +kernel
theorem dX12_otherRead_12 : decode cX12_otherRead 12 = .ok (.iload_n 2, 1) := by decide +kernel
theorem dX12_otherRead_13 : decode cX12_otherRead 13 = .ok (.iload_n 1, 1) := by decide +kernel
theorem dX12_otherRead_14 : decode cX12_otherRead 14 = .ok (.if_icmp .ne 12, 3) := by decide +kernel
theorem dX12_otherRead_17 : decode cX12_otherRead 17 = .ok (.aload_n 0, 1) := by decide +kernel
theorem dX12_otherRead_18 : decode cX12_otherRead 18 = .ok (.iconst 5, 1) := by decide +kernel
theorem dX12_otherRead_19 : decode cX12_otherRead 19 = .ok (.aload_n 0, 1) := by decide +kernel
theorem dX12_otherRead_20 : decode cX12_otherRead 20 = .ok (.getfield 140, 3) := by decide +kernel
theorem dX12_otherRead_23 : decode cX12_otherRead 23 = .ok (.invokevirtual 136, 3) := by decide +kernel
theorem dX12_otherRead_26 : decode cX12_otherRead 26 = .ok (.iload_n 2, 1) := by decide +kernel
theorem dX12_otherRead_27 : decode cX12_otherRead 27 = .ok (.ireturn, 1) := by decide +kernel
theorem dX12_partyRead_0 : decode cX12_partyRead 0 = .ok (.aload_n 0, 1) := by decide +kernel
theorem dX12_partyRead_1 : decode cX12_partyRead 1 = .ok (.aload_n 0, 1) := by decide +kernel
theorem dX12_partyRead_2 : decode cX12_partyRead 2 = .ok (.invokevirtual 146, 3) := by decide +kernel
theorem dX12_partyRead_5 : decode cX12_partyRead 5 = .ok (.iconst 0, 1) := by decide +kernel
theorem dX12_partyRead_6 : decode cX12_partyRead 6 = .ok (.aload_n 0, 1) := by decide +kernel
theorem dX12_partyRead_7 : decode cX12_partyRead 7 = .ok (.getfield 80, 3) := by decide +kernel
theorem dX12_partyRead_10 : decode cX12_partyRead 10 = .ok (.invokevirtual 150, 3) := by decide +kernel
theorem dX12_partyRead_13 : decode cX12_partyRead 13 = .ok (.istore_n 1, 1) := by decide +kernel
theorem dX12_partyRead_14 : decode cX12_partyRead 14 = .ok (.iload_n 1, 1) := by decide +kernel
theorem dX12_partyRead_15 : decode cX12_partyRead 15 = .ok (.iconst (-1), 1) := by decide +kernel
theorem dX12_partyRead_16 : decode cX12_partyRead 16 = .ok (.if_icmp .ne 12, 3) := by decide +kernel
theorem dX12_partyRead_19 : decode cX12_partyRead 19 = .ok (.aload_n 0, 1) := by decide +kernel
theorem dX12_partyRead_20 : decode cX12_partyRead 20 = .ok (.iconst 3, 1) := by decide +kernel
theorem dX12_partyRead_21 : decode cX12_partyRead 21 = .ok (.aload_n 0, 1) := by decide +kernel
theorem dX12_partyRead_22 : decode cX12_partyRead 22 = .ok (.getfield 140, 3) := by decide +kernel
theorem dX12_partyRead_25 : decode cX12_partyRead 25 = .ok (.invokevirtual 136, 3) := by decide +kernel
theorem dX12_partyRead_28 : decode cX12_partyRead 28 = .ok (.aload_n 0, 1) := by decide +kernel
theorem dX12_partyRead_29 : decode cX12_partyRead 29 = .ok (.getfield 96, 3) := by decide +kernel
theorem dX12_partyRead_32 : decode cX12_partyRead 32 = .ok (.ifCond .ne 7, 3) := by decide +kernel
theorem dX12_partyRead_35 : decode cX12_partyRead 35 = .ok (.iload_n 1, 1) := by decide +kernel
theorem dX12_partyRead_36 : decode cX12_partyRead 36 = .ok (.goto 4, 3) := by decide +kernel
theorem dX12_partyRead_39 : decode cX12_partyRead 39 = .ok (.iconst 0, 1) := by decide +kernel
theorem dX12_partyRead_40 : decode cX12_partyRead 40 = .ok (.ireturn, 1) := by decide +kernel
theorem dX12_peek_0 : decode cX12_peek 0 = .ok (.aload_n 0, 1) := by decide +kernel
theorem dX12_peek_1 : decode cX12_peek 1 = .ok (.getfield 90, 3) := by decide +kernel
theorem dX12_peek_4 : decode cX12_peek 4 = .ok (.aload_n 0, 1) := by decide +kernel
theorem dX12_peek_5 : decode cX12_peek 5 = .ok (.getfield 93, 3) := by decide +kernel
theorem dX12_peek_8 : decode cX12_peek 8 = .ok (.if_icmp .ge 30, 3) := by decide +kernel
theorem dX12_peek_11 : decode cX12_peek 11 = .ok (.aload_n 0, 1) := by decide +kernel
theorem dX12_peek_12 : decode cX12_peek 12 = .ok (.getfield 30, 3) := by decide +kernel
theorem dX12_peek_15 : decode cX12_peek 15 = .ok (.aload_n 0, 1) := by decide +kernel
theorem dX12_peek_16 : decode cX12_peek 16 = .ok (.getfield 90, 3) := by decide +kernel
theorem dX12_peek_19 : decode cX12_peek 19 = .ok (.baload, 1) := by decide +kernel
theorem dX12_peek_20 : decode cX12_peek 20 = .ok (.bipush 32, 2) := by decide +kernel
theorem dX12_peek_22 : decode cX12_peek 22 = .ok (.if_icmp .ne 16, 3) := by decide +kernel
theorem dX12_peek_25 : decode cX12_peek 25 = .ok (.aload_n 0, 1) := by decide +kernel
theorem dX12_peek_26 : decode cX12_peek 26 = .ok (.dup, 1) := by decide +kernel
theorem dX12_peek_27 : decode cX12_peek 27 = .ok (.getfield 90, 3) := by decide +kernel
theorem dX12_peek_30 : decode cX12_peek 30 = .ok (.iconst 1, 1) := by decide +kernel
theorem dX12_peek_31 : decode cX12_peek 31 = .ok (.iadd, 1) := by decide +kernel
theorem dX12_peek_32 : decode cX12_peek 32 = .ok (.putfield 90, 3) := by decide +kernel
theorem dX12_peek_35 : decode cX12_peek 35 = .ok (.goto (-35), 3) := by decide +kernel
theorem dX12_peek_38 : decode cX12_peek 38 = .ok (.aload_n 0, 1) := by decide +kernel
theorem dX12_peek_39 : decode cX12_peek 39 = .ok (.getfield 90, 3) := by decide +kernel
theorem dX12_peek_42 : decode cX12_peek 42 = .ok (.aload_n 0, 1) := by decide +kernel
theorem dX12_peek_43 : decode cX12_peek 43 = .ok (.getfield 93, 3) := by decide +kernel
theorem dX12_peek_46 : decode cX12_peek 46 = .ok (.if_icmp .ge 19, 3) := by decide +kernel
theorem dX12_peek_49 : decode cX12_peek 49 = .ok (.aload_n 0, 1) := by decide +kernel
theorem dX12_peek_50 : decode cX12_peek 50 = .ok (.getfield 30, 3) := by decide +kernel
theorem dX12_peek_53 : decode cX12_peek 53 = .ok (.aload_n 0, 1) := by decide +kernel
theorem dX12_peek_54 : decode cX12_peek 54 = .ok (.getfield 90, 3) := by decide +kernel
theorem dX12_peek_57 : decode cX12_peek 57 = .ok (.baload, 1) := by decide +kernel
theorem dX12_peek_58 : decode cX12_peek 58 = .ok (.sipush 255, 3) := by decide +kernel
theorem dX12_peek_61 : decode cX12_peek 61 = .ok (.iand, 1) := by decide +kernel
theorem dX12_peek_62 : decode cX12_peek 62 = .ok (.goto 4, 3) := by decide +kernel
theorem dX12_peek_65 : decode cX12_peek 65 = .ok (.iconst (-1), 1) := by decide +kernel
theorem dX12_peek_66 : decode cX12_peek 66 = .ok (.ireturn, 1) := by decide +kernel
theorem dX12_tradeAt_0 : decode cX12_tradeAt 0 = .ok (.aload_n 0, 1) := by decide +kernel
theorem dX12_tradeAt_1 : decode cX12_tradeAt 1 = .ok (.getfield 13, 3) := by decide +kernel
theorem dX12_tradeAt_4 : decode cX12_tradeAt 4 = .ok (.iconst 2, 1) := by decide +kernel
theorem dX12_tradeAt_5 : decode cX12_tradeAt 5 = .ok (.iconst 5, 1) := by decide +kernel
theorem dX12_tradeAt_6 : decode cX12_tradeAt 6 = .ok (.iload_n 1, 1) := by decide +kernel
theorem dX12_tradeAt_7 : decode cX12_tradeAt 7 = .ok (.imul, 1) := by decide +kernel
theorem dX12_tradeAt_8 : decode cX12_tradeAt 8 = .ok (.iadd, 1) := by decide +kernel
theorem dX12_tradeAt_9 : decode cX12_tradeAt 9 = .ok (.iload_n 2, 1) := by decide +kernel
theorem dX12_tradeAt_10 : decode cX12_tradeAt 10 = .ok (.iadd, 1) := by decide +kernel
theorem dX12_tradeAt_11 : decode cX12_tradeAt 11 = .ok (.iaload, 1) := by decide +kernel
theorem dX12_tradeAt_12 : decode cX12_tradeAt 12 = .ok (.ireturn, 1) := by decide +kernel
theorem dX12_wordHere_0 : decode cX12_wordHere 0 = .ok (.aload_n 0, 1) := by decide +kernel
theorem dX12_wordHere_1 : decode cX12_wordHere 1 = .ok (.getfield 96, 3) := by decide +kernel
theorem dX12_wordHere_4 : decode cX12_wordHere 4 = .ok (.ifCond .ne 13, 3) := by decide +kernel
theorem dX12_wordHere_7 : decode cX12_wordHere 7 = .ok (.aload_n 0, 1) := by decide +kernel
theorem dX12_wordHere_8 : decode cX12_wordHere 8 = .ok (.invokevirtual 115, 3) := by decide +kernel
theorem dX12_wordHere_11 : decode cX12_wordHere 11 = .ok (.invokestatic 111, 3) := by decide +kernel
theorem dX12_wordHere_14 : decode cX12_wordHere 14 = .ok (.ifCond .ne 5, 3) := by decide +kernel
theorem dX12_wordHere_17 : decode cX12_wordHere 17 = .ok (.iconst (-1), 1) := by decide +kernel
theorem dX12_wordHere_18 : decode cX12_wordHere 18 = .ok (.ireturn, 1) := by decide +kernel
theorem dX12_wordHere_19 : decode cX12_wordHere 19 = .ok (.aload_n 0, 1) := by decide +kernel
theorem dX12_wordHere_20 : decode cX12_wordHere 20 = .ok (.invokevirtual 119, 3) := by decide +kernel
theorem dX12_wordHere_23 : decode cX12_wordHere 23 = .ok (.istore_n 1, 1) := by decide +kernel
theorem dX12_wordHere_24 : decode cX12_wordHere 24 = .ok (.iconst 0, 1) := by decide +kernel
theorem dX12_wordHere_25 : decode cX12_wordHere 25 = .ok (.istore_n 2, 1) := by decide +kernel
theorem dX12_wordHere_26 : decode cX12_wordHere 26 = .ok (.iconst 1, 1) := by decide +kernel
theorem dX12_wordHere_27 : decode cX12_wordHere 27 = .ok (.istore_n 3, 1) := by decide +kernel
theorem dX12_wordHere_28 : decode cX12_wordHere 28 = .ok (.iload_n 3, 1) := by decide +kernel
theorem dX12_wordHere_29 : decode cX12_wordHere 29 = .ok (.ldc 122, 2) := by decide +kernel
theorem dX12_wordHere_31 : decode cX12_wordHere 31 = .ok (.invokevirtual 124, 3) := by decide +kernel
theorem dX12_wordHere_34 : decode cX12_wordHere 34 = .ok (.if_icmp .ge 108, 3) := by decide +kernel
theorem dX12_wordHere_37 : decode cX12_wordHere 37 = .ok (.iload_n 3, 1) := by decide +kernel
theorem dX12_wordHere_38 : decode cX12_wordHere 38 = .ok (.istore 4, 2) := by decide +kernel
theorem dX12_wordHere_40 : decode cX12_wordHere 40 = .ok (.ldc 122, 2) := by decide +kernel
theorem dX12_wordHere_42 : decode cX12_wordHere 42 = .ok (.iload 4, 2) := by decide +kernel
theorem dX12_wordHere_44 : decode cX12_wordHere 44 = .ok (.invokevirtual 129, 3) := by decide +kernel
theorem dX12_wordHere_47 : decode cX12_wordHere 47 = .ok (.bipush 32, 2) := by decide +kernel
theorem dX12_wordHere_49 : decode cX12_wordHere 49 = .ok (.if_icmp .eq 9, 3) := by decide +kernel
theorem dX12_wordHere_52 : decode cX12_wordHere 52 = .ok (.iinc 4 1, 3) := by decide +kernel
theorem dX12_wordHere_55 : decode cX12_wordHere 55 = .ok (.goto (-15), 3) := by decide +kernel
theorem dX12_wordHere_58 : decode cX12_wordHere 58 = .ok (.iload 4, 2) := by decide +kernel
theorem dX12_wordHere_60 : decode cX12_wordHere 60 = .ok (.iload_n 3, 1) := by decide +kernel
theorem dX12_wordHere_61 : decode cX12_wordHere 61 = .ok (.isub, 1) := by decide +kernel
theorem dX12_wordHere_62 : decode cX12_wordHere 62 = .ok (.iload_n 1, 1) := by decide +kernel
theorem dX12_wordHere_63 : decode cX12_wordHere 63 = .ok (.if_icmp .ne 7, 3) := by decide +kernel
theorem dX12_wordHere_66 : decode cX12_wordHere 66 = .ok (.iconst 1, 1) := by decide +kernel
theorem dX12_wordHere_67 : decode cX12_wordHere 67 = .ok (.goto 4, 3) := by decide +kernel
theorem dX12_wordHere_70 : decode cX12_wordHere 70 = .ok (.iconst 0, 1) := by decide +kernel
theorem dX12_wordHere_71 : decode cX12_wordHere 71 = .ok (.istore 5, 2) := by decide +kernel
theorem dX12_wordHere_73 : decode cX12_wordHere 73 = .ok (.iconst 0, 1) := by decide +kernel
theorem dX12_wordHere_74 : decode cX12_wordHere 74 = .ok (.istore 6, 2) := by decide +kernel
theorem dX12_wordHere_76 : decode cX12_wordHere 76 = .ok (.iload 6, 2) := by decide +kernel
theorem dX12_wordHere_78 : decode cX12_wordHere 78 = .ok (.iload_n 1, 1) := by decide +kernel
theorem dX12_wordHere_79 : decode cX12_wordHere 79 = .ok (.if_icmp .ge 45, 3) := by decide +kernel
theorem dX12_wordHere_82 : decode cX12_wordHere 82 = .ok (.iload 5, 2) := by decide +kernel
theorem dX12_wordHere_84 : decode cX12_wordHere 84 = .ok (.ifCond .eq 40, 3) := by decide +kernel
theorem dX12_wordHere_87 : decode cX12_wordHere 87 = .ok (.ldc 122, 2) := by decide +kernel
theorem dX12_wordHere_89 : decode cX12_wordHere 89 = .ok (.iload_n 3, 1) := by decide +kernel
theorem dX12_wordHere_90 : decode cX12_wordHere 90 = .ok (.iload 6, 2) := by decide +kernel
theorem dX12_wordHere_92 : decode cX12_wordHere 92 = .ok (.iadd, 1) := by decide +kernel
theorem dX12_wordHere_93 : decode cX12_wordHere 93 = .ok (.invokevirtual 129, 3) := by decide +kernel
theorem dX12_wordHere_96 : decode cX12_wordHere 96 = .ok (.aload_n 0, 1) := by decide +kernel
theorem dX12_wordHere_97 : decode cX12_wordHere 97 = .ok (.getfield 30, 3) := by decide +kernel
theorem dX12_wordHere_100 : decode cX12_wordHere 100 = .ok (.aload_n 0, 1) := by decide +kernel
theorem dX12_wordHere_101 : decode cX12_wordHere 101 = .ok (.getfield 90, 3) := by decide +kernel
theorem dX12_wordHere_104 : decode cX12_wordHere 104 = .ok (.iload 6, 2) := by decide +kernel
theorem dX12_wordHere_106 : decode cX12_wordHere 106 = .ok (.iadd, 1) := by decide +kernel
theorem dX12_wordHere_107 : decode cX12_wordHere 107 = .ok (.baload, 1) := by decide +kernel
theorem dX12_wordHere_108 : decode cX12_wordHere 108 = .ok (.if_icmp .ne 7, 3) := by decide +kernel
theorem dX12_wordHere_111 : decode cX12_wordHere 111 = .ok (.iconst 1, 1) := by decide +kernel
theorem dX12_wordHere_112 : decode cX12_wordHere 112 = .ok (.goto 4, 3) := by decide +kernel
theorem dX12_wordHere_115 : decode cX12_wordHere 115 = .ok (.iconst 0, 1) := by decide +kernel
theorem dX12_wordHere_116 : decode cX12_wordHere 116 = .ok (.istore 5, 2) := by decide +kernel
theorem dX12_wordHere_118 : decode cX12_wordHere 118 = .ok (.iinc 6 1, 3) := by decide +kernel
theorem dX12_wordHere_121 : decode cX12_wordHere 121 = .ok (.goto (-45), 3) := by decide +kernel
theorem dX12_wordHere_124 : decode cX12_wordHere 124 = .ok (.iload 5, 2) := by decide +kernel
theorem dX12_wordHere_126 : decode cX12_wordHere 126 = .ok (.ifCond .eq 5, 3) := by decide +kernel
theorem dX12_wordHere_129 : decode cX12_wordHere 129 = .ok (.iload_n 2, 1) := by decide +kernel
theorem dX12_wordHere_130 : decode cX12_wordHere 130 = .ok (.ireturn, 1) := by decide +kernel
theorem dX12_wordHere_131 : decode cX12_wordHere 131 = .ok (.iinc 2 1, 3) := by decide +kernel
theorem dX12_wordHere_134 : decode cX12_wordHere 134 = .ok (.iload 4, 2) := by decide +kernel
theorem dX12_wordHere_136 : decode cX12_wordHere 136 = .ok (.iconst 1, 1) := by decide +kernel
theorem dX12_wordHere_137 : decode cX12_wordHere 137 = .ok (.iadd, 1) := by decide +kernel
theorem dX12_wordHere_138 : decode cX12_wordHere 138 = .ok (.istore_n 3, 1) := by decide +kernel
theorem dX12_wordHere_139 : decode cX12_wordHere 139 = .ok (.goto (-111), 3) := by decide +kernel
theorem dX12_wordHere_142 : decode cX12_wordHere 142 = .ok (.iconst (-1), 1) := by decide +kernel
theorem dX12_wordHere_143 : decode cX12_wordHere 143 = .ok (.ireturn, 1) := by decide +kernel
def rf (e : va_E) (i : Nat) : Nat := match e with
  | .inr (_, fs) => match fs[i]? with
    | some (.ref a) => a
    | _ => 0
  | _ => 0
def inf (e : va_E) (i : Nat) : Int32 := match e with
  | .inr (_, fs) => match fs[i]? with
    | some (.int a) => a
    | _ => 0
  | _ => 0
def af (e : va_E) : Nat → Int32 := match e with
  | .inl (_, _, .inl f) => f
  | _ => fun _ => 0
theorem rf_i {S : Nat → va_E} {o k i x : Nat} {fs : List Value} (h : S o = .inr (k, fs)) (hx : fs[i]? = some (.ref x)) : rf (S o) i = x := by
  rw [h]
  show (match fs[i]? with | some (.ref a) => a | _ => 0) = x
  rw [hx]
theorem inf_i {S : Nat → va_E} {o k i : Nat} {x : Int32} {fs : List Value} (h : S o = .inr (k, fs)) (hx : fs[i]? = some (.int x)) : inf (S o) i = x := by
  rw [h]
  show (match fs[i]? with | some (.int a) => a | _ => 0) = x
  rw [hx]
theorem af_i {S : Nat → va_E} {x n : Nat} {c : ClassId} {f : Nat → Int32} (h : S x = .inl (c, n, .inl f)) : af (S x) = f := by rw [h]; rfl
def MK (S : Nat → va_E) (o sp sn : Nat) (wr : Int32) (pa ki rs : Nat) : Prop := inf (S o) 12 = nI sp ∧ inf (S o) 11 = nI sn ∧ inf (S o) 13 = wr ∧ inf (S o) 5 = nI pa ∧ inf (S o) 6 = nI ki ∧ rf (S o) 0 = rs ∧ sp ≤ 901 ∧ sn ≤ 900 ∧ pa ≤ 8 ∧ ki ≤ 4
theorem MKi {S : Nat → va_E} {o k sp sn pa ki rs : Nat} {wr : Int32} {fs : List Value} (h : S o = .inr (k, fs)) (h12 : fs[12]? = some (.int (nI sp))) (h11 : fs[11]? = some (.int (nI sn))) (h13 : fs[13]? = some (.int wr)) (h5 : fs[5]? = some (.int (nI pa))) (h6 : fs[6]? = some (.int (nI ki))) (h0 : fs[0]? = some (.ref rs)) (b1 : sp ≤ 901) (b2 : sn ≤ 900) (b3 : pa ≤ 8) (b4 : ki ≤ 4) : MK S o sp sn wr pa ki rs := ⟨inf_i h h12, inf_i h h11, inf_i h h13, inf_i h h5, inf_i h h6, rf_i h h0, b1, b2, b3, b4⟩
theorem MKe {S : Nat → va_E} {o k sp sn pa ki rs x12 x11 x5 x6 x0 : Nat} {wr x13 : Int32} {fs : List Value} (hM : MK S o sp sn wr pa ki rs) (h : S o = .inr (k, fs)) (h12 : fs[12]? = some (.int (nI x12))) (h11 : fs[11]? = some (.int (nI x11))) (h13 : fs[13]? = some (.int x13)) (h5 : fs[5]? = some (.int (nI x5))) (h6 : fs[6]? = some (.int (nI x6))) (h0 : fs[0]? = some (.ref x0)) (b1 : x12 ≤ 901) (b2 : x11 ≤ 900) (b3 : x5 ≤ 8) (b4 : x6 ≤ 4) : sp = x12 ∧ sn = x11 ∧ wr = x13 ∧ pa = x5 ∧ ki = x6 ∧ rs = x0 := by
  obtain ⟨e1, e2, e3, e4, e5, e6, c1, c2, c3, c4⟩ := hM
  rw [inf_i h h12] at e1
  rw [inf_i h h11] at e2
  rw [inf_i h h13] at e3
  rw [inf_i h h5] at e4
  rw [inf_i h h6] at e5
  rw [rf_i h h0] at e6
  exact ⟨(nI_eq (by omega) (by omega)).mp e1.symm, (nI_eq (by omega) (by omega)).mp e2.symm, e3.symm, (nI_eq (by omega) (by omega)).mp e4.symm, (nI_eq (by omega) (by omega)).mp e5.symm, e6.symm⟩
theorem isInc {v lo hi : Int64} {r : Int32} (h : r = (if lo ≤ v ∧ v ≤ hi then 1 else 0)) : (r = 1 ∧ lo ≤ v ∧ v ≤ hi) ∨ (r = 0 ∧ ¬ (lo ≤ v ∧ v ≤ hi)) := by
  by_cases q : lo ≤ v ∧ v ≤ hi
  · rw [if_pos q] at h; exact Or.inl ⟨h, q⟩
  · rw [if_neg q] at h; exact Or.inr ⟨h, q⟩
theorem inK {x : Int32} {z hi : Int64} {H : Nat} (hz : z = x.toInt64) (h : 0 ≤ z ∧ z ≤ hi) (hH : hi.toInt = (H : Int)) (hb : H < 2 ^ 31) : ∃ k, k ≤ H ∧ x = nI k := by
  obtain ⟨h1, h2⟩ := h
  subst hz
  rw [Int64.le_iff_toInt_le, Int32.toInt_toInt64] at h1 h2
  have e0 : (0 : Int64).toInt = 0 := by decide
  have f0 : (0 : Int32).toInt = 0 := by decide
  obtain ⟨k, hk, rfl⟩ := nI_of (x := x) (by rw [Int32.lt_iff_toInt_lt]; omega)
  rw [nI_toInt hk] at h2
  exact ⟨k, by omega, rfl⟩
theorem inN {x : Int32} {z z2 : Int64} {n : Nat} (hz : z = x.toInt64) (hz2 : z2 = (nI n).toInt64) (h : 0 ≤ z ∧ z ≤ z2) (hn : n < 2 ^ 31) : ∃ k, k ≤ n ∧ x = nI k := inK hz h (by rw [hz2, Int32.toInt_toInt64, nI_toInt hn]) hn
theorem inP {x : Int32} {z z2 : Int64} {n : Nat} (hz : z = x.toInt64) (hz2 : z2 = (pd n).toInt64) (h : 0 ≤ z ∧ z ≤ z2) (hn : n < 2 ^ 31) : ∃ k, k < n ∧ x = nI k := by
  cases n with
  | zero =>
    exfalso
    subst hz2
    have e1 : (pd 0).toInt64.toInt = -1 := by decide
    obtain ⟨h1, h2⟩ := h
    rw [Int64.le_iff_toInt_le] at h1 h2
    have e0 : (0 : Int64).toInt = 0 := by decide
    omega
  | succ n =>
    rw [pd_s] at hz2
    obtain ⟨k, hk, e⟩ := inN hz hz2 h (by omega)
    exact ⟨k, by omega, e⟩
theorem inI {v lo hi : Int32} {z z1 z2 : Int64} (h0 : z = v.toInt64) (h1 : z1 = lo.toInt64) (h2 : z2 = hi.toInt64) (h : z1 ≤ z ∧ z ≤ z2) : ¬ v < lo ∧ v ≤ hi := by
  subst h0 h1 h2
  obtain ⟨g1, g2⟩ := h
  rw [Int64.le_iff_toInt_le, Int32.toInt_toInt64, Int32.toInt_toInt64] at g1 g2
  rw [Int32.lt_iff_toInt_lt, Int32.le_iff_toInt_le]
  omega
theorem okS_up {n : Nat} {f f1 : Nat → Int32} {x : Int32} {i : Nat} (hi : i < 2 ^ 31) (h : ∀ j, j < n → okS j (f j)) (hf : f1 = upd f (nI i).toNatClampNeg x) (hx : okS i x) : ∀ j, j < n → okS j (f1 j) := fun j hj => by
  rw [nI_clamp hi] at hf
  subst hf
  by_cases q : j = i
  · rw [q, pk_us]; exact hx
  · rw [pk_un q]; exact h j hj
theorem okS2_up {n : Nat} {f f1 : Nat → Int32} {x : Int32} {i : Nat} (hi : i < 2 ^ 31) (h : ∀ j, j < n → okS (j % 266) (f j)) (hf : f1 = upd f (nI i).toNatClampNeg x) (hx : okS (i % 266) x) : ∀ j, j < n → okS (j % 266) (f1 j) := fun j hj => by
  rw [nI_clamp hi] at hf
  subst hf
  by_cases q : j = i
  · rw [q, pk_us]; exact hx
  · rw [pk_un q]; exact h j hj
theorem okS_any {i : Nat} {v : Int32} (h : i = 1 ∨ 202 ≤ i ∨ (2 ≤ i ∧ ((i - 2) % 5 = 2 ∨ (i - 2) % 5 = 4))) : okS i v := ⟨fun q => by omega, fun _ _ _ => by omega, fun _ _ _ => by omega⟩
theorem okS_n {i k : Nat} (h0 : i = 0 → k ≤ 40) (h1 : 2 ≤ i → i < 202 → ((i - 2) % 5 = 0 ∨ (i - 2) % 5 = 1) → k < 8) (h3 : 2 ≤ i → i < 202 → (i - 2) % 5 = 3 → k < 4) : okS i (nI k) := ⟨fun q => ⟨k, h0 q, rfl⟩, fun a b c => ⟨k, h1 a b c, rfl⟩, fun a b c => ⟨k, h3 a b c, rfl⟩⟩
theorem sc_631 {k : Nat} {r : Int32} (h : r = sc_ch 6 k) (hk : k < 32) (hr : ¬ r = 32) : k < 31 := by
  by_cases q : k = 31
  · subst q
    exact absurd (h.trans (by decide)) hr
  · omega
def fld (S : Nat → va_E) (o i : Nat) : Nat → Int32 := af (S (rf (S o) i))
theorem fld_i {S : Nat → va_E} {o k i x n : Nat} {c : ClassId} {f : Nat → Int32} {fs : List Value} (h : S o = .inr (k, fs)) (hx : fs[i]? = some (.ref x)) (ha : S x = .inl (c, n, .inl f)) : fld S o i = f := by
  rw [fld, rf_i h hx, af_i ha]
def dg (f : Nat → Int32) : Prop := ∀ n t, n ≤ 40 → f 0 = nI n → t < n → f (2 + 5 * t) ≠ f (2 + 5 * t + 1)
def DGA (f : Nat → Int32) : Prop := ∀ b, b < 10 → dg (fun j => f (266 * b + j))
theorem dg_i {f : Nat → Int32} {n : Nat} (h0 : f 0 = nI n) (hn : n ≤ 40) (h : ∀ t, t < n → f (2 + 5 * t) ≠ f (2 + 5 * t + 1)) : dg f := fun n' t hn' h0' ht => by
  have e := (nI_eq (by omega) (by omega)).mp (h0'.symm.trans h0)
  subst e
  exact h t ht
theorem dg_e {f : Nat → Int32} {n t : Nat} (h : dg f) (h0 : f 0 = nI n) (hn : n ≤ 40) (ht : t < n) : f (2 + 5 * t) ≠ f (2 + 5 * t + 1) := h n t hn h0 ht
theorem dg_0 {f : Nat → Int32} (h0 : f 0 = nI 0) : dg f := dg_i h0 (by omega) (fun t h => absurd h (Nat.not_lt_zero _))
theorem dg_c {f g : Nat → Int32} (h : dg g) (e : ∀ j, j < 202 → f j = g j) : dg f := fun n t hn h0 ht => by
  rw [e _ (by omega), e _ (by omega)]
  rw [e 0 (by omega)] at h0
  exact h n t hn h0 ht
theorem dg_up {f f1 : Nat → Int32} {i : Nat} {x : Int32} (h : dg f) (e : f1 = upd f (nI i).toNatClampNeg x) (hi : i < 2 ^ 31) (hc : i = 1 ∨ 202 ≤ i ∨ (2 ≤ i ∧ ((i - 2) % 5 = 2 ∨ (i - 2) % 5 = 3 ∨ (i - 2) % 5 = 4))) : dg f1 := fun n t hn h0 ht => by
  rw [nI_clamp hi] at e
  subst e
  rw [pk_un (by omega)] at h0
  rw [pk_un (by omega), pk_un (by omega)]
  exact h n t hn h0 ht
theorem dg_adds {g f1 f2 f3 f4 f5 f6 : Nat → Int32} {nn ga gb i1 i2 i3 i4 i5 : Nat} {x3 x4 x5 : Int32} (e1 : f1 = upd g (nI i1).toNatClampNeg (nI ga)) (e2 : f2 = upd f1 (nI i2).toNatClampNeg (nI gb)) (e3 : f3 = upd f2 (nI i3).toNatClampNeg x3) (e4 : f4 = upd f3 (nI i4).toNatClampNeg x4) (e5 : f5 = upd f4 (nI i5).toNatClampNeg x5) (h6 : f6 0 = nI (nn + 1)) (h7 : ∀ j, 1 ≤ j → f6 j = f5 j) (k1 : i1 = 2 + 5 * nn) (k2 : i2 = i1 + 1) (k3 : i3 = i1 + 2) (k4 : i4 = i1 + 3) (k5 : i5 = i1 + 4) (h : dg g) (h0 : g 0 = nI nn) (hn : nn < 40) (ha : ga < 8) (hb : gb < 8) (hab : ga ≠ gb) : dg f6 := dg_i h6 (by omega) (fun t ht => by
  subst k1 k2 k3 k4 k5
  rw [nI_clamp (by omega)] at e1 e2 e3 e4 e5
  subst e1 e2 e3 e4 e5
  rw [h7 _ (by omega), h7 _ (by omega)]
  by_cases q : t = nn
  · subst q
    rw [pk_un (by omega), pk_un (by omega), pk_un (by omega), pk_un (by omega), pk_us, pk_un (by omega), pk_un (by omega), pk_un (by omega), pk_us]
    exact fun z => hab ((nI_eq (by omega) (by omega)).mp z)
  · rw [pk_un (by omega), pk_un (by omega), pk_un (by omega), pk_un (by omega), pk_un (by omega), pk_un (by omega), pk_un (by omega), pk_un (by omega), pk_un (by omega), pk_un (by omega)]
    exact dg_e h h0 (by omega) (by omega))
def gsh (g : Nat → Int32) (a i j : Nat) : Int32 := if a ≤ j ∧ j < i then g (j + 5) else g j
theorem gsh_up {g f f1 : Nat → Int32} {a i i5 : Nat} {y : Int32} (hf : ∀ j, 1 ≤ j → f j = gsh g a i j) (hy : y = f (nI i5).toNatClampNeg) (h5 : i5 = i + 5) (e : f1 = upd f (nI i).toNatClampNeg y) (ha : a ≤ i) (h1 : 1 ≤ i) (hi : i < 300) : ∀ j, 1 ≤ j → f1 j = gsh g a (i + 1) j := fun j hj => by
  subst h5
  rw [nI_clamp (by omega)] at e hy
  subst e
  by_cases q : j = i
  · subst q
    rw [pk_us, hy, hf _ (by omega)]
    unfold gsh
    rw [if_neg (by omega), if_pos (by omega)]
  · rw [pk_un q, hf j hj]
    unfold gsh
    by_cases c : a ≤ j ∧ j < i
    · rw [if_pos c, if_pos (by omega)]
    · rw [if_neg c, if_neg (by omega)]
theorem gsh_b {g : Nat → Int32} {a i j : Nat} (h : j < a) : gsh g a i j = g j := if_neg (by omega)
theorem dg_goes {g f : Nat → Int32} {t nn i : Nat} (h : dg g) (h0 : g 0 = nI nn) (hn : nn ≤ 40) (f0 : f 0 = nI (nn - 1)) (ht : t < nn) (hi : i = 2 + 5 * (nn - 1)) (hf : ∀ j, 1 ≤ j → f j = gsh g (2 + 5 * t) i j) : dg f := dg_i f0 (by omega) (fun u hu => by
  subst hi
  rw [hf _ (by omega), hf _ (by omega)]
  unfold gsh
  by_cases c : u < t
  · rw [if_neg (by omega), if_neg (by omega)]
    exact dg_e h h0 hn (by omega)
  · rw [if_pos (by omega), if_pos (by omega)]
    have q := dg_e (t := u + 1) h h0 hn (by omega)
    rw [show 2 + 5 * u + 5 = 2 + 5 * (u + 1) from by omega, show 2 + 5 * u + 1 + 5 = 2 + 5 * (u + 1) + 1 from by omega]
    exact q)
theorem cpy_up {f f1 : Nat → Int32} {P : Nat → Int32 → Prop} {i : Nat} {y : Int32} (e : f1 = upd f (nI i).toNatClampNeg y) (hi : i < 2 ^ 31) (h : ∀ j, j < i → P j (f j)) (hy : P i y) : ∀ j, j < i + 1 → P j (f1 j) := fun j hj => by
  rw [nI_clamp hi] at e
  subst e
  by_cases q : j = i
  · rw [q, pk_us]; exact hy
  · rw [pk_un q]; exact h j (by omega)
theorem cpb_up {f f1 g s : Nat → Int32} {b i k : Nat} {y : Int32} (h : (∀ j, j < i → f (b + j) = s j) ∧ ∀ j, j < b ∨ b + 266 ≤ j → f j = g j) (e : f1 = upd f (nI k).toNatClampNeg y) (hk : k = b + i) (hy : y = s (nI i).toNatClampNeg) (hi : i < 266) (hb : b < 100000) : (∀ j, j < i + 1 → f1 (b + j) = s j) ∧ ∀ j, j < b ∨ b + 266 ≤ j → f1 j = g j := by
  subst hk
  rw [nI_clamp (by omega)] at e hy
  subst e hy
  refine ⟨fun j hj => ?_, fun j hj => ?_⟩
  · by_cases q : j = i
    · rw [q, pk_us]
    · rw [pk_un (by omega)]; exact h.1 j (by omega)
  · rw [pk_un (by omega)]; exact h.2 j hj
theorem DGA_put {f g s : Nat → Int32} {am b : Nat} (hg : DGA g) (hs : dg s) (hb : b = 266 * am) (h : (∀ j, j < 266 → f (b + j) = s j) ∧ ∀ j, j < b ∨ b + 266 ≤ j → f j = g j) : DGA f := fun c hc => by
  subst hb
  by_cases e : c = am
  · subst e
    exact dg_c hs (fun j hj => h.1 j (by omega))
  · exact dg_c (hg c hc) (fun j hj => h.2 (266 * c + j) (by omega))
theorem csh_up {f f1 g : Nat → Int32} {i k : Nat} {y : Int32} (h : (∀ j, j < i → f j = g (j + 266)) ∧ ∀ j, i ≤ j → f j = g j) (e : f1 = upd f (nI i).toNatClampNeg y) (hk : k = i + 266) (hy : y = f (nI k).toNatClampNeg) (hi : i < 2394) : (∀ j, j < i + 1 → f1 j = g (j + 266)) ∧ ∀ j, i + 1 ≤ j → f1 j = g j := by
  subst hk
  rw [nI_clamp (by omega)] at e hy
  subst e
  refine ⟨fun j hj => ?_, fun j hj => ?_⟩
  · by_cases q : j = i
    · rw [q, pk_us, hy]; exact h.2 _ (by omega)
    · rw [pk_un q]; exact h.1 j (by omega)
  · rw [pk_un (by omega)]; exact h.2 j (by omega)
theorem DGA_sh {f g : Nat → Int32} (hg : DGA g) (h : (∀ j, j < 2394 → f j = g (j + 266)) ∧ ∀ j, 2394 ≤ j → f j = g j) : DGA f := fun b hb => by
  by_cases e : b < 9
  · refine dg_c (hg (b + 1) (by omega)) (fun j hj => ?_)
    show f (266 * b + j) = g (266 * (b + 1) + j)
    rw [h.1 _ (by omega), show 266 * b + j + 266 = 266 * (b + 1) + j from by omega]
  · exact dg_c (hg b hb) (fun j hj => h.2 (266 * b + j) (by omega))
theorem pz_up {f f1 : Nat → Int32} {i : Nat} {v : Int32} (e : f1 = upd f (nI i).toNatClampNeg v) (hi : i < 266) (hv : i < 202 → v = 0) (h : 0 < i → f 0 = nI 0) : f1 0 = nI 0 := by
  rw [nI_clamp (by omega)] at e
  subst e
  by_cases q : i = 0
  · subst q
    rw [pk_us, hv (by omega)]
    rfl
  · rw [pk_un (by omega)]; exact h (by omega)
theorem k50i {cy : Nat → ClassId} {L : List Nat} {kap : Nat → Nat} {pr : Pr} {S : Nat → va_E} {a : Nat} {f : Nat → Int32} (h : Ty cy L kap pr S) (ha : TK L kap a 50) (he : S a = .inl (cy 0, 266, .inl f)) : ∀ j, j < 266 → okS j (f j) := by
  obtain ⟨g, hg, hi⟩ := h.k50 ha
  have e := hg.symm.trans he
  simp only [Sum.inl.injEq, Prod.mk.injEq, true_and] at e
  rw [← e]
  exact hi
theorem k51i {cy : Nat → ClassId} {L : List Nat} {kap : Nat → Nat} {pr : Pr} {S : Nat → va_E} {a : Nat} {f : Nat → Int32} (h : Ty cy L kap pr S) (ha : TK L kap a 51) (he : S a = .inl (cy 0, 266, .inl f)) : ∀ j, j < 266 → okS j (f j) := by
  obtain ⟨g, hg, hi⟩ := h.k51 ha
  have e := hg.symm.trans he
  simp only [Sum.inl.injEq, Prod.mk.injEq, true_and] at e
  rw [← e]
  exact hi
theorem k52i {cy : Nat → ClassId} {L : List Nat} {kap : Nat → Nat} {pr : Pr} {S : Nat → va_E} {a : Nat} {f : Nat → Int32} (h : Ty cy L kap pr S) (ha : TK L kap a 52) (he : S a = .inl (cy 0, 2660, .inl f)) : ∀ j, j < 2660 → okS (j % 266) (f j) := by
  obtain ⟨g, hg, hi⟩ := h.k52 ha
  have e := hg.symm.trans he
  simp only [Sum.inl.injEq, Prod.mk.injEq, true_and] at e
  rw [← e]
  exact hi

def mny (S : Nat → va_E) (o n : Nat) : Prop := af (S (rf (S o) 0)) 0 = nI n
theorem mnyi {S : Nat → va_E} {o k x n q : Nat} {c : ClassId} {f : Nat → Int32} {fs : List Value} (h : S o = .inr (k, fs)) (h0 : fs[0]? = some (.ref x)) (hx : S x = .inl (c, q, .inl f)) (hn : f 0 = nI n) : mny S o n := by
  rw [mny, rf_i h h0, af_i hx]; exact hn
theorem mnye {S : Nat → va_E} {o k x n q : Nat} {c : ClassId} {f : Nat → Int32} {fs : List Value} (hm : mny S o n) (h : S o = .inr (k, fs)) (h0 : fs[0]? = some (.ref x)) (hx : S x = .inl (c, q, .inl f)) : f 0 = nI n := by
  rw [mny, rf_i h h0, af_i hx] at hm; exact hm
theorem up0 {f f1 : Nat → Int32} {i n : Nat} {x : Int32} (hi : i < 2 ^ 31) (h1 : 0 < i) (h : f 0 = nI n) (hf : f1 = upd f (nI i).toNatClampNeg x) : f1 0 = nI n := by
  rw [nI_clamp hi] at hf
  rw [hf, pk_un (by omega)]; exact h
theorem up00 {f f1 : Nat → Int32} {x : Int32} (hf : f1 = upd f (Int32.toNatClampNeg 0) x) : f1 0 = x := by rw [hf]; exact pk_us
theorem okS_5 {k : Nat} {y : Int32} (h : okS (k + 5) y) (h1 : 2 ≤ k) (h2 : k + 5 < 202) : okS k y := ⟨fun q => by omega, fun a b d => h.2.1 (by omega) (by omega) (by omega), fun a b d => h.2.2 (by omega) (by omega) (by omega)⟩
set_option maxHeartbeats 4000000 in
set_option maxRecDepth 100000 in
theorem m_isIn (l : Launch) (dC : Nat → ClassId) (dI : Nat → Nat → Nat) (sz : Nat) (v : Int64) (lo : Int64) (hi : Int64) : Met l yX12_isIn (wT yX12_isIn cX12_isIn 6 (some .boolean)) ({ frames := 0, cells := 0, slots := 0, locals := 0 }) (pcW dC dI [.long v, .long lo, .long hi] sz [] []) (vp_Si (fun r => r = (if lo ≤ v ∧ v ≤ hi then 1 else 0))) 0 0 (fun _ => False) := by
  refine Met.ofW (cc := cX12_isIn) (maxL := 6) (ret := (some .boolean)) (by decide) rfl ?_
  intro p e s m args below meth c s₁ B hml hv
  obtain ⟨rfl, hsz, hP, hK, hD0⟩ := hv
  have hx := B.exec
  have hb := B.bytes
  have hr := B.returns
  have hT : ∀ wd ∈ TB, wd.before [.long v, .long lo, .long hi].toArray s = true := fun wd h => atoms_spec (ws := wT yX12_isIn cX12_isIn 6 (some .boolean)) B.pre wd (List.mem_cons_of_mem _ h)
  have hown : s.vm.findClass RX12 = some m.cls := findClass_of_methodNamed B.named
  have hlocks := B.notSynchronized
  subst hsz
  have hl := lv_entry ([.long v, .long lo, .long hi]) (n := 6) (Nat.le_of_ble_eq_true rfl)
  rw [lg_entry_eq]
  generalize (lg_sl ([.long v, .long lo, .long hi]) ++ List.replicate (6 - (lg_sl ([.long v, .long lo, .long hi])).length) Slot.unset).toArray = ls at hl ⊢
  have hl : lv_has ls 6 [(0, .long v), (2, .long lo), (4, .long hi)] := hl
  refine lv_lload_n hx hb dX12_isIn_0 rfl (lv_at hl 0 rfl) ?_
  refine lv_lload_n hx hb dX12_isIn_1 rfl (lv_at hl 1 rfl) ?_
  refine W.lcmp hx hb dX12_isIn_2 ?_
  refine lv_if_lt (tgt := 17) hx hb dX12_isIn_3 (by decide) (fun c_3 => ?_) (fun c_3 => ?_)
  · refine lv_iconst (v := 0) hx hb dX12_isIn_17 (by decide) ?_
    exact W.zret (ty := .boolean) (v := 0) hx hb hr (by decide) (fun t ht h9 => ⟨0, rfl, (isIn_a c_3), ht⟩) (fun q h => by cases h) dX12_isIn_18
  · refine lv_lload_n hx hb dX12_isIn_6 rfl (lv_at hl 0 rfl) ?_
    refine lv_lload hx hb dX12_isIn_7 (lv_at hl 2 rfl) ?_
    refine W.lcmp hx hb dX12_isIn_9 ?_
    refine lv_if_gt (tgt := 17) hx hb dX12_isIn_10 (by decide) (fun c_10 => ?_) (fun c_10 => ?_)
    · refine lv_iconst (v := 0) hx hb dX12_isIn_17 (by decide) ?_
      exact W.zret (ty := .boolean) (v := 0) hx hb hr (by decide) (fun t ht h9 => ⟨0, rfl, (isIn_b c_10), ht⟩) (fun q h => by cases h) dX12_isIn_18
    · refine lv_iconst (v := 1) hx hb dX12_isIn_13 (by decide) ?_
      refine lv_goto (tgt := 18) hx hb dX12_isIn_14 (by decide) ?_
      exact W.zret (ty := .boolean) (v := 1) hx hb hr (by decide) (fun t ht h9 => ⟨1, rfl, (isIn_1 c_3 c_10), ht⟩) (fun q h => by cases h) dX12_isIn_18

set_option maxHeartbeats 4000000 in
set_option maxRecDepth 100000 in
theorem m_tradeAt (l : Launch) (dC : Nat → ClassId) (dI : Nat → Nat → Nat) (cy : Nat → ClassId) (L : List Nat) (kap : Nat → Nat) (pr : Pr) (S : Nat → va_E) (sz : Nat) (o : Nat) (t : Nat) (wa : Nat) (hTy : Ty cy L kap pr S) (hT_o : TK L kap o 12) (hb_t : t < 40) (hb_wa : wa < 5) : Met l yX12_tradeAt (wT yX12_tradeAt cX12_tradeAt 3 (some .int)) ({ frames := 0, cells := 0, slots := 0, locals := 0 }) (pcN dC dI [.ref o, .int (nI t), .int (nI wa)] sz (va_pl L S) (cyT cy) NLs []) (vp_Si (fun r => okS (2 + 5 * t + wa) r ∧ r = af (S (rf (S o) 0)) (2 + 5 * t + wa))) 0 0 (fun _ => False) := by
  refine Met.ofW (cc := cX12_tradeAt) (maxL := 3) (ret := (some .int)) (by decide) rfl ?_
  intro p e s m args below meth c s₁ B hml hv
  obtain ⟨rfl, hsz, hP, hK, hD0, hN, -⟩ := hv
  have hx := B.exec
  have hb := B.bytes
  have hr := B.returns
  have hT : ∀ wd ∈ TB, wd.before [.ref o, .int (nI t), .int (nI wa)].toArray s = true := fun wd h => atoms_spec (ws := wT yX12_tradeAt cX12_tradeAt 3 (some .int)) B.pre wd (List.mem_cons_of_mem _ h)
  have hown : s.vm.findClass RX12 = some m.cls := findClass_of_methodNamed B.named
  have hlocks := B.notSynchronized
  subst hsz
  have hW : PW dC dI L (AL L s.heap.size) s.heap S s.heap [] := ⟨hP, pl_self hD0, va_S.rf⟩
  have hFr : Fr kap [] S S := Fr.rf
  have hl := lv_entry ([.ref o, .int (nI t), .int (nI wa)]) (n := 3) (Nat.le_of_ble_eq_true rfl)
  rw [lg_entry_eq]
  generalize (lg_sl ([.ref o, .int (nI t), .int (nI wa)]) ++ List.replicate (3 - (lg_sl ([.ref o, .int (nI t), .int (nI wa)])).length) Slot.unset).toArray = ls at hl ⊢
  have hl : lv_has ls 3 [(0, .ref o), (1, .int (nI t)), (2, .int (nI wa))] := hl
  refine lv_aload_n hx hb dX12_tradeAt_0 rfl (lv_at hl 0 rfl) ?_
  obtain ⟨x_1, x_2, x_3, x_4, x_5, x_6, x_7, x_8, x_9, x_10, x_11, x_12, x_13, x_14, x_15, x_16, x_17, x_18, x_19, x_20, x_21, x_22, x_23, x_24, x_25, x_26, x_27, x_28, x_29, x_30, x_31, hS_o, hT_x_1, hT_x_2, hT_x_3, hT_x_4, hT_x_5, hb_x_6, hb_x_7, hb_x_8, hT_x_10, hb_q2, hb_x_11, hb_x_12, hT_x_17, hT_x_18, hb_x_19, hT_x_20, hT_x_21, hT_x_22, hT_x_23, hT_x_24, hT_x_25, hT_x_26, hT_x_27, hT_x_28, hT_x_29, hT_x_30, hb_x_31⟩ := hTy.k12 hT_o
  have hb_q2 : pr.2 ≤ 900 := hb_q2
  have hS_o : S o = .inr (12, [.ref x_1, .ref x_2, .ref x_3, .ref x_4, .ref x_5, .int (nI x_6), .int (nI x_7), .int (nI x_8), .int x_9, .ref x_10, .int (nI (pr.2)), .int (nI x_11), .int (nI x_12), .int x_13, .int x_14, .int x_15, .int x_16, .ref x_17, .ref x_18, .int (nI x_19), .ref x_20, .ref x_21, .ref x_22, .ref x_23, .ref x_24, .ref x_25, .ref x_26, .ref x_27, .ref x_28, .ref x_29, .ref x_30, .int (nI x_31)]) := hS_o
  refine pl_get (ci := 12) (v := .ref x_1) (C := RX12) (T := TX12) (N := 32) hx hb hT iX12 hown hK hW hT_o.1 hS_o rfl 0 (by decide) w1082 rfl dX12_tradeAt_1 ?_
  refine lv_iconst (v := 2) hx hb dX12_tradeAt_4 (by decide) ?_
  refine lv_iconst (v := 5) hx hb dX12_tradeAt_5 (by decide) ?_
  refine lv_iload_n hx hb dX12_tradeAt_6 rfl (lv_at hl 1 rfl) ?_
  refine lv_imul hx hb dX12_tradeAt_7 ?_
  refine lv_topi (fun z_32 ez_32 => ?_)
  obtain rfl : z_32 = nI (5 * t) := ez_32.trans (pk_mul (5) (t))
  refine lv_iadd hx hb dX12_tradeAt_8 ?_
  refine lv_topi (fun z_33 ez_33 => ?_)
  obtain rfl : z_33 = nI (2 + (5 * t)) := ez_33.trans (nI_add (2) (5 * t))
  refine lv_iload_n hx hb dX12_tradeAt_9 rfl (lv_at hl 2 rfl) ?_
  refine lv_iadd hx hb dX12_tradeAt_10 ?_
  refine lv_topi (fun z_34 ez_34 => ?_)
  obtain rfl : z_34 = nI ((2 + (5 * t)) + wa) := ez_34.trans (nI_add (2 + (5 * t)) (wa))
  obtain ⟨f_35, hS_x_1, hi_f_35⟩ := hTy.k50 hT_x_1
  refine pl_iald hx hb hK hW hT_x_1.1 hS_x_1 (vp_in_nI (n := (2 + (5 * t)) + wa) (N := 266) (by omega) (by omega)) dX12_tradeAt_11 ?_
  refine lv_topi (fun y_36 ey_36 => ?_)
  have hv_y_36 : okS ((2 + (5 * t)) + wa) y_36 := by rw [ey_36]; show okS _ (f_35 (nI ((2 + (5 * t)) + wa)).toNatClampNeg); rw [nI_clamp (by omega)]; exact hi_f_35 ((2 + (5 * t)) + wa) (by omega)
  exact W.iret (v := y_36) hx hb hr (fun t ht h9 => ⟨y_36, rfl, ⟨hv_y_36, by rw [rf_i hS_o rfl, af_i hS_x_1, ey_36, nI_clamp (by omega)]⟩, ht⟩) (fun q h => by cases h) dX12_tradeAt_12

set_option maxHeartbeats 4000000 in
set_option maxRecDepth 100000 in
theorem m_adds (l : Launch) (dC : Nat → ClassId) (dI : Nat → Nat → Nat) (cy : Nat → ClassId) (L : List Nat) (kap : Nat → Nat) (pr : Pr) (S : Nat → va_E) (sz : Nat) (o : Nat) (ga : Nat) (gb : Nat) (am : Int32) (kd : Nat) (hTy : Ty cy L kap pr S) (hT_o : TK L kap o 12) (hb_ga : ga < 8) (hb_gb : gb < 8) (hb_kd : kd < 4) (nn : Nat) (hn : mny S o nn) (h40 : nn < 40) (hdg : dg (fld S o 0)) (hab : ga ≠ gb) : Met l yX12_adds (wT yX12_adds cX12_adds 6 none) ({ frames := 0, cells := 0, slots := 0, locals := 0 }) (pcN dC dI [.ref o, .int (nI ga), .int (nI gb), .int am, .int (nI kd)] sz (va_pl L S) (cyT cy) NLs []) (va_Qv (fun S' => Ty cy L kap pr S' ∧ Fr kap [50] S S' ∧ (mny S' o (nn + 1) ∧ dg (fld S' o 0))) (fun S' t => pB dC dI (AL L sz) (va_pl L S') (cyT cy) t) (AL L sz)) 0 0 (AL L sz) := by
  refine Met.ofW (cc := cX12_adds) (maxL := 6) (ret := none) (by decide) rfl ?_
  intro p e s m args below meth c s₁ B hml hv
  obtain ⟨rfl, hsz, hP, hK, hD0, hN, -⟩ := hv
  have hx := B.exec
  have hb := B.bytes
  have hr := B.returns
  have hT : ∀ wd ∈ TB, wd.before [.ref o, .int (nI ga), .int (nI gb), .int am, .int (nI kd)].toArray s = true := fun wd h => atoms_spec (ws := wT yX12_adds cX12_adds 6 none) B.pre wd (List.mem_cons_of_mem _ h)
  have hown : s.vm.findClass RX12 = some m.cls := findClass_of_methodNamed B.named
  have hlocks := B.notSynchronized
  subst hsz
  have hW : PW dC dI L (AL L s.heap.size) s.heap S s.heap [] := ⟨hP, pl_self hD0, va_S.rf⟩
  have hA0 : ∀ q, q ∈ L → AL L s.heap.size q := fun _ h => Or.inl h
  have hA : ∀ q, s.heap.size ≤ q → AL L s.heap.size q := fun _ h => Or.inr h
  have hFr : Fr kap [50] S S := Fr.rf
  have hl := lv_entry ([.ref o, .int (nI ga), .int (nI gb), .int am, .int (nI kd)]) (n := 6) (Nat.le_of_ble_eq_true rfl)
  rw [lg_entry_eq]
  generalize (lg_sl ([.ref o, .int (nI ga), .int (nI gb), .int am, .int (nI kd)]) ++ List.replicate (6 - (lg_sl ([.ref o, .int (nI ga), .int (nI gb), .int am, .int (nI kd)])).length) Slot.unset).toArray = ls at hl ⊢
  have hl : lv_has ls 6 [(0, .ref o), (1, .int (nI ga)), (2, .int (nI gb)), (3, .int am), (4, .int (nI kd))] := hl
  obtain ⟨x_1, x_2, x_3, x_4, x_5, x_6, x_7, x_8, x_9, x_10, x_11, x_12, x_13, x_14, x_15, x_16, x_17, x_18, x_19, x_20, x_21, x_22, x_23, x_24, x_25, x_26, x_27, x_28, x_29, x_30, x_31, hS_o, hT_x_1, hT_x_2, hT_x_3, hT_x_4, hT_x_5, hb_x_6, hb_x_7, hb_x_8, hT_x_10, hb_q2, hb_x_11, hb_x_12, hT_x_17, hT_x_18, hb_x_19, hT_x_20, hT_x_21, hT_x_22, hT_x_23, hT_x_24, hT_x_25, hT_x_26, hT_x_27, hT_x_28, hT_x_29, hT_x_30, hb_x_31⟩ := hTy.k12 hT_o
  have hb_q2 : pr.2 ≤ 900 := hb_q2
  have hS_o : S o = .inr (12, [.ref x_1, .ref x_2, .ref x_3, .ref x_4, .ref x_5, .int (nI x_6), .int (nI x_7), .int (nI x_8), .int x_9, .ref x_10, .int (nI (pr.2)), .int (nI x_11), .int (nI x_12), .int x_13, .int x_14, .int x_15, .int x_16, .ref x_17, .ref x_18, .int (nI x_19), .ref x_20, .ref x_21, .ref x_22, .ref x_23, .ref x_24, .ref x_25, .ref x_26, .ref x_27, .ref x_28, .ref x_29, .ref x_30, .int (nI x_31)]) := hS_o
  obtain ⟨f_32, hS_x_1, hi_f_32⟩ := hTy.k50 hT_x_1
  have h0_ : f_32 0 = nI nn := mnye hn hS_o rfl hS_x_1
  have hdg_ : dg f_32 := by have q := hdg; rw [fld_i hS_o rfl hS_x_1] at q; exact q
  have h0g_ := h0_
  refine lv_iconst (v := 2) hx hb dX12_adds_0 (by decide) ?_
  refine lv_iconst (v := 5) hx hb dX12_adds_1 (by decide) ?_
  refine lv_aload_n hx hb dX12_adds_2 rfl (lv_at hl 0 rfl) ?_
  refine pl_get (ci := 12) (v := .ref x_1) (C := RX12) (T := TX12) (N := 32) hx hb hT iX12 hown hK hW hT_o.1 hS_o rfl 0 (by decide) w1082 rfl dX12_adds_3 ?_
  refine lv_iconst (v := 0) hx hb dX12_adds_6 (by decide) ?_
  refine pl_iald hx hb hK hW hT_x_1.1 hS_x_1 (vp_in_nI (n := 0) (N := 266) (by omega) (by omega)) dX12_adds_7 ?_
  refine lv_topi (fun y_33 ey_33 => ?_)
  obtain rfl : y_33 = nI nn := ey_33.trans h0_
  refine lv_imul hx hb dX12_adds_8 ?_
  refine lv_topi (fun z_34 ez_34 => ?_)
  obtain rfl : z_34 = nI (5 * nn) := ez_34.trans (pk_mul (5) (nn))
  refine lv_iadd hx hb dX12_adds_9 ?_
  refine lv_topi (fun z_35 ez_35 => ?_)
  obtain rfl : z_35 = nI (2 + (5 * nn)) := ez_35.trans (nI_add (2) (5 * nn))
  refine lv_istore (lv' := [(5, .int (nI (2 + (5 * nn)))), (0, .ref o), (1, .int (nI ga)), (2, .int (nI gb)), (3, .int am), (4, .int (nI kd))]) hx hb dX12_adds_10 hl (by decide) rfl (fun ls hl => ?_)
  refine lv_aload_n hx hb dX12_adds_12 rfl (lv_at hl 1 rfl) ?_
  refine pl_get (ci := 12) (v := .ref x_1) (C := RX12) (T := TX12) (N := 32) hx hb hT iX12 hown hK hW hT_o.1 hS_o rfl 0 (by decide) w1082 rfl dX12_adds_13 ?_
  refine lv_iload hx hb dX12_adds_16 (lv_at hl 0 rfl) ?_
  refine lv_iload_n hx hb dX12_adds_18 rfl (lv_at hl 2 rfl) ?_
  refine pl_iast hx hb hK hW hT_x_1.1 hS_x_1 (vp_in_nI (n := 2 + (5 * nn)) (N := 266) (by omega) (by omega)) dX12_adds_19 (fun H locs f_37 S_36 ef_f_37 e1 hW => ?_)
  have hok_ : okS (2 + (5 * nn)) (nI (ga)) := (okS_n (by omega) (by omega) (by omega))
  have hi_f_37 := okS_up (i := 2 + (5 * nn)) (by omega) hi_f_32 ef_f_37 hok_
  have hTy := hTy.u50 e1 hT_x_1 ⟨f_37, rfl, hi_f_37⟩
  have hS_o := un e1 hT_o hT_x_1 (by decide) hS_o
  have hFr := uf hFr e1 hT_x_1 (by decide) (by decide)
  have hS_x_1 := us e1
  have h0_ : f_37 0 = nI nn := up0 (i := 2 + (5 * nn)) (by omega) (by omega) h0_ ef_f_37
  refine lv_aload_n hx hb dX12_adds_20 rfl (lv_at hl 1 rfl) ?_
  refine pl_get (ci := 12) (v := .ref x_1) (C := RX12) (T := TX12) (N := 32) hx hb hT iX12 hown hK hW hT_o.1 hS_o rfl 0 (by decide) w1082 rfl dX12_adds_21 ?_
  refine lv_iload hx hb dX12_adds_24 (lv_at hl 0 rfl) ?_
  refine lv_iconst (v := 1) hx hb dX12_adds_26 (by decide) ?_
  refine lv_iadd hx hb dX12_adds_27 ?_
  refine lv_topi (fun z_38 ez_38 => ?_)
  obtain rfl : z_38 = nI ((2 + (5 * nn)) + 1) := ez_38.trans (nI_add (2 + (5 * nn)) (1))
  refine lv_iload_n hx hb dX12_adds_28 rfl (lv_at hl 3 rfl) ?_
  refine pl_iast hx hb hK hW hT_x_1.1 hS_x_1 (vp_in_nI (n := (2 + (5 * nn)) + 1) (N := 266) (by omega) (by omega)) dX12_adds_29 (fun H locs f_40 S_39 ef_f_40 e1 hW => ?_)
  have hok_ : okS ((2 + (5 * nn)) + 1) (nI (gb)) := (okS_n (by omega) (by omega) (by omega))
  have hi_f_40 := okS_up (i := (2 + (5 * nn)) + 1) (by omega) hi_f_37 ef_f_40 hok_
  have hTy := hTy.u50 e1 hT_x_1 ⟨f_40, rfl, hi_f_40⟩
  have hS_o := un e1 hT_o hT_x_1 (by decide) hS_o
  have hFr := uf hFr e1 hT_x_1 (by decide) (by decide)
  have hS_x_1 := us e1
  have h0_ : f_40 0 = nI nn := up0 (i := (2 + (5 * nn)) + 1) (by omega) (by omega) h0_ ef_f_40
  refine lv_aload_n hx hb dX12_adds_30 rfl (lv_at hl 1 rfl) ?_
  refine pl_get (ci := 12) (v := .ref x_1) (C := RX12) (T := TX12) (N := 32) hx hb hT iX12 hown hK hW hT_o.1 hS_o rfl 0 (by decide) w1082 rfl dX12_adds_31 ?_
  refine lv_iload hx hb dX12_adds_34 (lv_at hl 0 rfl) ?_
  refine lv_iconst (v := 2) hx hb dX12_adds_36 (by decide) ?_
  refine lv_iadd hx hb dX12_adds_37 ?_
  refine lv_topi (fun z_41 ez_41 => ?_)
  obtain rfl : z_41 = nI ((2 + (5 * nn)) + 2) := ez_41.trans (nI_add (2 + (5 * nn)) (2))
  refine lv_iload_n hx hb dX12_adds_38 rfl (lv_at hl 4 rfl) ?_
  refine pl_iast hx hb hK hW hT_x_1.1 hS_x_1 (vp_in_nI (n := (2 + (5 * nn)) + 2) (N := 266) (by omega) (by omega)) dX12_adds_39 (fun H locs f_43 S_42 ef_f_43 e1 hW => ?_)
  have hi_f_43 := okS_up (i := (2 + (5 * nn)) + 2) (by omega) hi_f_40 ef_f_43 (okS_any (by omega))
  have hTy := hTy.u50 e1 hT_x_1 ⟨f_43, rfl, hi_f_43⟩
  have hS_o := un e1 hT_o hT_x_1 (by decide) hS_o
  have hFr := uf hFr e1 hT_x_1 (by decide) (by decide)
  have hS_x_1 := us e1
  have h0_ : f_43 0 = nI nn := up0 (i := (2 + (5 * nn)) + 2) (by omega) (by omega) h0_ ef_f_43
  refine lv_aload_n hx hb dX12_adds_40 rfl (lv_at hl 1 rfl) ?_
  refine pl_get (ci := 12) (v := .ref x_1) (C := RX12) (T := TX12) (N := 32) hx hb hT iX12 hown hK hW hT_o.1 hS_o rfl 0 (by decide) w1082 rfl dX12_adds_41 ?_
  refine lv_iload hx hb dX12_adds_44 (lv_at hl 0 rfl) ?_
  refine lv_iconst (v := 3) hx hb dX12_adds_46 (by decide) ?_
  refine lv_iadd hx hb dX12_adds_47 ?_
  refine lv_topi (fun z_44 ez_44 => ?_)
  obtain rfl : z_44 = nI ((2 + (5 * nn)) + 3) := ez_44.trans (nI_add (2 + (5 * nn)) (3))
  refine lv_iload hx hb dX12_adds_48 (lv_at hl 5 rfl) ?_
  refine pl_iast hx hb hK hW hT_x_1.1 hS_x_1 (vp_in_nI (n := (2 + (5 * nn)) + 3) (N := 266) (by omega) (by omega)) dX12_adds_50 (fun H locs f_46 S_45 ef_f_46 e1 hW => ?_)
  have hok_ : okS ((2 + (5 * nn)) + 3) (nI (kd)) := (okS_n (by omega) (by omega) (by omega))
  have hi_f_46 := okS_up (i := (2 + (5 * nn)) + 3) (by omega) hi_f_43 ef_f_46 hok_
  have hTy := hTy.u50 e1 hT_x_1 ⟨f_46, rfl, hi_f_46⟩
  have hS_o := un e1 hT_o hT_x_1 (by decide) hS_o
  have hFr := uf hFr e1 hT_x_1 (by decide) (by decide)
  have hS_x_1 := us e1
  have h0_ : f_46 0 = nI nn := up0 (i := (2 + (5 * nn)) + 3) (by omega) (by omega) h0_ ef_f_46
  refine lv_aload_n hx hb dX12_adds_51 rfl (lv_at hl 1 rfl) ?_
  refine pl_get (ci := 12) (v := .ref x_1) (C := RX12) (T := TX12) (N := 32) hx hb hT iX12 hown hK hW hT_o.1 hS_o rfl 0 (by decide) w1082 rfl dX12_adds_52 ?_
  refine lv_iload hx hb dX12_adds_55 (lv_at hl 0 rfl) ?_
  refine lv_iconst (v := 4) hx hb dX12_adds_57 (by decide) ?_
  refine lv_iadd hx hb dX12_adds_58 ?_
  refine lv_topi (fun z_47 ez_47 => ?_)
  obtain rfl : z_47 = nI ((2 + (5 * nn)) + 4) := ez_47.trans (nI_add (2 + (5 * nn)) (4))
  refine lv_iconst (v := 0) hx hb dX12_adds_59 (by decide) ?_
  refine pl_iast hx hb hK hW hT_x_1.1 hS_x_1 (vp_in_nI (n := (2 + (5 * nn)) + 4) (N := 266) (by omega) (by omega)) dX12_adds_60 (fun H locs f_49 S_48 ef_f_49 e1 hW => ?_)
  have hok_ : okS ((2 + (5 * nn)) + 4) (nI (0)) := (okS_n (by omega) (by omega) (by omega))
  have hi_f_49 := okS_up (i := (2 + (5 * nn)) + 4) (by omega) hi_f_46 ef_f_49 hok_
  have hTy := hTy.u50 e1 hT_x_1 ⟨f_49, rfl, hi_f_49⟩
  have hS_o := un e1 hT_o hT_x_1 (by decide) hS_o
  have hFr := uf hFr e1 hT_x_1 (by decide) (by decide)
  have hS_x_1 := us e1
  have h0_ : f_49 0 = nI nn := up0 (i := (2 + (5 * nn)) + 4) (by omega) (by omega) h0_ ef_f_49
  refine lv_aload_n hx hb dX12_adds_61 rfl (lv_at hl 1 rfl) ?_
  refine pl_get (ci := 12) (v := .ref x_1) (C := RX12) (T := TX12) (N := 32) hx hb hT iX12 hown hK hW hT_o.1 hS_o rfl 0 (by decide) w1082 rfl dX12_adds_62 ?_
  refine lv_iconst (v := 0) hx hb dX12_adds_65 (by decide) ?_
  refine lv_dup2_11 hx hb dX12_adds_66 rfl rfl ?_
  refine pl_iald hx hb hK hW hT_x_1.1 hS_x_1 (vp_in_nI (n := 0) (N := 266) (by omega) (by omega)) dX12_adds_67 ?_
  refine lv_topi (fun y_50 ey_50 => ?_)
  obtain rfl : y_50 = nI nn := ey_50.trans h0_
  refine lv_iconst (v := 1) hx hb dX12_adds_68 (by decide) ?_
  refine lv_iadd hx hb dX12_adds_69 ?_
  refine lv_topi (fun z_51 ez_51 => ?_)
  obtain rfl : z_51 = nI (nn + 1) := ez_51.trans (nI_add (nn) (1))
  refine pl_iast hx hb hK hW hT_x_1.1 hS_x_1 (vp_in_nI (n := 0) (N := 266) (by omega) (by omega)) dX12_adds_70 (fun H locs f_53 S_52 ef_f_53 e1 hW => ?_)
  have hok_ : okS 0 (nI (nn + 1)) := (okS_n (by omega) (by omega) (by omega))
  have hi_f_53 := okS_up (i := 0) (by omega) hi_f_49 ef_f_53 hok_
  have hTy := hTy.u50 e1 hT_x_1 ⟨f_53, rfl, hi_f_53⟩
  have hS_o := un e1 hT_o hT_x_1 (by decide) hS_o
  have hFr := uf hFr e1 hT_x_1 (by decide) (by decide)
  have hS_x_1 := us e1
  have h0_ : f_53 0 = nI (nn + 1) := up00 ef_f_53
  exact W.vret hx hb hr (fun t ht h9 => ⟨⟨S_52, rfl, ⟨hTy, hFr, ⟨(mnyi hS_o rfl hS_x_1 h0_), by rw [fld_i hS_o rfl hS_x_1]; exact dg_adds ef_f_37 ef_f_40 ef_f_43 ef_f_46 ef_f_49 h0_ (fun j hj => by rw [ef_f_53]; exact pk_un (fun q => by rw [q] at hj; exact absurd hj (by decide))) (by omega) (by omega) (by omega) (by omega) (by omega) hdg_ h0g_ (by omega) (by omega) (by omega) hab⟩⟩, by rw [ht]; exact hW.1, va_K.moved h9.alike hK, hW.2.1⟩, hW.2.2.F ht⟩) hW.2.2.2.2 dX12_adds_71

set_option maxHeartbeats 4000000 in
set_option maxRecDepth 100000 in
theorem m_goes (l : Launch) (dC : Nat → ClassId) (dI : Nat → Nat → Nat) (cy : Nat → ClassId) (L : List Nat) (kap : Nat → Nat) (pr : Pr) (S : Nat → va_E) (sz : Nat) (o : Nat) (t : Nat) (hTy : Ty cy L kap pr S) (hT_o : TK L kap o 12) (hb_t : t < 40) (nn : Nat) (hn : mny S o nn) (hlt : t < nn) (h40 : nn ≤ 40) (hdg : dg (fld S o 0)) : Met l yX12_goes (wT yX12_goes cX12_goes 3 none) ({ frames := 0, cells := 0, slots := 0, locals := 0 }) (pcN dC dI [.ref o, .int (nI t)] sz (va_pl L S) (cyT cy) NLs []) (va_Qv (fun S' => Ty cy L kap pr S' ∧ Fr kap [50] S S' ∧ (mny S' o (nn - 1) ∧ (∀ j, 1 ≤ j → j < 2 + 5 * t → af (S' (rf (S' o) 0)) j = af (S (rf (S o) 0)) j) ∧ dg (fld S' o 0))) (fun S' t => pB dC dI (AL L sz) (va_pl L S') (cyT cy) t) (AL L sz)) 0 0 (AL L sz) := by
  refine Met.ofW (cc := cX12_goes) (maxL := 3) (ret := none) (by decide) rfl ?_
  intro p e s m args below meth c s₁ B hml hv
  obtain ⟨rfl, hsz, hP, hK, hD0, hN, -⟩ := hv
  have hx := B.exec
  have hb := B.bytes
  have hr := B.returns
  have hT : ∀ wd ∈ TB, wd.before [.ref o, .int (nI t)].toArray s = true := fun wd h => atoms_spec (ws := wT yX12_goes cX12_goes 3 none) B.pre wd (List.mem_cons_of_mem _ h)
  have hown : s.vm.findClass RX12 = some m.cls := findClass_of_methodNamed B.named
  have hlocks := B.notSynchronized
  subst hsz
  have hW : PW dC dI L (AL L s.heap.size) s.heap S s.heap [] := ⟨hP, pl_self hD0, va_S.rf⟩
  have hA0 : ∀ q, q ∈ L → AL L s.heap.size q := fun _ h => Or.inl h
  have hA : ∀ q, s.heap.size ≤ q → AL L s.heap.size q := fun _ h => Or.inr h
  have hFr : Fr kap [50] S S := Fr.rf
  have hl := lv_entry ([.ref o, .int (nI t)]) (n := 3) (Nat.le_of_ble_eq_true rfl)
  rw [lg_entry_eq]
  generalize (lg_sl ([.ref o, .int (nI t)]) ++ List.replicate (3 - (lg_sl ([.ref o, .int (nI t)])).length) Slot.unset).toArray = ls at hl ⊢
  have hl : lv_has ls 3 [(0, .ref o), (1, .int (nI t))] := hl
  obtain ⟨x_1, x_2, x_3, x_4, x_5, x_6, x_7, x_8, x_9, x_10, x_11, x_12, x_13, x_14, x_15, x_16, x_17, x_18, x_19, x_20, x_21, x_22, x_23, x_24, x_25, x_26, x_27, x_28, x_29, x_30, x_31, hS_o, hT_x_1, hT_x_2, hT_x_3, hT_x_4, hT_x_5, hb_x_6, hb_x_7, hb_x_8, hT_x_10, hb_q2, hb_x_11, hb_x_12, hT_x_17, hT_x_18, hb_x_19, hT_x_20, hT_x_21, hT_x_22, hT_x_23, hT_x_24, hT_x_25, hT_x_26, hT_x_27, hT_x_28, hT_x_29, hT_x_30, hb_x_31⟩ := hTy.k12 hT_o
  have hb_q2 : pr.2 ≤ 900 := hb_q2
  have hS_o : S o = .inr (12, [.ref x_1, .ref x_2, .ref x_3, .ref x_4, .ref x_5, .int (nI x_6), .int (nI x_7), .int (nI x_8), .int x_9, .ref x_10, .int (nI (pr.2)), .int (nI x_11), .int (nI x_12), .int x_13, .int x_14, .int x_15, .int x_16, .ref x_17, .ref x_18, .int (nI x_19), .ref x_20, .ref x_21, .ref x_22, .ref x_23, .ref x_24, .ref x_25, .ref x_26, .ref x_27, .ref x_28, .ref x_29, .ref x_30, .int (nI x_31)]) := hS_o
  obtain ⟨f_32, hS_x_1, hi_f_32⟩ := hTy.k50 hT_x_1
  have h0_ : f_32 0 = nI nn := mnye hn hS_o rfl hS_x_1
  obtain ⟨fb0, hfb0⟩ : ∃ g : Nat → Int32, g = f_32 := ⟨_, rfl⟩
  have hfbS : fld S o 0 = fb0 := by rw [fld_i hS_o rfl hS_x_1, hfb0]
  have hfb00 : fb0 0 = nI nn := by rw [hfb0]; exact h0_
  refine lv_aload_n hx hb dX12_goes_0 rfl (lv_at hl 0 rfl) ?_
  refine pl_get (ci := 12) (v := .ref x_1) (C := RX12) (T := TX12) (N := 32) hx hb hT iX12 hown hK hW hT_o.1 hS_o rfl 0 (by decide) w1082 rfl dX12_goes_1 ?_
  refine lv_iconst (v := 0) hx hb dX12_goes_4 (by decide) ?_
  refine lv_dup2_11 hx hb dX12_goes_5 rfl rfl ?_
  refine pl_iald hx hb hK hW hT_x_1.1 hS_x_1 (vp_in_nI (n := 0) (N := 266) (by omega) (by omega)) dX12_goes_6 ?_
  refine lv_topi (fun y_33 ey_33 => ?_)
  obtain rfl : y_33 = nI nn := ey_33.trans h0_
  refine lv_iconst (v := 1) hx hb dX12_goes_7 (by decide) ?_
  refine lv_isub hx hb dX12_goes_8 ?_
  refine lv_topi (fun z_34 ez_34 => ?_)
  obtain rfl : z_34 = nI (nn - 1) := ez_34.trans (pk_sub (a := nn) (b := 1) (by omega))
  refine pl_iast hx hb hK hW hT_x_1.1 hS_x_1 (vp_in_nI (n := 0) (N := 266) (by omega) (by omega)) dX12_goes_9 (fun H locs f_36 S_35 ef_f_36 e1 hW => ?_)
  have hok_ : okS 0 (nI (nn - 1)) := (okS_n (by omega) (by omega) (by omega))
  have hi_f_36 := okS_up (i := 0) (by omega) hi_f_32 ef_f_36 hok_
  have hTy := hTy.u50 e1 hT_x_1 ⟨f_36, rfl, hi_f_36⟩
  have hS_o := un e1 hT_o hT_x_1 (by decide) hS_o
  have hFr := uf hFr e1 hT_x_1 (by decide) (by decide)
  have hS_x_1 := us e1
  have h0_ : f_36 0 = nI (nn - 1) := up00 ef_f_36
  have hbl : ∀ j, 1 ≤ j → f_36 j = gsh fb0 (2 + 5 * t) (2 + 5 * t) j := fun j h1 => by rw [ef_f_36, hfb0]; exact (pk_un (fun q => by rw [q] at h1; exact absurd h1 (by decide))).trans (if_neg (by omega)).symm
  refine lv_iconst (v := 2) hx hb dX12_goes_10 (by decide) ?_
  refine lv_iconst (v := 5) hx hb dX12_goes_11 (by decide) ?_
  refine lv_iload_n hx hb dX12_goes_12 rfl (lv_at hl 1 rfl) ?_
  refine lv_imul hx hb dX12_goes_13 ?_
  refine lv_topi (fun z_37 ez_37 => ?_)
  obtain rfl : z_37 = nI (5 * t) := ez_37.trans (pk_mul (5) (t))
  refine lv_iadd hx hb dX12_goes_14 ?_
  refine lv_topi (fun z_38 ez_38 => ?_)
  obtain rfl : z_38 = nI (2 + (5 * t)) := ez_38.trans (nI_add (2) (5 * t))
  refine lv_istore_n (lv' := [(2, .int (nI (2 + (5 * t)))), (0, .ref o), (1, .int (nI t))]) hx hb dX12_goes_15 rfl hl (by decide) rfl (fun ls hl => ?_)
  have loop : ∀ (fuel : Nat) (i : Nat) (SS : Nat → va_E) (H : Heap) (locs : List Loc) (ls : Array Slot), 203 - i < fuel → (i ≤ 202) → (2 + 5 * t ≤ i) → (i ≤ 2 + 5 * (nn - 1)) → (af (SS x_1) 0 = nI (nn - 1)) → (∀ j, 1 ≤ j → af (SS x_1) j = gsh fb0 (2 + 5 * t) i j) → Ty cy L kap pr SS → Fr kap [50] S SS → Fr kap [50] S_35 SS → PW dC dI L (AL L s.heap.size) s.heap SS H locs → lv_has ls 3 [(2, .int (nI i)), (0, .ref o), (1, .int (nI t))] → W p l e (headSpec (wT yX12_goes cX12_goes 3 none) { frames := 0, cells := 0, slots := 0, locals := 0 }).room s m [.ref o, .int (nI t)].toArray below meth c H locs 0 0 (MQ below (va_Qv (fun S' => Ty cy L kap pr S' ∧ Fr kap [50] S S' ∧ (mny S' o (nn - 1) ∧ (∀ j, 1 ≤ j → j < 2 + 5 * t → af (S' (rf (S' o) 0)) j = af (S (rf (S o) 0)) j) ∧ dg (fld S' o 0))) (fun S' t => pB dC dI (AL L s.heap.size) (va_pl L S') (cyT cy) t) (AL L s.heap.size)) [.ref o, .int (nI t)].toArray s 0 0 (AL L s.heap.size)) (F0 m 16 ls []) := by
    intro fuel
    induction fuel with
    | zero => intro i SS H locs ls h; exact absurd h (Nat.not_lt_zero _)
    | succ fu16 ih16 =>
      intro i S_39 H locs ls hm16 hb_i hi2 hi3 hgm hgb hTy hFr hFl16 hW hl
      have hS_o := hFl16.at hT_o (by decide) hS_o
      obtain ⟨f_40, hS_x_1, hi_f_40⟩ := hTy.k50 hT_x_1
      have h0_ : f_40 0 = nI (nn - 1) := by rw [← af_i hS_x_1]; exact hgm
      have hbl := fun j h1 => (congrFun (af_i hS_x_1).symm j).trans (hgb j h1)
      refine lv_iload_n hx hb dX12_goes_16 rfl (lv_at hl 0 rfl) ?_
      refine lv_iconst (v := 2) hx hb dX12_goes_17 (by decide) ?_
      refine lv_iconst (v := 5) hx hb dX12_goes_18 (by decide) ?_
      refine lv_aload_n hx hb dX12_goes_19 rfl (lv_at hl 1 rfl) ?_
      refine pl_get (ci := 12) (v := .ref x_1) (C := RX12) (T := TX12) (N := 32) hx hb hT iX12 hown hK hW hT_o.1 hS_o rfl 0 (by decide) w1082 rfl dX12_goes_20 ?_
      refine lv_iconst (v := 0) hx hb dX12_goes_23 (by decide) ?_
      refine pl_iald hx hb hK hW hT_x_1.1 hS_x_1 (vp_in_nI (n := 0) (N := 266) (by omega) (by omega)) dX12_goes_24 ?_
      refine lv_topi (fun y_41 ey_41 => ?_)
      obtain rfl : y_41 = nI (nn - 1) := ey_41.trans h0_
      refine lv_imul hx hb dX12_goes_25 ?_
      refine lv_topi (fun z_42 ez_42 => ?_)
      obtain rfl : z_42 = nI (5 * (nn - 1)) := ez_42.trans (pk_mul (5) (nn - 1))
      refine lv_iadd hx hb dX12_goes_26 ?_
      refine lv_topi (fun z_43 ez_43 => ?_)
      obtain rfl : z_43 = nI (2 + (5 * (nn - 1))) := ez_43.trans (nI_add (2) (5 * (nn - 1)))
      refine lv_icmp_ge (tgt := 50) hx hb dX12_goes_27 (by decide) (fun c_27 => ?_) (fun c_27 => ?_)
      · have c_27 : (2 + (5 * (nn - 1))) ≤ i := (nI_leI (a := 2 + (5 * (nn - 1))) (b := i) (by omega) (by omega)).mp c_27
        exact W.vret hx hb hr (fun t ht h9 => ⟨⟨S_39, rfl, ⟨hTy, hFr, ⟨(mnyi hS_o rfl hS_x_1 h0_), fun j h1 h2 => by show fld _ o 0 j = fld S o 0 j; rw [hfbS, fld_i hS_o rfl hS_x_1]; exact (hbl j h1).trans (gsh_b h2), by rw [fld_i hS_o rfl hS_x_1]; exact dg_goes (by rw [hfbS] at hdg; exact hdg) hfb00 h40 h0_ hlt (by omega) hbl⟩⟩, by rw [ht]; exact hW.1, va_K.moved h9.alike hK, hW.2.1⟩, hW.2.2.F ht⟩) hW.2.2.2.2 dX12_goes_50
      · have c_27 : ¬ ((2 + (5 * (nn - 1))) ≤ i) := fun hh9 => c_27 ((nI_leI (a := 2 + (5 * (nn - 1))) (b := i) (by omega) (by omega)).mpr hh9)
        refine lv_aload_n hx hb dX12_goes_30 rfl (lv_at hl 1 rfl) ?_
        refine pl_get (ci := 12) (v := .ref x_1) (C := RX12) (T := TX12) (N := 32) hx hb hT iX12 hown hK hW hT_o.1 hS_o rfl 0 (by decide) w1082 rfl dX12_goes_31 ?_
        refine lv_iload_n hx hb dX12_goes_34 rfl (lv_at hl 0 rfl) ?_
        refine lv_aload_n hx hb dX12_goes_35 rfl (lv_at hl 1 rfl) ?_
        refine pl_get (ci := 12) (v := .ref x_1) (C := RX12) (T := TX12) (N := 32) hx hb hT iX12 hown hK hW hT_o.1 hS_o rfl 0 (by decide) w1082 rfl dX12_goes_36 ?_
        refine lv_iload_n hx hb dX12_goes_39 rfl (lv_at hl 0 rfl) ?_
        refine lv_iconst (v := 5) hx hb dX12_goes_40 (by decide) ?_
        refine lv_iadd hx hb dX12_goes_41 ?_
        refine lv_topi (fun z_44 ez_44 => ?_)
        obtain rfl : z_44 = nI (i + 5) := ez_44.trans (nI_add (i) (5))
        refine pl_iald hx hb hK hW hT_x_1.1 hS_x_1 (vp_in_nI (n := i + 5) (N := 266) (by omega) (by omega)) dX12_goes_42 ?_
        refine lv_topi (fun y_45 ey_45 => ?_)
        have hv_y_45 : okS (i + 5) y_45 := by rw [ey_45]; show okS _ (f_40 (nI (i + 5)).toNatClampNeg); rw [nI_clamp (by omega)]; exact hi_f_40 (i + 5) (by omega)
        refine pl_iast hx hb hK hW hT_x_1.1 hS_x_1 (vp_in_nI (n := i) (N := 266) (by omega) (by omega)) dX12_goes_43 (fun H locs f_47 S_46 ef_f_47 e1 hW => ?_)
        have hi_f_47 := okS_up (i := i) (by omega) hi_f_40 ef_f_47 (okS_5 hv_y_45 (by omega) (by omega))
        have hTy := hTy.u50 e1 hT_x_1 ⟨f_47, rfl, hi_f_47⟩
        have hS_o := un e1 hT_o hT_x_1 (by decide) hS_o
        have hFr := uf hFr e1 hT_x_1 (by decide) (by decide)
        have hFl16 := uf hFl16 e1 hT_x_1 (by decide) (by decide)
        have hS_x_1 := us e1
        have h0_ : f_47 0 = nI (nn - 1) := up0 (i := i) (by omega) (by omega) h0_ ef_f_47
        have hbl := gsh_up hbl ey_45 (by omega) ef_f_47 (by omega) (by omega) (by omega)
        refine lv_iinc (v := nI (i + 1)) (lv' := [(2, .int (nI (i + 1))), (0, .ref o), (1, .int (nI t))]) hx hb dX12_goes_44 hl (k := 0) rfl (nI_add (i) 1) (by decide) rfl (fun ls hl => ?_)
        refine lv_goto (tgt := 16) hx hb dX12_goes_47 (by decide) ?_
        exact ih16 (i + 1) _ _ _ ls (by omega) (by omega) (by omega) (by omega) (by rw [af_i hS_x_1]; exact h0_) (by rw [af_i hS_x_1]; exact hbl) hTy hFr hFl16 hW (lv_sub hl [0, 1, 2] rfl)
  exact loop ((203 - (2 + (5 * t))) + 1) (2 + (5 * t)) _ _ _ ls (Nat.lt_succ_self _) (by omega) (by omega) (by omega) (by rw [af_i hS_x_1]; exact h0_) (by rw [af_i hS_x_1]; exact hbl) hTy hFr Fr.rf hW (lv_sub hl [0, 1, 2] rfl)

