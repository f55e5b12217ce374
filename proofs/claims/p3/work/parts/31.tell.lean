theorem w1077 : (.methodLink RX12 77 yX12_plain : Cond) ∈ TB := mTB (List.mem_of_getElem? (i := 1077) (by decide +kernel)) (by decide +kernel)
theorem w1079 : (.instanceMethod yX12_plain : Cond) ∈ TB := mTB (List.mem_of_getElem? (i := 1079) (by decide +kernel)) (by decide +kernel)
theorem w1080 : (.code yX12_plain cX12_plain 2 none : Cond) ∈ TB := mTB (List.mem_of_getElem? (i := 1080) (by decide +kernel)) (by decide +kernel)
theorem w1081 : (.constant RX12 86 99999999 : Cond) ∈ TB := mTB (List.mem_of_getElem? (i := 1081) (by decide +kernel)) (by decide +kernel)
theorem w1083 : (.fieldLink RX12 17 "SwapPressModel" "saved" "[I" : Cond) ∈ TB := mTB (List.mem_of_getElem? (i := 1083) (by decide +kernel)) (by decide +kernel)
theorem w1086 : (.fieldLink RX12 27 "SwapPressModel" "savedNames" "[J" : Cond) ∈ TB := mTB (List.mem_of_getElem? (i := 1086) (by decide +kernel)) (by decide +kernel)
theorem w1089 : (.fieldLink RX12 195 "SwapPressModel" "actMany" "I" : Cond) ∈ TB := mTB (List.mem_of_getElem? (i := 1089) (by decide +kernel)) (by decide +kernel)
theorem w1090 : (.fieldLink RX12 1 "SwapPressModel" "thrown" "I" : Cond) ∈ TB := mTB (List.mem_of_getElem? (i := 1090) (by decide +kernel)) (by decide +kernel)
theorem w1092 : (.fieldLink RX12 87 "SwapPressModel" "taped" "I" : Cond) ∈ TB := mTB (List.mem_of_getElem? (i := 1092) (by decide +kernel)) (by decide +kernel)
theorem w1097 : (.fieldLink RX12 157 "SwapPressModel" "seen" "I" : Cond) ∈ TB := mTB (List.mem_of_getElem? (i := 1097) (by decide +kernel)) (by decide +kernel)
theorem w1194 : (.methodLink RX12 192 yX12_lineRead : Cond) ∈ TB := mTB (List.mem_of_getElem? (i := 1194) (by decide +kernel)) (by decide +kernel)
theorem w1196 : (.instanceMethod yX12_lineRead : Cond) ∈ TB := mTB (List.mem_of_getElem? (i := 1196) (by decide +kernel)) (by decide +kernel)
theorem w1197 : (.code yX12_lineRead cX12_lineRead 3 none : Cond) ∈ TB := mTB (List.mem_of_getElem? (i := 1197) (by decide +kernel)) (by decide +kernel)
theorem w1218 : (.methodLink RX12 160 yX12_isFull : Cond) ∈ TB := mTB (List.mem_of_getElem? (i := 1218) (by decide +kernel)) (by decide +kernel)
theorem w1220 : (.instanceMethod yX12_isFull : Cond) ∈ TB := mTB (List.mem_of_getElem? (i := 1220) (by decide +kernel)) (by decide +kernel)
theorem w1221 : (.code yX12_isFull cX12_isFull 2 (some .boolean) : Cond) ∈ TB := mTB (List.mem_of_getElem? (i := 1221) (by decide +kernel)) (by decide +kernel)
theorem w1222 : (.methodLink RX12 163 yX12_behind : Cond) ∈ TB := mTB (List.mem_of_getElem? (i := 1222) (by decide +kernel)) (by decide +kernel)
theorem w1224 : (.instanceMethod yX12_behind : Cond) ∈ TB := mTB (List.mem_of_getElem? (i := 1224) (by decide +kernel)) (by decide +kernel)
theorem w1225 : (.code yX12_behind cX12_behind 3 none : Cond) ∈ TB := mTB (List.mem_of_getElem? (i := 1225) (by decide +kernel)) (by decide +kernel)
theorem w1226 : (.methodLink RX12 167 yX12_newName : Cond) ∈ TB := mTB (List.mem_of_getElem? (i := 1226) (by decide +kernel)) (by decide +kernel)
theorem w1228 : (.instanceMethod yX12_newName : Cond) ∈ TB := mTB (List.mem_of_getElem? (i := 1228) (by decide +kernel)) (by decide +kernel)
theorem w1229 : (.code yX12_newName cX12_newName 4 none : Cond) ∈ TB := mTB (List.mem_of_getElem? (i := 1229) (by decide +kernel)) (by decide +kernel)
theorem w1238 : (.methodLink RX12 170 yX12_numeral : Cond) ∈ TB := mTB (List.mem_of_getElem? (i := 1238) (by decide +kernel)) (by decide +kernel)
theorem w1240 : (.instanceMethod yX12_numeral : Cond) ∈ TB := mTB (List.mem_of_getElem? (i := 1240) (by decide +kernel)) (by decide +kernel)
theorem w1241 : (.code yX12_numeral cX12_numeral 4 (some .int) : Cond) ∈ TB := mTB (List.mem_of_getElem? (i := 1241) (by decide +kernel)) (by decide +kernel)
theorem w1247 : (.methodLink RX12 174 yX12_tradeAt : Cond) ∈ TB := mTB (List.mem_of_getElem? (i := 1247) (by decide +kernel)) (by decide +kernel)
theorem w1249 : (.instanceMethod yX12_tradeAt : Cond) ∈ TB := mTB (List.mem_of_getElem? (i := 1249) (by decide +kernel)) (by decide +kernel)
theorem w1250 : (.code yX12_tradeAt cX12_tradeAt 3 (some .int) : Cond) ∈ TB := mTB (List.mem_of_getElem? (i := 1250) (by decide +kernel)) (by decide +kernel)
theorem w1251 : (.methodLink RX12 177 yX12_twoRead : Cond) ∈ TB := mTB (List.mem_of_getElem? (i := 1251) (by decide +kernel)) (by decide +kernel)
theorem w1253 : (.instanceMethod yX12_twoRead : Cond) ∈ TB := mTB (List.mem_of_getElem? (i := 1253) (by decide +kernel)) (by decide +kernel)
theorem w1254 : (.code yX12_twoRead cX12_twoRead 6 none : Cond) ∈ TB := mTB (List.mem_of_getElem? (i := 1254) (by decide +kernel)) (by decide +kernel)
theorem w1259 : (.methodLink RX12 180 yX12_otherRead : Cond) ∈ TB := mTB (List.mem_of_getElem? (i := 1259) (by decide +kernel)) (by decide +kernel)
theorem w1261 : (.instanceMethod yX12_otherRead : Cond) ∈ TB := mTB (List.mem_of_getElem? (i := 1261) (by decide +kernel)) (by decide +kernel)
theorem w1262 : (.code yX12_otherRead cX12_otherRead 3 (some .int) : Cond) ∈ TB := mTB (List.mem_of_getElem? (i := 1262) (by decide +kernel)) (by decide +kernel)
theorem w1263 : (.constant RX12 184 999999 : Cond) ∈ TB := mTB (List.mem_of_getElem? (i := 1263) (by decide +kernel)) (by decide +kernel)
theorem w1264 : (.methodLink RX12 185 yX12_kindRead : Cond) ∈ TB := mTB (List.mem_of_getElem? (i := 1264) (by decide +kernel)) (by decide +kernel)
theorem w1266 : (.instanceMethod yX12_kindRead : Cond) ∈ TB := mTB (List.mem_of_getElem? (i := 1266) (by decide +kernel)) (by decide +kernel)
theorem w1267 : (.code yX12_kindRead cX12_kindRead 2 (some .int) : Cond) ∈ TB := mTB (List.mem_of_getElem? (i := 1267) (by decide +kernel)) (by decide +kernel)
theorem w1268 : (.methodLink RX12 188 yX12_adds : Cond) ∈ TB := mTB (List.mem_of_getElem? (i := 1268) (by decide +kernel)) (by decide +kernel)
theorem w1270 : (.instanceMethod yX12_adds : Cond) ∈ TB := mTB (List.mem_of_getElem? (i := 1270) (by decide +kernel)) (by decide +kernel)
theorem w1271 : (.code yX12_adds cX12_adds 6 none : Cond) ∈ TB := mTB (List.mem_of_getElem? (i := 1271) (by decide +kernel)) (by decide +kernel)
theorem ws54 : (.selects RX12 yX12_plain yX12_plain : Cond) ∈ TB := mSel (y := yX12_plain) (n := 32) (List.mem_of_getElem? (i := 54) (by decide +kernel)) (by decide +kernel)
theorem ws56 : (.selects RX12 yX12_lineRead yX12_lineRead : Cond) ∈ TB := mSel (y := yX12_lineRead) (n := 32) (List.mem_of_getElem? (i := 56) (by decide +kernel)) (by decide +kernel)
theorem ws60 : (.selects RX12 yX12_isFull yX12_isFull : Cond) ∈ TB := mSel (y := yX12_isFull) (n := 32) (List.mem_of_getElem? (i := 60) (by decide +kernel)) (by decide +kernel)
theorem ws61 : (.selects RX12 yX12_behind yX12_behind : Cond) ∈ TB := mSel (y := yX12_behind) (n := 32) (List.mem_of_getElem? (i := 61) (by decide +kernel)) (by decide +kernel)
theorem ws62 : (.selects RX12 yX12_newName yX12_newName : Cond) ∈ TB := mSel (y := yX12_newName) (n := 32) (List.mem_of_getElem? (i := 62) (by decide +kernel)) (by decide +kernel)
theorem ws65 : (.selects RX12 yX12_numeral yX12_numeral : Cond) ∈ TB := mSel (y := yX12_numeral) (n := 32) (List.mem_of_getElem? (i := 65) (by decide +kernel)) (by decide +kernel)
theorem ws66 : (.selects RX12 yX12_tradeAt yX12_tradeAt : Cond) ∈ TB := mSel (y := yX12_tradeAt) (n := 32) (List.mem_of_getElem? (i := 66) (by decide +kernel)) (by decide +kernel)
theorem ws67 : (.selects RX12 yX12_twoRead yX12_twoRead : Cond) ∈ TB := mSel (y := yX12_twoRead) (n := 32) (List.mem_of_getElem? (i := 67) (by decide +kernel)) (by decide +kernel)
theorem ws69 : (.selects RX12 yX12_otherRead yX12_otherRead : Cond) ∈ TB := mSel (y := yX12_otherRead) (n := 32) (List.mem_of_getElem? (i := 69) (by decide +kernel)) (by decide +kernel)
theorem ws70 : (.selects RX12 yX12_kindRead yX12_kindRead : Cond) ∈ TB := mSel (y := yX12_kindRead) (n := 32) (List.mem_of_getElem? (i := 70) (by decide +kernel)) (by decide +kernel)
theorem ws71 : (.selects RX12 yX12_adds yX12_adds : Cond) ∈ TB := mSel (y := yX12_adds) (n := 32) (List.mem_of_getElem? (i := 71) (by decide +kernel)) (by decide +kernel)
theorem dX12_behind_0 : decode cX12_behind 0 = .ok (.iload_n 1, 1) := by decide +kernel
theorem dX12_behind_1 : decode cX12_behind 1 = .ok (.ifCond .ne 35, 3) := by decide +kernel
theorem dX12_behind_4 : decode cX12_behind 4 = .ok (.aload_n 0, 1) := by decide +kernel
theorem dX12_behind_5 : decode cX12_behind 5 = .ok (.aload_n 0, 1) := by decide +kernel
theorem dX12_behind_6 : decode cX12_behind 6 = .ok (.getfield 80, 3) := by decide +kernel
theorem dX12_behind_9 : decode cX12_behind 9 = .ok (.invokevirtual 167, 3) := by decide +kernel
theorem dX12_behind_12 : decode cX12_behind 12 = .ok (.aload_n 0, 1) := by decide +kernel
theorem dX12_behind_13 : decode cX12_behind 13 = .ok (.dup, 1) := by decide +kernel
theorem dX12_behind_14 : decode cX12_behind 14 = .ok (.getfield 80, 3) := by decide +kernel
theorem dX12_behind_17 : decode cX12_behind 17 = .ok (.aload_n 0, 1) := by decide +kernel
theorem dX12_behind_18 : decode cX12_behind 18 = .ok (.getfield 96, 3) := by decide +kernel
theorem dX12_behind_21 : decode cX12_behind 21 = .ok (.ifCond .ne 7, 3) := by decide +kernel
theorem dX12_behind_24 : decode cX12_behind 24 = .ok (.iconst 1, 1) := by decide +kernel
theorem dX12_behind_25 : decode cX12_behind 25 = .ok (.goto 4, 3) := by decide +kernel
theorem dX12_behind_28 : decode cX12_behind 28 = .ok (.iconst 0, 1) := by decide +kernel
theorem dX12_behind_29 : decode cX12_behind 29 = .ok (.iadd, 1) := by decide +kernel
theorem dX12_behind_30 : decode cX12_behind 30 = .ok (.putfield 80, 3) := by decide +kernel
theorem dX12_behind_33 : decode cX12_behind 33 = .ok (.goto 136, 3) := by decide +kernel
theorem dX12_behind_36 : decode cX12_behind 36 = .ok (.iload_n 1, 1) := by decide +kernel
theorem dX12_behind_37 : decode cX12_behind 37 = .ok (.iconst 1, 1) := by decide +kernel
theorem dX12_behind_38 : decode cX12_behind 38 = .ok (.if_icmp .ne 38, 3) := by decide +kernel
theorem dX12_behind_41 : decode cX12_behind 41 = .ok (.aload_n 0, 1) := by decide +kernel
theorem dX12_behind_42 : decode cX12_behind 42 = .ok (.bipush 8, 2) := by decide +kernel
theorem dX12_behind_44 : decode cX12_behind 44 = .ok (.aload_n 0, 1) := by decide +kernel
theorem dX12_behind_45 : decode cX12_behind 45 = .ok (.getfield 83, 3) := by decide +kernel
theorem dX12_behind_48 : decode cX12_behind 48 = .ok (.iadd, 1) := by decide +kernel
theorem dX12_behind_49 : decode cX12_behind 49 = .ok (.invokevirtual 167, 3) := by decide +kernel
theorem dX12_behind_52 : decode cX12_behind 52 = .ok (.aload_n 0, 1) := by decide +kernel
theorem dX12_behind_53 : decode cX12_behind 53 = .ok (.dup, 1) := by decide +kernel
theorem dX12_behind_54 : decode cX12_behind 54 = .ok (.getfield 83, 3) := by decide +kernel
theorem dX12_behind_57 : decode cX12_behind 57 = .ok (.aload_n 0, 1) := by decide +kernel
theorem dX12_behind_58 : decode cX12_behind 58 = .ok (.getfield 96, 3) := by decide +kernel
theorem dX12_behind_61 : decode cX12_behind 61 = .ok (.ifCond .ne 7, 3) := by decide +kernel
theorem dX12_behind_64 : decode cX12_behind 64 = .ok (.iconst 1, 1) := by decide +kernel
theorem dX12_behind_65 : decode cX12_behind 65 = .ok (.goto 4, 3) := by decide +kernel
theorem dX12_behind_68 : decode cX12_behind 68 = .ok (.iconst 0, 1) := by decide +kernel
theorem dX12_behind_69 : decode cX12_behind 69 = .ok (.iadd, 1) := by decide +kernel
theorem dX12_behind_70 : decode cX12_behind 70 = .ok (.putfield 83, 3) := by decide +kernel
theorem dX12_behind_73 : decode cX12_behind 73 = .ok (.goto 96, 3) := by decide +kernel
theorem dX12_behind_76 : decode cX12_behind 76 = .ok (.iload_n 1, 1) := by decide +kernel
theorem dX12_behind_77 : decode cX12_behind 77 = .ok (.iconst 3, 1) := by decide +kernel
theorem dX12_behind_78 : decode cX12_behind 78 = .ok (.if_icmp .ne 66, 3) := by decide +kernel
theorem dX12_behind_81 : decode cX12_behind 81 = .ok (.aload_n 0, 1) := by decide +kernel
theorem dX12_behind_82 : decode cX12_behind 82 = .ok (.iconst 0, 1) := by decide +kernel
theorem dX12_behind_83 : decode cX12_behind 83 = .ok (.aload_n 0, 1) := by decide +kernel
theorem dX12_behind_84 : decode cX12_behind 84 = .ok (.getfield 13, 3) := by decide +kernel
theorem dX12_behind_87 : decode cX12_behind 87 = .ok (.iconst 0, 1) := by decide +kernel
theorem dX12_behind_88 : decode cX12_behind 88 = .ok (.iaload, 1) := by decide +kernel
theorem dX12_behind_89 : decode cX12_behind 89 = .ok (.iconst 1, 1) := by decide +kernel
theorem dX12_behind_90 : decode cX12_behind 90 = .ok (.isub, 1) := by decide +kernel
theorem dX12_behind_91 : decode cX12_behind 91 = .ok (.invokevirtual 170, 3) := by decide +kernel
theorem dX12_behind_94 : decode cX12_behind 94 = .ok (.istore_n 2, 1) := by decide +kernel
theorem dX12_behind_95 : decode cX12_behind 95 = .ok (.aload_n 0, 1) := by decide +kernel
theorem dX12_behind_96 : decode cX12_behind 96 = .ok (.getfield 96, 3) := by decide +kernel
theorem dX12_behind_99 : decode cX12_behind 99 = .ok (.ifCond .ne 22, 3) := by decide +kernel
theorem dX12_behind_102 : decode cX12_behind 102 = .ok (.aload_n 0, 1) := by decide +kernel
theorem dX12_behind_103 : decode cX12_behind 103 = .ok (.iload_n 2, 1) := by decide +kernel
theorem dX12_behind_104 : decode cX12_behind 104 = .ok (.iconst 4, 1) := by decide +kernel
theorem dX12_behind_105 : decode cX12_behind 105 = .ok (.invokevirtual 174, 3) := by decide +kernel
theorem dX12_behind_108 : decode cX12_behind 108 = .ok (.iconst 1, 1) := by decide +kernel
theorem dX12_behind_109 : decode cX12_behind 109 = .ok (.if_icmp .ne 12, 3) := by decide +kernel
theorem dX12_behind_112 : decode cX12_behind 112 = .ok (.aload_n 0, 1) := by decide +kernel
theorem dX12_behind_113 : decode cX12_behind 113 = .ok (.iconst 5, 1) := by decide +kernel
theorem dX12_behind_114 : decode cX12_behind 114 = .ok (.aload_n 0, 1) := by decide +kernel
theorem dX12_behind_115 : decode cX12_behind 115 = .ok (.getfield 140, 3) := by decide +kernel
theorem dX12_behind_118 : decode cX12_behind 118 = .ok (.invokevirtual 136, 3) := by decide +kernel
theorem dX12_behind_121 : decode cX12_behind 121 = .ok (.aload_n 0, 1) := by decide +kernel
theorem dX12_behind_122 : decode cX12_behind 122 = .ok (.getfield 96, 3) := by decide +kernel
theorem dX12_behind_125 : decode cX12_behind 125 = .ok (.ifCond .ne 16, 3) := by decide +kernel
theorem dX12_behind_128 : decode cX12_behind 128 = .ok (.aload_n 0, 1) := by decide +kernel
theorem dX12_behind_129 : decode cX12_behind 129 = .ok (.getfield 13, 3) := by decide +kernel
theorem dX12_behind_132 : decode cX12_behind 132 = .ok (.iconst 2, 1) := by decide +kernel
theorem dX12_behind_133 : decode cX12_behind 133 = .ok (.iconst 5, 1) := by decide +kernel
theorem dX12_behind_134 : decode cX12_behind 134 = .ok (.iload_n 2, 1) := by decide +kernel
theorem dX12_behind_135 : decode cX12_behind 135 = .ok (.imul, 1) := by decide +kernel
theorem dX12_behind_136 : decode cX12_behind 136 = .ok (.iadd, 1) := by decide +kernel
theorem dX12_behind_137 : decode cX12_behind 137 = .ok (.iconst 4, 1) := by decide +kernel
theorem dX12_behind_138 : decode cX12_behind 138 = .ok (.iadd, 1) := by decide +kernel
theorem dX12_behind_139 : decode cX12_behind 139 = .ok (.iconst 1, 1) := by decide +kernel
theorem dX12_behind_140 : decode cX12_behind 140 = .ok (.iastore, 1) := by decide +kernel
theorem dX12_behind_141 : decode cX12_behind 141 = .ok (.goto 28, 3) := by decide +kernel
theorem dX12_behind_144 : decode cX12_behind 144 = .ok (.iload_n 1, 1) := by decide +kernel
theorem dX12_behind_145 : decode cX12_behind 145 = .ok (.iconst 5, 1) := by decide +kernel
theorem dX12_behind_146 : decode cX12_behind 146 = .ok (.if_icmp .ne 18, 3) := by decide +kernel
theorem dX12_behind_149 : decode cX12_behind 149 = .ok (.aload_n 0, 1) := by decide +kernel
theorem dX12_behind_150 : decode cX12_behind 150 = .ok (.getfield 13, 3) := by decide +kernel
theorem dX12_behind_153 : decode cX12_behind 153 = .ok (.iconst 1, 1) := by decide +kernel
theorem dX12_behind_154 : decode cX12_behind 154 = .ok (.aload_n 0, 1) := by decide +kernel
theorem dX12_behind_155 : decode cX12_behind 155 = .ok (.iconst 0, 1) := by decide +kernel
theorem dX12_behind_156 : decode cX12_behind 156 = .ok (.iconst 3, 1) := by decide +kernel
theorem dX12_behind_157 : decode cX12_behind 157 = .ok (.invokevirtual 170, 3) := by decide +kernel
theorem dX12_behind_160 : decode cX12_behind 160 = .ok (.iastore, 1) := by decide +kernel
theorem dX12_behind_161 : decode cX12_behind 161 = .ok (.goto 8, 3) := by decide +kernel
theorem dX12_behind_164 : decode cX12_behind 164 = .ok (.aload_n 0, 1) := by decide +kernel
theorem dX12_behind_165 : decode cX12_behind 165 = .ok (.iload_n 1, 1) := by decide +kernel
theorem dX12_behind_166 : decode cX12_behind 166 = .ok (.invokevirtual 177, 3) := by decide +kernel
theorem dX12_behind_169 : decode cX12_behind 169 = .ok (.return_, 1) := by decide +kernel
theorem dX12_fault_0 : decode cX12_fault 0 = .ok (.aload_n 0, 1) := by decide +kernel
theorem dX12_fault_1 : decode cX12_fault 1 = .ok (.iconst 0, 1) := by decide +kernel
theorem dX12_fault_2 : decode cX12_fault 2 = .ok (.putfield 1, 3) := by decide +kernel
theorem dX12_fault_5 : decode cX12_fault 5 = .ok (.iload_n 1, 1) := by decide +kernel
theorem dX12_fault_6 : decode cX12_fault 6 = .ok (.ifCond .ne 10, 3) := by decide +kernel
theorem dX12_fault_9 : decode cX12_fault 9 = .ok (.aload_n 0, 1) := by decide +kernel
theorem dX12_fault_10 : decode cX12_fault 10 = .ok (.getfield 96, 3) := by decide +kernel
theorem dX12_fault_13 : decode cX12_fault 13 = .ok (.goto 16, 3) := by decide +kernel
theorem dX12_fault_16 : decode cX12_fault 16 = .ok (.iload_n 1, 1) := by decide +kernel
theorem dX12_fault_17 : decode cX12_fault 17 = .ok (.iconst 1, 1) := by decide +kernel
theorem dX12_fault_18 : decode cX12_fault 18 = .ok (.if_icmp .ne 10, 3) := by decide +kernel
theorem dX12_fault_21 : decode cX12_fault 21 = .ok (.aload_n 0, 1) := by decide +kernel
theorem dX12_fault_22 : decode cX12_fault 22 = .ok (.getfield 34, 3) := by decide +kernel
theorem dX12_fault_25 : decode cX12_fault 25 = .ok (.goto 4, 3) := by decide +kernel
theorem dX12_fault_28 : decode cX12_fault 28 = .ok (.iconst (-1), 1) := by decide +kernel
theorem dX12_fault_29 : decode cX12_fault 29 = .ok (.ireturn, 1) := by decide +kernel
theorem dX12_feed_0 : decode cX12_feed 0 = .ok (.aload_n 0, 1) := by decide +kernel
theorem dX12_feed_1 : decode cX12_feed 1 = .ok (.iconst 0, 1) := by decide +kernel
theorem dX12_feed_2 : decode cX12_feed 2 = .ok (.putfield 1, 3) := by decide +kernel
theorem dX12_feed_5 : decode cX12_feed 5 = .ok (.aload_n 0, 1) := by decide +kernel
theorem dX12_feed_6 : decode cX12_feed 6 = .ok (.getfield 87, 3) := by decide +kernel
theorem dX12_feed_9 : decode cX12_feed 9 = .ok (.bipush 20, 2) := by decide +kernel
theorem dX12_feed_11 : decode cX12_feed 11 = .ok (.iadd, 1) := by decide +kernel
theorem dX12_feed_12 : decode cX12_feed 12 = .ok (.sipush 900, 3) := by decide +kernel
theorem dX12_feed_15 : decode cX12_feed 15 = .ok (.if_icmp .le 6, 3) := by decide +kernel
theorem dX12_feed_18 : decode cX12_feed 18 = .ok (.bipush (-4), 2) := by decide +kernel
theorem dX12_feed_20 : decode cX12_feed 20 = .ok (.ireturn, 1) := by decide +kernel
theorem dX12_feed_21 : decode cX12_feed 21 = .ok (.iconst 0, 1) := by decide +kernel
theorem dX12_feed_22 : decode cX12_feed 22 = .ok (.istore 6, 2) := by decide +kernel
theorem dX12_feed_24 : decode cX12_feed 24 = .ok (.iload 6, 2) := by decide +kernel
theorem dX12_feed_26 : decode cX12_feed 26 = .ok (.bipush 20, 2) := by decide +kernel
theorem dX12_feed_28 : decode cX12_feed 28 = .ok (.if_icmp .ge 90, 3) := by decide +kernel
theorem dX12_feed_31 : decode cX12_feed 31 = .ok (.iload 6, 2) := by decide +kernel
theorem dX12_feed_33 : decode cX12_feed 33 = .ok (.iconst 4, 1) := by decide +kernel
theorem dX12_feed_34 : decode cX12_feed 34 = .ok (.if_icmp .ge 7, 3) := by decide +kernel
theorem dX12_feed_37 : decode cX12_feed 37 = .ok (.iload_n 1, 1) := by decide +kernel
theorem dX12_feed_38 : decode cX12_feed 38 = .ok (.goto 39, 3) := by decide +kernel
theorem dX12_feed_41 : decode cX12_feed 41 = .ok (.iload 6, 2) := by decide +kernel
theorem dX12_feed_43 : decode cX12_feed 43 = .ok (.bipush 8, 2) := by decide +kernel
theorem dX12_feed_45 : decode cX12_feed 45 = .ok (.if_icmp .ge 7, 3) := by decide +kernel
theorem dX12_feed_48 : decode cX12_feed 48 = .ok (.iload_n 2, 1) := by decide +kernel
theorem dX12_feed_49 : decode cX12_feed 49 = .ok (.goto 28, 3) := by decide +kernel
theorem dX12_feed_52 : decode cX12_feed 52 = .ok (.iload 6, 2) := by decide +kernel
theorem dX12_feed_54 : decode cX12_feed 54 = .ok (.bipush 12, 2) := by decide +kernel
theorem dX12_feed_56 : decode cX12_feed 56 = .ok (.if_icmp .ge 7, 3) := by decide +kernel
theorem dX12_feed_59 : decode cX12_feed 59 = .ok (.iload_n 3, 1) := by decide +kernel
theorem dX12_feed_60 : decode cX12_feed 60 = .ok (.goto 17, 3) := by decide +kernel
theorem dX12_feed_63 : decode cX12_feed 63 = .ok (.iload 6, 2) := by decide +kernel
theorem dX12_feed_65 : decode cX12_feed 65 = .ok (.bipush 16, 2) := by decide +kernel
theorem dX12_feed_67 : decode cX12_feed 67 = .ok (.if_icmp .ge 8, 3) := by decide +kernel
theorem dX12_feed_70 : decode cX12_feed 70 = .ok (.iload 4, 2) := by decide +kernel
theorem dX12_feed_72 : decode cX12_feed 72 = .ok (.goto 5, 3) := by decide +kernel
theorem dX12_feed_75 : decode cX12_feed 75 = .ok (.iload 5, 2) := by decide +kernel
theorem dX12_feed_77 : decode cX12_feed 77 = .ok (.istore 7, 2) := by decide +kernel
theorem dX12_feed_79 : decode cX12_feed 79 = .ok (.aload_n 0, 1) := by decide +kernel
theorem dX12_feed_80 : decode cX12_feed 80 = .ok (.getfield 30, 3) := by decide +kernel
theorem dX12_feed_83 : decode cX12_feed 83 = .ok (.aload_n 0, 1) := by decide +kernel
theorem dX12_feed_84 : decode cX12_feed 84 = .ok (.getfield 87, 3) := by decide +kernel
theorem dX12_feed_87 : decode cX12_feed 87 = .ok (.iload 7, 2) := by decide +kernel
theorem dX12_feed_89 : decode cX12_feed 89 = .ok (.bipush 24, 2) := by decide +kernel
theorem dX12_feed_91 : decode cX12_feed 91 = .ok (.bipush 8, 2) := by decide +kernel
theorem dX12_feed_93 : decode cX12_feed 93 = .ok (.iload 6, 2) := by decide +kernel
theorem dX12_feed_95 : decode cX12_feed 95 = .ok (.iconst 4, 1) := by decide +kernel
theorem dX12_feed_96 : decode cX12_feed 96 = .ok (.irem, 1) := by decide +kernel
theorem dX12_feed_97 : decode cX12_feed 97 = .ok (.imul, 1) := by decide +kernel
theorem dX12_feed_98 : decode cX12_feed 98 = .ok (.isub, 1) := by decide +kernel
theorem dX12_feed_99 : decode cX12_feed 99 = .ok (.ishr, 1) := by decide +kernel
theorem dX12_feed_100 : decode cX12_feed 100 = .ok (.i2b, 1) := by decide +kernel
theorem dX12_feed_101 : decode cX12_feed 101 = .ok (.bastore, 1) := by decide +kernel
theorem dX12_feed_102 : decode cX12_feed 102 = .ok (.aload_n 0, 1) := by decide +kernel
theorem dX12_feed_103 : decode cX12_feed 103 = .ok (.dup, 1) := by decide +kernel
theorem dX12_feed_104 : decode cX12_feed 104 = .ok (.getfield 87, 3) := by decide +kernel
theorem dX12_feed_107 : decode cX12_feed 107 = .ok (.iconst 1, 1) := by decide +kernel
theorem dX12_feed_108 : decode cX12_feed 108 = .ok (.iadd, 1) := by decide +kernel
theorem dX12_feed_109 : decode cX12_feed 109 = .ok (.putfield 87, 3) := by decide +kernel
theorem dX12_feed_112 : decode cX12_feed 112 = .ok (.iinc 6 1, 3) := by decide +kernel
theorem dX12_feed_115 : decode cX12_feed 115 = .ok (.goto (-91), 3) := by decide +kernel
theorem dX12_feed_118 : decode cX12_feed 118 = .ok (.aload_n 0, 1) := by decide +kernel
theorem dX12_feed_119 : decode cX12_feed 119 = .ok (.getfield 87, 3) := by decide +kernel
theorem dX12_feed_122 : decode cX12_feed 122 = .ok (.ireturn, 1) := by decide +kernel
theorem dX12_lineRead_0 : decode cX12_lineRead 0 = .ok (.aload_n 0, 1) := by decide +kernel
theorem dX12_lineRead_1 : decode cX12_lineRead 1 = .ok (.invokevirtual 143, 3) := by decide +kernel
theorem dX12_lineRead_4 : decode cX12_lineRead 4 = .ok (.istore_n 1, 1) := by decide +kernel
theorem dX12_lineRead_5 : decode cX12_lineRead 5 = .ok (.aload_n 0, 1) := by decide +kernel
theorem dX12_lineRead_6 : decode cX12_lineRead 6 = .ok (.getfield 90, 3) := by decide +kernel
theorem dX12_lineRead_9 : decode cX12_lineRead 9 = .ok (.istore_n 2, 1) := by decide +kernel
theorem dX12_lineRead_10 : decode cX12_lineRead 10 = .ok (.iload_n 1, 1) := by decide +kernel
theorem dX12_lineRead_11 : decode cX12_lineRead 11 = .ok (.iconst (-1), 1) := by decide +kernel
theorem dX12_lineRead_12 : decode cX12_lineRead 12 = .ok (.if_icmp .eq 20, 3) := by decide +kernel
theorem dX12_lineRead_15 : decode cX12_lineRead 15 = .ok (.iload_n 1, 1) := by decide +kernel
theorem dX12_lineRead_16 : decode cX12_lineRead 16 = .ok (.iconst 5, 1) := by decide +kernel
theorem dX12_lineRead_17 : decode cX12_lineRead 17 = .ok (.if_icmp .ne 24, 3) := by decide +kernel
theorem dX12_lineRead_20 : decode cX12_lineRead 20 = .ok (.aload_n 0, 1) := by decide +kernel
theorem dX12_lineRead_21 : decode cX12_lineRead 21 = .ok (.getfield 157, 3) := by decide +kernel
theorem dX12_lineRead_24 : decode cX12_lineRead 24 = .ok (.iconst 5, 1) := by decide +kernel
theorem dX12_lineRead_25 : decode cX12_lineRead 25 = .ok (.ishr, 1) := by decide +kernel
theorem dX12_lineRead_26 : decode cX12_lineRead 26 = .ok (.iconst 1, 1) := by decide +kernel
theorem dX12_lineRead_27 : decode cX12_lineRead 27 = .ok (.iand, 1) := by decide +kernel
theorem dX12_lineRead_28 : decode cX12_lineRead 28 = .ok (.iconst 1, 1) := by decide +kernel
theorem dX12_lineRead_29 : decode cX12_lineRead 29 = .ok (.if_icmp .ne 12, 3) := by decide +kernel
theorem dX12_lineRead_32 : decode cX12_lineRead 32 = .ok (.aload_n 0, 1) := by decide +kernel
theorem dX12_lineRead_33 : decode cX12_lineRead 33 = .ok (.iconst 1, 1) := by decide +kernel
theorem dX12_lineRead_34 : decode cX12_lineRead 34 = .ok (.iload_n 2, 1) := by decide +kernel
theorem dX12_lineRead_35 : decode cX12_lineRead 35 = .ok (.invokevirtual 136, 3) := by decide +kernel
theorem dX12_lineRead_38 : decode cX12_lineRead 38 = .ok (.goto 17, 3) := by decide +kernel
theorem dX12_lineRead_41 : decode cX12_lineRead 41 = .ok (.aload_n 0, 1) := by decide +kernel
theorem dX12_lineRead_42 : decode cX12_lineRead 42 = .ok (.iload_n 1, 1) := by decide +kernel
theorem dX12_lineRead_43 : decode cX12_lineRead 43 = .ok (.invokevirtual 160, 3) := by decide +kernel
theorem dX12_lineRead_46 : decode cX12_lineRead 46 = .ok (.ifCond .eq 9, 3) := by decide +kernel
theorem dX12_lineRead_49 : decode cX12_lineRead 49 = .ok (.aload_n 0, 1) := by decide +kernel
theorem dX12_lineRead_50 : decode cX12_lineRead 50 = .ok (.iconst 4, 1) := by decide +kernel
theorem dX12_lineRead_51 : decode cX12_lineRead 51 = .ok (.iload_n 2, 1) := by decide +kernel
theorem dX12_lineRead_52 : decode cX12_lineRead 52 = .ok (.invokevirtual 136, 3) := by decide +kernel
theorem dX12_lineRead_55 : decode cX12_lineRead 55 = .ok (.aload_n 0, 1) := by decide +kernel
theorem dX12_lineRead_56 : decode cX12_lineRead 56 = .ok (.getfield 96, 3) := by decide +kernel
theorem dX12_lineRead_59 : decode cX12_lineRead 59 = .ok (.ifCond .eq 4, 3) := by decide +kernel
theorem dX12_lineRead_62 : decode cX12_lineRead 62 = .ok (.return_, 1) := by decide +kernel
theorem dX12_lineRead_63 : decode cX12_lineRead 63 = .ok (.aload_n 0, 1) := by decide +kernel
theorem dX12_lineRead_64 : decode cX12_lineRead 64 = .ok (.dup, 1) := by decide +kernel
theorem dX12_lineRead_65 : decode cX12_lineRead 65 = .ok (.getfield 157, 3) := by decide +kernel
theorem dX12_lineRead_68 : decode cX12_lineRead 68 = .ok (.iconst 1, 1) := by decide +kernel
theorem dX12_lineRead_69 : decode cX12_lineRead 69 = .ok (.iload_n 1, 1) := by decide +kernel
theorem dX12_lineRead_70 : decode cX12_lineRead 70 = .ok (.ishl, 1) := by decide +kernel
theorem dX12_lineRead_71 : decode cX12_lineRead 71 = .ok (.ior, 1) := by decide +kernel
theorem dX12_lineRead_72 : decode cX12_lineRead 72 = .ok (.putfield 157, 3) := by decide +kernel
theorem dX12_lineRead_75 : decode cX12_lineRead 75 = .ok (.aload_n 0, 1) := by decide +kernel
theorem dX12_lineRead_76 : decode cX12_lineRead 76 = .ok (.dup, 1) := by decide +kernel
theorem dX12_lineRead_77 : decode cX12_lineRead 77 = .ok (.getfield 90, 3) := by decide +kernel
theorem dX12_lineRead_80 : decode cX12_lineRead 80 = .ok (.aload_n 0, 1) := by decide +kernel
theorem dX12_lineRead_81 : decode cX12_lineRead 81 = .ok (.invokevirtual 119, 3) := by decide +kernel
theorem dX12_lineRead_84 : decode cX12_lineRead 84 = .ok (.iadd, 1) := by decide +kernel
theorem dX12_lineRead_85 : decode cX12_lineRead 85 = .ok (.putfield 90, 3) := by decide +kernel
theorem dX12_lineRead_88 : decode cX12_lineRead 88 = .ok (.aload_n 0, 1) := by decide +kernel
theorem dX12_lineRead_89 : decode cX12_lineRead 89 = .ok (.iload_n 1, 1) := by decide +kernel
theorem dX12_lineRead_90 : decode cX12_lineRead 90 = .ok (.invokevirtual 163, 3) := by decide +kernel
theorem dX12_lineRead_93 : decode cX12_lineRead 93 = .ok (.aload_n 0, 1) := by decide +kernel
theorem dX12_lineRead_94 : decode cX12_lineRead 94 = .ok (.getfield 96, 3) := by decide +kernel
theorem dX12_lineRead_97 : decode cX12_lineRead 97 = .ok (.ifCond .ne 21, 3) := by decide +kernel
theorem dX12_lineRead_100 : decode cX12_lineRead 100 = .ok (.aload_n 0, 1) := by decide +kernel
theorem dX12_lineRead_101 : decode cX12_lineRead 101 = .ok (.invokevirtual 115, 3) := by decide +kernel
theorem dX12_lineRead_104 : decode cX12_lineRead 104 = .ok (.bipush 59, 2) := by decide +kernel
theorem dX12_lineRead_106 : decode cX12_lineRead 106 = .ok (.if_icmp .eq 12, 3) := by decide +kernel
theorem dX12_lineRead_109 : decode cX12_lineRead 109 = .ok (.aload_n 0, 1) := by decide +kernel
theorem dX12_lineRead_110 : decode cX12_lineRead 110 = .ok (.iconst 1, 1) := by decide +kernel
theorem dX12_lineRead_111 : decode cX12_lineRead 111 = .ok (.aload_n 0, 1) := by decide +kernel
theorem dX12_lineRead_112 : decode cX12_lineRead 112 = .ok (.getfield 90, 3) := by decide +kernel
theorem dX12_lineRead_115 : decode cX12_lineRead 115 = .ok (.invokevirtual 136, 3) := by decide +kernel
theorem dX12_lineRead_118 : decode cX12_lineRead 118 = .ok (.aload_n 0, 1) := by decide +kernel
theorem dX12_lineRead_119 : decode cX12_lineRead 119 = .ok (.dup, 1) := by decide +kernel
theorem dX12_lineRead_120 : decode cX12_lineRead 120 = .ok (.getfield 90, 3) := by decide +kernel
theorem dX12_lineRead_123 : decode cX12_lineRead 123 = .ok (.iconst 1, 1) := by decide +kernel
theorem dX12_lineRead_124 : decode cX12_lineRead 124 = .ok (.iadd, 1) := by decide +kernel
theorem dX12_lineRead_125 : decode cX12_lineRead 125 = .ok (.putfield 90, 3) := by decide +kernel
theorem dX12_lineRead_128 : decode cX12_lineRead 128 = .ok (.return_, 1) := by decide +kernel
theorem dX12_plain_0 : decode cX12_plain 0 = .ok (.aload_n 0, 1) := by decide +kernel
theorem dX12_plain_1 : decode cX12_plain 1 = .ok (.iconst 0, 1) := by decide +kernel
theorem dX12_plain_2 : decode cX12_plain 2 = .ok (.putfield 80, 3) := by decide +kernel
theorem dX12_plain_5 : decode cX12_plain 5 = .ok (.aload_n 0, 1) := by decide +kernel
theorem dX12_plain_6 : decode cX12_plain 6 = .ok (.iconst 0, 1) := by decide +kernel
theorem dX12_plain_7 : decode cX12_plain 7 = .ok (.putfield 83, 3) := by decide +kernel
theorem dX12_plain_10 : decode cX12_plain 10 = .ok (.iconst 0, 1) := by decide +kernel
theorem dX12_plain_11 : decode cX12_plain 11 = .ok (.istore_n 1, 1) := by decide +kernel
theorem dX12_plain_12 : decode cX12_plain 12 = .ok (.iload_n 1, 1) := by decide +kernel
theorem dX12_plain_13 : decode cX12_plain 13 = .ok (.sipush 266, 3) := by decide +kernel
theorem dX12_plain_16 : decode cX12_plain 16 = .ok (.if_icmp .ge 28, 3) := by decide +kernel
theorem dX12_plain_19 : decode cX12_plain 19 = .ok (.aload_n 0, 1) := by decide +kernel
theorem dX12_plain_20 : decode cX12_plain 20 = .ok (.getfield 13, 3) := by decide +kernel
theorem dX12_plain_23 : decode cX12_plain 23 = .ok (.iload_n 1, 1) := by decide +kernel
theorem dX12_plain_24 : decode cX12_plain 24 = .ok (.iload_n 1, 1) := by decide +kernel
theorem dX12_plain_25 : decode cX12_plain 25 = .ok (.sipush 202, 3) := by decide +kernel
theorem dX12_plain_28 : decode cX12_plain 28 = .ok (.if_icmp .ge 7, 3) := by decide +kernel
theorem dX12_plain_31 : decode cX12_plain 31 = .ok (.iconst 0, 1) := by decide +kernel
theorem dX12_plain_32 : decode cX12_plain 32 = .ok (.goto 5, 3) := by decide +kernel
theorem dX12_plain_35 : decode cX12_plain 35 = .ok (.ldc 86, 2) := by decide +kernel
theorem dX12_plain_37 : decode cX12_plain 37 = .ok (.iastore, 1) := by decide +kernel
theorem dX12_plain_38 : decode cX12_plain 38 = .ok (.iinc 1 1, 3) := by decide +kernel
theorem dX12_plain_41 : decode cX12_plain 41 = .ok (.goto (-29), 3) := by decide +kernel
theorem dX12_plain_44 : decode cX12_plain 44 = .ok (.return_, 1) := by decide +kernel
theorem dX12_tell_0 : decode cX12_tell 0 = .ok (.aload_n 0, 1) := by decide +kernel
theorem dX12_tell_1 : decode cX12_tell 1 = .ok (.iconst 0, 1) := by decide +kernel
theorem dX12_tell_2 : decode cX12_tell 2 = .ok (.putfield 1, 3) := by decide +kernel
theorem dX12_tell_5 : decode cX12_tell 5 = .ok (.iload_n 1, 1) := by decide +kernel
theorem dX12_tell_6 : decode cX12_tell 6 = .ok (.i2l, 1) := by decide +kernel
theorem dX12_tell_7 : decode cX12_tell 7 = .ok (.lconst 0, 1) := by decide +kernel
theorem dX12_tell_8 : decode cX12_tell 8 = .ok (.aload_n 0, 1) := by decide +kernel
theorem dX12_tell_9 : decode cX12_tell 9 = .ok (.getfield 87, 3) := by decide +kernel
theorem dX12_tell_12 : decode cX12_tell 12 = .ok (.i2l, 1) := by decide +kernel
theorem dX12_tell_13 : decode cX12_tell 13 = .ok (.invokestatic 103, 3) := by decide +kernel
theorem dX12_tell_16 : decode cX12_tell 16 = .ok (.ifCond .ne 6, 3) := by decide +kernel
theorem dX12_tell_19 : decode cX12_tell 19 = .ok (.bipush (-3), 2) := by decide +kernel
theorem dX12_tell_21 : decode cX12_tell 21 = .ok (.ireturn, 1) := by decide +kernel
theorem dX12_tell_22 : decode cX12_tell 22 = .ok (.aload_n 0, 1) := by decide +kernel
theorem dX12_tell_23 : decode cX12_tell 23 = .ok (.iconst 0, 1) := by decide +kernel
theorem dX12_tell_24 : decode cX12_tell 24 = .ok (.putfield 87, 3) := by decide +kernel
theorem dX12_tell_27 : decode cX12_tell 27 = .ok (.aload_n 0, 1) := by decide +kernel
theorem dX12_tell_28 : decode cX12_tell 28 = .ok (.iload_n 1, 1) := by decide +kernel
theorem dX12_tell_29 : decode cX12_tell 29 = .ok (.putfield 93, 3) := by decide +kernel
theorem dX12_tell_32 : decode cX12_tell 32 = .ok (.aload_n 0, 1) := by decide +kernel
theorem dX12_tell_33 : decode cX12_tell 33 = .ok (.iconst 0, 1) := by decide +kernel
theorem dX12_tell_34 : decode cX12_tell 34 = .ok (.putfield 90, 3) := by decide +kernel
theorem dX12_tell_37 : decode cX12_tell 37 = .ok (.aload_n 0, 1) := by decide +kernel
theorem dX12_tell_38 : decode cX12_tell 38 = .ok (.iconst 0, 1) := by decide +kernel
theorem dX12_tell_39 : decode cX12_tell 39 = .ok (.putfield 96, 3) := by decide +kernel
theorem dX12_tell_42 : decode cX12_tell 42 = .ok (.aload_n 0, 1) := by decide +kernel
theorem dX12_tell_43 : decode cX12_tell 43 = .ok (.iconst (-1), 1) := by decide +kernel
theorem dX12_tell_44 : decode cX12_tell 44 = .ok (.putfield 34, 3) := by decide +kernel
theorem dX12_tell_47 : decode cX12_tell 47 = .ok (.aload_n 0, 1) := by decide +kernel
theorem dX12_tell_48 : decode cX12_tell 48 = .ok (.iconst 0, 1) := by decide +kernel
theorem dX12_tell_49 : decode cX12_tell 49 = .ok (.putfield 157, 3) := by decide +kernel
theorem dX12_tell_52 : decode cX12_tell 52 = .ok (.aload_n 0, 1) := by decide +kernel
theorem dX12_tell_53 : decode cX12_tell 53 = .ok (.getfield 80, 3) := by decide +kernel
theorem dX12_tell_56 : decode cX12_tell 56 = .ok (.istore_n 2, 1) := by decide +kernel
theorem dX12_tell_57 : decode cX12_tell 57 = .ok (.aload_n 0, 1) := by decide +kernel
theorem dX12_tell_58 : decode cX12_tell 58 = .ok (.getfield 83, 3) := by decide +kernel
theorem dX12_tell_61 : decode cX12_tell 61 = .ok (.istore_n 3, 1) := by decide +kernel
theorem dX12_tell_62 : decode cX12_tell 62 = .ok (.iconst 0, 1) := by decide +kernel
theorem dX12_tell_63 : decode cX12_tell 63 = .ok (.istore 4, 2) := by decide +kernel
theorem dX12_tell_65 : decode cX12_tell 65 = .ok (.iload 4, 2) := by decide +kernel
theorem dX12_tell_67 : decode cX12_tell 67 = .ok (.sipush 266, 3) := by decide +kernel
theorem dX12_tell_70 : decode cX12_tell 70 = .ok (.if_icmp .ge 23, 3) := by decide +kernel
theorem dX12_tell_73 : decode cX12_tell 73 = .ok (.aload_n 0, 1) := by decide +kernel
theorem dX12_tell_74 : decode cX12_tell 74 = .ok (.getfield 17, 3) := by decide +kernel
theorem dX12_tell_77 : decode cX12_tell 77 = .ok (.iload 4, 2) := by decide +kernel
theorem dX12_tell_79 : decode cX12_tell 79 = .ok (.aload_n 0, 1) := by decide +kernel
theorem dX12_tell_80 : decode cX12_tell 80 = .ok (.getfield 13, 3) := by decide +kernel
theorem dX12_tell_83 : decode cX12_tell 83 = .ok (.iload 4, 2) := by decide +kernel
theorem dX12_tell_85 : decode cX12_tell 85 = .ok (.iaload, 1) := by decide +kernel
theorem dX12_tell_86 : decode cX12_tell 86 = .ok (.iastore, 1) := by decide +kernel
theorem dX12_tell_87 : decode cX12_tell 87 = .ok (.iinc 4 1, 3) := by decide +kernel
theorem dX12_tell_90 : decode cX12_tell 90 = .ok (.goto (-25), 3) := by decide +kernel
theorem dX12_tell_93 : decode cX12_tell 93 = .ok (.iconst 0, 1) := by decide +kernel
theorem dX12_tell_94 : decode cX12_tell 94 = .ok (.istore 4, 2) := by decide +kernel
theorem dX12_tell_96 : decode cX12_tell 96 = .ok (.iload 4, 2) := by decide +kernel
theorem dX12_tell_98 : decode cX12_tell 98 = .ok (.bipush 12, 2) := by decide +kernel
theorem dX12_tell_100 : decode cX12_tell 100 = .ok (.if_icmp .ge 23, 3) := by decide +kernel
theorem dX12_tell_103 : decode cX12_tell 103 = .ok (.aload_n 0, 1) := by decide +kernel
theorem dX12_tell_104 : decode cX12_tell 104 = .ok (.getfield 27, 3) := by decide +kernel
theorem dX12_tell_107 : decode cX12_tell 107 = .ok (.iload 4, 2) := by decide +kernel
theorem dX12_tell_109 : decode cX12_tell 109 = .ok (.aload_n 0, 1) := by decide +kernel
theorem dX12_tell_110 : decode cX12_tell 110 = .ok (.getfield 23, 3) := by decide +kernel
theorem dX12_tell_113 : decode cX12_tell 113 = .ok (.iload 4, 2) := by decide +kernel
theorem dX12_tell_115 : decode cX12_tell 115 = .ok (.laload, 1) := by decide +kernel
theorem dX12_tell_116 : decode cX12_tell 116 = .ok (.lastore, 1) := by decide +kernel
theorem dX12_tell_117 : decode cX12_tell 117 = .ok (.iinc 4 1, 3) := by decide +kernel
theorem dX12_tell_120 : decode cX12_tell 120 = .ok (.goto (-24), 3) := by decide +kernel
theorem dX12_tell_123 : decode cX12_tell 123 = .ok (.aload_n 0, 1) := by decide +kernel
theorem dX12_tell_124 : decode cX12_tell 124 = .ok (.invokevirtual 77, 3) := by decide +kernel
theorem dX12_tell_127 : decode cX12_tell 127 = .ok (.aload_n 0, 1) := by decide +kernel
theorem dX12_tell_128 : decode cX12_tell 128 = .ok (.getfield 96, 3) := by decide +kernel
theorem dX12_tell_131 : decode cX12_tell 131 = .ok (.ifCond .ne 18, 3) := by decide +kernel
theorem dX12_tell_134 : decode cX12_tell 134 = .ok (.aload_n 0, 1) := by decide +kernel
theorem dX12_tell_135 : decode cX12_tell 135 = .ok (.invokevirtual 115, 3) := by decide +kernel
theorem dX12_tell_138 : decode cX12_tell 138 = .ok (.iconst (-1), 1) := by decide +kernel
theorem dX12_tell_139 : decode cX12_tell 139 = .ok (.if_icmp .eq 10, 3) := by decide +kernel
theorem dX12_tell_142 : decode cX12_tell 142 = .ok (.aload_n 0, 1) := by decide +kernel
theorem dX12_tell_143 : decode cX12_tell 143 = .ok (.invokevirtual 192, 3) := by decide +kernel
theorem dX12_tell_146 : decode cX12_tell 146 = .ok (.goto (-19), 3) := by decide +kernel
theorem dX12_tell_149 : decode cX12_tell 149 = .ok (.aload_n 0, 1) := by decide +kernel
theorem dX12_tell_150 : decode cX12_tell 150 = .ok (.getfield 96, 3) := by decide +kernel
theorem dX12_tell_153 : decode cX12_tell 153 = .ok (.ifCond .ne 15, 3) := by decide +kernel
theorem dX12_tell_156 : decode cX12_tell 156 = .ok (.aload_n 0, 1) := by decide +kernel
theorem dX12_tell_157 : decode cX12_tell 157 = .ok (.iconst 0, 1) := by decide +kernel
theorem dX12_tell_158 : decode cX12_tell 158 = .ok (.putfield 195, 3) := by decide +kernel
theorem dX12_tell_161 : decode cX12_tell 161 = .ok (.aload_n 0, 1) := by decide +kernel
theorem dX12_tell_162 : decode cX12_tell 162 = .ok (.getfield 13, 3) := by decide +kernel
theorem dX12_tell_165 : decode cX12_tell 165 = .ok (.iconst 0, 1) := by decide +kernel
theorem dX12_tell_166 : decode cX12_tell 166 = .ok (.iaload, 1) := by decide +kernel
theorem dX12_tell_167 : decode cX12_tell 167 = .ok (.ireturn, 1) := by decide +kernel
theorem dX12_tell_168 : decode cX12_tell 168 = .ok (.aload_n 0, 1) := by decide +kernel
theorem dX12_tell_169 : decode cX12_tell 169 = .ok (.iload_n 2, 1) := by decide +kernel
theorem dX12_tell_170 : decode cX12_tell 170 = .ok (.putfield 80, 3) := by decide +kernel
theorem dX12_tell_173 : decode cX12_tell 173 = .ok (.aload_n 0, 1) := by decide +kernel
theorem dX12_tell_174 : decode cX12_tell 174 = .ok (.iload_n 3, 1) := by decide +kernel
theorem dX12_tell_175 : decode cX12_tell 175 = .ok (.putfield 83, 3) := by decide +kernel
theorem dX12_tell_178 : decode cX12_tell 178 = .ok (.iconst 0, 1) := by decide +kernel
theorem dX12_tell_179 : decode cX12_tell 179 = .ok (.istore 4, 2) := by decide +kernel
theorem dX12_tell_181 : decode cX12_tell 181 = .ok (.iload 4, 2) := by decide +kernel
theorem dX12_tell_183 : decode cX12_tell 183 = .ok (.sipush 266, 3) := by decide +kernel
theorem dX12_tell_186 : decode cX12_tell 186 = .ok (.if_icmp .ge 23, 3) := by decide +kernel
theorem dX12_tell_189 : decode cX12_tell 189 = .ok (.aload_n 0, 1) := by decide +kernel
theorem dX12_tell_190 : decode cX12_tell 190 = .ok (.getfield 13, 3) := by decide +kernel
theorem dX12_tell_193 : decode cX12_tell 193 = .ok (.iload 4, 2) := by decide +kernel
theorem dX12_tell_195 : decode cX12_tell 195 = .ok (.aload_n 0, 1) := by decide +kernel
theorem dX12_tell_196 : decode cX12_tell 196 = .ok (.getfield 17, 3) := by decide +kernel
theorem dX12_tell_199 : decode cX12_tell 199 = .ok (.iload 4, 2) := by decide +kernel
theorem dX12_tell_201 : decode cX12_tell 201 = .ok (.iaload, 1) := by decide +kernel
theorem dX12_tell_202 : decode cX12_tell 202 = .ok (.iastore, 1) := by decide +kernel
theorem dX12_tell_203 : decode cX12_tell 203 = .ok (.iinc 4 1, 3) := by decide +kernel
theorem dX12_tell_206 : decode cX12_tell 206 = .ok (.goto (-25), 3) := by decide +kernel
theorem dX12_tell_209 : decode cX12_tell 209 = .ok (.iconst 0, 1) := by decide +kernel
theorem dX12_tell_210 : decode cX12_tell 210 = .ok (.istore 4, 2) := by decide +kernel
theorem dX12_tell_212 : decode cX12_tell 212 = .ok (.iload 4, 2) := by decide +kernel
theorem dX12_tell_214 : decode cX12_tell 214 = .ok (.bipush 12, 2) := by decide +kernel
theorem dX12_tell_216 : decode cX12_tell 216 = .ok (.if_icmp .ge 23, 3) := by decide +kernel
theorem dX12_tell_219 : decode cX12_tell 219 = .ok (.aload_n 0, 1) := by decide +kernel
theorem dX12_tell_220 : decode cX12_tell 220 = .ok (.getfield 23, 3) := by decide +kernel
theorem dX12_tell_223 : decode cX12_tell 223 = .ok (.iload 4, 2) := by decide +kernel
theorem dX12_tell_225 : decode cX12_tell 225 = .ok (.aload_n 0, 1) := by decide +kernel
theorem dX12_tell_226 : decode cX12_tell 226 = .ok (.getfield 27, 3) := by decide +kernel
theorem dX12_tell_229 : decode cX12_tell 229 = .ok (.iload 4, 2) := by decide +kernel
theorem dX12_tell_231 : decode cX12_tell 231 = .ok (.laload, 1) := by decide +kernel
theorem dX12_tell_232 : decode cX12_tell 232 = .ok (.lastore, 1) := by decide +kernel
theorem dX12_tell_233 : decode cX12_tell 233 = .ok (.iinc 4 1, 3) := by decide +kernel
theorem dX12_tell_236 : decode cX12_tell 236 = .ok (.goto (-24), 3) := by decide +kernel
theorem dX12_tell_239 : decode cX12_tell 239 = .ok (.bipush (-30), 2) := by decide +kernel
theorem dX12_tell_241 : decode cX12_tell 241 = .ok (.aload_n 0, 1) := by decide +kernel
theorem dX12_tell_242 : decode cX12_tell 242 = .ok (.getfield 96, 3) := by decide +kernel
theorem dX12_tell_245 : decode cX12_tell 245 = .ok (.isub, 1) := by decide +kernel
theorem dX12_tell_246 : decode cX12_tell 246 = .ok (.ireturn, 1) := by decide +kernel
theorem dX12_twoRead_0 : decode cX12_twoRead 0 = .ok (.aload_n 0, 1) := by decide +kernel
theorem dX12_twoRead_1 : decode cX12_twoRead 1 = .ok (.invokevirtual 154, 3) := by decide +kernel
theorem dX12_twoRead_4 : decode cX12_twoRead 4 = .ok (.istore_n 2, 1) := by decide +kernel
theorem dX12_twoRead_5 : decode cX12_twoRead 5 = .ok (.aload_n 0, 1) := by decide +kernel
theorem dX12_twoRead_6 : decode cX12_twoRead 6 = .ok (.iload_n 2, 1) := by decide +kernel
theorem dX12_twoRead_7 : decode cX12_twoRead 7 = .ok (.invokevirtual 180, 3) := by decide +kernel
theorem dX12_twoRead_10 : decode cX12_twoRead 10 = .ok (.istore_n 3, 1) := by decide +kernel
theorem dX12_twoRead_11 : decode cX12_twoRead 11 = .ok (.aload_n 0, 1) := by decide +kernel
theorem dX12_twoRead_12 : decode cX12_twoRead 12 = .ok (.iload_n 1, 1) := by decide +kernel
theorem dX12_twoRead_13 : decode cX12_twoRead 13 = .ok (.iconst 2, 1) := by decide +kernel
theorem dX12_twoRead_14 : decode cX12_twoRead 14 = .ok (.if_icmp .ne 7, 3) := by decide +kernel
theorem dX12_twoRead_17 : decode cX12_twoRead 17 = .ok (.iconst 1, 1) := by decide +kernel
theorem dX12_twoRead_18 : decode cX12_twoRead 18 = .ok (.goto 4, 3) := by decide +kernel
theorem dX12_twoRead_21 : decode cX12_twoRead 21 = .ok (.iconst 0, 1) := by decide +kernel
theorem dX12_twoRead_22 : decode cX12_twoRead 22 = .ok (.iload_n 1, 1) := by decide +kernel
theorem dX12_twoRead_23 : decode cX12_twoRead 23 = .ok (.iconst 2, 1) := by decide +kernel
theorem dX12_twoRead_24 : decode cX12_twoRead 24 = .ok (.if_icmp .ne 8, 3) := by decide +kernel
theorem dX12_twoRead_27 : decode cX12_twoRead 27 = .ok (.ldc 184, 2) := by decide +kernel
theorem dX12_twoRead_29 : decode cX12_twoRead 29 = .ok (.goto 5, 3) := by decide +kernel
theorem dX12_twoRead_32 : decode cX12_twoRead 32 = .ok (.ldc 86, 2) := by decide +kernel
theorem dX12_twoRead_34 : decode cX12_twoRead 34 = .ok (.invokevirtual 170, 3) := by decide +kernel
theorem dX12_twoRead_37 : decode cX12_twoRead 37 = .ok (.istore 4, 2) := by decide +kernel
theorem dX12_twoRead_39 : decode cX12_twoRead 39 = .ok (.iload_n 1, 1) := by decide +kernel
theorem dX12_twoRead_40 : decode cX12_twoRead 40 = .ok (.iconst 2, 1) := by decide +kernel
theorem dX12_twoRead_41 : decode cX12_twoRead 41 = .ok (.if_icmp .ne 10, 3) := by decide +kernel
theorem dX12_twoRead_44 : decode cX12_twoRead 44 = .ok (.aload_n 0, 1) := by decide +kernel
theorem dX12_twoRead_45 : decode cX12_twoRead 45 = .ok (.invokevirtual 185, 3) := by decide +kernel
theorem dX12_twoRead_48 : decode cX12_twoRead 48 = .ok (.goto 4, 3) := by decide +kernel
theorem dX12_twoRead_51 : decode cX12_twoRead 51 = .ok (.iconst 0, 1) := by decide +kernel
theorem dX12_twoRead_52 : decode cX12_twoRead 52 = .ok (.istore 5, 2) := by decide +kernel
theorem dX12_twoRead_54 : decode cX12_twoRead 54 = .ok (.aload_n 0, 1) := by decide +kernel
theorem dX12_twoRead_55 : decode cX12_twoRead 55 = .ok (.getfield 96, 3) := by decide +kernel
theorem dX12_twoRead_58 : decode cX12_twoRead 58 = .ok (.ifCond .eq 4, 3) := by decide +kernel
theorem dX12_twoRead_61 : decode cX12_twoRead 61 = .ok (.return_, 1) := by decide +kernel
theorem dX12_twoRead_62 : decode cX12_twoRead 62 = .ok (.iload_n 1, 1) := by decide +kernel
theorem dX12_twoRead_63 : decode cX12_twoRead 63 = .ok (.iconst 2, 1) := by decide +kernel
theorem dX12_twoRead_64 : decode cX12_twoRead 64 = .ok (.if_icmp .ne 16, 3) := by decide +kernel
theorem dX12_twoRead_67 : decode cX12_twoRead 67 = .ok (.aload_n 0, 1) := by decide +kernel
theorem dX12_twoRead_68 : decode cX12_twoRead 68 = .ok (.iload_n 2, 1) := by decide +kernel
theorem dX12_twoRead_69 : decode cX12_twoRead 69 = .ok (.iload_n 3, 1) := by decide +kernel
theorem dX12_twoRead_70 : decode cX12_twoRead 70 = .ok (.iload 4, 2) := by decide +kernel
theorem dX12_twoRead_72 : decode cX12_twoRead 72 = .ok (.iload 5, 2) := by decide +kernel
theorem dX12_twoRead_74 : decode cX12_twoRead 74 = .ok (.invokevirtual 188, 3) := by decide +kernel
theorem dX12_twoRead_77 : decode cX12_twoRead 77 = .ok (.goto 20, 3) := by decide +kernel
theorem dX12_twoRead_80 : decode cX12_twoRead 80 = .ok (.aload_n 0, 1) := by decide +kernel
theorem dX12_twoRead_81 : decode cX12_twoRead 81 = .ok (.getfield 13, 3) := by decide +kernel
theorem dX12_twoRead_84 : decode cX12_twoRead 84 = .ok (.sipush 202, 3) := by decide +kernel
theorem dX12_twoRead_87 : decode cX12_twoRead 87 = .ok (.bipush 8, 2) := by decide +kernel
theorem dX12_twoRead_89 : decode cX12_twoRead 89 = .ok (.iload_n 2, 1) := by decide +kernel
theorem dX12_twoRead_90 : decode cX12_twoRead 90 = .ok (.imul, 1) := by decide +kernel
theorem dX12_twoRead_91 : decode cX12_twoRead 91 = .ok (.iadd, 1) := by decide +kernel
theorem dX12_twoRead_92 : decode cX12_twoRead 92 = .ok (.iload_n 3, 1) := by decide +kernel
theorem dX12_twoRead_93 : decode cX12_twoRead 93 = .ok (.iadd, 1) := by decide +kernel
theorem dX12_twoRead_94 : decode cX12_twoRead 94 = .ok (.iload 4, 2) := by decide +kernel
theorem dX12_twoRead_96 : decode cX12_twoRead 96 = .ok (.iastore, 1) := by decide +kernel
theorem dX12_twoRead_97 : decode cX12_twoRead 97 = .ok (.return_, 1) := by decide +kernel
theorem tl_4 {n : Int32} {t : Nat} {z z2 : Int64} (hz : z = n.toInt64) (hz2 : z2 = (nI t).toInt64) (h : ¬ (0 ≤ z ∧ z ≤ z2)) (ht : t ≤ 900) : tl n t = t := by
  refine if_pos ?_
  by_cases q : n < 0
  · exact Or.inl q
  · refine Or.inr ?_
    subst hz hz2
    rw [Int64.le_iff_toInt_le, Int64.le_iff_toInt_le, Int32.toInt_toInt64, Int32.toInt_toInt64] at h
    rw [Int32.lt_iff_toInt_lt] at q ⊢
    have e0 : (0 : Int64).toInt = 0 := by decide
    have f0 : (0 : Int32).toInt = 0 := by decide
    omega
set_option maxHeartbeats 4000000 in
set_option maxRecDepth 100000 in
theorem m_two (l : Launch) (dC : Nat → ClassId) (dI : Nat → Nat → Nat) (cy : Nat → ClassId) (L : List Nat) (kap : Nat → Nat) (pr : Pr) (ad : (Nat → Nat) × (Nat → Nat)) (S : Nat → va_E) (sz : Nat) (o : Nat) (wz : Int32) (hTy : Ty cy L kap pr S) (hT_o : TK L kap o 12) (sp : Nat) (sn : Nat) (wr : Int32) (pa : Nat) (ki : Nat) (rs : Nat) (hM : MK S o sp sn wr pa ki rs) (hsp : sp ≤ sn) (h2 : wz = 2 → ∃ n, n < 40 ∧ mny S o n) (hdg : dg (fld S o 0)) : Met l yX12_twoRead (wT yX12_twoRead cX12_twoRead 6 none) ({ frames := 8, cells := 0, slots := 0, locals := 178 }) (pcS dC dI [.ref o, .int wz] sz L S (cyT cy) NLs ad) (va_Qv (fun S' => Ty cy L kap pr S' ∧ Fr kap [12, 50, 112] S S' ∧ (∃ sp' wr', MK S' o sp' sn wr' pa ki rs ∧ sp ≤ sp' ∧ sp' ≤ sn ∧ (wr ≠ 0 → wr' ≠ 0) ∧ dg (fld S' o 0))) (fun S' t => pB dC dI (AL L sz) (va_pl L S') (cyT cy) t) (AL L sz)) 0 0 (AL L sz) := by
  refine Met.ofW (cc := cX12_twoRead) (maxL := 6) (ret := none) (by decide) rfl ?_
  intro p e s m args below meth c s₁ B hml hv
  obtain ⟨rfl, hsz, hP, hK, hD0, hN, hSTR⟩ := hv
  have hx := B.exec
  have hb := B.bytes
  have hr := B.returns
  have hT : ∀ wd ∈ TB, wd.before [.ref o, .int wz].toArray s = true := fun wd h => atoms_spec (ws := wT yX12_twoRead cX12_twoRead 6 none) B.pre wd (List.mem_cons_of_mem _ h)
  have hown : s.vm.findClass RX12 = some m.cls := findClass_of_methodNamed B.named
  have hlocks := B.notSynchronized
  subst hsz
  have hW : PW dC dI L (AL L s.heap.size) s.heap S s.heap [] := ⟨hP, pl_self hD0, va_S.rf⟩
  have hA0 : ∀ q, q ∈ L → AL L s.heap.size q := fun _ h => Or.inl h
  have hA : ∀ q, s.heap.size ≤ q → AL L s.heap.size q := fun _ h => Or.inr h
  have hFr : Fr kap [12, 50, 112] S S := Fr.rf
  have hl := lv_entry ([.ref o, .int wz]) (n := 6) (Nat.le_of_ble_eq_true rfl)
  rw [lg_entry_eq]
  generalize (lg_sl ([.ref o, .int wz]) ++ List.replicate (6 - (lg_sl ([.ref o, .int wz])).length) Slot.unset).toArray = ls at hl ⊢
  have hl : lv_has ls 6 [(0, .ref o), (1, .int wz)] := hl
  obtain ⟨x_1, x_2, x_3, x_4, x_5, x_6, x_7, x_8, x_9, x_10, x_11, x_12, x_13, x_14, x_15, x_16, x_17, x_18, x_19, x_20, x_21, x_22, x_23, x_24, x_25, x_26, x_27, x_28, x_29, x_30, x_31, hS_o, hT_x_1, hT_x_2, hT_x_3, hT_x_4, hT_x_5, hb_x_6, hb_x_7, hb_x_8, hT_x_10, hb_q2, hb_x_11, hb_x_12, hT_x_17, hT_x_18, hb_x_19, hT_x_20, hT_x_21, hT_x_22, hT_x_23, hT_x_24, hT_x_25, hT_x_26, hT_x_27, hT_x_28, hT_x_29, hT_x_30, hb_x_31⟩ := hTy.k12 hT_o
  have hb_q2 : pr.2 ≤ 900 := hb_q2
  have hS_o : S o = .inr (12, [.ref x_1, .ref x_2, .ref x_3, .ref x_4, .ref x_5, .int (nI x_6), .int (nI x_7), .int (nI x_8), .int x_9, .ref x_10, .int (nI (pr.2)), .int (nI x_11), .int (nI x_12), .int x_13, .int x_14, .int x_15, .int x_16, .ref x_17, .ref x_18, .int (nI x_19), .ref x_20, .ref x_21, .ref x_22, .ref x_23, .ref x_24, .ref x_25, .ref x_26, .ref x_27, .ref x_28, .ref x_29, .ref x_30, .int (nI x_31)]) := hS_o
  obtain ⟨e12_, e11_, e13_, e5_, e6_, e0_⟩ := MKe hM hS_o rfl rfl rfl rfl rfl rfl (by omega) (by omega) (by omega) (by omega)
  subst e12_ e11_ e13_ e5_ e6_ e0_
  obtain ⟨f_32, hS_rs, hi_f_32⟩ := hTy.k50 hT_x_1
  have hdg_ : dg f_32 := by have q := hdg; rw [fld_i hS_o rfl hS_rs] at q; exact q
  have hfu2 := fun h => (h2 h).imp (fun n q => And.intro q.1 (mnye q.2 hS_o rfl hS_rs))
  refine lv_aload_n hx hb dX12_twoRead_0 rfl (lv_at hl 0 rfl) ?_
  refine pl_calli (va_runV (As := []) (rest := []) ⟨hx, hb, hml, hown, hT⟩ (m_party l dC dI cy L kap pr ad S s.heap.size o hTy hT_o sp sn wr pa ki rs (MKi (sp := sp) (sn := sn) (pa := pa) (ki := ki) hS_o rfl rfl rfl rfl rfl rfl (by omega) (by omega) (by omega) (by omega)) (by omega)) (cwV 0 hT (gV w1255 w1257 ws68 w14 w1258) rfl rfl rfl (by decide +kernel) ⟨(Nat.le_of_ble_eq_true rfl), (Nat.le_of_ble_eq_true rfl)⟩) ⟨pcS.blind, pl_recv hK hW hT_o.1 hS_o rfl, pcS.pre hW.1 hK hW.2.1 hN hSTR hW.2.2⟩ rfl rfl hl.1 rfl (lv_room (Nat.le_of_ble_eq_true rfl)) dX12_twoRead_1 ⟨(Nat.le_of_ble_eq_true rfl), (Nat.le_of_ble_eq_true rfl)⟩) hW hA0 hA (fun r_34 S_33 H locs hrel hW => ?_)
  obtain ⟨hTy, hF1, hx1⟩ := hrel
  have hFr := hFr.tr hF1 (by decide)
  have hS_rs := hF1.at hT_x_1 (by decide) hS_rs
  obtain ⟨sp35, wr35, hM35, hpa35, hpb35, hw35, hv35⟩ := hx1
  obtain ⟨x_36, x_37, x_38, x_39, x_40, x_41, x_42, x_43, x_44, x_45, x_46, x_47, x_48, x_49, x_50, x_51, x_52, x_53, x_54, x_55, x_56, x_57, x_58, x_59, x_60, x_61, x_62, x_63, x_64, x_65, x_66, hS_o, hT_x_36, hT_x_37, hT_x_38, hT_x_39, hT_x_40, hb_x_41, hb_x_42, hb_x_43, hT_x_45, hb_q2, hb_x_46, hb_x_47, hT_x_52, hT_x_53, hb_x_54, hT_x_55, hT_x_56, hT_x_57, hT_x_58, hT_x_59, hT_x_60, hT_x_61, hT_x_62, hT_x_63, hT_x_64, hT_x_65, hb_x_66⟩ := hTy.k12 hT_o
  have hb_q2 : pr.2 ≤ 900 := hb_q2
  have hS_o : S_33 o = .inr (12, [.ref x_36, .ref x_37, .ref x_38, .ref x_39, .ref x_40, .int (nI x_41), .int (nI x_42), .int (nI x_43), .int x_44, .ref x_45, .int (nI (pr.2)), .int (nI x_46), .int (nI x_47), .int x_48, .int x_49, .int x_50, .int x_51, .ref x_52, .ref x_53, .int (nI x_54), .ref x_55, .ref x_56, .ref x_57, .ref x_58, .ref x_59, .ref x_60, .ref x_61, .ref x_62, .ref x_63, .ref x_64, .ref x_65, .int (nI x_66)]) := hS_o
  obtain ⟨e12_, e11_, e13_, e5_, e6_, e0_⟩ := MKe hM35 hS_o rfl rfl rfl rfl rfl rfl (by omega) (by omega) (by omega) (by omega)
  subst e12_ e11_ e13_ e5_ e6_ e0_
  obtain ⟨k_67, hb_k_67, rfl⟩ := hv35
  refine lv_istore_n (lv' := [(2, .int (nI k_67)), (0, .ref o), (1, .int wz)]) hx hb dX12_twoRead_4 rfl hl (by decide) rfl (fun ls hl => ?_)
  refine lv_aload_n hx hb dX12_twoRead_5 rfl (lv_at hl 1 rfl) ?_
  refine lv_iload_n hx hb dX12_twoRead_6 rfl (lv_at hl 0 rfl) ?_
  refine pl_calli (va_runV (As := [.int (nI k_67)]) (rest := []) ⟨hx, hb, hml, hown, hT⟩ (m_other l dC dI cy L kap pr ad S_33 H.size o (nI k_67) hTy hT_o sp35 sn wr35 pa ki rs (MKi (sp := sp35) (sn := sn) (pa := pa) (ki := ki) hS_o rfl rfl rfl rfl rfl rfl (by omega) (by omega) (by omega) (by omega)) (by omega)) (cwV 1 hT (gV w1259 w1261 ws69 w14 w1262) rfl rfl rfl (by decide +kernel) ⟨(Nat.le_of_ble_eq_true rfl), (Nat.le_of_ble_eq_true rfl)⟩) ⟨pcS.blind, pl_recv hK hW hT_o.1 hS_o rfl, pcS.pre hW.1 hK hW.2.1 hN hSTR hW.2.2⟩ rfl rfl hl.1 rfl (lv_room (Nat.le_of_ble_eq_true rfl)) dX12_twoRead_7 ⟨(Nat.le_of_ble_eq_true rfl), (Nat.le_of_ble_eq_true rfl)⟩) hW hA0 hA (fun r_69 S_68 H locs hrel hW => ?_)
  obtain ⟨hTy, hF1, hx1⟩ := hrel
  have hFr := hFr.tr hF1 (by decide)
  have hS_rs := hF1.at hT_x_36 (by decide) hS_rs
  obtain ⟨sp70, wr70, hM70, hpa70, hpb70, hw70, hv70⟩ := hx1
  obtain ⟨x_71, x_72, x_73, x_74, x_75, x_76, x_77, x_78, x_79, x_80, x_81, x_82, x_83, x_84, x_85, x_86, x_87, x_88, x_89, x_90, x_91, x_92, x_93, x_94, x_95, x_96, x_97, x_98, x_99, x_100, x_101, hS_o, hT_x_71, hT_x_72, hT_x_73, hT_x_74, hT_x_75, hb_x_76, hb_x_77, hb_x_78, hT_x_80, hb_q2, hb_x_81, hb_x_82, hT_x_87, hT_x_88, hb_x_89, hT_x_90, hT_x_91, hT_x_92, hT_x_93, hT_x_94, hT_x_95, hT_x_96, hT_x_97, hT_x_98, hT_x_99, hT_x_100, hb_x_101⟩ := hTy.k12 hT_o
  have hb_q2 : pr.2 ≤ 900 := hb_q2
  have hS_o : S_68 o = .inr (12, [.ref x_71, .ref x_72, .ref x_73, .ref x_74, .ref x_75, .int (nI x_76), .int (nI x_77), .int (nI x_78), .int x_79, .ref x_80, .int (nI (pr.2)), .int (nI x_81), .int (nI x_82), .int x_83, .int x_84, .int x_85, .int x_86, .ref x_87, .ref x_88, .int (nI x_89), .ref x_90, .ref x_91, .ref x_92, .ref x_93, .ref x_94, .ref x_95, .ref x_96, .ref x_97, .ref x_98, .ref x_99, .ref x_100, .int (nI x_101)]) := hS_o
  obtain ⟨e12_, e11_, e13_, e5_, e6_, e0_⟩ := MKe hM70 hS_o rfl rfl rfl rfl rfl rfl (by omega) (by omega) (by omega) (by omega)
  subst e12_ e11_ e13_ e5_ e6_ e0_
  obtain ⟨⟨k_102, hb_k_102, rfl⟩, hoth⟩ := hv70
  refine lv_istore_n (lv' := [(3, .int (nI k_102)), (2, .int (nI k_67)), (0, .ref o), (1, .int wz)]) hx hb dX12_twoRead_10 rfl hl (by decide) rfl (fun ls hl => ?_)
  refine lv_aload_n hx hb dX12_twoRead_11 rfl (lv_at hl 2 rfl) ?_
  refine lv_iload_n hx hb dX12_twoRead_12 rfl (lv_at hl 3 rfl) ?_
  refine lv_iconst (v := 2) hx hb dX12_twoRead_13 (by decide) ?_
  refine lv_icmp_ne (tgt := 21) hx hb dX12_twoRead_14 (by decide) (fun c_14 => ?_) (fun c_14 => ?_)
  · refine lv_iconst (v := 0) hx hb dX12_twoRead_21 (by decide) ?_
    refine lv_iload_n hx hb dX12_twoRead_22 rfl (lv_at hl 3 rfl) ?_
    refine lv_iconst (v := 2) hx hb dX12_twoRead_23 (by decide) ?_
    refine lv_icmp_ne (tgt := 32) hx hb dX12_twoRead_24 (by decide) (fun c_24 => ?_) (fun c_24 => ?_)
    · refine lv_ldc (v := 99999999) hx hb hown (hT _ w1081) dX12_twoRead_32 ?_
      refine pl_calli (va_runV (As := [.int 0, .int 99999999]) (rest := []) ⟨hx, hb, hml, hown, hT⟩ (m_numeral l dC dI cy L kap pr S_68 H.size o 0 99999999 hTy hT_o sp70 sn wr70 pa ki rs (MKi (sp := sp70) (sn := sn) (pa := pa) (ki := ki) hS_o rfl rfl rfl rfl rfl rfl (by omega) (by omega) (by omega) (by omega)) (by omega)) (cwV 2 hT (gV w1238 w1240 ws65 w14 w1241) rfl rfl rfl (by decide +kernel) ⟨(Nat.le_of_ble_eq_true rfl), (Nat.le_of_ble_eq_true rfl)⟩) ⟨pcN.blind, pl_recv hK hW hT_o.1 hS_o rfl, pcN.pre hW.1 hK hW.2.1 hN (fun q h => absurd h List.not_mem_nil)⟩ rfl rfl hl.1 rfl (lv_room (Nat.le_of_ble_eq_true rfl)) dX12_twoRead_34 ⟨(Nat.le_of_ble_eq_true rfl), (Nat.le_of_ble_eq_true rfl)⟩) hW hA0 hA (fun r_104 S_103 H locs hrel hW => ?_)
      obtain ⟨hTy, hF1, hx1⟩ := hrel
      have hFr := hFr.tr hF1 (by decide)
      have hS_rs := hF1.at hT_x_71 (by decide) hS_rs
      obtain ⟨sp105, wr105, hM105, hpa105, hpb105, hw105, hv105⟩ := hx1
      obtain ⟨x_106, x_107, x_108, x_109, x_110, x_111, x_112, x_113, x_114, x_115, x_116, x_117, x_118, x_119, x_120, x_121, x_122, x_123, x_124, x_125, x_126, x_127, x_128, x_129, x_130, x_131, x_132, x_133, x_134, x_135, x_136, hS_o, hT_x_106, hT_x_107, hT_x_108, hT_x_109, hT_x_110, hb_x_111, hb_x_112, hb_x_113, hT_x_115, hb_q2, hb_x_116, hb_x_117, hT_x_122, hT_x_123, hb_x_124, hT_x_125, hT_x_126, hT_x_127, hT_x_128, hT_x_129, hT_x_130, hT_x_131, hT_x_132, hT_x_133, hT_x_134, hT_x_135, hb_x_136⟩ := hTy.k12 hT_o
      have hb_q2 : pr.2 ≤ 900 := hb_q2
      have hS_o : S_103 o = .inr (12, [.ref x_106, .ref x_107, .ref x_108, .ref x_109, .ref x_110, .int (nI x_111), .int (nI x_112), .int (nI x_113), .int x_114, .ref x_115, .int (nI (pr.2)), .int (nI x_116), .int (nI x_117), .int x_118, .int x_119, .int x_120, .int x_121, .ref x_122, .ref x_123, .int (nI x_124), .ref x_125, .ref x_126, .ref x_127, .ref x_128, .ref x_129, .ref x_130, .ref x_131, .ref x_132, .ref x_133, .ref x_134, .ref x_135, .int (nI x_136)]) := hS_o
      obtain ⟨e12_, e11_, e13_, e5_, e6_, e0_⟩ := MKe hM105 hS_o rfl rfl rfl rfl rfl rfl (by omega) (by omega) (by omega) (by omega)
      subst e12_ e11_ e13_ e5_ e6_ e0_
      refine lv_istore (lv' := [(4, .int r_104), (3, .int (nI k_102)), (2, .int (nI k_67)), (0, .ref o), (1, .int wz)]) hx hb dX12_twoRead_37 hl (by decide) rfl (fun ls hl => ?_)
      refine lv_iload_n hx hb dX12_twoRead_39 rfl (lv_at hl 4 rfl) ?_
      refine lv_iconst (v := 2) hx hb dX12_twoRead_40 (by decide) ?_
      refine lv_icmp_ne (tgt := 51) hx hb dX12_twoRead_41 (by decide) (fun c_41 => ?_) (fun c_41 => ?_)
      · refine lv_iconst (v := 0) hx hb dX12_twoRead_51 (by decide) ?_
        refine lv_istore (lv' := [(5, .int 0), (4, .int r_104), (3, .int (nI k_102)), (2, .int (nI k_67)), (0, .ref o), (1, .int wz)]) hx hb dX12_twoRead_52 hl (by decide) rfl (fun ls hl => ?_)
        refine lv_aload_n hx hb dX12_twoRead_54 rfl (lv_at hl 4 rfl) ?_
        refine pl_get (ci := 12) (v := .int wr105) (C := RX12) (T := TX12) (N := 32) hx hb hT iX12 hown hK hW hT_o.1 hS_o rfl 13 (by decide) w1095 rfl dX12_twoRead_55 ?_
        refine lv_if_eq (tgt := 62) hx hb dX12_twoRead_58 (by decide) (fun c_58 => ?_) (fun c_58 => ?_)
        · refine lv_iload_n hx hb dX12_twoRead_62 rfl (lv_at hl 5 rfl) ?_
          refine lv_iconst (v := 2) hx hb dX12_twoRead_63 (by decide) ?_
          refine lv_icmp_ne (tgt := 80) hx hb dX12_twoRead_64 (by decide) (fun c_64 => ?_) (fun c_64 => ?_)
          · refine lv_aload_n hx hb dX12_twoRead_80 rfl (lv_at hl 4 rfl) ?_
            refine pl_get (ci := 12) (v := .ref rs) (C := RX12) (T := TX12) (N := 32) hx hb hT iX12 hown hK hW hT_o.1 hS_o rfl 0 (by decide) w1082 rfl dX12_twoRead_81 ?_
            refine lv_sipush (v := 202) hx hb dX12_twoRead_84 (by decide) ?_
            refine lv_bipush (v := 8) hx hb dX12_twoRead_87 (by decide) ?_
            refine lv_iload_n hx hb dX12_twoRead_89 rfl (lv_at hl 3 rfl) ?_
            refine lv_imul hx hb dX12_twoRead_90 ?_
            refine lv_topi (fun z_137 ez_137 => ?_)
            obtain rfl : z_137 = nI (8 * k_67) := ez_137.trans (pk_mul (8) (k_67))
            refine lv_iadd hx hb dX12_twoRead_91 ?_
            refine lv_topi (fun z_138 ez_138 => ?_)
            obtain rfl : z_138 = nI (202 + (8 * k_67)) := ez_138.trans (nI_add (202) (8 * k_67))
            refine lv_iload_n hx hb dX12_twoRead_92 rfl (lv_at hl 2 rfl) ?_
            refine lv_iadd hx hb dX12_twoRead_93 ?_
            refine lv_topi (fun z_139 ez_139 => ?_)
            obtain rfl : z_139 = nI ((202 + (8 * k_67)) + k_102) := ez_139.trans (nI_add (202 + (8 * k_67)) (k_102))
            refine lv_iload hx hb dX12_twoRead_94 (lv_at hl 1 rfl) ?_
            refine pl_iast hx hb hK hW hT_x_106.1 hS_rs (vp_in_nI (n := (202 + (8 * k_67)) + k_102) (N := 266) (by omega) (by omega)) dX12_twoRead_96 (fun H locs f_141 S_140 ef_f_141 e1 hW => ?_)
            have hi_f_141 := okS_up (i := (202 + (8 * k_67)) + k_102) (by omega) hi_f_32 ef_f_141 (okS_any (by omega))
            have hTy := hTy.u50 e1 hT_x_106 ⟨f_141, rfl, hi_f_141⟩
            have hS_o := un e1 hT_o hT_x_106 (by decide) hS_o
            have hFr := uf hFr e1 hT_x_106 (by decide) (by decide)
            have hS_rs := us e1
            have hdg_ := dg_up (i := (202 + (8 * k_67)) + k_102) hdg_ ef_f_141 (by omega) (by omega)
            exact W.vret hx hb hr (fun t ht h9 => ⟨⟨S_140, rfl, ⟨hTy, hFr, ⟨sp105, _, (MKi (sp := sp105) (sn := sn) (pa := pa) (ki := ki) hS_o rfl rfl rfl rfl rfl rfl (by omega) (by omega) (by omega) (by omega)), by omega, by omega, (fun h => hw105 ((fun h => hw70 ((fun h => hw35 ((fun h => h) h)) h)) h)), (by rw [fld_i hS_o rfl hS_rs]; exact hdg_)⟩⟩, by rw [ht]; exact hW.1, va_K.moved h9.alike hK, hW.2.1⟩, hW.2.2.F ht⟩) hW.2.2.2.2 dX12_twoRead_97
          · obtain ⟨n9, hn9, h0_⟩ := hfu2 c_64
            refine lv_aload_n hx hb dX12_twoRead_67 rfl (lv_at hl 4 rfl) ?_
            refine lv_iload_n hx hb dX12_twoRead_68 rfl (lv_at hl 3 rfl) ?_
            refine lv_iload_n hx hb dX12_twoRead_69 rfl (lv_at hl 2 rfl) ?_
            refine lv_iload hx hb dX12_twoRead_70 (lv_at hl 1 rfl) ?_
            refine lv_iload hx hb dX12_twoRead_72 (lv_at hl 0 rfl) ?_
            refine pl_callv (va_runV (As := [.int (nI k_67), .int (nI k_102), .int r_104, .int 0]) (rest := []) ⟨hx, hb, hml, hown, hT⟩ (m_adds l dC dI cy L kap pr S_103 H.size o k_67 k_102 r_104 0 hTy hT_o (by omega) (by omega) (by omega) n9 (mnyi hS_o rfl hS_rs h0_) (by omega) (by rw [fld_i hS_o rfl hS_rs]; exact hdg_) (fun e_ => (fun h => hw105 ((fun h => h) h)) (hoth.resolve_right (fun q => q (by rw [e_]))) c_58)) (cwV 4 hT (gV w1268 w1270 ws71 w14 w1271) rfl rfl rfl (by decide +kernel) ⟨(Nat.le_of_ble_eq_true rfl), (Nat.le_of_ble_eq_true rfl)⟩) ⟨pcN.blind, pl_recv hK hW hT_o.1 hS_o rfl, pcN.pre hW.1 hK hW.2.1 hN (fun q h => absurd h List.not_mem_nil)⟩ rfl rfl hl.1 rfl (lv_room (Nat.le_of_ble_eq_true rfl)) dX12_twoRead_74 ⟨(Nat.le_of_ble_eq_true rfl), (Nat.le_of_ble_eq_true rfl)⟩) hW hA0 hA (fun S_142 H locs hrel hW => ?_)
            obtain ⟨hTy, hF1, hx1⟩ := hrel
            have hFr := hFr.tr hF1 (by decide)
            have hS_o := hF1.at hT_o (by decide) hS_o
            obtain ⟨f_143, hS_rs, hi_f_143⟩ := hTy.k50 hT_x_106
            have h0_ : f_143 0 = nI (n9 + 1) := mnye hx1.1 hS_o rfl hS_rs
            have hdg_ : dg f_143 := by have q := hx1.2; rw [fld_i hS_o rfl hS_rs] at q; exact q
            refine lv_goto (tgt := 97) hx hb dX12_twoRead_77 (by decide) ?_
            exact W.vret hx hb hr (fun t ht h9 => ⟨⟨S_142, rfl, ⟨hTy, hFr, ⟨sp105, _, (MKi (sp := sp105) (sn := sn) (pa := pa) (ki := ki) hS_o rfl rfl rfl rfl rfl rfl (by omega) (by omega) (by omega) (by omega)), by omega, by omega, (fun h => hw105 ((fun h => hw70 ((fun h => hw35 ((fun h => h) h)) h)) h)), (by rw [fld_i hS_o rfl hS_rs]; exact hdg_)⟩⟩, by rw [ht]; exact hW.1, va_K.moved h9.alike hK, hW.2.1⟩, hW.2.2.F ht⟩) hW.2.2.2.2 dX12_twoRead_97
        · exact W.vret hx hb hr (fun t ht h9 => ⟨⟨S_103, rfl, ⟨hTy, hFr, ⟨sp105, _, (MKi (sp := sp105) (sn := sn) (pa := pa) (ki := ki) hS_o rfl rfl rfl rfl rfl rfl (by omega) (by omega) (by omega) (by omega)), by omega, by omega, (fun h => hw105 ((fun h => hw70 ((fun h => hw35 ((fun h => h) h)) h)) h)), (by rw [fld_i hS_o rfl hS_rs]; exact hdg_)⟩⟩, by rw [ht]; exact hW.1, va_K.moved h9.alike hK, hW.2.1⟩, hW.2.2.F ht⟩) hW.2.2.2.2 dX12_twoRead_61
      · refine lv_aload_n hx hb dX12_twoRead_44 rfl (lv_at hl 3 rfl) ?_
        refine pl_calli (va_runV (As := []) (rest := []) ⟨hx, hb, hml, hown, hT⟩ (m_kind l dC dI cy L kap pr ad S_103 H.size o hTy hT_o sp105 sn wr105 pa ki rs (MKi (sp := sp105) (sn := sn) (pa := pa) (ki := ki) hS_o rfl rfl rfl rfl rfl rfl (by omega) (by omega) (by omega) (by omega)) (by omega)) (cwV 0 hT (gV w1264 w1266 ws70 w14 w1267) rfl rfl rfl (by decide +kernel) ⟨(Nat.le_of_ble_eq_true rfl), (Nat.le_of_ble_eq_true rfl)⟩) ⟨pcS.blind, pl_recv hK hW hT_o.1 hS_o rfl, pcS.pre hW.1 hK hW.2.1 hN hSTR hW.2.2⟩ rfl rfl hl.1 rfl (lv_room (Nat.le_of_ble_eq_true rfl)) dX12_twoRead_45 ⟨(Nat.le_of_ble_eq_true rfl), (Nat.le_of_ble_eq_true rfl)⟩) hW hA0 hA (fun r_145 S_144 H locs hrel hW => ?_)
        obtain ⟨hTy, hF1, hx1⟩ := hrel
        have hFr := hFr.tr hF1 (by decide)
        have hS_rs := hF1.at hT_x_106 (by decide) hS_rs
        obtain ⟨sp146, wr146, hM146, hpa146, hpb146, hw146, hv146⟩ := hx1
        obtain ⟨x_147, x_148, x_149, x_150, x_151, x_152, x_153, x_154, x_155, x_156, x_157, x_158, x_159, x_160, x_161, x_162, x_163, x_164, x_165, x_166, x_167, x_168, x_169, x_170, x_171, x_172, x_173, x_174, x_175, x_176, x_177, hS_o, hT_x_147, hT_x_148, hT_x_149, hT_x_150, hT_x_151, hb_x_152, hb_x_153, hb_x_154, hT_x_156, hb_q2, hb_x_157, hb_x_158, hT_x_163, hT_x_164, hb_x_165, hT_x_166, hT_x_167, hT_x_168, hT_x_169, hT_x_170, hT_x_171, hT_x_172, hT_x_173, hT_x_174, hT_x_175, hT_x_176, hb_x_177⟩ := hTy.k12 hT_o
        have hb_q2 : pr.2 ≤ 900 := hb_q2
        have hS_o : S_144 o = .inr (12, [.ref x_147, .ref x_148, .ref x_149, .ref x_150, .ref x_151, .int (nI x_152), .int (nI x_153), .int (nI x_154), .int x_155, .ref x_156, .int (nI (pr.2)), .int (nI x_157), .int (nI x_158), .int x_159, .int x_160, .int x_161, .int x_162, .ref x_163, .ref x_164, .int (nI x_165), .ref x_166, .ref x_167, .ref x_168, .ref x_169, .ref x_170, .ref x_171, .ref x_172, .ref x_173, .ref x_174, .ref x_175, .ref x_176, .int (nI x_177)]) := hS_o
        obtain ⟨e12_, e11_, e13_, e5_, e6_, e0_⟩ := MKe hM146 hS_o rfl rfl rfl rfl rfl rfl (by omega) (by omega) (by omega) (by omega)
        subst e12_ e11_ e13_ e5_ e6_ e0_
        obtain ⟨k_178, hb_k_178, rfl⟩ := hv146
        refine lv_goto (tgt := 52) hx hb dX12_twoRead_48 (by decide) ?_
        refine lv_istore (lv' := [(5, .int (nI k_178)), (4, .int r_104), (3, .int (nI k_102)), (2, .int (nI k_67)), (0, .ref o), (1, .int wz)]) hx hb dX12_twoRead_52 hl (by decide) rfl (fun ls hl => ?_)
        refine lv_aload_n hx hb dX12_twoRead_54 rfl (lv_at hl 4 rfl) ?_
        refine pl_get (ci := 12) (v := .int wr146) (C := RX12) (T := TX12) (N := 32) hx hb hT iX12 hown hK hW hT_o.1 hS_o rfl 13 (by decide) w1095 rfl dX12_twoRead_55 ?_
        refine lv_if_eq (tgt := 62) hx hb dX12_twoRead_58 (by decide) (fun c_58 => ?_) (fun c_58 => ?_)
        · refine lv_iload_n hx hb dX12_twoRead_62 rfl (lv_at hl 5 rfl) ?_
          refine lv_iconst (v := 2) hx hb dX12_twoRead_63 (by decide) ?_
          refine lv_icmp_ne (tgt := 80) hx hb dX12_twoRead_64 (by decide) (fun c_64 => ?_) (fun c_64 => ?_)
          · refine lv_aload_n hx hb dX12_twoRead_80 rfl (lv_at hl 4 rfl) ?_
            refine pl_get (ci := 12) (v := .ref rs) (C := RX12) (T := TX12) (N := 32) hx hb hT iX12 hown hK hW hT_o.1 hS_o rfl 0 (by decide) w1082 rfl dX12_twoRead_81 ?_
            refine lv_sipush (v := 202) hx hb dX12_twoRead_84 (by decide) ?_
            refine lv_bipush (v := 8) hx hb dX12_twoRead_87 (by decide) ?_
            refine lv_iload_n hx hb dX12_twoRead_89 rfl (lv_at hl 3 rfl) ?_
            refine lv_imul hx hb dX12_twoRead_90 ?_
            refine lv_topi (fun z_179 ez_179 => ?_)
            obtain rfl : z_179 = nI (8 * k_67) := ez_179.trans (pk_mul (8) (k_67))
            refine lv_iadd hx hb dX12_twoRead_91 ?_
            refine lv_topi (fun z_180 ez_180 => ?_)
            obtain rfl : z_180 = nI (202 + (8 * k_67)) := ez_180.trans (nI_add (202) (8 * k_67))
            refine lv_iload_n hx hb dX12_twoRead_92 rfl (lv_at hl 2 rfl) ?_
            refine lv_iadd hx hb dX12_twoRead_93 ?_
            refine lv_topi (fun z_181 ez_181 => ?_)
            obtain rfl : z_181 = nI ((202 + (8 * k_67)) + k_102) := ez_181.trans (nI_add (202 + (8 * k_67)) (k_102))
            refine lv_iload hx hb dX12_twoRead_94 (lv_at hl 1 rfl) ?_
            refine pl_iast hx hb hK hW hT_x_147.1 hS_rs (vp_in_nI (n := (202 + (8 * k_67)) + k_102) (N := 266) (by omega) (by omega)) dX12_twoRead_96 (fun H locs f_183 S_182 ef_f_183 e1 hW => ?_)
            have hi_f_183 := okS_up (i := (202 + (8 * k_67)) + k_102) (by omega) hi_f_32 ef_f_183 (okS_any (by omega))
            have hTy := hTy.u50 e1 hT_x_147 ⟨f_183, rfl, hi_f_183⟩
            have hS_o := un e1 hT_o hT_x_147 (by decide) hS_o
            have hFr := uf hFr e1 hT_x_147 (by decide) (by decide)
            have hS_rs := us e1
            have hdg_ := dg_up (i := (202 + (8 * k_67)) + k_102) hdg_ ef_f_183 (by omega) (by omega)
            exact W.vret hx hb hr (fun t ht h9 => ⟨⟨S_182, rfl, ⟨hTy, hFr, ⟨sp146, _, (MKi (sp := sp146) (sn := sn) (pa := pa) (ki := ki) hS_o rfl rfl rfl rfl rfl rfl (by omega) (by omega) (by omega) (by omega)), by omega, by omega, (fun h => hw146 ((fun h => hw105 ((fun h => hw70 ((fun h => hw35 ((fun h => h) h)) h)) h)) h)), (by rw [fld_i hS_o rfl hS_rs]; exact hdg_)⟩⟩, by rw [ht]; exact hW.1, va_K.moved h9.alike hK, hW.2.1⟩, hW.2.2.F ht⟩) hW.2.2.2.2 dX12_twoRead_97
          · obtain ⟨n9, hn9, h0_⟩ := hfu2 c_64
            refine lv_aload_n hx hb dX12_twoRead_67 rfl (lv_at hl 4 rfl) ?_
            refine lv_iload_n hx hb dX12_twoRead_68 rfl (lv_at hl 3 rfl) ?_
            refine lv_iload_n hx hb dX12_twoRead_69 rfl (lv_at hl 2 rfl) ?_
            refine lv_iload hx hb dX12_twoRead_70 (lv_at hl 1 rfl) ?_
            refine lv_iload hx hb dX12_twoRead_72 (lv_at hl 0 rfl) ?_
            refine pl_callv (va_runV (As := [.int (nI k_67), .int (nI k_102), .int r_104, .int (nI k_178)]) (rest := []) ⟨hx, hb, hml, hown, hT⟩ (m_adds l dC dI cy L kap pr S_144 H.size o k_67 k_102 r_104 k_178 hTy hT_o (by omega) (by omega) (by omega) n9 (mnyi hS_o rfl hS_rs h0_) (by omega) (by rw [fld_i hS_o rfl hS_rs]; exact hdg_) (fun e_ => (fun h => hw146 ((fun h => hw105 ((fun h => h) h)) h)) (hoth.resolve_right (fun q => q (by rw [e_]))) c_58)) (cwV 4 hT (gV w1268 w1270 ws71 w14 w1271) rfl rfl rfl (by decide +kernel) ⟨(Nat.le_of_ble_eq_true rfl), (Nat.le_of_ble_eq_true rfl)⟩) ⟨pcN.blind, pl_recv hK hW hT_o.1 hS_o rfl, pcN.pre hW.1 hK hW.2.1 hN (fun q h => absurd h List.not_mem_nil)⟩ rfl rfl hl.1 rfl (lv_room (Nat.le_of_ble_eq_true rfl)) dX12_twoRead_74 ⟨(Nat.le_of_ble_eq_true rfl), (Nat.le_of_ble_eq_true rfl)⟩) hW hA0 hA (fun S_184 H locs hrel hW => ?_)
            obtain ⟨hTy, hF1, hx1⟩ := hrel
            have hFr := hFr.tr hF1 (by decide)
            have hS_o := hF1.at hT_o (by decide) hS_o
            obtain ⟨f_185, hS_rs, hi_f_185⟩ := hTy.k50 hT_x_147
            have h0_ : f_185 0 = nI (n9 + 1) := mnye hx1.1 hS_o rfl hS_rs
            have hdg_ : dg f_185 := by have q := hx1.2; rw [fld_i hS_o rfl hS_rs] at q; exact q
            refine lv_goto (tgt := 97) hx hb dX12_twoRead_77 (by decide) ?_
            exact W.vret hx hb hr (fun t ht h9 => ⟨⟨S_184, rfl, ⟨hTy, hFr, ⟨sp146, _, (MKi (sp := sp146) (sn := sn) (pa := pa) (ki := ki) hS_o rfl rfl rfl rfl rfl rfl (by omega) (by omega) (by omega) (by omega)), by omega, by omega, (fun h => hw146 ((fun h => hw105 ((fun h => hw70 ((fun h => hw35 ((fun h => h) h)) h)) h)) h)), (by rw [fld_i hS_o rfl hS_rs]; exact hdg_)⟩⟩, by rw [ht]; exact hW.1, va_K.moved h9.alike hK, hW.2.1⟩, hW.2.2.F ht⟩) hW.2.2.2.2 dX12_twoRead_97
        · exact W.vret hx hb hr (fun t ht h9 => ⟨⟨S_144, rfl, ⟨hTy, hFr, ⟨sp146, _, (MKi (sp := sp146) (sn := sn) (pa := pa) (ki := ki) hS_o rfl rfl rfl rfl rfl rfl (by omega) (by omega) (by omega) (by omega)), by omega, by omega, (fun h => hw146 ((fun h => hw105 ((fun h => hw70 ((fun h => hw35 ((fun h => h) h)) h)) h)) h)), (by rw [fld_i hS_o rfl hS_rs]; exact hdg_)⟩⟩, by rw [ht]; exact hW.1, va_K.moved h9.alike hK, hW.2.1⟩, hW.2.2.F ht⟩) hW.2.2.2.2 dX12_twoRead_61
    · refine lv_ldc (v := 999999) hx hb hown (hT _ w1263) dX12_twoRead_27 ?_
      refine lv_goto (tgt := 34) hx hb dX12_twoRead_29 (by decide) ?_
      refine pl_calli (va_runV (As := [.int 0, .int 999999]) (rest := []) ⟨hx, hb, hml, hown, hT⟩ (m_numeral l dC dI cy L kap pr S_68 H.size o 0 999999 hTy hT_o sp70 sn wr70 pa ki rs (MKi (sp := sp70) (sn := sn) (pa := pa) (ki := ki) hS_o rfl rfl rfl rfl rfl rfl (by omega) (by omega) (by omega) (by omega)) (by omega)) (cwV 2 hT (gV w1238 w1240 ws65 w14 w1241) rfl rfl rfl (by decide +kernel) ⟨(Nat.le_of_ble_eq_true rfl), (Nat.le_of_ble_eq_true rfl)⟩) ⟨pcN.blind, pl_recv hK hW hT_o.1 hS_o rfl, pcN.pre hW.1 hK hW.2.1 hN (fun q h => absurd h List.not_mem_nil)⟩ rfl rfl hl.1 rfl (lv_room (Nat.le_of_ble_eq_true rfl)) dX12_twoRead_34 ⟨(Nat.le_of_ble_eq_true rfl), (Nat.le_of_ble_eq_true rfl)⟩) hW hA0 hA (fun r_187 S_186 H locs hrel hW => ?_)
      obtain ⟨hTy, hF1, hx1⟩ := hrel
      have hFr := hFr.tr hF1 (by decide)
      have hS_rs := hF1.at hT_x_71 (by decide) hS_rs
      obtain ⟨sp188, wr188, hM188, hpa188, hpb188, hw188, hv188⟩ := hx1
      obtain ⟨x_189, x_190, x_191, x_192, x_193, x_194, x_195, x_196, x_197, x_198, x_199, x_200, x_201, x_202, x_203, x_204, x_205, x_206, x_207, x_208, x_209, x_210, x_211, x_212, x_213, x_214, x_215, x_216, x_217, x_218, x_219, hS_o, hT_x_189, hT_x_190, hT_x_191, hT_x_192, hT_x_193, hb_x_194, hb_x_195, hb_x_196, hT_x_198, hb_q2, hb_x_199, hb_x_200, hT_x_205, hT_x_206, hb_x_207, hT_x_208, hT_x_209, hT_x_210, hT_x_211, hT_x_212, hT_x_213, hT_x_214, hT_x_215, hT_x_216, hT_x_217, hT_x_218, hb_x_219⟩ := hTy.k12 hT_o
      have hb_q2 : pr.2 ≤ 900 := hb_q2
      have hS_o : S_186 o = .inr (12, [.ref x_189, .ref x_190, .ref x_191, .ref x_192, .ref x_193, .int (nI x_194), .int (nI x_195), .int (nI x_196), .int x_197, .ref x_198, .int (nI (pr.2)), .int (nI x_199), .int (nI x_200), .int x_201, .int x_202, .int x_203, .int x_204, .ref x_205, .ref x_206, .int (nI x_207), .ref x_208, .ref x_209, .ref x_210, .ref x_211, .ref x_212, .ref x_213, .ref x_214, .ref x_215, .ref x_216, .ref x_217, .ref x_218, .int (nI x_219)]) := hS_o
      obtain ⟨e12_, e11_, e13_, e5_, e6_, e0_⟩ := MKe hM188 hS_o rfl rfl rfl rfl rfl rfl (by omega) (by omega) (by omega) (by omega)
      subst e12_ e11_ e13_ e5_ e6_ e0_
      refine lv_istore (lv' := [(4, .int r_187), (3, .int (nI k_102)), (2, .int (nI k_67)), (0, .ref o), (1, .int wz)]) hx hb dX12_twoRead_37 hl (by decide) rfl (fun ls hl => ?_)
      refine lv_iload_n hx hb dX12_twoRead_39 rfl (lv_at hl 4 rfl) ?_
      refine lv_iconst (v := 2) hx hb dX12_twoRead_40 (by decide) ?_
      refine lv_icmp_ne (tgt := 51) hx hb dX12_twoRead_41 (by decide) (fun c_41 => ?_) (fun c_41 => ?_)
      · refine lv_iconst (v := 0) hx hb dX12_twoRead_51 (by decide) ?_
        refine lv_istore (lv' := [(5, .int 0), (4, .int r_187), (3, .int (nI k_102)), (2, .int (nI k_67)), (0, .ref o), (1, .int wz)]) hx hb dX12_twoRead_52 hl (by decide) rfl (fun ls hl => ?_)
        refine lv_aload_n hx hb dX12_twoRead_54 rfl (lv_at hl 4 rfl) ?_
        refine pl_get (ci := 12) (v := .int wr188) (C := RX12) (T := TX12) (N := 32) hx hb hT iX12 hown hK hW hT_o.1 hS_o rfl 13 (by decide) w1095 rfl dX12_twoRead_55 ?_
        refine lv_if_eq (tgt := 62) hx hb dX12_twoRead_58 (by decide) (fun c_58 => ?_) (fun c_58 => ?_)
        · refine lv_iload_n hx hb dX12_twoRead_62 rfl (lv_at hl 5 rfl) ?_
          refine lv_iconst (v := 2) hx hb dX12_twoRead_63 (by decide) ?_
          refine lv_icmp_ne (tgt := 80) hx hb dX12_twoRead_64 (by decide) (fun c_64 => ?_) (fun c_64 => ?_)
          · refine lv_aload_n hx hb dX12_twoRead_80 rfl (lv_at hl 4 rfl) ?_
            refine pl_get (ci := 12) (v := .ref rs) (C := RX12) (T := TX12) (N := 32) hx hb hT iX12 hown hK hW hT_o.1 hS_o rfl 0 (by decide) w1082 rfl dX12_twoRead_81 ?_
            refine lv_sipush (v := 202) hx hb dX12_twoRead_84 (by decide) ?_
            refine lv_bipush (v := 8) hx hb dX12_twoRead_87 (by decide) ?_
            refine lv_iload_n hx hb dX12_twoRead_89 rfl (lv_at hl 3 rfl) ?_
            refine lv_imul hx hb dX12_twoRead_90 ?_
            refine lv_topi (fun z_220 ez_220 => ?_)
            obtain rfl : z_220 = nI (8 * k_67) := ez_220.trans (pk_mul (8) (k_67))
            refine lv_iadd hx hb dX12_twoRead_91 ?_
            refine lv_topi (fun z_221 ez_221 => ?_)
            obtain rfl : z_221 = nI (202 + (8 * k_67)) := ez_221.trans (nI_add (202) (8 * k_67))
            refine lv_iload_n hx hb dX12_twoRead_92 rfl (lv_at hl 2 rfl) ?_
            refine lv_iadd hx hb dX12_twoRead_93 ?_
            refine lv_topi (fun z_222 ez_222 => ?_)
            obtain rfl : z_222 = nI ((202 + (8 * k_67)) + k_102) := ez_222.trans (nI_add (202 + (8 * k_67)) (k_102))
            refine lv_iload hx hb dX12_twoRead_94 (lv_at hl 1 rfl) ?_
            refine pl_iast hx hb hK hW hT_x_189.1 hS_rs (vp_in_nI (n := (202 + (8 * k_67)) + k_102) (N := 266) (by omega) (by omega)) dX12_twoRead_96 (fun H locs f_224 S_223 ef_f_224 e1 hW => ?_)
            have hi_f_224 := okS_up (i := (202 + (8 * k_67)) + k_102) (by omega) hi_f_32 ef_f_224 (okS_any (by omega))
            have hTy := hTy.u50 e1 hT_x_189 ⟨f_224, rfl, hi_f_224⟩
            have hS_o := un e1 hT_o hT_x_189 (by decide) hS_o
            have hFr := uf hFr e1 hT_x_189 (by decide) (by decide)
            have hS_rs := us e1
            have hdg_ := dg_up (i := (202 + (8 * k_67)) + k_102) hdg_ ef_f_224 (by omega) (by omega)
            exact W.vret hx hb hr (fun t ht h9 => ⟨⟨S_223, rfl, ⟨hTy, hFr, ⟨sp188, _, (MKi (sp := sp188) (sn := sn) (pa := pa) (ki := ki) hS_o rfl rfl rfl rfl rfl rfl (by omega) (by omega) (by omega) (by omega)), by omega, by omega, (fun h => hw188 ((fun h => hw70 ((fun h => hw35 ((fun h => h) h)) h)) h)), (by rw [fld_i hS_o rfl hS_rs]; exact hdg_)⟩⟩, by rw [ht]; exact hW.1, va_K.moved h9.alike hK, hW.2.1⟩, hW.2.2.F ht⟩) hW.2.2.2.2 dX12_twoRead_97
          · obtain ⟨n9, hn9, h0_⟩ := hfu2 c_64
            refine lv_aload_n hx hb dX12_twoRead_67 rfl (lv_at hl 4 rfl) ?_
            refine lv_iload_n hx hb dX12_twoRead_68 rfl (lv_at hl 3 rfl) ?_
            refine lv_iload_n hx hb dX12_twoRead_69 rfl (lv_at hl 2 rfl) ?_
            refine lv_iload hx hb dX12_twoRead_70 (lv_at hl 1 rfl) ?_
            refine lv_iload hx hb dX12_twoRead_72 (lv_at hl 0 rfl) ?_
            refine pl_callv (va_runV (As := [.int (nI k_67), .int (nI k_102), .int r_187, .int 0]) (rest := []) ⟨hx, hb, hml, hown, hT⟩ (m_adds l dC dI cy L kap pr S_186 H.size o k_67 k_102 r_187 0 hTy hT_o (by omega) (by omega) (by omega) n9 (mnyi hS_o rfl hS_rs h0_) (by omega) (by rw [fld_i hS_o rfl hS_rs]; exact hdg_) (fun e_ => (fun h => hw188 ((fun h => h) h)) (hoth.resolve_right (fun q => q (by rw [e_]))) c_58)) (cwV 4 hT (gV w1268 w1270 ws71 w14 w1271) rfl rfl rfl (by decide +kernel) ⟨(Nat.le_of_ble_eq_true rfl), (Nat.le_of_ble_eq_true rfl)⟩) ⟨pcN.blind, pl_recv hK hW hT_o.1 hS_o rfl, pcN.pre hW.1 hK hW.2.1 hN (fun q h => absurd h List.not_mem_nil)⟩ rfl rfl hl.1 rfl (lv_room (Nat.le_of_ble_eq_true rfl)) dX12_twoRead_74 ⟨(Nat.le_of_ble_eq_true rfl), (Nat.le_of_ble_eq_true rfl)⟩) hW hA0 hA (fun S_225 H locs hrel hW => ?_)
            obtain ⟨hTy, hF1, hx1⟩ := hrel
            have hFr := hFr.tr hF1 (by decide)
            have hS_o := hF1.at hT_o (by decide) hS_o
            obtain ⟨f_226, hS_rs, hi_f_226⟩ := hTy.k50 hT_x_189
            have h0_ : f_226 0 = nI (n9 + 1) := mnye hx1.1 hS_o rfl hS_rs
            have hdg_ : dg f_226 := by have q := hx1.2; rw [fld_i hS_o rfl hS_rs] at q; exact q
            refine lv_goto (tgt := 97) hx hb dX12_twoRead_77 (by decide) ?_
            exact W.vret hx hb hr (fun t ht h9 => ⟨⟨S_225, rfl, ⟨hTy, hFr, ⟨sp188, _, (MKi (sp := sp188) (sn := sn) (pa := pa) (ki := ki) hS_o rfl rfl rfl rfl rfl rfl (by omega) (by omega) (by omega) (by omega)), by omega, by omega, (fun h => hw188 ((fun h => hw70 ((fun h => hw35 ((fun h => h) h)) h)) h)), (by rw [fld_i hS_o rfl hS_rs]; exact hdg_)⟩⟩, by rw [ht]; exact hW.1, va_K.moved h9.alike hK, hW.2.1⟩, hW.2.2.F ht⟩) hW.2.2.2.2 dX12_twoRead_97
        · exact W.vret hx hb hr (fun t ht h9 => ⟨⟨S_186, rfl, ⟨hTy, hFr, ⟨sp188, _, (MKi (sp := sp188) (sn := sn) (pa := pa) (ki := ki) hS_o rfl rfl rfl rfl rfl rfl (by omega) (by omega) (by omega) (by omega)), by omega, by omega, (fun h => hw188 ((fun h => hw70 ((fun h => hw35 ((fun h => h) h)) h)) h)), (by rw [fld_i hS_o rfl hS_rs]; exact hdg_)⟩⟩, by rw [ht]; exact hW.1, va_K.moved h9.alike hK, hW.2.1⟩, hW.2.2.F ht⟩) hW.2.2.2.2 dX12_twoRead_61
      · refine lv_aload_n hx hb dX12_twoRead_44 rfl (lv_at hl 3 rfl) ?_
        refine pl_calli (va_runV (As := []) (rest := []) ⟨hx, hb, hml, hown, hT⟩ (m_kind l dC dI cy L kap pr ad S_186 H.size o hTy hT_o sp188 sn wr188 pa ki rs (MKi (sp := sp188) (sn := sn) (pa := pa) (ki := ki) hS_o rfl rfl rfl rfl rfl rfl (by omega) (by omega) (by omega) (by omega)) (by omega)) (cwV 0 hT (gV w1264 w1266 ws70 w14 w1267) rfl rfl rfl (by decide +kernel) ⟨(Nat.le_of_ble_eq_true rfl), (Nat.le_of_ble_eq_true rfl)⟩) ⟨pcS.blind, pl_recv hK hW hT_o.1 hS_o rfl, pcS.pre hW.1 hK hW.2.1 hN hSTR hW.2.2⟩ rfl rfl hl.1 rfl (lv_room (Nat.le_of_ble_eq_true rfl)) dX12_twoRead_45 ⟨(Nat.le_of_ble_eq_true rfl), (Nat.le_of_ble_eq_true rfl)⟩) hW hA0 hA (fun r_228 S_227 H locs hrel hW => ?_)
        obtain ⟨hTy, hF1, hx1⟩ := hrel
        have hFr := hFr.tr hF1 (by decide)
        have hS_rs := hF1.at hT_x_189 (by decide) hS_rs
        obtain ⟨sp229, wr229, hM229, hpa229, hpb229, hw229, hv229⟩ := hx1
        obtain ⟨x_230, x_231, x_232, x_233, x_234, x_235, x_236, x_237, x_238, x_239, x_240, x_241, x_242, x_243, x_244, x_245, x_246, x_247, x_248, x_249, x_250, x_251, x_252, x_253, x_254, x_255, x_256, x_257, x_258, x_259, x_260, hS_o, hT_x_230, hT_x_231, hT_x_232, hT_x_233, hT_x_234, hb_x_235, hb_x_236, hb_x_237, hT_x_239, hb_q2, hb_x_240, hb_x_241, hT_x_246, hT_x_247, hb_x_248, hT_x_249, hT_x_250, hT_x_251, hT_x_252, hT_x_253, hT_x_254, hT_x_255, hT_x_256, hT_x_257, hT_x_258, hT_x_259, hb_x_260⟩ := hTy.k12 hT_o
        have hb_q2 : pr.2 ≤ 900 := hb_q2
        have hS_o : S_227 o = .inr (12, [.ref x_230, .ref x_231, .ref x_232, .ref x_233, .ref x_234, .int (nI x_235), .int (nI x_236), .int (nI x_237), .int x_238, .ref x_239, .int (nI (pr.2)), .int (nI x_240), .int (nI x_241), .int x_242, .int x_243, .int x_244, .int x_245, .ref x_246, .ref x_247, .int (nI x_248), .ref x_249, .ref x_250, .ref x_251, .ref x_252, .ref x_253, .ref x_254, .ref x_255, .ref x_256, .ref x_257, .ref x_258, .ref x_259, .int (nI x_260)]) := hS_o
        obtain ⟨e12_, e11_, e13_, e5_, e6_, e0_⟩ := MKe hM229 hS_o rfl rfl rfl rfl rfl rfl (by omega) (by omega) (by omega) (by omega)
        subst e12_ e11_ e13_ e5_ e6_ e0_
        obtain ⟨k_261, hb_k_261, rfl⟩ := hv229
        refine lv_goto (tgt := 52) hx hb dX12_twoRead_48 (by decide) ?_
        refine lv_istore (lv' := [(5, .int (nI k_261)), (4, .int r_187), (3, .int (nI k_102)), (2, .int (nI k_67)), (0, .ref o), (1, .int wz)]) hx hb dX12_twoRead_52 hl (by decide) rfl (fun ls hl => ?_)
        refine lv_aload_n hx hb dX12_twoRead_54 rfl (lv_at hl 4 rfl) ?_
        refine pl_get (ci := 12) (v := .int wr229) (C := RX12) (T := TX12) (N := 32) hx hb hT iX12 hown hK hW hT_o.1 hS_o rfl 13 (by decide) w1095 rfl dX12_twoRead_55 ?_
        refine lv_if_eq (tgt := 62) hx hb dX12_twoRead_58 (by decide) (fun c_58 => ?_) (fun c_58 => ?_)
        · refine lv_iload_n hx hb dX12_twoRead_62 rfl (lv_at hl 5 rfl) ?_
          refine lv_iconst (v := 2) hx hb dX12_twoRead_63 (by decide) ?_
          refine lv_icmp_ne (tgt := 80) hx hb dX12_twoRead_64 (by decide) (fun c_64 => ?_) (fun c_64 => ?_)
          · refine lv_aload_n hx hb dX12_twoRead_80 rfl (lv_at hl 4 rfl) ?_
            refine pl_get (ci := 12) (v := .ref rs) (C := RX12) (T := TX12) (N := 32) hx hb hT iX12 hown hK hW hT_o.1 hS_o rfl 0 (by decide) w1082 rfl dX12_twoRead_81 ?_
            refine lv_sipush (v := 202) hx hb dX12_twoRead_84 (by decide) ?_
            refine lv_bipush (v := 8) hx hb dX12_twoRead_87 (by decide) ?_
            refine lv_iload_n hx hb dX12_twoRead_89 rfl (lv_at hl 3 rfl) ?_
            refine lv_imul hx hb dX12_twoRead_90 ?_
            refine lv_topi (fun z_262 ez_262 => ?_)
            obtain rfl : z_262 = nI (8 * k_67) := ez_262.trans (pk_mul (8) (k_67))
            refine lv_iadd hx hb dX12_twoRead_91 ?_
            refine lv_topi (fun z_263 ez_263 => ?_)
            obtain rfl : z_263 = nI (202 + (8 * k_67)) := ez_263.trans (nI_add (202) (8 * k_67))
            refine lv_iload_n hx hb dX12_twoRead_92 rfl (lv_at hl 2 rfl) ?_
            refine lv_iadd hx hb dX12_twoRead_93 ?_
            refine lv_topi (fun z_264 ez_264 => ?_)
            obtain rfl : z_264 = nI ((202 + (8 * k_67)) + k_102) := ez_264.trans (nI_add (202 + (8 * k_67)) (k_102))
            refine lv_iload hx hb dX12_twoRead_94 (lv_at hl 1 rfl) ?_
            refine pl_iast hx hb hK hW hT_x_230.1 hS_rs (vp_in_nI (n := (202 + (8 * k_67)) + k_102) (N := 266) (by omega) (by omega)) dX12_twoRead_96 (fun H locs f_266 S_265 ef_f_266 e1 hW => ?_)
            have hi_f_266 := okS_up (i := (202 + (8 * k_67)) + k_102) (by omega) hi_f_32 ef_f_266 (okS_any (by omega))
            have hTy := hTy.u50 e1 hT_x_230 ⟨f_266, rfl, hi_f_266⟩
            have hS_o := un e1 hT_o hT_x_230 (by decide) hS_o
            have hFr := uf hFr e1 hT_x_230 (by decide) (by decide)
            have hS_rs := us e1
            have hdg_ := dg_up (i := (202 + (8 * k_67)) + k_102) hdg_ ef_f_266 (by omega) (by omega)
            exact W.vret hx hb hr (fun t ht h9 => ⟨⟨S_265, rfl, ⟨hTy, hFr, ⟨sp229, _, (MKi (sp := sp229) (sn := sn) (pa := pa) (ki := ki) hS_o rfl rfl rfl rfl rfl rfl (by omega) (by omega) (by omega) (by omega)), by omega, by omega, (fun h => hw229 ((fun h => hw188 ((fun h => hw70 ((fun h => hw35 ((fun h => h) h)) h)) h)) h)), (by rw [fld_i hS_o rfl hS_rs]; exact hdg_)⟩⟩, by rw [ht]; exact hW.1, va_K.moved h9.alike hK, hW.2.1⟩, hW.2.2.F ht⟩) hW.2.2.2.2 dX12_twoRead_97
          · obtain ⟨n9, hn9, h0_⟩ := hfu2 c_64
            refine lv_aload_n hx hb dX12_twoRead_67 rfl (lv_at hl 4 rfl) ?_
            refine lv_iload_n hx hb dX12_twoRead_68 rfl (lv_at hl 3 rfl) ?_
            refine lv_iload_n hx hb dX12_twoRead_69 rfl (lv_at hl 2 rfl) ?_
            refine lv_iload hx hb dX12_twoRead_70 (lv_at hl 1 rfl) ?_
            refine lv_iload hx hb dX12_twoRead_72 (lv_at hl 0 rfl) ?_
            refine pl_callv (va_runV (As := [.int (nI k_67), .int (nI k_102), .int r_187, .int (nI k_261)]) (rest := []) ⟨hx, hb, hml, hown, hT⟩ (m_adds l dC dI cy L kap pr S_227 H.size o k_67 k_102 r_187 k_261 hTy hT_o (by omega) (by omega) (by omega) n9 (mnyi hS_o rfl hS_rs h0_) (by omega) (by rw [fld_i hS_o rfl hS_rs]; exact hdg_) (fun e_ => (fun h => hw229 ((fun h => hw188 ((fun h => h) h)) h)) (hoth.resolve_right (fun q => q (by rw [e_]))) c_58)) (cwV 4 hT (gV w1268 w1270 ws71 w14 w1271) rfl rfl rfl (by decide +kernel) ⟨(Nat.le_of_ble_eq_true rfl), (Nat.le_of_ble_eq_true rfl)⟩) ⟨pcN.blind, pl_recv hK hW hT_o.1 hS_o rfl, pcN.pre hW.1 hK hW.2.1 hN (fun q h => absurd h List.not_mem_nil)⟩ rfl rfl hl.1 rfl (lv_room (Nat.le_of_ble_eq_true rfl)) dX12_twoRead_74 ⟨(Nat.le_of_ble_eq_true rfl), (Nat.le_of_ble_eq_true rfl)⟩) hW hA0 hA (fun S_267 H locs hrel hW => ?_)
            obtain ⟨hTy, hF1, hx1⟩ := hrel
            have hFr := hFr.tr hF1 (by decide)
            have hS_o := hF1.at hT_o (by decide) hS_o
            obtain ⟨f_268, hS_rs, hi_f_268⟩ := hTy.k50 hT_x_230
            have h0_ : f_268 0 = nI (n9 + 1) := mnye hx1.1 hS_o rfl hS_rs
            have hdg_ : dg f_268 := by have q := hx1.2; rw [fld_i hS_o rfl hS_rs] at q; exact q
            refine lv_goto (tgt := 97) hx hb dX12_twoRead_77 (by decide) ?_
            exact W.vret hx hb hr (fun t ht h9 => ⟨⟨S_267, rfl, ⟨hTy, hFr, ⟨sp229, _, (MKi (sp := sp229) (sn := sn) (pa := pa) (ki := ki) hS_o rfl rfl rfl rfl rfl rfl (by omega) (by omega) (by omega) (by omega)), by omega, by omega, (fun h => hw229 ((fun h => hw188 ((fun h => hw70 ((fun h => hw35 ((fun h => h) h)) h)) h)) h)), (by rw [fld_i hS_o rfl hS_rs]; exact hdg_)⟩⟩, by rw [ht]; exact hW.1, va_K.moved h9.alike hK, hW.2.1⟩, hW.2.2.F ht⟩) hW.2.2.2.2 dX12_twoRead_97
        · exact W.vret hx hb hr (fun t ht h9 => ⟨⟨S_227, rfl, ⟨hTy, hFr, ⟨sp229, _, (MKi (sp := sp229) (sn := sn) (pa := pa) (ki := ki) hS_o rfl rfl rfl rfl rfl rfl (by omega) (by omega) (by omega) (by omega)), by omega, by omega, (fun h => hw229 ((fun h => hw188 ((fun h => hw70 ((fun h => hw35 ((fun h => h) h)) h)) h)) h)), (by rw [fld_i hS_o rfl hS_rs]; exact hdg_)⟩⟩, by rw [ht]; exact hW.1, va_K.moved h9.alike hK, hW.2.1⟩, hW.2.2.F ht⟩) hW.2.2.2.2 dX12_twoRead_61
  · refine lv_iconst (v := 1) hx hb dX12_twoRead_17 (by decide) ?_
    refine lv_goto (tgt := 22) hx hb dX12_twoRead_18 (by decide) ?_
    refine lv_iload_n hx hb dX12_twoRead_22 rfl (lv_at hl 3 rfl) ?_
    refine lv_iconst (v := 2) hx hb dX12_twoRead_23 (by decide) ?_
    refine lv_icmp_ne (tgt := 32) hx hb dX12_twoRead_24 (by decide) (fun c_24 => ?_) (fun c_24 => ?_)
    · refine lv_ldc (v := 99999999) hx hb hown (hT _ w1081) dX12_twoRead_32 ?_
      refine pl_calli (va_runV (As := [.int 1, .int 99999999]) (rest := []) ⟨hx, hb, hml, hown, hT⟩ (m_numeral l dC dI cy L kap pr S_68 H.size o 1 99999999 hTy hT_o sp70 sn wr70 pa ki rs (MKi (sp := sp70) (sn := sn) (pa := pa) (ki := ki) hS_o rfl rfl rfl rfl rfl rfl (by omega) (by omega) (by omega) (by omega)) (by omega)) (cwV 2 hT (gV w1238 w1240 ws65 w14 w1241) rfl rfl rfl (by decide +kernel) ⟨(Nat.le_of_ble_eq_true rfl), (Nat.le_of_ble_eq_true rfl)⟩) ⟨pcN.blind, pl_recv hK hW hT_o.1 hS_o rfl, pcN.pre hW.1 hK hW.2.1 hN (fun q h => absurd h List.not_mem_nil)⟩ rfl rfl hl.1 rfl (lv_room (Nat.le_of_ble_eq_true rfl)) dX12_twoRead_34 ⟨(Nat.le_of_ble_eq_true rfl), (Nat.le_of_ble_eq_true rfl)⟩) hW hA0 hA (fun r_270 S_269 H locs hrel hW => ?_)
      obtain ⟨hTy, hF1, hx1⟩ := hrel
      have hFr := hFr.tr hF1 (by decide)
      have hS_rs := hF1.at hT_x_71 (by decide) hS_rs
      obtain ⟨sp271, wr271, hM271, hpa271, hpb271, hw271, hv271⟩ := hx1
      obtain ⟨x_272, x_273, x_274, x_275, x_276, x_277, x_278, x_279, x_280, x_281, x_282, x_283, x_284, x_285, x_286, x_287, x_288, x_289, x_290, x_291, x_292, x_293, x_294, x_295, x_296, x_297, x_298, x_299, x_300, x_301, x_302, hS_o, hT_x_272, hT_x_273, hT_x_274, hT_x_275, hT_x_276, hb_x_277, hb_x_278, hb_x_279, hT_x_281, hb_q2, hb_x_282, hb_x_283, hT_x_288, hT_x_289, hb_x_290, hT_x_291, hT_x_292, hT_x_293, hT_x_294, hT_x_295, hT_x_296, hT_x_297, hT_x_298, hT_x_299, hT_x_300, hT_x_301, hb_x_302⟩ := hTy.k12 hT_o
      have hb_q2 : pr.2 ≤ 900 := hb_q2
      have hS_o : S_269 o = .inr (12, [.ref x_272, .ref x_273, .ref x_274, .ref x_275, .ref x_276, .int (nI x_277), .int (nI x_278), .int (nI x_279), .int x_280, .ref x_281, .int (nI (pr.2)), .int (nI x_282), .int (nI x_283), .int x_284, .int x_285, .int x_286, .int x_287, .ref x_288, .ref x_289, .int (nI x_290), .ref x_291, .ref x_292, .ref x_293, .ref x_294, .ref x_295, .ref x_296, .ref x_297, .ref x_298, .ref x_299, .ref x_300, .ref x_301, .int (nI x_302)]) := hS_o
      obtain ⟨e12_, e11_, e13_, e5_, e6_, e0_⟩ := MKe hM271 hS_o rfl rfl rfl rfl rfl rfl (by omega) (by omega) (by omega) (by omega)
      subst e12_ e11_ e13_ e5_ e6_ e0_
      refine lv_istore (lv' := [(4, .int r_270), (3, .int (nI k_102)), (2, .int (nI k_67)), (0, .ref o), (1, .int wz)]) hx hb dX12_twoRead_37 hl (by decide) rfl (fun ls hl => ?_)
      refine lv_iload_n hx hb dX12_twoRead_39 rfl (lv_at hl 4 rfl) ?_
      refine lv_iconst (v := 2) hx hb dX12_twoRead_40 (by decide) ?_
      refine lv_icmp_ne (tgt := 51) hx hb dX12_twoRead_41 (by decide) (fun c_41 => ?_) (fun c_41 => ?_)
      · refine lv_iconst (v := 0) hx hb dX12_twoRead_51 (by decide) ?_
        refine lv_istore (lv' := [(5, .int 0), (4, .int r_270), (3, .int (nI k_102)), (2, .int (nI k_67)), (0, .ref o), (1, .int wz)]) hx hb dX12_twoRead_52 hl (by decide) rfl (fun ls hl => ?_)
        refine lv_aload_n hx hb dX12_twoRead_54 rfl (lv_at hl 4 rfl) ?_
        refine pl_get (ci := 12) (v := .int wr271) (C := RX12) (T := TX12) (N := 32) hx hb hT iX12 hown hK hW hT_o.1 hS_o rfl 13 (by decide) w1095 rfl dX12_twoRead_55 ?_
        refine lv_if_eq (tgt := 62) hx hb dX12_twoRead_58 (by decide) (fun c_58 => ?_) (fun c_58 => ?_)
        · refine lv_iload_n hx hb dX12_twoRead_62 rfl (lv_at hl 5 rfl) ?_
          refine lv_iconst (v := 2) hx hb dX12_twoRead_63 (by decide) ?_
          refine lv_icmp_ne (tgt := 80) hx hb dX12_twoRead_64 (by decide) (fun c_64 => ?_) (fun c_64 => ?_)
          · refine lv_aload_n hx hb dX12_twoRead_80 rfl (lv_at hl 4 rfl) ?_
            refine pl_get (ci := 12) (v := .ref rs) (C := RX12) (T := TX12) (N := 32) hx hb hT iX12 hown hK hW hT_o.1 hS_o rfl 0 (by decide) w1082 rfl dX12_twoRead_81 ?_
            refine lv_sipush (v := 202) hx hb dX12_twoRead_84 (by decide) ?_
            refine lv_bipush (v := 8) hx hb dX12_twoRead_87 (by decide) ?_
            refine lv_iload_n hx hb dX12_twoRead_89 rfl (lv_at hl 3 rfl) ?_
            refine lv_imul hx hb dX12_twoRead_90 ?_
            refine lv_topi (fun z_303 ez_303 => ?_)
            obtain rfl : z_303 = nI (8 * k_67) := ez_303.trans (pk_mul (8) (k_67))
            refine lv_iadd hx hb dX12_twoRead_91 ?_
            refine lv_topi (fun z_304 ez_304 => ?_)
            obtain rfl : z_304 = nI (202 + (8 * k_67)) := ez_304.trans (nI_add (202) (8 * k_67))
            refine lv_iload_n hx hb dX12_twoRead_92 rfl (lv_at hl 2 rfl) ?_
            refine lv_iadd hx hb dX12_twoRead_93 ?_
            refine lv_topi (fun z_305 ez_305 => ?_)
            obtain rfl : z_305 = nI ((202 + (8 * k_67)) + k_102) := ez_305.trans (nI_add (202 + (8 * k_67)) (k_102))
            refine lv_iload hx hb dX12_twoRead_94 (lv_at hl 1 rfl) ?_
            refine pl_iast hx hb hK hW hT_x_272.1 hS_rs (vp_in_nI (n := (202 + (8 * k_67)) + k_102) (N := 266) (by omega) (by omega)) dX12_twoRead_96 (fun H locs f_307 S_306 ef_f_307 e1 hW => ?_)
            have hi_f_307 := okS_up (i := (202 + (8 * k_67)) + k_102) (by omega) hi_f_32 ef_f_307 (okS_any (by omega))
            have hTy := hTy.u50 e1 hT_x_272 ⟨f_307, rfl, hi_f_307⟩
            have hS_o := un e1 hT_o hT_x_272 (by decide) hS_o
            have hFr := uf hFr e1 hT_x_272 (by decide) (by decide)
            have hS_rs := us e1
            have hdg_ := dg_up (i := (202 + (8 * k_67)) + k_102) hdg_ ef_f_307 (by omega) (by omega)
            exact W.vret hx hb hr (fun t ht h9 => ⟨⟨S_306, rfl, ⟨hTy, hFr, ⟨sp271, _, (MKi (sp := sp271) (sn := sn) (pa := pa) (ki := ki) hS_o rfl rfl rfl rfl rfl rfl (by omega) (by omega) (by omega) (by omega)), by omega, by omega, (fun h => hw271 ((fun h => hw70 ((fun h => hw35 ((fun h => h) h)) h)) h)), (by rw [fld_i hS_o rfl hS_rs]; exact hdg_)⟩⟩, by rw [ht]; exact hW.1, va_K.moved h9.alike hK, hW.2.1⟩, hW.2.2.F ht⟩) hW.2.2.2.2 dX12_twoRead_97
          · obtain ⟨n9, hn9, h0_⟩ := hfu2 c_64
            refine lv_aload_n hx hb dX12_twoRead_67 rfl (lv_at hl 4 rfl) ?_
            refine lv_iload_n hx hb dX12_twoRead_68 rfl (lv_at hl 3 rfl) ?_
            refine lv_iload_n hx hb dX12_twoRead_69 rfl (lv_at hl 2 rfl) ?_
            refine lv_iload hx hb dX12_twoRead_70 (lv_at hl 1 rfl) ?_
            refine lv_iload hx hb dX12_twoRead_72 (lv_at hl 0 rfl) ?_
            refine pl_callv (va_runV (As := [.int (nI k_67), .int (nI k_102), .int r_270, .int 0]) (rest := []) ⟨hx, hb, hml, hown, hT⟩ (m_adds l dC dI cy L kap pr S_269 H.size o k_67 k_102 r_270 0 hTy hT_o (by omega) (by omega) (by omega) n9 (mnyi hS_o rfl hS_rs h0_) (by omega) (by rw [fld_i hS_o rfl hS_rs]; exact hdg_) (fun e_ => (fun h => hw271 ((fun h => h) h)) (hoth.resolve_right (fun q => q (by rw [e_]))) c_58)) (cwV 4 hT (gV w1268 w1270 ws71 w14 w1271) rfl rfl rfl (by decide +kernel) ⟨(Nat.le_of_ble_eq_true rfl), (Nat.le_of_ble_eq_true rfl)⟩) ⟨pcN.blind, pl_recv hK hW hT_o.1 hS_o rfl, pcN.pre hW.1 hK hW.2.1 hN (fun q h => absurd h List.not_mem_nil)⟩ rfl rfl hl.1 rfl (lv_room (Nat.le_of_ble_eq_true rfl)) dX12_twoRead_74 ⟨(Nat.le_of_ble_eq_true rfl), (Nat.le_of_ble_eq_true rfl)⟩) hW hA0 hA (fun S_308 H locs hrel hW => ?_)
            obtain ⟨hTy, hF1, hx1⟩ := hrel
            have hFr := hFr.tr hF1 (by decide)
            have hS_o := hF1.at hT_o (by decide) hS_o
            obtain ⟨f_309, hS_rs, hi_f_309⟩ := hTy.k50 hT_x_272
            have h0_ : f_309 0 = nI (n9 + 1) := mnye hx1.1 hS_o rfl hS_rs
            have hdg_ : dg f_309 := by have q := hx1.2; rw [fld_i hS_o rfl hS_rs] at q; exact q
            refine lv_goto (tgt := 97) hx hb dX12_twoRead_77 (by decide) ?_
            exact W.vret hx hb hr (fun t ht h9 => ⟨⟨S_308, rfl, ⟨hTy, hFr, ⟨sp271, _, (MKi (sp := sp271) (sn := sn) (pa := pa) (ki := ki) hS_o rfl rfl rfl rfl rfl rfl (by omega) (by omega) (by omega) (by omega)), by omega, by omega, (fun h => hw271 ((fun h => hw70 ((fun h => hw35 ((fun h => h) h)) h)) h)), (by rw [fld_i hS_o rfl hS_rs]; exact hdg_)⟩⟩, by rw [ht]; exact hW.1, va_K.moved h9.alike hK, hW.2.1⟩, hW.2.2.F ht⟩) hW.2.2.2.2 dX12_twoRead_97
        · exact W.vret hx hb hr (fun t ht h9 => ⟨⟨S_269, rfl, ⟨hTy, hFr, ⟨sp271, _, (MKi (sp := sp271) (sn := sn) (pa := pa) (ki := ki) hS_o rfl rfl rfl rfl rfl rfl (by omega) (by omega) (by omega) (by omega)), by omega, by omega, (fun h => hw271 ((fun h => hw70 ((fun h => hw35 ((fun h => h) h)) h)) h)), (by rw [fld_i hS_o rfl hS_rs]; exact hdg_)⟩⟩, by rw [ht]; exact hW.1, va_K.moved h9.alike hK, hW.2.1⟩, hW.2.2.F ht⟩) hW.2.2.2.2 dX12_twoRead_61
      · refine lv_aload_n hx hb dX12_twoRead_44 rfl (lv_at hl 3 rfl) ?_
        refine pl_calli (va_runV (As := []) (rest := []) ⟨hx, hb, hml, hown, hT⟩ (m_kind l dC dI cy L kap pr ad S_269 H.size o hTy hT_o sp271 sn wr271 pa ki rs (MKi (sp := sp271) (sn := sn) (pa := pa) (ki := ki) hS_o rfl rfl rfl rfl rfl rfl (by omega) (by omega) (by omega) (by omega)) (by omega)) (cwV 0 hT (gV w1264 w1266 ws70 w14 w1267) rfl rfl rfl (by decide +kernel) ⟨(Nat.le_of_ble_eq_true rfl), (Nat.le_of_ble_eq_true rfl)⟩) ⟨pcS.blind, pl_recv hK hW hT_o.1 hS_o rfl, pcS.pre hW.1 hK hW.2.1 hN hSTR hW.2.2⟩ rfl rfl hl.1 rfl (lv_room (Nat.le_of_ble_eq_true rfl)) dX12_twoRead_45 ⟨(Nat.le_of_ble_eq_true rfl), (Nat.le_of_ble_eq_true rfl)⟩) hW hA0 hA (fun r_311 S_310 H locs hrel hW => ?_)
        obtain ⟨hTy, hF1, hx1⟩ := hrel
        have hFr := hFr.tr hF1 (by decide)
        have hS_rs := hF1.at hT_x_272 (by decide) hS_rs
        obtain ⟨sp312, wr312, hM312, hpa312, hpb312, hw312, hv312⟩ := hx1
        obtain ⟨x_313, x_314, x_315, x_316, x_317, x_318, x_319, x_320, x_321, x_322, x_323, x_324, x_325, x_326, x_327, x_328, x_329, x_330, x_331, x_332, x_333, x_334, x_335, x_336, x_337, x_338, x_339, x_340, x_341, x_342, x_343, hS_o, hT_x_313, hT_x_314, hT_x_315, hT_x_316, hT_x_317, hb_x_318, hb_x_319, hb_x_320, hT_x_322, hb_q2, hb_x_323, hb_x_324, hT_x_329, hT_x_330, hb_x_331, hT_x_332, hT_x_333, hT_x_334, hT_x_335, hT_x_336, hT_x_337, hT_x_338, hT_x_339, hT_x_340, hT_x_341, hT_x_342, hb_x_343⟩ := hTy.k12 hT_o
        have hb_q2 : pr.2 ≤ 900 := hb_q2
        have hS_o : S_310 o = .inr (12, [.ref x_313, .ref x_314, .ref x_315, .ref x_316, .ref x_317, .int (nI x_318), .int (nI x_319), .int (nI x_320), .int x_321, .ref x_322, .int (nI (pr.2)), .int (nI x_323), .int (nI x_324), .int x_325, .int x_326, .int x_327, .int x_328, .ref x_329, .ref x_330, .int (nI x_331), .ref x_332, .ref x_333, .ref x_334, .ref x_335, .ref x_336, .ref x_337, .ref x_338, .ref x_339, .ref x_340, .ref x_341, .ref x_342, .int (nI x_343)]) := hS_o
        obtain ⟨e12_, e11_, e13_, e5_, e6_, e0_⟩ := MKe hM312 hS_o rfl rfl rfl rfl rfl rfl (by omega) (by omega) (by omega) (by omega)
        subst e12_ e11_ e13_ e5_ e6_ e0_
        obtain ⟨k_344, hb_k_344, rfl⟩ := hv312
        refine lv_goto (tgt := 52) hx hb dX12_twoRead_48 (by decide) ?_
        refine lv_istore (lv' := [(5, .int (nI k_344)), (4, .int r_270), (3, .int (nI k_102)), (2, .int (nI k_67)), (0, .ref o), (1, .int wz)]) hx hb dX12_twoRead_52 hl (by decide) rfl (fun ls hl => ?_)
        refine lv_aload_n hx hb dX12_twoRead_54 rfl (lv_at hl 4 rfl) ?_
        refine pl_get (ci := 12) (v := .int wr312) (C := RX12) (T := TX12) (N := 32) hx hb hT iX12 hown hK hW hT_o.1 hS_o rfl 13 (by decide) w1095 rfl dX12_twoRead_55 ?_
        refine lv_if_eq (tgt := 62) hx hb dX12_twoRead_58 (by decide) (fun c_58 => ?_) (fun c_58 => ?_)
        · refine lv_iload_n hx hb dX12_twoRead_62 rfl (lv_at hl 5 rfl) ?_
          refine lv_iconst (v := 2) hx hb dX12_twoRead_63 (by decide) ?_
          refine lv_icmp_ne (tgt := 80) hx hb dX12_twoRead_64 (by decide) (fun c_64 => ?_) (fun c_64 => ?_)
          · refine lv_aload_n hx hb dX12_twoRead_80 rfl (lv_at hl 4 rfl) ?_
            refine pl_get (ci := 12) (v := .ref rs) (C := RX12) (T := TX12) (N := 32) hx hb hT iX12 hown hK hW hT_o.1 hS_o rfl 0 (by decide) w1082 rfl dX12_twoRead_81 ?_
            refine lv_sipush (v := 202) hx hb dX12_twoRead_84 (by decide) ?_
            refine lv_bipush (v := 8) hx hb dX12_twoRead_87 (by decide) ?_
            refine lv_iload_n hx hb dX12_twoRead_89 rfl (lv_at hl 3 rfl) ?_
            refine lv_imul hx hb dX12_twoRead_90 ?_
            refine lv_topi (fun z_345 ez_345 => ?_)
            obtain rfl : z_345 = nI (8 * k_67) := ez_345.trans (pk_mul (8) (k_67))
            refine lv_iadd hx hb dX12_twoRead_91 ?_
            refine lv_topi (fun z_346 ez_346 => ?_)
            obtain rfl : z_346 = nI (202 + (8 * k_67)) := ez_346.trans (nI_add (202) (8 * k_67))
            refine lv_iload_n hx hb dX12_twoRead_92 rfl (lv_at hl 2 rfl) ?_
            refine lv_iadd hx hb dX12_twoRead_93 ?_
            refine lv_topi (fun z_347 ez_347 => ?_)
            obtain rfl : z_347 = nI ((202 + (8 * k_67)) + k_102) := ez_347.trans (nI_add (202 + (8 * k_67)) (k_102))
            refine lv_iload hx hb dX12_twoRead_94 (lv_at hl 1 rfl) ?_
            refine pl_iast hx hb hK hW hT_x_313.1 hS_rs (vp_in_nI (n := (202 + (8 * k_67)) + k_102) (N := 266) (by omega) (by omega)) dX12_twoRead_96 (fun H locs f_349 S_348 ef_f_349 e1 hW => ?_)
            have hi_f_349 := okS_up (i := (202 + (8 * k_67)) + k_102) (by omega) hi_f_32 ef_f_349 (okS_any (by omega))
            have hTy := hTy.u50 e1 hT_x_313 ⟨f_349, rfl, hi_f_349⟩
            have hS_o := un e1 hT_o hT_x_313 (by decide) hS_o
            have hFr := uf hFr e1 hT_x_313 (by decide) (by decide)
            have hS_rs := us e1
            have hdg_ := dg_up (i := (202 + (8 * k_67)) + k_102) hdg_ ef_f_349 (by omega) (by omega)
            exact W.vret hx hb hr (fun t ht h9 => ⟨⟨S_348, rfl, ⟨hTy, hFr, ⟨sp312, _, (MKi (sp := sp312) (sn := sn) (pa := pa) (ki := ki) hS_o rfl rfl rfl rfl rfl rfl (by omega) (by omega) (by omega) (by omega)), by omega, by omega, (fun h => hw312 ((fun h => hw271 ((fun h => hw70 ((fun h => hw35 ((fun h => h) h)) h)) h)) h)), (by rw [fld_i hS_o rfl hS_rs]; exact hdg_)⟩⟩, by rw [ht]; exact hW.1, va_K.moved h9.alike hK, hW.2.1⟩, hW.2.2.F ht⟩) hW.2.2.2.2 dX12_twoRead_97
          · obtain ⟨n9, hn9, h0_⟩ := hfu2 c_64
            refine lv_aload_n hx hb dX12_twoRead_67 rfl (lv_at hl 4 rfl) ?_
            refine lv_iload_n hx hb dX12_twoRead_68 rfl (lv_at hl 3 rfl) ?_
            refine lv_iload_n hx hb dX12_twoRead_69 rfl (lv_at hl 2 rfl) ?_
            refine lv_iload hx hb dX12_twoRead_70 (lv_at hl 1 rfl) ?_
            refine lv_iload hx hb dX12_twoRead_72 (lv_at hl 0 rfl) ?_
            refine pl_callv (va_runV (As := [.int (nI k_67), .int (nI k_102), .int r_270, .int (nI k_344)]) (rest := []) ⟨hx, hb, hml, hown, hT⟩ (m_adds l dC dI cy L kap pr S_310 H.size o k_67 k_102 r_270 k_344 hTy hT_o (by omega) (by omega) (by omega) n9 (mnyi hS_o rfl hS_rs h0_) (by omega) (by rw [fld_i hS_o rfl hS_rs]; exact hdg_) (fun e_ => (fun h => hw312 ((fun h => hw271 ((fun h => h) h)) h)) (hoth.resolve_right (fun q => q (by rw [e_]))) c_58)) (cwV 4 hT (gV w1268 w1270 ws71 w14 w1271) rfl rfl rfl (by decide +kernel) ⟨(Nat.le_of_ble_eq_true rfl), (Nat.le_of_ble_eq_true rfl)⟩) ⟨pcN.blind, pl_recv hK hW hT_o.1 hS_o rfl, pcN.pre hW.1 hK hW.2.1 hN (fun q h => absurd h List.not_mem_nil)⟩ rfl rfl hl.1 rfl (lv_room (Nat.le_of_ble_eq_true rfl)) dX12_twoRead_74 ⟨(Nat.le_of_ble_eq_true rfl), (Nat.le_of_ble_eq_true rfl)⟩) hW hA0 hA (fun S_350 H locs hrel hW => ?_)
            obtain ⟨hTy, hF1, hx1⟩ := hrel
            have hFr := hFr.tr hF1 (by decide)
            have hS_o := hF1.at hT_o (by decide) hS_o
            obtain ⟨f_351, hS_rs, hi_f_351⟩ := hTy.k50 hT_x_313
            have h0_ : f_351 0 = nI (n9 + 1) := mnye hx1.1 hS_o rfl hS_rs
            have hdg_ : dg f_351 := by have q := hx1.2; rw [fld_i hS_o rfl hS_rs] at q; exact q
            refine lv_goto (tgt := 97) hx hb dX12_twoRead_77 (by decide) ?_
            exact W.vret hx hb hr (fun t ht h9 => ⟨⟨S_350, rfl, ⟨hTy, hFr, ⟨sp312, _, (MKi (sp := sp312) (sn := sn) (pa := pa) (ki := ki) hS_o rfl rfl rfl rfl rfl rfl (by omega) (by omega) (by omega) (by omega)), by omega, by omega, (fun h => hw312 ((fun h => hw271 ((fun h => hw70 ((fun h => hw35 ((fun h => h) h)) h)) h)) h)), (by rw [fld_i hS_o rfl hS_rs]; exact hdg_)⟩⟩, by rw [ht]; exact hW.1, va_K.moved h9.alike hK, hW.2.1⟩, hW.2.2.F ht⟩) hW.2.2.2.2 dX12_twoRead_97
        · exact W.vret hx hb hr (fun t ht h9 => ⟨⟨S_310, rfl, ⟨hTy, hFr, ⟨sp312, _, (MKi (sp := sp312) (sn := sn) (pa := pa) (ki := ki) hS_o rfl rfl rfl rfl rfl rfl (by omega) (by omega) (by omega) (by omega)), by omega, by omega, (fun h => hw312 ((fun h => hw271 ((fun h => hw70 ((fun h => hw35 ((fun h => h) h)) h)) h)) h)), (by rw [fld_i hS_o rfl hS_rs]; exact hdg_)⟩⟩, by rw [ht]; exact hW.1, va_K.moved h9.alike hK, hW.2.1⟩, hW.2.2.F ht⟩) hW.2.2.2.2 dX12_twoRead_61
    · refine lv_ldc (v := 999999) hx hb hown (hT _ w1263) dX12_twoRead_27 ?_
      refine lv_goto (tgt := 34) hx hb dX12_twoRead_29 (by decide) ?_
      refine pl_calli (va_runV (As := [.int 1, .int 999999]) (rest := []) ⟨hx, hb, hml, hown, hT⟩ (m_numeral l dC dI cy L kap pr S_68 H.size o 1 999999 hTy hT_o sp70 sn wr70 pa ki rs (MKi (sp := sp70) (sn := sn) (pa := pa) (ki := ki) hS_o rfl rfl rfl rfl rfl rfl (by omega) (by omega) (by omega) (by omega)) (by omega)) (cwV 2 hT (gV w1238 w1240 ws65 w14 w1241) rfl rfl rfl (by decide +kernel) ⟨(Nat.le_of_ble_eq_true rfl), (Nat.le_of_ble_eq_true rfl)⟩) ⟨pcN.blind, pl_recv hK hW hT_o.1 hS_o rfl, pcN.pre hW.1 hK hW.2.1 hN (fun q h => absurd h List.not_mem_nil)⟩ rfl rfl hl.1 rfl (lv_room (Nat.le_of_ble_eq_true rfl)) dX12_twoRead_34 ⟨(Nat.le_of_ble_eq_true rfl), (Nat.le_of_ble_eq_true rfl)⟩) hW hA0 hA (fun r_353 S_352 H locs hrel hW => ?_)
      obtain ⟨hTy, hF1, hx1⟩ := hrel
      have hFr := hFr.tr hF1 (by decide)
      have hS_rs := hF1.at hT_x_71 (by decide) hS_rs
      obtain ⟨sp354, wr354, hM354, hpa354, hpb354, hw354, hv354⟩ := hx1
      obtain ⟨x_355, x_356, x_357, x_358, x_359, x_360, x_361, x_362, x_363, x_364, x_365, x_366, x_367, x_368, x_369, x_370, x_371, x_372, x_373, x_374, x_375, x_376, x_377, x_378, x_379, x_380, x_381, x_382, x_383, x_384, x_385, hS_o, hT_x_355, hT_x_356, hT_x_357, hT_x_358, hT_x_359, hb_x_360, hb_x_361, hb_x_362, hT_x_364, hb_q2, hb_x_365, hb_x_366, hT_x_371, hT_x_372, hb_x_373, hT_x_374, hT_x_375, hT_x_376, hT_x_377, hT_x_378, hT_x_379, hT_x_380, hT_x_381, hT_x_382, hT_x_383, hT_x_384, hb_x_385⟩ := hTy.k12 hT_o
      have hb_q2 : pr.2 ≤ 900 := hb_q2
      have hS_o : S_352 o = .inr (12, [.ref x_355, .ref x_356, .ref x_357, .ref x_358, .ref x_359, .int (nI x_360), .int (nI x_361), .int (nI x_362), .int x_363, .ref x_364, .int (nI (pr.2)), .int (nI x_365), .int (nI x_366), .int x_367, .int x_368, .int x_369, .int x_370, .ref x_371, .ref x_372, .int (nI x_373), .ref x_374, .ref x_375, .ref x_376, .ref x_377, .ref x_378, .ref x_379, .ref x_380, .ref x_381, .ref x_382, .ref x_383, .ref x_384, .int (nI x_385)]) := hS_o
      obtain ⟨e12_, e11_, e13_, e5_, e6_, e0_⟩ := MKe hM354 hS_o rfl rfl rfl rfl rfl rfl (by omega) (by omega) (by omega) (by omega)
      subst e12_ e11_ e13_ e5_ e6_ e0_
      refine lv_istore (lv' := [(4, .int r_353), (3, .int (nI k_102)), (2, .int (nI k_67)), (0, .ref o), (1, .int wz)]) hx hb dX12_twoRead_37 hl (by decide) rfl (fun ls hl => ?_)
      refine lv_iload_n hx hb dX12_twoRead_39 rfl (lv_at hl 4 rfl) ?_
      refine lv_iconst (v := 2) hx hb dX12_twoRead_40 (by decide) ?_
      refine lv_icmp_ne (tgt := 51) hx hb dX12_twoRead_41 (by decide) (fun c_41 => ?_) (fun c_41 => ?_)
      · refine lv_iconst (v := 0) hx hb dX12_twoRead_51 (by decide) ?_
        refine lv_istore (lv' := [(5, .int 0), (4, .int r_353), (3, .int (nI k_102)), (2, .int (nI k_67)), (0, .ref o), (1, .int wz)]) hx hb dX12_twoRead_52 hl (by decide) rfl (fun ls hl => ?_)
        refine lv_aload_n hx hb dX12_twoRead_54 rfl (lv_at hl 4 rfl) ?_
        refine pl_get (ci := 12) (v := .int wr354) (C := RX12) (T := TX12) (N := 32) hx hb hT iX12 hown hK hW hT_o.1 hS_o rfl 13 (by decide) w1095 rfl dX12_twoRead_55 ?_
        refine lv_if_eq (tgt := 62) hx hb dX12_twoRead_58 (by decide) (fun c_58 => ?_) (fun c_58 => ?_)
        · refine lv_iload_n hx hb dX12_twoRead_62 rfl (lv_at hl 5 rfl) ?_
          refine lv_iconst (v := 2) hx hb dX12_twoRead_63 (by decide) ?_
          refine lv_icmp_ne (tgt := 80) hx hb dX12_twoRead_64 (by decide) (fun c_64 => ?_) (fun c_64 => ?_)
          · refine lv_aload_n hx hb dX12_twoRead_80 rfl (lv_at hl 4 rfl) ?_
            refine pl_get (ci := 12) (v := .ref rs) (C := RX12) (T := TX12) (N := 32) hx hb hT iX12 hown hK hW hT_o.1 hS_o rfl 0 (by decide) w1082 rfl dX12_twoRead_81 ?_
            refine lv_sipush (v := 202) hx hb dX12_twoRead_84 (by decide) ?_
            refine lv_bipush (v := 8) hx hb dX12_twoRead_87 (by decide) ?_
            refine lv_iload_n hx hb dX12_twoRead_89 rfl (lv_at hl 3 rfl) ?_
            refine lv_imul hx hb dX12_twoRead_90 ?_
            refine lv_topi (fun z_386 ez_386 => ?_)
            obtain rfl : z_386 = nI (8 * k_67) := ez_386.trans (pk_mul (8) (k_67))
            refine lv_iadd hx hb dX12_twoRead_91 ?_
            refine lv_topi (fun z_387 ez_387 => ?_)
            obtain rfl : z_387 = nI (202 + (8 * k_67)) := ez_387.trans (nI_add (202) (8 * k_67))
            refine lv_iload_n hx hb dX12_twoRead_92 rfl (lv_at hl 2 rfl) ?_
            refine lv_iadd hx hb dX12_twoRead_93 ?_
            refine lv_topi (fun z_388 ez_388 => ?_)
            obtain rfl : z_388 = nI ((202 + (8 * k_67)) + k_102) := ez_388.trans (nI_add (202 + (8 * k_67)) (k_102))
            refine lv_iload hx hb dX12_twoRead_94 (lv_at hl 1 rfl) ?_
            refine pl_iast hx hb hK hW hT_x_355.1 hS_rs (vp_in_nI (n := (202 + (8 * k_67)) + k_102) (N := 266) (by omega) (by omega)) dX12_twoRead_96 (fun H locs f_390 S_389 ef_f_390 e1 hW => ?_)
            have hi_f_390 := okS_up (i := (202 + (8 * k_67)) + k_102) (by omega) hi_f_32 ef_f_390 (okS_any (by omega))
            have hTy := hTy.u50 e1 hT_x_355 ⟨f_390, rfl, hi_f_390⟩
            have hS_o := un e1 hT_o hT_x_355 (by decide) hS_o
            have hFr := uf hFr e1 hT_x_355 (by decide) (by decide)
            have hS_rs := us e1
            have hdg_ := dg_up (i := (202 + (8 * k_67)) + k_102) hdg_ ef_f_390 (by omega) (by omega)
            exact W.vret hx hb hr (fun t ht h9 => ⟨⟨S_389, rfl, ⟨hTy, hFr, ⟨sp354, _, (MKi (sp := sp354) (sn := sn) (pa := pa) (ki := ki) hS_o rfl rfl rfl rfl rfl rfl (by omega) (by omega) (by omega) (by omega)), by omega, by omega, (fun h => hw354 ((fun h => hw70 ((fun h => hw35 ((fun h => h) h)) h)) h)), (by rw [fld_i hS_o rfl hS_rs]; exact hdg_)⟩⟩, by rw [ht]; exact hW.1, va_K.moved h9.alike hK, hW.2.1⟩, hW.2.2.F ht⟩) hW.2.2.2.2 dX12_twoRead_97
          · obtain ⟨n9, hn9, h0_⟩ := hfu2 c_64
            refine lv_aload_n hx hb dX12_twoRead_67 rfl (lv_at hl 4 rfl) ?_
            refine lv_iload_n hx hb dX12_twoRead_68 rfl (lv_at hl 3 rfl) ?_
            refine lv_iload_n hx hb dX12_twoRead_69 rfl (lv_at hl 2 rfl) ?_
            refine lv_iload hx hb dX12_twoRead_70 (lv_at hl 1 rfl) ?_
            refine lv_iload hx hb dX12_twoRead_72 (lv_at hl 0 rfl) ?_
            refine pl_callv (va_runV (As := [.int (nI k_67), .int (nI k_102), .int r_353, .int 0]) (rest := []) ⟨hx, hb, hml, hown, hT⟩ (m_adds l dC dI cy L kap pr S_352 H.size o k_67 k_102 r_353 0 hTy hT_o (by omega) (by omega) (by omega) n9 (mnyi hS_o rfl hS_rs h0_) (by omega) (by rw [fld_i hS_o rfl hS_rs]; exact hdg_) (fun e_ => (fun h => hw354 ((fun h => h) h)) (hoth.resolve_right (fun q => q (by rw [e_]))) c_58)) (cwV 4 hT (gV w1268 w1270 ws71 w14 w1271) rfl rfl rfl (by decide +kernel) ⟨(Nat.le_of_ble_eq_true rfl), (Nat.le_of_ble_eq_true rfl)⟩) ⟨pcN.blind, pl_recv hK hW hT_o.1 hS_o rfl, pcN.pre hW.1 hK hW.2.1 hN (fun q h => absurd h List.not_mem_nil)⟩ rfl rfl hl.1 rfl (lv_room (Nat.le_of_ble_eq_true rfl)) dX12_twoRead_74 ⟨(Nat.le_of_ble_eq_true rfl), (Nat.le_of_ble_eq_true rfl)⟩) hW hA0 hA (fun S_391 H locs hrel hW => ?_)
            obtain ⟨hTy, hF1, hx1⟩ := hrel
            have hFr := hFr.tr hF1 (by decide)
            have hS_o := hF1.at hT_o (by decide) hS_o
            obtain ⟨f_392, hS_rs, hi_f_392⟩ := hTy.k50 hT_x_355
            have h0_ : f_392 0 = nI (n9 + 1) := mnye hx1.1 hS_o rfl hS_rs
            have hdg_ : dg f_392 := by have q := hx1.2; rw [fld_i hS_o rfl hS_rs] at q; exact q
            refine lv_goto (tgt := 97) hx hb dX12_twoRead_77 (by decide) ?_
            exact W.vret hx hb hr (fun t ht h9 => ⟨⟨S_391, rfl, ⟨hTy, hFr, ⟨sp354, _, (MKi (sp := sp354) (sn := sn) (pa := pa) (ki := ki) hS_o rfl rfl rfl rfl rfl rfl (by omega) (by omega) (by omega) (by omega)), by omega, by omega, (fun h => hw354 ((fun h => hw70 ((fun h => hw35 ((fun h => h) h)) h)) h)), (by rw [fld_i hS_o rfl hS_rs]; exact hdg_)⟩⟩, by rw [ht]; exact hW.1, va_K.moved h9.alike hK, hW.2.1⟩, hW.2.2.F ht⟩) hW.2.2.2.2 dX12_twoRead_97
        · exact W.vret hx hb hr (fun t ht h9 => ⟨⟨S_352, rfl, ⟨hTy, hFr, ⟨sp354, _, (MKi (sp := sp354) (sn := sn) (pa := pa) (ki := ki) hS_o rfl rfl rfl rfl rfl rfl (by omega) (by omega) (by omega) (by omega)), by omega, by omega, (fun h => hw354 ((fun h => hw70 ((fun h => hw35 ((fun h => h) h)) h)) h)), (by rw [fld_i hS_o rfl hS_rs]; exact hdg_)⟩⟩, by rw [ht]; exact hW.1, va_K.moved h9.alike hK, hW.2.1⟩, hW.2.2.F ht⟩) hW.2.2.2.2 dX12_twoRead_61
      · refine lv_aload_n hx hb dX12_twoRead_44 rfl (lv_at hl 3 rfl) ?_
        refine pl_calli (va_runV (As := []) (rest := []) ⟨hx, hb, hml, hown, hT⟩ (m_kind l dC dI cy L kap pr ad S_352 H.size o hTy hT_o sp354 sn wr354 pa ki rs (MKi (sp := sp354) (sn := sn) (pa := pa) (ki := ki) hS_o rfl rfl rfl rfl rfl rfl (by omega) (by omega) (by omega) (by omega)) (by omega)) (cwV 0 hT (gV w1264 w1266 ws70 w14 w1267) rfl rfl rfl (by decide +kernel) ⟨(Nat.le_of_ble_eq_true rfl), (Nat.le_of_ble_eq_true rfl)⟩) ⟨pcS.blind, pl_recv hK hW hT_o.1 hS_o rfl, pcS.pre hW.1 hK hW.2.1 hN hSTR hW.2.2⟩ rfl rfl hl.1 rfl (lv_room (Nat.le_of_ble_eq_true rfl)) dX12_twoRead_45 ⟨(Nat.le_of_ble_eq_true rfl), (Nat.le_of_ble_eq_true rfl)⟩) hW hA0 hA (fun r_394 S_393 H locs hrel hW => ?_)
        obtain ⟨hTy, hF1, hx1⟩ := hrel
        have hFr := hFr.tr hF1 (by decide)
        have hS_rs := hF1.at hT_x_355 (by decide) hS_rs
        obtain ⟨sp395, wr395, hM395, hpa395, hpb395, hw395, hv395⟩ := hx1
        obtain ⟨x_396, x_397, x_398, x_399, x_400, x_401, x_402, x_403, x_404, x_405, x_406, x_407, x_408, x_409, x_410, x_411, x_412, x_413, x_414, x_415, x_416, x_417, x_418, x_419, x_420, x_421, x_422, x_423, x_424, x_425, x_426, hS_o, hT_x_396, hT_x_397, hT_x_398, hT_x_399, hT_x_400, hb_x_401, hb_x_402, hb_x_403, hT_x_405, hb_q2, hb_x_406, hb_x_407, hT_x_412, hT_x_413, hb_x_414, hT_x_415, hT_x_416, hT_x_417, hT_x_418, hT_x_419, hT_x_420, hT_x_421, hT_x_422, hT_x_423, hT_x_424, hT_x_425, hb_x_426⟩ := hTy.k12 hT_o
        have hb_q2 : pr.2 ≤ 900 := hb_q2
        have hS_o : S_393 o = .inr (12, [.ref x_396, .ref x_397, .ref x_398, .ref x_399, .ref x_400, .int (nI x_401), .int (nI x_402), .int (nI x_403), .int x_404, .ref x_405, .int (nI (pr.2)), .int (nI x_406), .int (nI x_407), .int x_408, .int x_409, .int x_410, .int x_411, .ref x_412, .ref x_413, .int (nI x_414), .ref x_415, .ref x_416, .ref x_417, .ref x_418, .ref x_419, .ref x_420, .ref x_421, .ref x_422, .ref x_423, .ref x_424, .ref x_425, .int (nI x_426)]) := hS_o
        obtain ⟨e12_, e11_, e13_, e5_, e6_, e0_⟩ := MKe hM395 hS_o rfl rfl rfl rfl rfl rfl (by omega) (by omega) (by omega) (by omega)
        subst e12_ e11_ e13_ e5_ e6_ e0_
        obtain ⟨k_427, hb_k_427, rfl⟩ := hv395
        refine lv_goto (tgt := 52) hx hb dX12_twoRead_48 (by decide) ?_
        refine lv_istore (lv' := [(5, .int (nI k_427)), (4, .int r_353), (3, .int (nI k_102)), (2, .int (nI k_67)), (0, .ref o), (1, .int wz)]) hx hb dX12_twoRead_52 hl (by decide) rfl (fun ls hl => ?_)
        refine lv_aload_n hx hb dX12_twoRead_54 rfl (lv_at hl 4 rfl) ?_
        refine pl_get (ci := 12) (v := .int wr395) (C := RX12) (T := TX12) (N := 32) hx hb hT iX12 hown hK hW hT_o.1 hS_o rfl 13 (by decide) w1095 rfl dX12_twoRead_55 ?_
        refine lv_if_eq (tgt := 62) hx hb dX12_twoRead_58 (by decide) (fun c_58 => ?_) (fun c_58 => ?_)
        · refine lv_iload_n hx hb dX12_twoRead_62 rfl (lv_at hl 5 rfl) ?_
          refine lv_iconst (v := 2) hx hb dX12_twoRead_63 (by decide) ?_
          refine lv_icmp_ne (tgt := 80) hx hb dX12_twoRead_64 (by decide) (fun c_64 => ?_) (fun c_64 => ?_)
          · refine lv_aload_n hx hb dX12_twoRead_80 rfl (lv_at hl 4 rfl) ?_
            refine pl_get (ci := 12) (v := .ref rs) (C := RX12) (T := TX12) (N := 32) hx hb hT iX12 hown hK hW hT_o.1 hS_o rfl 0 (by decide) w1082 rfl dX12_twoRead_81 ?_
            refine lv_sipush (v := 202) hx hb dX12_twoRead_84 (by decide) ?_
            refine lv_bipush (v := 8) hx hb dX12_twoRead_87 (by decide) ?_
            refine lv_iload_n hx hb dX12_twoRead_89 rfl (lv_at hl 3 rfl) ?_
            refine lv_imul hx hb dX12_twoRead_90 ?_
            refine lv_topi (fun z_428 ez_428 => ?_)
            obtain rfl : z_428 = nI (8 * k_67) := ez_428.trans (pk_mul (8) (k_67))
            refine lv_iadd hx hb dX12_twoRead_91 ?_
            refine lv_topi (fun z_429 ez_429 => ?_)
            obtain rfl : z_429 = nI (202 + (8 * k_67)) := ez_429.trans (nI_add (202) (8 * k_67))
            refine lv_iload_n hx hb dX12_twoRead_92 rfl (lv_at hl 2 rfl) ?_
            refine lv_iadd hx hb dX12_twoRead_93 ?_
            refine lv_topi (fun z_430 ez_430 => ?_)
            obtain rfl : z_430 = nI ((202 + (8 * k_67)) + k_102) := ez_430.trans (nI_add (202 + (8 * k_67)) (k_102))
            refine lv_iload hx hb dX12_twoRead_94 (lv_at hl 1 rfl) ?_
            refine pl_iast hx hb hK hW hT_x_396.1 hS_rs (vp_in_nI (n := (202 + (8 * k_67)) + k_102) (N := 266) (by omega) (by omega)) dX12_twoRead_96 (fun H locs f_432 S_431 ef_f_432 e1 hW => ?_)
            have hi_f_432 := okS_up (i := (202 + (8 * k_67)) + k_102) (by omega) hi_f_32 ef_f_432 (okS_any (by omega))
            have hTy := hTy.u50 e1 hT_x_396 ⟨f_432, rfl, hi_f_432⟩
            have hS_o := un e1 hT_o hT_x_396 (by decide) hS_o
            have hFr := uf hFr e1 hT_x_396 (by decide) (by decide)
            have hS_rs := us e1
            have hdg_ := dg_up (i := (202 + (8 * k_67)) + k_102) hdg_ ef_f_432 (by omega) (by omega)
            exact W.vret hx hb hr (fun t ht h9 => ⟨⟨S_431, rfl, ⟨hTy, hFr, ⟨sp395, _, (MKi (sp := sp395) (sn := sn) (pa := pa) (ki := ki) hS_o rfl rfl rfl rfl rfl rfl (by omega) (by omega) (by omega) (by omega)), by omega, by omega, (fun h => hw395 ((fun h => hw354 ((fun h => hw70 ((fun h => hw35 ((fun h => h) h)) h)) h)) h)), (by rw [fld_i hS_o rfl hS_rs]; exact hdg_)⟩⟩, by rw [ht]; exact hW.1, va_K.moved h9.alike hK, hW.2.1⟩, hW.2.2.F ht⟩) hW.2.2.2.2 dX12_twoRead_97
          · obtain ⟨n9, hn9, h0_⟩ := hfu2 c_64
            refine lv_aload_n hx hb dX12_twoRead_67 rfl (lv_at hl 4 rfl) ?_
            refine lv_iload_n hx hb dX12_twoRead_68 rfl (lv_at hl 3 rfl) ?_
            refine lv_iload_n hx hb dX12_twoRead_69 rfl (lv_at hl 2 rfl) ?_
            refine lv_iload hx hb dX12_twoRead_70 (lv_at hl 1 rfl) ?_
            refine lv_iload hx hb dX12_twoRead_72 (lv_at hl 0 rfl) ?_
            refine pl_callv (va_runV (As := [.int (nI k_67), .int (nI k_102), .int r_353, .int (nI k_427)]) (rest := []) ⟨hx, hb, hml, hown, hT⟩ (m_adds l dC dI cy L kap pr S_393 H.size o k_67 k_102 r_353 k_427 hTy hT_o (by omega) (by omega) (by omega) n9 (mnyi hS_o rfl hS_rs h0_) (by omega) (by rw [fld_i hS_o rfl hS_rs]; exact hdg_) (fun e_ => (fun h => hw395 ((fun h => hw354 ((fun h => h) h)) h)) (hoth.resolve_right (fun q => q (by rw [e_]))) c_58)) (cwV 4 hT (gV w1268 w1270 ws71 w14 w1271) rfl rfl rfl (by decide +kernel) ⟨(Nat.le_of_ble_eq_true rfl), (Nat.le_of_ble_eq_true rfl)⟩) ⟨pcN.blind, pl_recv hK hW hT_o.1 hS_o rfl, pcN.pre hW.1 hK hW.2.1 hN (fun q h => absurd h List.not_mem_nil)⟩ rfl rfl hl.1 rfl (lv_room (Nat.le_of_ble_eq_true rfl)) dX12_twoRead_74 ⟨(Nat.le_of_ble_eq_true rfl), (Nat.le_of_ble_eq_true rfl)⟩) hW hA0 hA (fun S_433 H locs hrel hW => ?_)
            obtain ⟨hTy, hF1, hx1⟩ := hrel
            have hFr := hFr.tr hF1 (by decide)
            have hS_o := hF1.at hT_o (by decide) hS_o
            obtain ⟨f_434, hS_rs, hi_f_434⟩ := hTy.k50 hT_x_396
            have h0_ : f_434 0 = nI (n9 + 1) := mnye hx1.1 hS_o rfl hS_rs
            have hdg_ : dg f_434 := by have q := hx1.2; rw [fld_i hS_o rfl hS_rs] at q; exact q
            refine lv_goto (tgt := 97) hx hb dX12_twoRead_77 (by decide) ?_
            exact W.vret hx hb hr (fun t ht h9 => ⟨⟨S_433, rfl, ⟨hTy, hFr, ⟨sp395, _, (MKi (sp := sp395) (sn := sn) (pa := pa) (ki := ki) hS_o rfl rfl rfl rfl rfl rfl (by omega) (by omega) (by omega) (by omega)), by omega, by omega, (fun h => hw395 ((fun h => hw354 ((fun h => hw70 ((fun h => hw35 ((fun h => h) h)) h)) h)) h)), (by rw [fld_i hS_o rfl hS_rs]; exact hdg_)⟩⟩, by rw [ht]; exact hW.1, va_K.moved h9.alike hK, hW.2.1⟩, hW.2.2.F ht⟩) hW.2.2.2.2 dX12_twoRead_97
        · exact W.vret hx hb hr (fun t ht h9 => ⟨⟨S_393, rfl, ⟨hTy, hFr, ⟨sp395, _, (MKi (sp := sp395) (sn := sn) (pa := pa) (ki := ki) hS_o rfl rfl rfl rfl rfl rfl (by omega) (by omega) (by omega) (by omega)), by omega, by omega, (fun h => hw395 ((fun h => hw354 ((fun h => hw70 ((fun h => hw35 ((fun h => h) h)) h)) h)) h)), (by rw [fld_i hS_o rfl hS_rs]; exact hdg_)⟩⟩, by rw [ht]; exact hW.1, va_K.moved h9.alike hK, hW.2.1⟩, hW.2.2.F ht⟩) hW.2.2.2.2 dX12_twoRead_61

set_option maxHeartbeats 4000000 in
set_option maxRecDepth 100000 in
theorem m_behind (l : Launch) (dC : Nat → ClassId) (dI : Nat → Nat → Nat) (cy : Nat → ClassId) (L : List Nat) (kap : Nat → Nat) (pr : Pr) (ad : (Nat → Nat) × (Nat → Nat)) (S : Nat → va_E) (sz : Nat) (o : Nat) (wz : Int32) (hTy : Ty cy L kap pr S) (hT_o : TK L kap o 12) (sp : Nat) (sn : Nat) (wr : Int32) (pa : Nat) (ki : Nat) (rs : Nat) (hM : MK S o sp sn wr pa ki rs) (hsp : sp ≤ sn) (h0 : wz = 0 → pa < 8) (h1 : wz = 1 → ki < 4) (h2 : wz = 2 → ∃ n, n < 40 ∧ mny S o n) (hdg : dg (fld S o 0)) : Met l yX12_behind (wT yX12_behind cX12_behind 3 none) ({ frames := 9, cells := 0, slots := 0, locals := 203 }) (pcS dC dI [.ref o, .int wz] sz L S (cyT cy) NLs ad) (va_Qv (fun S' => Ty cy L kap pr S' ∧ Fr kap [12, 50, 53, 112] S S' ∧ (∃ sp' wr' pa' ki', MK S' o sp' sn wr' pa' ki' rs ∧ sp ≤ sp' ∧ sp' ≤ sn ∧ (wr ≠ 0 → wr' ≠ 0) ∧ dg (fld S' o 0))) (fun S' t => pB dC dI (AL L sz) (va_pl L S') (cyT cy) t) (AL L sz)) 0 0 (AL L sz) := by
  refine Met.ofW (cc := cX12_behind) (maxL := 3) (ret := none) (by decide) rfl ?_
  intro p e s m args below meth c s₁ B hml hv
  obtain ⟨rfl, hsz, hP, hK, hD0, hN, hSTR⟩ := hv
  have hx := B.exec
  have hb := B.bytes
  have hr := B.returns
  have hT : ∀ wd ∈ TB, wd.before [.ref o, .int wz].toArray s = true := fun wd h => atoms_spec (ws := wT yX12_behind cX12_behind 3 none) B.pre wd (List.mem_cons_of_mem _ h)
  have hown : s.vm.findClass RX12 = some m.cls := findClass_of_methodNamed B.named
  have hlocks := B.notSynchronized
  subst hsz
  have hW : PW dC dI L (AL L s.heap.size) s.heap S s.heap [] := ⟨hP, pl_self hD0, va_S.rf⟩
  have hA0 : ∀ q, q ∈ L → AL L s.heap.size q := fun _ h => Or.inl h
  have hA : ∀ q, s.heap.size ≤ q → AL L s.heap.size q := fun _ h => Or.inr h
  have hFr : Fr kap [12, 50, 53, 112] S S := Fr.rf
  have hl := lv_entry ([.ref o, .int wz]) (n := 3) (Nat.le_of_ble_eq_true rfl)
  rw [lg_entry_eq]
  generalize (lg_sl ([.ref o, .int wz]) ++ List.replicate (3 - (lg_sl ([.ref o, .int wz])).length) Slot.unset).toArray = ls at hl ⊢
  have hl : lv_has ls 3 [(0, .ref o), (1, .int wz)] := hl
  obtain ⟨x_1, x_2, x_3, x_4, x_5, x_6, x_7, x_8, x_9, x_10, x_11, x_12, x_13, x_14, x_15, x_16, x_17, x_18, x_19, x_20, x_21, x_22, x_23, x_24, x_25, x_26, x_27, x_28, x_29, x_30, x_31, hS_o, hT_x_1, hT_x_2, hT_x_3, hT_x_4, hT_x_5, hb_x_6, hb_x_7, hb_x_8, hT_x_10, hb_q2, hb_x_11, hb_x_12, hT_x_17, hT_x_18, hb_x_19, hT_x_20, hT_x_21, hT_x_22, hT_x_23, hT_x_24, hT_x_25, hT_x_26, hT_x_27, hT_x_28, hT_x_29, hT_x_30, hb_x_31⟩ := hTy.k12 hT_o
  have hb_q2 : pr.2 ≤ 900 := hb_q2
  have hS_o : S o = .inr (12, [.ref x_1, .ref x_2, .ref x_3, .ref x_4, .ref x_5, .int (nI x_6), .int (nI x_7), .int (nI x_8), .int x_9, .ref x_10, .int (nI (pr.2)), .int (nI x_11), .int (nI x_12), .int x_13, .int x_14, .int x_15, .int x_16, .ref x_17, .ref x_18, .int (nI x_19), .ref x_20, .ref x_21, .ref x_22, .ref x_23, .ref x_24, .ref x_25, .ref x_26, .ref x_27, .ref x_28, .ref x_29, .ref x_30, .int (nI x_31)]) := hS_o
  obtain ⟨e12_, e11_, e13_, e5_, e6_, e0_⟩ := MKe hM hS_o rfl rfl rfl rfl rfl rfl (by omega) (by omega) (by omega) (by omega)
  subst e12_ e11_ e13_ e5_ e6_ e0_
  obtain ⟨f_32, hS_rs, hi_f_32⟩ := hTy.k50 hT_x_1
  have hdg_ : dg f_32 := by have q := hdg; rw [fld_i hS_o rfl hS_rs] at q; exact q
  have hfu2 := fun h => (h2 h).imp (fun n q => And.intro q.1 (mnye q.2 hS_o rfl hS_rs))
  refine lv_iload_n hx hb dX12_behind_0 rfl (lv_at hl 1 rfl) ?_
  refine lv_if_ne (tgt := 36) hx hb dX12_behind_1 (by decide) (fun c_1 => ?_) (fun c_1 => ?_)
  · refine lv_iload_n hx hb dX12_behind_36 rfl (lv_at hl 1 rfl) ?_
    refine lv_iconst (v := 1) hx hb dX12_behind_37 (by decide) ?_
    refine lv_icmp_ne (tgt := 76) hx hb dX12_behind_38 (by decide) (fun c_38 => ?_) (fun c_38 => ?_)
    · refine lv_iload_n hx hb dX12_behind_76 rfl (lv_at hl 1 rfl) ?_
      refine lv_iconst (v := 3) hx hb dX12_behind_77 (by decide) ?_
      refine lv_icmp_ne (tgt := 144) hx hb dX12_behind_78 (by decide) (fun c_78 => ?_) (fun c_78 => ?_)
      · refine lv_iload_n hx hb dX12_behind_144 rfl (lv_at hl 1 rfl) ?_
        refine lv_iconst (v := 5) hx hb dX12_behind_145 (by decide) ?_
        refine lv_icmp_ne (tgt := 164) hx hb dX12_behind_146 (by decide) (fun c_146 => ?_) (fun c_146 => ?_)
        · refine lv_aload_n hx hb dX12_behind_164 rfl (lv_at hl 0 rfl) ?_
          refine lv_iload_n hx hb dX12_behind_165 rfl (lv_at hl 1 rfl) ?_
          refine pl_callv (va_runV (As := [.int wz]) (rest := []) ⟨hx, hb, hml, hown, hT⟩ (m_two l dC dI cy L kap pr ad S s.heap.size o wz hTy hT_o sp sn wr pa ki rs (MKi (sp := sp) (sn := sn) (pa := pa) (ki := ki) hS_o rfl rfl rfl rfl rfl rfl (by omega) (by omega) (by omega) (by omega)) (by omega) (fun h => (hfu2 h).imp (fun n q => And.intro q.1 (mnyi hS_o rfl hS_rs q.2))) (by rw [fld_i hS_o rfl hS_rs]; exact hdg_)) (cwV 1 hT (gV w1251 w1253 ws67 w14 w1254) rfl rfl rfl (by decide +kernel) ⟨(Nat.le_of_ble_eq_true rfl), (Nat.le_of_ble_eq_true rfl)⟩) ⟨pcS.blind, pl_recv hK hW hT_o.1 hS_o rfl, pcS.pre hW.1 hK hW.2.1 hN hSTR hW.2.2⟩ rfl rfl hl.1 rfl (lv_room (Nat.le_of_ble_eq_true rfl)) dX12_behind_166 ⟨(Nat.le_of_ble_eq_true rfl), (Nat.le_of_ble_eq_true rfl)⟩) hW hA0 hA (fun S_33 H locs hrel hW => ?_)
          obtain ⟨hTy, hF1, hx1⟩ := hrel
          have hFr := hFr.tr hF1 (by decide)
          obtain ⟨sp34, wr34, hM34, hpa34, hpb34, hw34, hv34⟩ := hx1
          obtain ⟨x_35, x_36, x_37, x_38, x_39, x_40, x_41, x_42, x_43, x_44, x_45, x_46, x_47, x_48, x_49, x_50, x_51, x_52, x_53, x_54, x_55, x_56, x_57, x_58, x_59, x_60, x_61, x_62, x_63, x_64, x_65, hS_o, hT_x_35, hT_x_36, hT_x_37, hT_x_38, hT_x_39, hb_x_40, hb_x_41, hb_x_42, hT_x_44, hb_q2, hb_x_45, hb_x_46, hT_x_51, hT_x_52, hb_x_53, hT_x_54, hT_x_55, hT_x_56, hT_x_57, hT_x_58, hT_x_59, hT_x_60, hT_x_61, hT_x_62, hT_x_63, hT_x_64, hb_x_65⟩ := hTy.k12 hT_o
          have hb_q2 : pr.2 ≤ 900 := hb_q2
          have hS_o : S_33 o = .inr (12, [.ref x_35, .ref x_36, .ref x_37, .ref x_38, .ref x_39, .int (nI x_40), .int (nI x_41), .int (nI x_42), .int x_43, .ref x_44, .int (nI (pr.2)), .int (nI x_45), .int (nI x_46), .int x_47, .int x_48, .int x_49, .int x_50, .ref x_51, .ref x_52, .int (nI x_53), .ref x_54, .ref x_55, .ref x_56, .ref x_57, .ref x_58, .ref x_59, .ref x_60, .ref x_61, .ref x_62, .ref x_63, .ref x_64, .int (nI x_65)]) := hS_o
          obtain ⟨e12_, e11_, e13_, e5_, e6_, e0_⟩ := MKe hM34 hS_o rfl rfl rfl rfl rfl rfl (by omega) (by omega) (by omega) (by omega)
          subst e12_ e11_ e13_ e5_ e6_ e0_
          obtain ⟨f_66, hS_rs, hi_f_66⟩ := hTy.k50 hT_x_35
          have hdg_ : dg f_66 := by have q := hv34; rw [fld_i hS_o rfl hS_rs] at q; exact q
          exact W.vret hx hb hr (fun t ht h9 => ⟨⟨S_33, rfl, ⟨hTy, hFr, ⟨sp34, _, pa, ki, (MKi (sp := sp34) (sn := sn) (pa := pa) (ki := ki) hS_o rfl rfl rfl rfl rfl rfl (by omega) (by omega) (by omega) (by omega)), by omega, by omega, (fun h => hw34 ((fun h => h) h)), (by rw [fld_i hS_o rfl hS_rs]; exact hdg_)⟩⟩, by rw [ht]; exact hW.1, va_K.moved h9.alike hK, hW.2.1⟩, hW.2.2.F ht⟩) hW.2.2.2.2 dX12_behind_169
        · refine lv_aload_n hx hb dX12_behind_149 rfl (lv_at hl 0 rfl) ?_
          refine pl_get (ci := 12) (v := .ref rs) (C := RX12) (T := TX12) (N := 32) hx hb hT iX12 hown hK hW hT_o.1 hS_o rfl 0 (by decide) w1082 rfl dX12_behind_150 ?_
          refine lv_iconst (v := 1) hx hb dX12_behind_153 (by decide) ?_
          refine lv_aload_n hx hb dX12_behind_154 rfl (lv_at hl 0 rfl) ?_
          refine lv_iconst (v := 0) hx hb dX12_behind_155 (by decide) ?_
          refine lv_iconst (v := 3) hx hb dX12_behind_156 (by decide) ?_
          refine pl_calli (va_runV (As := [.int 0, .int 3]) (rest := [.int 1, .ref rs]) ⟨hx, hb, hml, hown, hT⟩ (m_numeral l dC dI cy L kap pr S s.heap.size o 0 3 hTy hT_o sp sn wr pa ki rs (MKi (sp := sp) (sn := sn) (pa := pa) (ki := ki) hS_o rfl rfl rfl rfl rfl rfl (by omega) (by omega) (by omega) (by omega)) (by omega)) (cwV 2 hT (gV w1238 w1240 ws65 w14 w1241) rfl rfl rfl (by decide +kernel) ⟨(Nat.le_of_ble_eq_true rfl), (Nat.le_of_ble_eq_true rfl)⟩) ⟨pcN.blind, pl_recv hK hW hT_o.1 hS_o rfl, pcN.pre hW.1 hK hW.2.1 hN (fun q h => absurd h List.not_mem_nil)⟩ rfl rfl hl.1 rfl (lv_room (Nat.le_of_ble_eq_true rfl)) dX12_behind_157 ⟨(Nat.le_of_ble_eq_true rfl), (Nat.le_of_ble_eq_true rfl)⟩) hW hA0 hA (fun r_68 S_67 H locs hrel hW => ?_)
          obtain ⟨hTy, hF1, hx1⟩ := hrel
          have hFr := hFr.tr hF1 (by decide)
          have hS_rs := hF1.at hT_x_1 (by decide) hS_rs
          obtain ⟨sp69, wr69, hM69, hpa69, hpb69, hw69, hv69⟩ := hx1
          obtain ⟨x_70, x_71, x_72, x_73, x_74, x_75, x_76, x_77, x_78, x_79, x_80, x_81, x_82, x_83, x_84, x_85, x_86, x_87, x_88, x_89, x_90, x_91, x_92, x_93, x_94, x_95, x_96, x_97, x_98, x_99, x_100, hS_o, hT_x_70, hT_x_71, hT_x_72, hT_x_73, hT_x_74, hb_x_75, hb_x_76, hb_x_77, hT_x_79, hb_q2, hb_x_80, hb_x_81, hT_x_86, hT_x_87, hb_x_88, hT_x_89, hT_x_90, hT_x_91, hT_x_92, hT_x_93, hT_x_94, hT_x_95, hT_x_96, hT_x_97, hT_x_98, hT_x_99, hb_x_100⟩ := hTy.k12 hT_o
          have hb_q2 : pr.2 ≤ 900 := hb_q2
          have hS_o : S_67 o = .inr (12, [.ref x_70, .ref x_71, .ref x_72, .ref x_73, .ref x_74, .int (nI x_75), .int (nI x_76), .int (nI x_77), .int x_78, .ref x_79, .int (nI (pr.2)), .int (nI x_80), .int (nI x_81), .int x_82, .int x_83, .int x_84, .int x_85, .ref x_86, .ref x_87, .int (nI x_88), .ref x_89, .ref x_90, .ref x_91, .ref x_92, .ref x_93, .ref x_94, .ref x_95, .ref x_96, .ref x_97, .ref x_98, .ref x_99, .int (nI x_100)]) := hS_o
          obtain ⟨e12_, e11_, e13_, e5_, e6_, e0_⟩ := MKe hM69 hS_o rfl rfl rfl rfl rfl rfl (by omega) (by omega) (by omega) (by omega)
          subst e12_ e11_ e13_ e5_ e6_ e0_
          refine pl_iast hx hb hK hW hT_x_70.1 hS_rs (vp_in_nI (n := 1) (N := 266) (by omega) (by omega)) dX12_behind_160 (fun H locs f_102 S_101 ef_f_102 e1 hW => ?_)
          have hi_f_102 := okS_up (i := 1) (by omega) hi_f_32 ef_f_102 (okS_any (by omega))
          have hTy := hTy.u50 e1 hT_x_70 ⟨f_102, rfl, hi_f_102⟩
          have hS_o := un e1 hT_o hT_x_70 (by decide) hS_o
          have hFr := uf hFr e1 hT_x_70 (by decide) (by decide)
          have hS_rs := us e1
          have hdg_ := dg_up (i := 1) hdg_ ef_f_102 (by omega) (by omega)
          refine lv_goto (tgt := 169) hx hb dX12_behind_161 (by decide) ?_
          exact W.vret hx hb hr (fun t ht h9 => ⟨⟨S_101, rfl, ⟨hTy, hFr, ⟨sp69, _, pa, ki, (MKi (sp := sp69) (sn := sn) (pa := pa) (ki := ki) hS_o rfl rfl rfl rfl rfl rfl (by omega) (by omega) (by omega) (by omega)), by omega, by omega, (fun h => hw69 ((fun h => h) h)), (by rw [fld_i hS_o rfl hS_rs]; exact hdg_)⟩⟩, by rw [ht]; exact hW.1, va_K.moved h9.alike hK, hW.2.1⟩, hW.2.2.F ht⟩) hW.2.2.2.2 dX12_behind_169
      · refine lv_aload_n hx hb dX12_behind_81 rfl (lv_at hl 0 rfl) ?_
        refine lv_iconst (v := 0) hx hb dX12_behind_82 (by decide) ?_
        refine lv_aload_n hx hb dX12_behind_83 rfl (lv_at hl 0 rfl) ?_
        refine pl_get (ci := 12) (v := .ref rs) (C := RX12) (T := TX12) (N := 32) hx hb hT iX12 hown hK hW hT_o.1 hS_o rfl 0 (by decide) w1082 rfl dX12_behind_84 ?_
        refine lv_iconst (v := 0) hx hb dX12_behind_87 (by decide) ?_
        refine pl_iald hx hb hK hW hT_x_1.1 hS_rs (vp_in_nI (n := 0) (N := 266) (by omega) (by omega)) dX12_behind_88 ?_
        refine lv_topi (fun y_103 ey_103 => ?_)
        have hv_y_103 : okS (0) y_103 := by rw [ey_103]; show okS _ (f_32 (nI (0)).toNatClampNeg); rw [nI_clamp (by omega)]; exact hi_f_32 (0) (by omega)
        obtain ⟨k_104, hb_k_104, hq_k_104⟩ := hv_y_103.1 rfl
        obtain rfl : y_103 = nI k_104 := hq_k_104
        refine lv_iconst (v := 1) hx hb dX12_behind_89 (by decide) ?_
        refine lv_isub hx hb dX12_behind_90 ?_
        refine lv_topi (fun z_105 ez_105 => ?_)
        obtain rfl : z_105 = pd (k_104) := ez_105
        refine pl_calli (va_runV (As := [.int 0, .int (pd k_104)]) (rest := []) ⟨hx, hb, hml, hown, hT⟩ (m_numeral l dC dI cy L kap pr S s.heap.size o 0 (pd k_104) hTy hT_o sp sn wr pa ki rs (MKi (sp := sp) (sn := sn) (pa := pa) (ki := ki) hS_o rfl rfl rfl rfl rfl rfl (by omega) (by omega) (by omega) (by omega)) (by omega)) (cwV 2 hT (gV w1238 w1240 ws65 w14 w1241) rfl rfl rfl (by decide +kernel) ⟨(Nat.le_of_ble_eq_true rfl), (Nat.le_of_ble_eq_true rfl)⟩) ⟨pcN.blind, pl_recv hK hW hT_o.1 hS_o rfl, pcN.pre hW.1 hK hW.2.1 hN (fun q h => absurd h List.not_mem_nil)⟩ rfl rfl hl.1 rfl (lv_room (Nat.le_of_ble_eq_true rfl)) dX12_behind_91 ⟨(Nat.le_of_ble_eq_true rfl), (Nat.le_of_ble_eq_true rfl)⟩) hW hA0 hA (fun r_107 S_106 H locs hrel hW => ?_)
        obtain ⟨hTy, hF1, hx1⟩ := hrel
        have hFr := hFr.tr hF1 (by decide)
        have hS_rs := hF1.at hT_x_1 (by decide) hS_rs
        obtain ⟨sp108, wr108, hM108, hpa108, hpb108, hw108, hv108⟩ := hx1
        obtain ⟨x_109, x_110, x_111, x_112, x_113, x_114, x_115, x_116, x_117, x_118, x_119, x_120, x_121, x_122, x_123, x_124, x_125, x_126, x_127, x_128, x_129, x_130, x_131, x_132, x_133, x_134, x_135, x_136, x_137, x_138, x_139, hS_o, hT_x_109, hT_x_110, hT_x_111, hT_x_112, hT_x_113, hb_x_114, hb_x_115, hb_x_116, hT_x_118, hb_q2, hb_x_119, hb_x_120, hT_x_125, hT_x_126, hb_x_127, hT_x_128, hT_x_129, hT_x_130, hT_x_131, hT_x_132, hT_x_133, hT_x_134, hT_x_135, hT_x_136, hT_x_137, hT_x_138, hb_x_139⟩ := hTy.k12 hT_o
        have hb_q2 : pr.2 ≤ 900 := hb_q2
        have hS_o : S_106 o = .inr (12, [.ref x_109, .ref x_110, .ref x_111, .ref x_112, .ref x_113, .int (nI x_114), .int (nI x_115), .int (nI x_116), .int x_117, .ref x_118, .int (nI (pr.2)), .int (nI x_119), .int (nI x_120), .int x_121, .int x_122, .int x_123, .int x_124, .ref x_125, .ref x_126, .int (nI x_127), .ref x_128, .ref x_129, .ref x_130, .ref x_131, .ref x_132, .ref x_133, .ref x_134, .ref x_135, .ref x_136, .ref x_137, .ref x_138, .int (nI x_139)]) := hS_o
        obtain ⟨e12_, e11_, e13_, e5_, e6_, e0_⟩ := MKe hM108 hS_o rfl rfl rfl rfl rfl rfl (by omega) (by omega) (by omega) (by omega)
        subst e12_ e11_ e13_ e5_ e6_ e0_
        refine lv_istore_n (lv' := [(2, .int r_107), (0, .ref o), (1, .int wz)]) hx hb dX12_behind_94 rfl hl (by decide) rfl (fun ls hl => ?_)
        refine lv_aload_n hx hb dX12_behind_95 rfl (lv_at hl 1 rfl) ?_
        refine pl_get (ci := 12) (v := .int wr108) (C := RX12) (T := TX12) (N := 32) hx hb hT iX12 hown hK hW hT_o.1 hS_o rfl 13 (by decide) w1095 rfl dX12_behind_96 ?_
        refine lv_if_ne (tgt := 121) hx hb dX12_behind_99 (by decide) (fun c_99 => ?_) (fun c_99 => ?_)
        · refine lv_aload_n hx hb dX12_behind_121 rfl (lv_at hl 1 rfl) ?_
          refine pl_get (ci := 12) (v := .int wr108) (C := RX12) (T := TX12) (N := 32) hx hb hT iX12 hown hK hW hT_o.1 hS_o rfl 13 (by decide) w1095 rfl dX12_behind_122 ?_
          refine lv_if_ne (tgt := 141) hx hb dX12_behind_125 (by decide) (fun c_125 => ?_) (fun c_125 => ?_)
          · refine lv_goto (tgt := 169) hx hb dX12_behind_141 (by decide) ?_
            exact W.vret hx hb hr (fun t ht h9 => ⟨⟨S_106, rfl, ⟨hTy, hFr, ⟨sp108, _, pa, ki, (MKi (sp := sp108) (sn := sn) (pa := pa) (ki := ki) hS_o rfl rfl rfl rfl rfl rfl (by omega) (by omega) (by omega) (by omega)), by omega, by omega, (fun h => hw108 ((fun h => h) h)), (by rw [fld_i hS_o rfl hS_rs]; exact hdg_)⟩⟩, by rw [ht]; exact hW.1, va_K.moved h9.alike hK, hW.2.1⟩, hW.2.2.F ht⟩) hW.2.2.2.2 dX12_behind_169
          · have hvv := hv108.resolve_left (fun h => h c_125)
            obtain ⟨k_140, hb_k_140, rfl⟩ := kbel hvv.1 hvv.2 (by omega)
            refine lv_aload_n hx hb dX12_behind_128 rfl (lv_at hl 1 rfl) ?_
            refine pl_get (ci := 12) (v := .ref rs) (C := RX12) (T := TX12) (N := 32) hx hb hT iX12 hown hK hW hT_o.1 hS_o rfl 0 (by decide) w1082 rfl dX12_behind_129 ?_
            refine lv_iconst (v := 2) hx hb dX12_behind_132 (by decide) ?_
            refine lv_iconst (v := 5) hx hb dX12_behind_133 (by decide) ?_
            refine lv_iload_n hx hb dX12_behind_134 rfl (lv_at hl 0 rfl) ?_
            refine lv_imul hx hb dX12_behind_135 ?_
            refine lv_topi (fun z_141 ez_141 => ?_)
            obtain rfl : z_141 = nI (5 * k_140) := ez_141.trans (pk_mul (5) (k_140))
            refine lv_iadd hx hb dX12_behind_136 ?_
            refine lv_topi (fun z_142 ez_142 => ?_)
            obtain rfl : z_142 = nI (2 + (5 * k_140)) := ez_142.trans (nI_add (2) (5 * k_140))
            refine lv_iconst (v := 4) hx hb dX12_behind_137 (by decide) ?_
            refine lv_iadd hx hb dX12_behind_138 ?_
            refine lv_topi (fun z_143 ez_143 => ?_)
            obtain rfl : z_143 = nI ((2 + (5 * k_140)) + 4) := ez_143.trans (nI_add (2 + (5 * k_140)) (4))
            refine lv_iconst (v := 1) hx hb dX12_behind_139 (by decide) ?_
            refine pl_iast hx hb hK hW hT_x_109.1 hS_rs (vp_in_nI (n := (2 + (5 * k_140)) + 4) (N := 266) (by omega) (by omega)) dX12_behind_140 (fun H locs f_145 S_144 ef_f_145 e1 hW => ?_)
            have hok_ : okS ((2 + (5 * k_140)) + 4) (nI (1)) := (okS_n (by omega) (by omega) (by omega))
            have hi_f_145 := okS_up (i := (2 + (5 * k_140)) + 4) (by omega) hi_f_32 ef_f_145 hok_
            have hTy := hTy.u50 e1 hT_x_109 ⟨f_145, rfl, hi_f_145⟩
            have hS_o := un e1 hT_o hT_x_109 (by decide) hS_o
            have hFr := uf hFr e1 hT_x_109 (by decide) (by decide)
            have hS_rs := us e1
            have hdg_ := dg_up (i := (2 + (5 * k_140)) + 4) hdg_ ef_f_145 (by omega) (by omega)
            refine lv_goto (tgt := 169) hx hb dX12_behind_141 (by decide) ?_
            exact W.vret hx hb hr (fun t ht h9 => ⟨⟨S_144, rfl, ⟨hTy, hFr, ⟨sp108, _, pa, ki, (MKi (sp := sp108) (sn := sn) (pa := pa) (ki := ki) hS_o rfl rfl rfl rfl rfl rfl (by omega) (by omega) (by omega) (by omega)), by omega, by omega, (fun h => hw108 ((fun h => h) h)), (by rw [fld_i hS_o rfl hS_rs]; exact hdg_)⟩⟩, by rw [ht]; exact hW.1, va_K.moved h9.alike hK, hW.2.1⟩, hW.2.2.F ht⟩) hW.2.2.2.2 dX12_behind_169
        · have hvv := hv108.resolve_left (fun h => h c_99)
          obtain ⟨k_146, hb_k_146, rfl⟩ := kbel hvv.1 hvv.2 (by omega)
          refine lv_aload_n hx hb dX12_behind_102 rfl (lv_at hl 1 rfl) ?_
          refine lv_iload_n hx hb dX12_behind_103 rfl (lv_at hl 0 rfl) ?_
          refine lv_iconst (v := 4) hx hb dX12_behind_104 (by decide) ?_
          refine vp_callSi (va_Run.run (va_runV (As := [.int (nI k_146), .int 4]) (rest := []) ⟨hx, hb, hml, hown, hT⟩ (m_tradeAt l dC dI cy L kap pr S_106 H.size o k_146 4 hTy hT_o (by omega) (by omega)) (cwV 2 hT (gV w1247 w1249 ws66 w14 w1250) rfl rfl rfl (by decide +kernel) ⟨(Nat.le_of_ble_eq_true rfl), (Nat.le_of_ble_eq_true rfl)⟩) ⟨pcN.blind, pl_recv hK hW hT_o.1 hS_o rfl, pcN.pre hW.1 hK hW.2.1 hN (fun q h => absurd h List.not_mem_nil)⟩ rfl rfl hl.1 rfl (lv_room (Nat.le_of_ble_eq_true rfl)) dX12_behind_105 ⟨(Nat.le_of_ble_eq_true rfl), (Nat.le_of_ble_eq_true rfl)⟩)) (fun r_147 hr_147 => ?_)
          refine lv_iconst (v := 1) hx hb dX12_behind_108 (by decide) ?_
          refine lv_icmp_ne (tgt := 121) hx hb dX12_behind_109 (by decide) (fun c_109 => ?_) (fun c_109 => ?_)
          · refine lv_aload_n hx hb dX12_behind_121 rfl (lv_at hl 1 rfl) ?_
            refine pl_get (ci := 12) (v := .int wr108) (C := RX12) (T := TX12) (N := 32) hx hb hT iX12 hown hK hW hT_o.1 hS_o rfl 13 (by decide) w1095 rfl dX12_behind_122 ?_
            refine lv_if_ne (tgt := 141) hx hb dX12_behind_125 (by decide) (fun c_125 => ?_) (fun c_125 => ?_)
            · refine lv_goto (tgt := 169) hx hb dX12_behind_141 (by decide) ?_
              exact W.vret hx hb hr (fun t ht h9 => ⟨⟨S_106, rfl, ⟨hTy, hFr, ⟨sp108, _, pa, ki, (MKi (sp := sp108) (sn := sn) (pa := pa) (ki := ki) hS_o rfl rfl rfl rfl rfl rfl (by omega) (by omega) (by omega) (by omega)), by omega, by omega, (fun h => hw108 ((fun h => h) h)), (by rw [fld_i hS_o rfl hS_rs]; exact hdg_)⟩⟩, by rw [ht]; exact hW.1, va_K.moved h9.alike hK, hW.2.1⟩, hW.2.2.F ht⟩) hW.2.2.2.2 dX12_behind_169
            · refine lv_aload_n hx hb dX12_behind_128 rfl (lv_at hl 1 rfl) ?_
              refine pl_get (ci := 12) (v := .ref rs) (C := RX12) (T := TX12) (N := 32) hx hb hT iX12 hown hK hW hT_o.1 hS_o rfl 0 (by decide) w1082 rfl dX12_behind_129 ?_
              refine lv_iconst (v := 2) hx hb dX12_behind_132 (by decide) ?_
              refine lv_iconst (v := 5) hx hb dX12_behind_133 (by decide) ?_
              refine lv_iload_n hx hb dX12_behind_134 rfl (lv_at hl 0 rfl) ?_
              refine lv_imul hx hb dX12_behind_135 ?_
              refine lv_topi (fun z_148 ez_148 => ?_)
              obtain rfl : z_148 = nI (5 * k_146) := ez_148.trans (pk_mul (5) (k_146))
              refine lv_iadd hx hb dX12_behind_136 ?_
              refine lv_topi (fun z_149 ez_149 => ?_)
              obtain rfl : z_149 = nI (2 + (5 * k_146)) := ez_149.trans (nI_add (2) (5 * k_146))
              refine lv_iconst (v := 4) hx hb dX12_behind_137 (by decide) ?_
              refine lv_iadd hx hb dX12_behind_138 ?_
              refine lv_topi (fun z_150 ez_150 => ?_)
              obtain rfl : z_150 = nI ((2 + (5 * k_146)) + 4) := ez_150.trans (nI_add (2 + (5 * k_146)) (4))
              refine lv_iconst (v := 1) hx hb dX12_behind_139 (by decide) ?_
              refine pl_iast hx hb hK hW hT_x_109.1 hS_rs (vp_in_nI (n := (2 + (5 * k_146)) + 4) (N := 266) (by omega) (by omega)) dX12_behind_140 (fun H locs f_152 S_151 ef_f_152 e1 hW => ?_)
              have hok_ : okS ((2 + (5 * k_146)) + 4) (nI (1)) := (okS_n (by omega) (by omega) (by omega))
              have hi_f_152 := okS_up (i := (2 + (5 * k_146)) + 4) (by omega) hi_f_32 ef_f_152 hok_
              have hTy := hTy.u50 e1 hT_x_109 ⟨f_152, rfl, hi_f_152⟩
              have hS_o := un e1 hT_o hT_x_109 (by decide) hS_o
              have hFr := uf hFr e1 hT_x_109 (by decide) (by decide)
              have hS_rs := us e1
              have hdg_ := dg_up (i := (2 + (5 * k_146)) + 4) hdg_ ef_f_152 (by omega) (by omega)
              refine lv_goto (tgt := 169) hx hb dX12_behind_141 (by decide) ?_
              exact W.vret hx hb hr (fun t ht h9 => ⟨⟨S_151, rfl, ⟨hTy, hFr, ⟨sp108, _, pa, ki, (MKi (sp := sp108) (sn := sn) (pa := pa) (ki := ki) hS_o rfl rfl rfl rfl rfl rfl (by omega) (by omega) (by omega) (by omega)), by omega, by omega, (fun h => hw108 ((fun h => h) h)), (by rw [fld_i hS_o rfl hS_rs]; exact hdg_)⟩⟩, by rw [ht]; exact hW.1, va_K.moved h9.alike hK, hW.2.1⟩, hW.2.2.F ht⟩) hW.2.2.2.2 dX12_behind_169
          · refine lv_aload_n hx hb dX12_behind_112 rfl (lv_at hl 1 rfl) ?_
            refine lv_iconst (v := 5) hx hb dX12_behind_113 (by decide) ?_
            refine lv_aload_n hx hb dX12_behind_114 rfl (lv_at hl 1 rfl) ?_
            refine pl_get (ci := 12) (v := .int x_124) (C := RX12) (T := TX12) (N := 32) hx hb hT iX12 hown hK hW hT_o.1 hS_o rfl 16 (by decide) w1098 rfl dX12_behind_115 ?_
            refine pl_callv (va_runV (As := [.int 5, .int x_124]) (rest := []) ⟨hx, hb, hml, hown, hT⟩ (m_fails l dC dI cy L kap pr S_106 H.size o 5 x_124 hTy hT_o sp108 sn wr108 pa ki rs (MKi (sp := sp108) (sn := sn) (pa := pa) (ki := ki) hS_o rfl rfl rfl rfl rfl rfl (by omega) (by omega) (by omega) (by omega)) (by omega) (by decide)) (cwV 2 hT (gV w1214 w1216 ws59 w14 w1217) rfl rfl rfl (by decide +kernel) ⟨(Nat.le_of_ble_eq_true rfl), (Nat.le_of_ble_eq_true rfl)⟩) ⟨pcN.blind, pl_recv hK hW hT_o.1 hS_o rfl, pcN.pre hW.1 hK hW.2.1 hN (fun q h => absurd h List.not_mem_nil)⟩ rfl rfl hl.1 rfl (lv_room (Nat.le_of_ble_eq_true rfl)) dX12_behind_118 ⟨(Nat.le_of_ble_eq_true rfl), (Nat.le_of_ble_eq_true rfl)⟩) hW hA0 hA (fun S_153 H locs hrel hW => ?_)
            obtain ⟨hTy, hF1, hx1⟩ := hrel
            have hFr := hFr.tr hF1 (by decide)
            have hS_rs := hF1.at hT_x_109 (by decide) hS_rs
            obtain ⟨sp154, wr154, hM154, hpa154, hpb154, hw154⟩ := hx1
            obtain ⟨x_155, x_156, x_157, x_158, x_159, x_160, x_161, x_162, x_163, x_164, x_165, x_166, x_167, x_168, x_169, x_170, x_171, x_172, x_173, x_174, x_175, x_176, x_177, x_178, x_179, x_180, x_181, x_182, x_183, x_184, x_185, hS_o, hT_x_155, hT_x_156, hT_x_157, hT_x_158, hT_x_159, hb_x_160, hb_x_161, hb_x_162, hT_x_164, hb_q2, hb_x_165, hb_x_166, hT_x_171, hT_x_172, hb_x_173, hT_x_174, hT_x_175, hT_x_176, hT_x_177, hT_x_178, hT_x_179, hT_x_180, hT_x_181, hT_x_182, hT_x_183, hT_x_184, hb_x_185⟩ := hTy.k12 hT_o
            have hb_q2 : pr.2 ≤ 900 := hb_q2
            have hS_o : S_153 o = .inr (12, [.ref x_155, .ref x_156, .ref x_157, .ref x_158, .ref x_159, .int (nI x_160), .int (nI x_161), .int (nI x_162), .int x_163, .ref x_164, .int (nI (pr.2)), .int (nI x_165), .int (nI x_166), .int x_167, .int x_168, .int x_169, .int x_170, .ref x_171, .ref x_172, .int (nI x_173), .ref x_174, .ref x_175, .ref x_176, .ref x_177, .ref x_178, .ref x_179, .ref x_180, .ref x_181, .ref x_182, .ref x_183, .ref x_184, .int (nI x_185)]) := hS_o
            obtain ⟨e12_, e11_, e13_, e5_, e6_, e0_⟩ := MKe hM154 hS_o rfl rfl rfl rfl rfl rfl (by omega) (by omega) (by omega) (by omega)
            subst e12_ e11_ e13_ e5_ e6_ e0_
            refine lv_aload_n hx hb dX12_behind_121 rfl (lv_at hl 1 rfl) ?_
            refine pl_get (ci := 12) (v := .int wr154) (C := RX12) (T := TX12) (N := 32) hx hb hT iX12 hown hK hW hT_o.1 hS_o rfl 13 (by decide) w1095 rfl dX12_behind_122 ?_
            have c_125 : ¬ wr154 = 0 := hw154
            refine lv_if_ne (tgt := 141) hx hb dX12_behind_125 (by decide) (fun _ => ?_) (fun h => absurd h c_125)
            refine lv_goto (tgt := 169) hx hb dX12_behind_141 (by decide) ?_
            exact W.vret hx hb hr (fun t ht h9 => ⟨⟨S_153, rfl, ⟨hTy, hFr, ⟨sp154, _, pa, ki, (MKi (sp := sp154) (sn := sn) (pa := pa) (ki := ki) hS_o rfl rfl rfl rfl rfl rfl (by omega) (by omega) (by omega) (by omega)), by omega, by omega, (fun _ => hw154), (by rw [fld_i hS_o rfl hS_rs]; exact hdg_)⟩⟩, by rw [ht]; exact hW.1, va_K.moved h9.alike hK, hW.2.1⟩, hW.2.2.F ht⟩) hW.2.2.2.2 dX12_behind_169
    · have hb1 := h1 c_38
      refine lv_aload_n hx hb dX12_behind_41 rfl (lv_at hl 0 rfl) ?_
      refine lv_bipush (v := 8) hx hb dX12_behind_42 (by decide) ?_
      refine lv_aload_n hx hb dX12_behind_44 rfl (lv_at hl 0 rfl) ?_
      refine pl_get (ci := 12) (v := .int (nI ki)) (C := RX12) (T := TX12) (N := 32) hx hb hT iX12 hown hK hW hT_o.1 hS_o rfl 6 (by decide) w1088 rfl dX12_behind_45 ?_
      refine lv_iadd hx hb dX12_behind_48 ?_
      refine lv_topi (fun z_186 ez_186 => ?_)
      obtain rfl : z_186 = nI (8 + ki) := ez_186.trans (nI_add (8) (ki))
      refine pl_callv (va_runV (As := [.int (nI (8 + ki))]) (rest := []) ⟨hx, hb, hml, hown, hT⟩ (m_newName l dC dI cy L kap pr ad S s.heap.size o (8 + ki) hTy hT_o (by omega) sp sn wr pa ki rs (MKi (sp := sp) (sn := sn) (pa := pa) (ki := ki) hS_o rfl rfl rfl rfl rfl rfl (by omega) (by omega) (by omega) (by omega)) (by omega)) (cwV 1 hT (gV w1226 w1228 ws62 w14 w1229) rfl rfl rfl (by decide +kernel) ⟨(Nat.le_of_ble_eq_true rfl), (Nat.le_of_ble_eq_true rfl)⟩) ⟨pcS.blind, pl_recv hK hW hT_o.1 hS_o rfl, pcS.pre hW.1 hK hW.2.1 hN hSTR hW.2.2⟩ rfl rfl hl.1 rfl (lv_room (Nat.le_of_ble_eq_true rfl)) dX12_behind_49 ⟨(Nat.le_of_ble_eq_true rfl), (Nat.le_of_ble_eq_true rfl)⟩) hW hA0 hA (fun S_187 H locs hrel hW => ?_)
      obtain ⟨hTy, hF1, hx1⟩ := hrel
      have hFr := hFr.tr hF1 (by decide)
      have hS_rs := hF1.at hT_x_1 (by decide) hS_rs
      obtain ⟨sp188, wr188, hM188, hpa188, hpb188, hw188⟩ := hx1
      obtain ⟨x_189, x_190, x_191, x_192, x_193, x_194, x_195, x_196, x_197, x_198, x_199, x_200, x_201, x_202, x_203, x_204, x_205, x_206, x_207, x_208, x_209, x_210, x_211, x_212, x_213, x_214, x_215, x_216, x_217, x_218, x_219, hS_o, hT_x_189, hT_x_190, hT_x_191, hT_x_192, hT_x_193, hb_x_194, hb_x_195, hb_x_196, hT_x_198, hb_q2, hb_x_199, hb_x_200, hT_x_205, hT_x_206, hb_x_207, hT_x_208, hT_x_209, hT_x_210, hT_x_211, hT_x_212, hT_x_213, hT_x_214, hT_x_215, hT_x_216, hT_x_217, hT_x_218, hb_x_219⟩ := hTy.k12 hT_o
      have hb_q2 : pr.2 ≤ 900 := hb_q2
      have hS_o : S_187 o = .inr (12, [.ref x_189, .ref x_190, .ref x_191, .ref x_192, .ref x_193, .int (nI x_194), .int (nI x_195), .int (nI x_196), .int x_197, .ref x_198, .int (nI (pr.2)), .int (nI x_199), .int (nI x_200), .int x_201, .int x_202, .int x_203, .int x_204, .ref x_205, .ref x_206, .int (nI x_207), .ref x_208, .ref x_209, .ref x_210, .ref x_211, .ref x_212, .ref x_213, .ref x_214, .ref x_215, .ref x_216, .ref x_217, .ref x_218, .int (nI x_219)]) := hS_o
      obtain ⟨e12_, e11_, e13_, e5_, e6_, e0_⟩ := MKe hM188 hS_o rfl rfl rfl rfl rfl rfl (by omega) (by omega) (by omega) (by omega)
      subst e12_ e11_ e13_ e5_ e6_ e0_
      refine lv_aload_n hx hb dX12_behind_52 rfl (lv_at hl 0 rfl) ?_
      refine lv_dup hx hb dX12_behind_53 rfl ?_
      refine pl_get (ci := 12) (v := .int (nI ki)) (C := RX12) (T := TX12) (N := 32) hx hb hT iX12 hown hK hW hT_o.1 hS_o rfl 6 (by decide) w1088 rfl dX12_behind_54 ?_
      refine lv_aload_n hx hb dX12_behind_57 rfl (lv_at hl 0 rfl) ?_
      refine pl_get (ci := 12) (v := .int wr188) (C := RX12) (T := TX12) (N := 32) hx hb hT iX12 hown hK hW hT_o.1 hS_o rfl 13 (by decide) w1095 rfl dX12_behind_58 ?_
      refine lv_if_ne (tgt := 68) hx hb dX12_behind_61 (by decide) (fun c_61 => ?_) (fun c_61 => ?_)
      · refine lv_iconst (v := 0) hx hb dX12_behind_68 (by decide) ?_
        refine lv_iadd hx hb dX12_behind_69 ?_
        refine lv_topi (fun z_220 ez_220 => ?_)
        obtain rfl : z_220 = nI (ki + 0) := ez_220.trans (nI_add (ki) (0))
        refine pl_put (ci := 12) (v := .int (nI (ki + 0))) (ty := .int) (C := RX12) (T := TX12) (N := 32) (fs' := [.ref rs, .ref x_190, .ref x_191, .ref x_192, .ref x_193, .int (nI pa), .int (nI (ki + 0)), .int (nI x_196), .int x_197, .ref x_198, .int (nI (pr.2)), .int (nI sn), .int (nI sp188), .int wr188, .int x_202, .int x_203, .int x_204, .ref x_205, .ref x_206, .int (nI x_207), .ref x_208, .ref x_209, .ref x_210, .ref x_211, .ref x_212, .ref x_213, .ref x_214, .ref x_215, .ref x_216, .ref x_217, .ref x_218, .int (nI x_219)]) hx hb hT iX12 tyX12 tyX12_ok nmX12 hown hK hW hT_o.1 hS_o rfl 6 (by decide) w1088 rfl (by decide +kernel) rfl rfl (Nat.le_of_ble_eq_true rfl) rfl dX12_behind_70 (fun H locs S_221 e1 hW => ?_)
        have hTy := hTy.u12 e1 hT_o ⟨rs, x_190, x_191, x_192, x_193, pa, ki + 0, x_196, x_197, x_198, sn, sp188, wr188, x_202, x_203, x_204, x_205, x_206, x_207, x_208, x_209, x_210, x_211, x_212, x_213, x_214, x_215, x_216, x_217, x_218, x_219, rfl, hT_x_189, hT_x_190, hT_x_191, hT_x_192, hT_x_193, (by omega), (by omega), (by omega), hT_x_198, (by show pr.2 ≤ 900; omega), (by omega), (by omega), hT_x_205, hT_x_206, (by omega), hT_x_208, hT_x_209, hT_x_210, hT_x_211, hT_x_212, hT_x_213, hT_x_214, hT_x_215, hT_x_216, hT_x_217, hT_x_218, (by omega)⟩
        have hS_rs := un e1 hT_x_189 hT_o (by decide) hS_rs
        have hws := (show wrs (.inr (12, [.ref rs, .ref x_190, .ref x_191, .ref x_192, .ref x_193, .int (nI pa), .int (nI (ki + 0)), .int (nI x_196), .int x_197, .ref x_198, .int (nI (pr.2)), .int (nI sn), .int (nI sp188), .int wr188, .int x_202, .int x_203, .int x_204, .ref x_205, .ref x_206, .int (nI x_207), .ref x_208, .ref x_209, .ref x_210, .ref x_211, .ref x_212, .ref x_213, .ref x_214, .ref x_215, .ref x_216, .ref x_217, .ref x_218, .int (nI x_219)])) = wrs (S_187 o) from by rw [hS_o]; rfl)
        have hFr := ufs hFr e1 hT_o (by decide) hws
        have hS_o := us e1
        refine lv_goto (tgt := 169) hx hb dX12_behind_73 (by decide) ?_
        exact W.vret hx hb hr (fun t ht h9 => ⟨⟨S_221, rfl, ⟨hTy, hFr, ⟨sp188, _, pa, ki + 0, (MKi (sp := sp188) (sn := sn) (pa := pa) (ki := (ki + 0)) hS_o rfl rfl rfl rfl rfl rfl (by omega) (by omega) (by omega) (by omega)), by omega, by omega, (fun h => hw188 ((fun h => h) h)), (by rw [fld_i hS_o rfl hS_rs]; exact hdg_)⟩⟩, by rw [ht]; exact hW.1, va_K.moved h9.alike hK, hW.2.1⟩, hW.2.2.F ht⟩) hW.2.2.2.2 dX12_behind_169
      · refine lv_iconst (v := 1) hx hb dX12_behind_64 (by decide) ?_
        refine lv_goto (tgt := 69) hx hb dX12_behind_65 (by decide) ?_
        refine lv_iadd hx hb dX12_behind_69 ?_
        refine lv_topi (fun z_222 ez_222 => ?_)
        obtain rfl : z_222 = nI (ki + 1) := ez_222.trans (nI_add (ki) (1))
        refine pl_put (ci := 12) (v := .int (nI (ki + 1))) (ty := .int) (C := RX12) (T := TX12) (N := 32) (fs' := [.ref rs, .ref x_190, .ref x_191, .ref x_192, .ref x_193, .int (nI pa), .int (nI (ki + 1)), .int (nI x_196), .int x_197, .ref x_198, .int (nI (pr.2)), .int (nI sn), .int (nI sp188), .int wr188, .int x_202, .int x_203, .int x_204, .ref x_205, .ref x_206, .int (nI x_207), .ref x_208, .ref x_209, .ref x_210, .ref x_211, .ref x_212, .ref x_213, .ref x_214, .ref x_215, .ref x_216, .ref x_217, .ref x_218, .int (nI x_219)]) hx hb hT iX12 tyX12 tyX12_ok nmX12 hown hK hW hT_o.1 hS_o rfl 6 (by decide) w1088 rfl (by decide +kernel) rfl rfl (Nat.le_of_ble_eq_true rfl) rfl dX12_behind_70 (fun H locs S_223 e1 hW => ?_)
        have hTy := hTy.u12 e1 hT_o ⟨rs, x_190, x_191, x_192, x_193, pa, ki + 1, x_196, x_197, x_198, sn, sp188, wr188, x_202, x_203, x_204, x_205, x_206, x_207, x_208, x_209, x_210, x_211, x_212, x_213, x_214, x_215, x_216, x_217, x_218, x_219, rfl, hT_x_189, hT_x_190, hT_x_191, hT_x_192, hT_x_193, (by omega), (by omega), (by omega), hT_x_198, (by show pr.2 ≤ 900; omega), (by omega), (by omega), hT_x_205, hT_x_206, (by omega), hT_x_208, hT_x_209, hT_x_210, hT_x_211, hT_x_212, hT_x_213, hT_x_214, hT_x_215, hT_x_216, hT_x_217, hT_x_218, (by omega)⟩
        have hS_rs := un e1 hT_x_189 hT_o (by decide) hS_rs
        have hws := (show wrs (.inr (12, [.ref rs, .ref x_190, .ref x_191, .ref x_192, .ref x_193, .int (nI pa), .int (nI (ki + 1)), .int (nI x_196), .int x_197, .ref x_198, .int (nI (pr.2)), .int (nI sn), .int (nI sp188), .int wr188, .int x_202, .int x_203, .int x_204, .ref x_205, .ref x_206, .int (nI x_207), .ref x_208, .ref x_209, .ref x_210, .ref x_211, .ref x_212, .ref x_213, .ref x_214, .ref x_215, .ref x_216, .ref x_217, .ref x_218, .int (nI x_219)])) = wrs (S_187 o) from by rw [hS_o]; rfl)
        have hFr := ufs hFr e1 hT_o (by decide) hws
        have hS_o := us e1
        refine lv_goto (tgt := 169) hx hb dX12_behind_73 (by decide) ?_
        exact W.vret hx hb hr (fun t ht h9 => ⟨⟨S_223, rfl, ⟨hTy, hFr, ⟨sp188, _, pa, ki + 1, (MKi (sp := sp188) (sn := sn) (pa := pa) (ki := (ki + 1)) hS_o rfl rfl rfl rfl rfl rfl (by omega) (by omega) (by omega) (by omega)), by omega, by omega, (fun h => hw188 ((fun h => h) h)), (by rw [fld_i hS_o rfl hS_rs]; exact hdg_)⟩⟩, by rw [ht]; exact hW.1, va_K.moved h9.alike hK, hW.2.1⟩, hW.2.2.F ht⟩) hW.2.2.2.2 dX12_behind_169
  · have hb0 := h0 c_1
    refine lv_aload_n hx hb dX12_behind_4 rfl (lv_at hl 0 rfl) ?_
    refine lv_aload_n hx hb dX12_behind_5 rfl (lv_at hl 0 rfl) ?_
    refine pl_get (ci := 12) (v := .int (nI pa)) (C := RX12) (T := TX12) (N := 32) hx hb hT iX12 hown hK hW hT_o.1 hS_o rfl 5 (by decide) w1087 rfl dX12_behind_6 ?_
    refine pl_callv (va_runV (As := [.int (nI pa)]) (rest := []) ⟨hx, hb, hml, hown, hT⟩ (m_newName l dC dI cy L kap pr ad S s.heap.size o pa hTy hT_o (by omega) sp sn wr pa ki rs (MKi (sp := sp) (sn := sn) (pa := pa) (ki := ki) hS_o rfl rfl rfl rfl rfl rfl (by omega) (by omega) (by omega) (by omega)) (by omega)) (cwV 1 hT (gV w1226 w1228 ws62 w14 w1229) rfl rfl rfl (by decide +kernel) ⟨(Nat.le_of_ble_eq_true rfl), (Nat.le_of_ble_eq_true rfl)⟩) ⟨pcS.blind, pl_recv hK hW hT_o.1 hS_o rfl, pcS.pre hW.1 hK hW.2.1 hN hSTR hW.2.2⟩ rfl rfl hl.1 rfl (lv_room (Nat.le_of_ble_eq_true rfl)) dX12_behind_9 ⟨(Nat.le_of_ble_eq_true rfl), (Nat.le_of_ble_eq_true rfl)⟩) hW hA0 hA (fun S_224 H locs hrel hW => ?_)
    obtain ⟨hTy, hF1, hx1⟩ := hrel
    have hFr := hFr.tr hF1 (by decide)
    have hS_rs := hF1.at hT_x_1 (by decide) hS_rs
    obtain ⟨sp225, wr225, hM225, hpa225, hpb225, hw225⟩ := hx1
    obtain ⟨x_226, x_227, x_228, x_229, x_230, x_231, x_232, x_233, x_234, x_235, x_236, x_237, x_238, x_239, x_240, x_241, x_242, x_243, x_244, x_245, x_246, x_247, x_248, x_249, x_250, x_251, x_252, x_253, x_254, x_255, x_256, hS_o, hT_x_226, hT_x_227, hT_x_228, hT_x_229, hT_x_230, hb_x_231, hb_x_232, hb_x_233, hT_x_235, hb_q2, hb_x_236, hb_x_237, hT_x_242, hT_x_243, hb_x_244, hT_x_245, hT_x_246, hT_x_247, hT_x_248, hT_x_249, hT_x_250, hT_x_251, hT_x_252, hT_x_253, hT_x_254, hT_x_255, hb_x_256⟩ := hTy.k12 hT_o
    have hb_q2 : pr.2 ≤ 900 := hb_q2
    have hS_o : S_224 o = .inr (12, [.ref x_226, .ref x_227, .ref x_228, .ref x_229, .ref x_230, .int (nI x_231), .int (nI x_232), .int (nI x_233), .int x_234, .ref x_235, .int (nI (pr.2)), .int (nI x_236), .int (nI x_237), .int x_238, .int x_239, .int x_240, .int x_241, .ref x_242, .ref x_243, .int (nI x_244), .ref x_245, .ref x_246, .ref x_247, .ref x_248, .ref x_249, .ref x_250, .ref x_251, .ref x_252, .ref x_253, .ref x_254, .ref x_255, .int (nI x_256)]) := hS_o
    obtain ⟨e12_, e11_, e13_, e5_, e6_, e0_⟩ := MKe hM225 hS_o rfl rfl rfl rfl rfl rfl (by omega) (by omega) (by omega) (by omega)
    subst e12_ e11_ e13_ e5_ e6_ e0_
    refine lv_aload_n hx hb dX12_behind_12 rfl (lv_at hl 0 rfl) ?_
    refine lv_dup hx hb dX12_behind_13 rfl ?_
    refine pl_get (ci := 12) (v := .int (nI pa)) (C := RX12) (T := TX12) (N := 32) hx hb hT iX12 hown hK hW hT_o.1 hS_o rfl 5 (by decide) w1087 rfl dX12_behind_14 ?_
    refine lv_aload_n hx hb dX12_behind_17 rfl (lv_at hl 0 rfl) ?_
    refine pl_get (ci := 12) (v := .int wr225) (C := RX12) (T := TX12) (N := 32) hx hb hT iX12 hown hK hW hT_o.1 hS_o rfl 13 (by decide) w1095 rfl dX12_behind_18 ?_
    refine lv_if_ne (tgt := 28) hx hb dX12_behind_21 (by decide) (fun c_21 => ?_) (fun c_21 => ?_)
    · refine lv_iconst (v := 0) hx hb dX12_behind_28 (by decide) ?_
      refine lv_iadd hx hb dX12_behind_29 ?_
      refine lv_topi (fun z_257 ez_257 => ?_)
      obtain rfl : z_257 = nI (pa + 0) := ez_257.trans (nI_add (pa) (0))
      refine pl_put (ci := 12) (v := .int (nI (pa + 0))) (ty := .int) (C := RX12) (T := TX12) (N := 32) (fs' := [.ref rs, .ref x_227, .ref x_228, .ref x_229, .ref x_230, .int (nI (pa + 0)), .int (nI ki), .int (nI x_233), .int x_234, .ref x_235, .int (nI (pr.2)), .int (nI sn), .int (nI sp225), .int wr225, .int x_239, .int x_240, .int x_241, .ref x_242, .ref x_243, .int (nI x_244), .ref x_245, .ref x_246, .ref x_247, .ref x_248, .ref x_249, .ref x_250, .ref x_251, .ref x_252, .ref x_253, .ref x_254, .ref x_255, .int (nI x_256)]) hx hb hT iX12 tyX12 tyX12_ok nmX12 hown hK hW hT_o.1 hS_o rfl 5 (by decide) w1087 rfl (by decide +kernel) rfl rfl (Nat.le_of_ble_eq_true rfl) rfl dX12_behind_30 (fun H locs S_258 e1 hW => ?_)
      have hTy := hTy.u12 e1 hT_o ⟨rs, x_227, x_228, x_229, x_230, pa + 0, ki, x_233, x_234, x_235, sn, sp225, wr225, x_239, x_240, x_241, x_242, x_243, x_244, x_245, x_246, x_247, x_248, x_249, x_250, x_251, x_252, x_253, x_254, x_255, x_256, rfl, hT_x_226, hT_x_227, hT_x_228, hT_x_229, hT_x_230, (by omega), (by omega), (by omega), hT_x_235, (by show pr.2 ≤ 900; omega), (by omega), (by omega), hT_x_242, hT_x_243, (by omega), hT_x_245, hT_x_246, hT_x_247, hT_x_248, hT_x_249, hT_x_250, hT_x_251, hT_x_252, hT_x_253, hT_x_254, hT_x_255, (by omega)⟩
      have hS_rs := un e1 hT_x_226 hT_o (by decide) hS_rs
      have hws := (show wrs (.inr (12, [.ref rs, .ref x_227, .ref x_228, .ref x_229, .ref x_230, .int (nI (pa + 0)), .int (nI ki), .int (nI x_233), .int x_234, .ref x_235, .int (nI (pr.2)), .int (nI sn), .int (nI sp225), .int wr225, .int x_239, .int x_240, .int x_241, .ref x_242, .ref x_243, .int (nI x_244), .ref x_245, .ref x_246, .ref x_247, .ref x_248, .ref x_249, .ref x_250, .ref x_251, .ref x_252, .ref x_253, .ref x_254, .ref x_255, .int (nI x_256)])) = wrs (S_224 o) from by rw [hS_o]; rfl)
      have hFr := ufs hFr e1 hT_o (by decide) hws
      have hS_o := us e1
      refine lv_goto (tgt := 169) hx hb dX12_behind_33 (by decide) ?_
      exact W.vret hx hb hr (fun t ht h9 => ⟨⟨S_258, rfl, ⟨hTy, hFr, ⟨sp225, _, pa + 0, ki, (MKi (sp := sp225) (sn := sn) (pa := (pa + 0)) (ki := ki) hS_o rfl rfl rfl rfl rfl rfl (by omega) (by omega) (by omega) (by omega)), by omega, by omega, (fun h => hw225 ((fun h => h) h)), (by rw [fld_i hS_o rfl hS_rs]; exact hdg_)⟩⟩, by rw [ht]; exact hW.1, va_K.moved h9.alike hK, hW.2.1⟩, hW.2.2.F ht⟩) hW.2.2.2.2 dX12_behind_169
    · refine lv_iconst (v := 1) hx hb dX12_behind_24 (by decide) ?_
      refine lv_goto (tgt := 29) hx hb dX12_behind_25 (by decide) ?_
      refine lv_iadd hx hb dX12_behind_29 ?_
      refine lv_topi (fun z_259 ez_259 => ?_)
      obtain rfl : z_259 = nI (pa + 1) := ez_259.trans (nI_add (pa) (1))
      refine pl_put (ci := 12) (v := .int (nI (pa + 1))) (ty := .int) (C := RX12) (T := TX12) (N := 32) (fs' := [.ref rs, .ref x_227, .ref x_228, .ref x_229, .ref x_230, .int (nI (pa + 1)), .int (nI ki), .int (nI x_233), .int x_234, .ref x_235, .int (nI (pr.2)), .int (nI sn), .int (nI sp225), .int wr225, .int x_239, .int x_240, .int x_241, .ref x_242, .ref x_243, .int (nI x_244), .ref x_245, .ref x_246, .ref x_247, .ref x_248, .ref x_249, .ref x_250, .ref x_251, .ref x_252, .ref x_253, .ref x_254, .ref x_255, .int (nI x_256)]) hx hb hT iX12 tyX12 tyX12_ok nmX12 hown hK hW hT_o.1 hS_o rfl 5 (by decide) w1087 rfl (by decide +kernel) rfl rfl (Nat.le_of_ble_eq_true rfl) rfl dX12_behind_30 (fun H locs S_260 e1 hW => ?_)
      have hTy := hTy.u12 e1 hT_o ⟨rs, x_227, x_228, x_229, x_230, pa + 1, ki, x_233, x_234, x_235, sn, sp225, wr225, x_239, x_240, x_241, x_242, x_243, x_244, x_245, x_246, x_247, x_248, x_249, x_250, x_251, x_252, x_253, x_254, x_255, x_256, rfl, hT_x_226, hT_x_227, hT_x_228, hT_x_229, hT_x_230, (by omega), (by omega), (by omega), hT_x_235, (by show pr.2 ≤ 900; omega), (by omega), (by omega), hT_x_242, hT_x_243, (by omega), hT_x_245, hT_x_246, hT_x_247, hT_x_248, hT_x_249, hT_x_250, hT_x_251, hT_x_252, hT_x_253, hT_x_254, hT_x_255, (by omega)⟩
      have hS_rs := un e1 hT_x_226 hT_o (by decide) hS_rs
      have hws := (show wrs (.inr (12, [.ref rs, .ref x_227, .ref x_228, .ref x_229, .ref x_230, .int (nI (pa + 1)), .int (nI ki), .int (nI x_233), .int x_234, .ref x_235, .int (nI (pr.2)), .int (nI sn), .int (nI sp225), .int wr225, .int x_239, .int x_240, .int x_241, .ref x_242, .ref x_243, .int (nI x_244), .ref x_245, .ref x_246, .ref x_247, .ref x_248, .ref x_249, .ref x_250, .ref x_251, .ref x_252, .ref x_253, .ref x_254, .ref x_255, .int (nI x_256)])) = wrs (S_224 o) from by rw [hS_o]; rfl)
      have hFr := ufs hFr e1 hT_o (by decide) hws
      have hS_o := us e1
      refine lv_goto (tgt := 169) hx hb dX12_behind_33 (by decide) ?_
      exact W.vret hx hb hr (fun t ht h9 => ⟨⟨S_260, rfl, ⟨hTy, hFr, ⟨sp225, _, pa + 1, ki, (MKi (sp := sp225) (sn := sn) (pa := (pa + 1)) (ki := ki) hS_o rfl rfl rfl rfl rfl rfl (by omega) (by omega) (by omega) (by omega)), by omega, by omega, (fun h => hw225 ((fun h => h) h)), (by rw [fld_i hS_o rfl hS_rs]; exact hdg_)⟩⟩, by rw [ht]; exact hW.1, va_K.moved h9.alike hK, hW.2.1⟩, hW.2.2.F ht⟩) hW.2.2.2.2 dX12_behind_169

set_option maxHeartbeats 4000000 in
set_option maxRecDepth 100000 in
theorem m_line (l : Launch) (dC : Nat → ClassId) (dI : Nat → Nat → Nat) (cy : Nat → ClassId) (L : List Nat) (kap : Nat → Nat) (pr : Pr) (ad : (Nat → Nat) × (Nat → Nat)) (S : Nat → va_E) (sz : Nat) (o : Nat) (hTy : Ty cy L kap pr S) (hT_o : TK L kap o 12) (sp : Nat) (sn : Nat) (wr : Int32) (pa : Nat) (ki : Nat) (rs : Nat) (hM : MK S o sp sn wr pa ki rs) (hsp : sp ≤ sn) (hdg : dg (fld S o 0)) : Met l yX12_lineRead (wT yX12_lineRead cX12_lineRead 3 none) ({ frames := 10, cells := 0, slots := 0, locals := 225 }) (pcS dC dI [.ref o] sz L S (cyT cy) NLs ad) (va_Qv (fun S' => Ty cy L kap pr S' ∧ Fr kap [12, 50, 53, 112] S S' ∧ (∃ sp' wr' pa' ki', MK S' o sp' sn wr' pa' ki' rs ∧ (wr' ≠ 0 ∨ (sp < sp' ∧ sp' ≤ sn)) ∧ dg (fld S' o 0))) (fun S' t => pB dC dI (AL L sz) (va_pl L S') (cyT cy) t) (AL L sz)) 0 0 (AL L sz) := by
  refine Met.ofW (cc := cX12_lineRead) (maxL := 3) (ret := none) (by decide) rfl ?_
  intro p e s m args below meth c s₁ B hml hv
  obtain ⟨rfl, hsz, hP, hK, hD0, hN, hSTR⟩ := hv
  have hx := B.exec
  have hb := B.bytes
  have hr := B.returns
  have hT : ∀ wd ∈ TB, wd.before [.ref o].toArray s = true := fun wd h => atoms_spec (ws := wT yX12_lineRead cX12_lineRead 3 none) B.pre wd (List.mem_cons_of_mem _ h)
  have hown : s.vm.findClass RX12 = some m.cls := findClass_of_methodNamed B.named
  have hlocks := B.notSynchronized
  subst hsz
  have hW : PW dC dI L (AL L s.heap.size) s.heap S s.heap [] := ⟨hP, pl_self hD0, va_S.rf⟩
  have hA0 : ∀ q, q ∈ L → AL L s.heap.size q := fun _ h => Or.inl h
  have hA : ∀ q, s.heap.size ≤ q → AL L s.heap.size q := fun _ h => Or.inr h
  have hFr : Fr kap [12, 50, 53, 112] S S := Fr.rf
  have hl := lv_entry ([.ref o]) (n := 3) (Nat.le_of_ble_eq_true rfl)
  rw [lg_entry_eq]
  generalize (lg_sl ([.ref o]) ++ List.replicate (3 - (lg_sl ([.ref o])).length) Slot.unset).toArray = ls at hl ⊢
  have hl : lv_has ls 3 [(0, .ref o)] := hl
  obtain ⟨x_1, x_2, x_3, x_4, x_5, x_6, x_7, x_8, x_9, x_10, x_11, x_12, x_13, x_14, x_15, x_16, x_17, x_18, x_19, x_20, x_21, x_22, x_23, x_24, x_25, x_26, x_27, x_28, x_29, x_30, x_31, hS_o, hT_x_1, hT_x_2, hT_x_3, hT_x_4, hT_x_5, hb_x_6, hb_x_7, hb_x_8, hT_x_10, hb_q2, hb_x_11, hb_x_12, hT_x_17, hT_x_18, hb_x_19, hT_x_20, hT_x_21, hT_x_22, hT_x_23, hT_x_24, hT_x_25, hT_x_26, hT_x_27, hT_x_28, hT_x_29, hT_x_30, hb_x_31⟩ := hTy.k12 hT_o
  have hb_q2 : pr.2 ≤ 900 := hb_q2
  have hS_o : S o = .inr (12, [.ref x_1, .ref x_2, .ref x_3, .ref x_4, .ref x_5, .int (nI x_6), .int (nI x_7), .int (nI x_8), .int x_9, .ref x_10, .int (nI (pr.2)), .int (nI x_11), .int (nI x_12), .int x_13, .int x_14, .int x_15, .int x_16, .ref x_17, .ref x_18, .int (nI x_19), .ref x_20, .ref x_21, .ref x_22, .ref x_23, .ref x_24, .ref x_25, .ref x_26, .ref x_27, .ref x_28, .ref x_29, .ref x_30, .int (nI x_31)]) := hS_o
  obtain ⟨e12_, e11_, e13_, e5_, e6_, e0_⟩ := MKe hM hS_o rfl rfl rfl rfl rfl rfl (by omega) (by omega) (by omega) (by omega)
  subst e12_ e11_ e13_ e5_ e6_ e0_
  obtain ⟨f_32, hS_rs, hi_f_32⟩ := hTy.k50 hT_x_1
  have hdg_ : dg f_32 := by have q := hdg; rw [fld_i hS_o rfl hS_rs] at q; exact q
  refine lv_aload_n hx hb dX12_lineRead_0 rfl (lv_at hl 0 rfl) ?_
  refine pl_calli (va_runV (As := []) (rest := []) ⟨hx, hb, hml, hown, hT⟩ (m_word l dC dI cy L kap pr ad S s.heap.size o hTy hT_o sp sn wr pa ki rs (MKi (sp := sp) (sn := sn) (pa := pa) (ki := ki) hS_o rfl rfl rfl rfl rfl rfl (by omega) (by omega) (by omega) (by omega)) (by omega)) (cwV 0 hT (gV w1198 w1200 ws57 w14 w1201) rfl rfl rfl (by decide +kernel) ⟨(Nat.le_of_ble_eq_true rfl), (Nat.le_of_ble_eq_true rfl)⟩) ⟨pcS.blind, pl_recv hK hW hT_o.1 hS_o rfl, pcS.pre hW.1 hK hW.2.1 hN hSTR hW.2.2⟩ rfl rfl hl.1 rfl (lv_room (Nat.le_of_ble_eq_true rfl)) dX12_lineRead_1 ⟨(Nat.le_of_ble_eq_true rfl), (Nat.le_of_ble_eq_true rfl)⟩) hW hA0 hA (fun r_34 S_33 H locs hrel hW => ?_)
  obtain ⟨hTy, hF1, hx1⟩ := hrel
  have hFr := hFr.tr hF1 (by decide)
  have hS_rs := hF1.at hT_x_1 (by decide) hS_rs
  obtain ⟨sp35, wr35, hM35, hpa35, hpb35, hw35⟩ := hx1
  obtain ⟨x_36, x_37, x_38, x_39, x_40, x_41, x_42, x_43, x_44, x_45, x_46, x_47, x_48, x_49, x_50, x_51, x_52, x_53, x_54, x_55, x_56, x_57, x_58, x_59, x_60, x_61, x_62, x_63, x_64, x_65, x_66, hS_o, hT_x_36, hT_x_37, hT_x_38, hT_x_39, hT_x_40, hb_x_41, hb_x_42, hb_x_43, hT_x_45, hb_q2, hb_x_46, hb_x_47, hT_x_52, hT_x_53, hb_x_54, hT_x_55, hT_x_56, hT_x_57, hT_x_58, hT_x_59, hT_x_60, hT_x_61, hT_x_62, hT_x_63, hT_x_64, hT_x_65, hb_x_66⟩ := hTy.k12 hT_o
  have hb_q2 : pr.2 ≤ 900 := hb_q2
  have hS_o : S_33 o = .inr (12, [.ref x_36, .ref x_37, .ref x_38, .ref x_39, .ref x_40, .int (nI x_41), .int (nI x_42), .int (nI x_43), .int x_44, .ref x_45, .int (nI (pr.2)), .int (nI x_46), .int (nI x_47), .int x_48, .int x_49, .int x_50, .int x_51, .ref x_52, .ref x_53, .int (nI x_54), .ref x_55, .ref x_56, .ref x_57, .ref x_58, .ref x_59, .ref x_60, .ref x_61, .ref x_62, .ref x_63, .ref x_64, .ref x_65, .int (nI x_66)]) := hS_o
  obtain ⟨e12_, e11_, e13_, e5_, e6_, e0_⟩ := MKe hM35 hS_o rfl rfl rfl rfl rfl rfl (by omega) (by omega) (by omega) (by omega)
  subst e12_ e11_ e13_ e5_ e6_ e0_
  refine lv_istore_n (lv' := [(1, .int r_34), (0, .ref o)]) hx hb dX12_lineRead_4 rfl hl (by decide) rfl (fun ls hl => ?_)
  refine lv_aload_n hx hb dX12_lineRead_5 rfl (lv_at hl 1 rfl) ?_
  refine pl_get (ci := 12) (v := .int (nI sp35)) (C := RX12) (T := TX12) (N := 32) hx hb hT iX12 hown hK hW hT_o.1 hS_o rfl 12 (by decide) w1094 rfl dX12_lineRead_6 ?_
  refine lv_istore_n (lv' := [(2, .int (nI sp35)), (1, .int r_34), (0, .ref o)]) hx hb dX12_lineRead_9 rfl hl (by decide) rfl (fun ls hl => ?_)
  refine lv_iload_n hx hb dX12_lineRead_10 rfl (lv_at hl 1 rfl) ?_
  refine lv_iconst (v := (-1)) hx hb dX12_lineRead_11 (by decide) ?_
  refine lv_icmp_eq (tgt := 32) hx hb dX12_lineRead_12 (by decide) (fun c_12 => ?_) (fun c_12 => ?_)
  · refine lv_aload_n hx hb dX12_lineRead_32 rfl (lv_at hl 2 rfl) ?_
    refine lv_iconst (v := 1) hx hb dX12_lineRead_33 (by decide) ?_
    refine lv_iload_n hx hb dX12_lineRead_34 rfl (lv_at hl 0 rfl) ?_
    refine pl_callv (va_runV (As := [.int 1, .int (nI sp35)]) (rest := []) ⟨hx, hb, hml, hown, hT⟩ (m_fails l dC dI cy L kap pr S_33 H.size o 1 (nI sp35) hTy hT_o sp35 sn wr35 pa ki rs (MKi (sp := sp35) (sn := sn) (pa := pa) (ki := ki) hS_o rfl rfl rfl rfl rfl rfl (by omega) (by omega) (by omega) (by omega)) (by omega) (by decide)) (cwV 2 hT (gV w1214 w1216 ws59 w14 w1217) rfl rfl rfl (by decide +kernel) ⟨(Nat.le_of_ble_eq_true rfl), (Nat.le_of_ble_eq_true rfl)⟩) ⟨pcN.blind, pl_recv hK hW hT_o.1 hS_o rfl, pcN.pre hW.1 hK hW.2.1 hN (fun q h => absurd h List.not_mem_nil)⟩ rfl rfl hl.1 rfl (lv_room (Nat.le_of_ble_eq_true rfl)) dX12_lineRead_35 ⟨(Nat.le_of_ble_eq_true rfl), (Nat.le_of_ble_eq_true rfl)⟩) hW hA0 hA (fun S_67 H locs hrel hW => ?_)
    obtain ⟨hTy, hF1, hx1⟩ := hrel
    have hFr := hFr.tr hF1 (by decide)
    have hS_rs := hF1.at hT_x_36 (by decide) hS_rs
    obtain ⟨sp68, wr68, hM68, hpa68, hpb68, hw68⟩ := hx1
    obtain ⟨x_69, x_70, x_71, x_72, x_73, x_74, x_75, x_76, x_77, x_78, x_79, x_80, x_81, x_82, x_83, x_84, x_85, x_86, x_87, x_88, x_89, x_90, x_91, x_92, x_93, x_94, x_95, x_96, x_97, x_98, x_99, hS_o, hT_x_69, hT_x_70, hT_x_71, hT_x_72, hT_x_73, hb_x_74, hb_x_75, hb_x_76, hT_x_78, hb_q2, hb_x_79, hb_x_80, hT_x_85, hT_x_86, hb_x_87, hT_x_88, hT_x_89, hT_x_90, hT_x_91, hT_x_92, hT_x_93, hT_x_94, hT_x_95, hT_x_96, hT_x_97, hT_x_98, hb_x_99⟩ := hTy.k12 hT_o
    have hb_q2 : pr.2 ≤ 900 := hb_q2
    have hS_o : S_67 o = .inr (12, [.ref x_69, .ref x_70, .ref x_71, .ref x_72, .ref x_73, .int (nI x_74), .int (nI x_75), .int (nI x_76), .int x_77, .ref x_78, .int (nI (pr.2)), .int (nI x_79), .int (nI x_80), .int x_81, .int x_82, .int x_83, .int x_84, .ref x_85, .ref x_86, .int (nI x_87), .ref x_88, .ref x_89, .ref x_90, .ref x_91, .ref x_92, .ref x_93, .ref x_94, .ref x_95, .ref x_96, .ref x_97, .ref x_98, .int (nI x_99)]) := hS_o
    obtain ⟨e12_, e11_, e13_, e5_, e6_, e0_⟩ := MKe hM68 hS_o rfl rfl rfl rfl rfl rfl (by omega) (by omega) (by omega) (by omega)
    subst e12_ e11_ e13_ e5_ e6_ e0_
    refine lv_goto (tgt := 55) hx hb dX12_lineRead_38 (by decide) ?_
    refine lv_aload_n hx hb dX12_lineRead_55 rfl (lv_at hl 2 rfl) ?_
    refine pl_get (ci := 12) (v := .int wr68) (C := RX12) (T := TX12) (N := 32) hx hb hT iX12 hown hK hW hT_o.1 hS_o rfl 13 (by decide) w1095 rfl dX12_lineRead_56 ?_
    have c_59 : ¬ wr68 = 0 := hw68
    refine lv_if_eq (tgt := 63) hx hb dX12_lineRead_59 (by decide) (fun h => absurd h c_59) (fun _ => ?_)
    exact W.vret hx hb hr (fun t ht h9 => ⟨⟨S_67, rfl, ⟨hTy, hFr, ⟨sp68, _, pa, ki, (MKi (sp := sp68) (sn := sn) (pa := pa) (ki := ki) hS_o rfl rfl rfl rfl rfl rfl (by omega) (by omega) (by omega) (by omega)), Or.inl c_59, (by rw [fld_i hS_o rfl hS_rs]; exact hdg_)⟩⟩, by rw [ht]; exact hW.1, va_K.moved h9.alike hK, hW.2.1⟩, hW.2.2.F ht⟩) hW.2.2.2.2 dX12_lineRead_62
  · refine lv_iload_n hx hb dX12_lineRead_15 rfl (lv_at hl 1 rfl) ?_
    refine lv_iconst (v := 5) hx hb dX12_lineRead_16 (by decide) ?_
    refine lv_icmp_ne (tgt := 41) hx hb dX12_lineRead_17 (by decide) (fun c_17 => ?_) (fun c_17 => ?_)
    · refine lv_aload_n hx hb dX12_lineRead_41 rfl (lv_at hl 2 rfl) ?_
      refine lv_iload_n hx hb dX12_lineRead_42 rfl (lv_at hl 1 rfl) ?_
      refine vp_callSi (va_Run.run (va_runV (As := [.int r_34]) (rest := []) ⟨hx, hb, hml, hown, hT⟩ (m_isFull l dC dI cy L kap pr S_33 H.size o r_34 hTy hT_o sp35 sn wr35 pa ki rs (MKi (sp := sp35) (sn := sn) (pa := pa) (ki := ki) hS_o rfl rfl rfl rfl rfl rfl (by omega) (by omega) (by omega) (by omega)) (by omega)) (cwV 1 hT (gV w1218 w1220 ws60 w14 w1221) rfl rfl rfl (by decide +kernel) ⟨(Nat.le_of_ble_eq_true rfl), (Nat.le_of_ble_eq_true rfl)⟩) ⟨pcN.blind, pl_recv hK hW hT_o.1 hS_o rfl, pcN.pre hW.1 hK hW.2.1 hN (fun q h => absurd h List.not_mem_nil)⟩ rfl rfl hl.1 rfl (lv_room (Nat.le_of_ble_eq_true rfl)) dX12_lineRead_43 ⟨(Nat.le_of_ble_eq_true rfl), (Nat.le_of_ble_eq_true rfl)⟩)) (fun r_100 hr_100 => ?_)
      rcases hr_100 with hc_ | hc_
      · obtain rfl : r_100 = 1 := hc_
        refine lv_if_eq (tgt := 55) hx hb dX12_lineRead_46 (by decide) (fun h => absurd h (by decide)) (fun _ => ?_)
        refine lv_aload_n hx hb dX12_lineRead_49 rfl (lv_at hl 2 rfl) ?_
        refine lv_iconst (v := 4) hx hb dX12_lineRead_50 (by decide) ?_
        refine lv_iload_n hx hb dX12_lineRead_51 rfl (lv_at hl 0 rfl) ?_
        refine pl_callv (va_runV (As := [.int 4, .int (nI sp35)]) (rest := []) ⟨hx, hb, hml, hown, hT⟩ (m_fails l dC dI cy L kap pr S_33 H.size o 4 (nI sp35) hTy hT_o sp35 sn wr35 pa ki rs (MKi (sp := sp35) (sn := sn) (pa := pa) (ki := ki) hS_o rfl rfl rfl rfl rfl rfl (by omega) (by omega) (by omega) (by omega)) (by omega) (by decide)) (cwV 2 hT (gV w1214 w1216 ws59 w14 w1217) rfl rfl rfl (by decide +kernel) ⟨(Nat.le_of_ble_eq_true rfl), (Nat.le_of_ble_eq_true rfl)⟩) ⟨pcN.blind, pl_recv hK hW hT_o.1 hS_o rfl, pcN.pre hW.1 hK hW.2.1 hN (fun q h => absurd h List.not_mem_nil)⟩ rfl rfl hl.1 rfl (lv_room (Nat.le_of_ble_eq_true rfl)) dX12_lineRead_52 ⟨(Nat.le_of_ble_eq_true rfl), (Nat.le_of_ble_eq_true rfl)⟩) hW hA0 hA (fun S_101 H locs hrel hW => ?_)
        obtain ⟨hTy, hF1, hx1⟩ := hrel
        have hFr := hFr.tr hF1 (by decide)
        have hS_rs := hF1.at hT_x_36 (by decide) hS_rs
        obtain ⟨sp102, wr102, hM102, hpa102, hpb102, hw102⟩ := hx1
        obtain ⟨x_103, x_104, x_105, x_106, x_107, x_108, x_109, x_110, x_111, x_112, x_113, x_114, x_115, x_116, x_117, x_118, x_119, x_120, x_121, x_122, x_123, x_124, x_125, x_126, x_127, x_128, x_129, x_130, x_131, x_132, x_133, hS_o, hT_x_103, hT_x_104, hT_x_105, hT_x_106, hT_x_107, hb_x_108, hb_x_109, hb_x_110, hT_x_112, hb_q2, hb_x_113, hb_x_114, hT_x_119, hT_x_120, hb_x_121, hT_x_122, hT_x_123, hT_x_124, hT_x_125, hT_x_126, hT_x_127, hT_x_128, hT_x_129, hT_x_130, hT_x_131, hT_x_132, hb_x_133⟩ := hTy.k12 hT_o
        have hb_q2 : pr.2 ≤ 900 := hb_q2
        have hS_o : S_101 o = .inr (12, [.ref x_103, .ref x_104, .ref x_105, .ref x_106, .ref x_107, .int (nI x_108), .int (nI x_109), .int (nI x_110), .int x_111, .ref x_112, .int (nI (pr.2)), .int (nI x_113), .int (nI x_114), .int x_115, .int x_116, .int x_117, .int x_118, .ref x_119, .ref x_120, .int (nI x_121), .ref x_122, .ref x_123, .ref x_124, .ref x_125, .ref x_126, .ref x_127, .ref x_128, .ref x_129, .ref x_130, .ref x_131, .ref x_132, .int (nI x_133)]) := hS_o
        obtain ⟨e12_, e11_, e13_, e5_, e6_, e0_⟩ := MKe hM102 hS_o rfl rfl rfl rfl rfl rfl (by omega) (by omega) (by omega) (by omega)
        subst e12_ e11_ e13_ e5_ e6_ e0_
        refine lv_aload_n hx hb dX12_lineRead_55 rfl (lv_at hl 2 rfl) ?_
        refine pl_get (ci := 12) (v := .int wr102) (C := RX12) (T := TX12) (N := 32) hx hb hT iX12 hown hK hW hT_o.1 hS_o rfl 13 (by decide) w1095 rfl dX12_lineRead_56 ?_
        have c_59 : ¬ wr102 = 0 := hw102
        refine lv_if_eq (tgt := 63) hx hb dX12_lineRead_59 (by decide) (fun h => absurd h c_59) (fun _ => ?_)
        exact W.vret hx hb hr (fun t ht h9 => ⟨⟨S_101, rfl, ⟨hTy, hFr, ⟨sp102, _, pa, ki, (MKi (sp := sp102) (sn := sn) (pa := pa) (ki := ki) hS_o rfl rfl rfl rfl rfl rfl (by omega) (by omega) (by omega) (by omega)), Or.inl c_59, (by rw [fld_i hS_o rfl hS_rs]; exact hdg_)⟩⟩, by rw [ht]; exact hW.1, va_K.moved h9.alike hK, hW.2.1⟩, hW.2.2.F ht⟩) hW.2.2.2.2 dX12_lineRead_62
      · obtain ⟨rfl, hfu0, hfu1, hfu2⟩ := hc_
        have hfu2 := fun h => (hfu2 h).imp (fun n q => And.intro q.1 (mnye q.2 hS_o rfl hS_rs))
        refine lv_if_eq (tgt := 55) hx hb dX12_lineRead_46 (by decide) (fun _ => ?_) (fun h => absurd (by decide) h)
        refine lv_aload_n hx hb dX12_lineRead_55 rfl (lv_at hl 2 rfl) ?_
        refine pl_get (ci := 12) (v := .int wr35) (C := RX12) (T := TX12) (N := 32) hx hb hT iX12 hown hK hW hT_o.1 hS_o rfl 13 (by decide) w1095 rfl dX12_lineRead_56 ?_
        refine lv_if_eq (tgt := 63) hx hb dX12_lineRead_59 (by decide) (fun c_59 => ?_) (fun c_59 => ?_)
        · refine lv_aload_n hx hb dX12_lineRead_63 rfl (lv_at hl 2 rfl) ?_
          refine lv_dup hx hb dX12_lineRead_64 rfl ?_
          refine pl_get (ci := 12) (v := .int x_50) (C := RX12) (T := TX12) (N := 32) hx hb hT iX12 hown hK hW hT_o.1 hS_o rfl 15 (by decide) w1097 rfl dX12_lineRead_65 ?_
          refine lv_iconst (v := 1) hx hb dX12_lineRead_68 (by decide) ?_
          refine lv_iload_n hx hb dX12_lineRead_69 rfl (lv_at hl 1 rfl) ?_
          refine lv_ishl hx hb dX12_lineRead_70 ?_
          refine lv_topi (fun z_134 ez_134 => ?_)
          refine lv_ior hx hb dX12_lineRead_71 ?_
          refine lv_topi (fun z_135 ez_135 => ?_)
          refine pl_put (ci := 12) (v := .int z_135) (ty := .int) (C := RX12) (T := TX12) (N := 32) (fs' := [.ref rs, .ref x_37, .ref x_38, .ref x_39, .ref x_40, .int (nI pa), .int (nI ki), .int (nI x_43), .int x_44, .ref x_45, .int (nI (pr.2)), .int (nI sn), .int (nI sp35), .int wr35, .int x_49, .int z_135, .int x_51, .ref x_52, .ref x_53, .int (nI x_54), .ref x_55, .ref x_56, .ref x_57, .ref x_58, .ref x_59, .ref x_60, .ref x_61, .ref x_62, .ref x_63, .ref x_64, .ref x_65, .int (nI x_66)]) hx hb hT iX12 tyX12 tyX12_ok nmX12 hown hK hW hT_o.1 hS_o rfl 15 (by decide) w1097 rfl (by decide +kernel) rfl rfl (Nat.le_of_ble_eq_true rfl) rfl dX12_lineRead_72 (fun H locs S_136 e1 hW => ?_)
          have hTy := hTy.u12 e1 hT_o ⟨rs, x_37, x_38, x_39, x_40, pa, ki, x_43, x_44, x_45, sn, sp35, wr35, x_49, z_135, x_51, x_52, x_53, x_54, x_55, x_56, x_57, x_58, x_59, x_60, x_61, x_62, x_63, x_64, x_65, x_66, rfl, hT_x_36, hT_x_37, hT_x_38, hT_x_39, hT_x_40, (by omega), (by omega), (by omega), hT_x_45, (by show pr.2 ≤ 900; omega), (by omega), (by omega), hT_x_52, hT_x_53, (by omega), hT_x_55, hT_x_56, hT_x_57, hT_x_58, hT_x_59, hT_x_60, hT_x_61, hT_x_62, hT_x_63, hT_x_64, hT_x_65, (by omega)⟩
          have hS_rs := un e1 hT_x_36 hT_o (by decide) hS_rs
          have hws := (show wrs (.inr (12, [.ref rs, .ref x_37, .ref x_38, .ref x_39, .ref x_40, .int (nI pa), .int (nI ki), .int (nI x_43), .int x_44, .ref x_45, .int (nI (pr.2)), .int (nI sn), .int (nI sp35), .int wr35, .int x_49, .int z_135, .int x_51, .ref x_52, .ref x_53, .int (nI x_54), .ref x_55, .ref x_56, .ref x_57, .ref x_58, .ref x_59, .ref x_60, .ref x_61, .ref x_62, .ref x_63, .ref x_64, .ref x_65, .int (nI x_66)])) = wrs (S_33 o) from by rw [hS_o]; rfl)
          have hFr := ufs hFr e1 hT_o (by decide) hws
          have hS_o := us e1
          refine lv_aload_n hx hb dX12_lineRead_75 rfl (lv_at hl 2 rfl) ?_
          refine lv_dup hx hb dX12_lineRead_76 rfl ?_
          refine pl_get (ci := 12) (v := .int (nI sp35)) (C := RX12) (T := TX12) (N := 32) hx hb hT iX12 hown hK hW hT_o.1 hS_o rfl 12 (by decide) w1094 rfl dX12_lineRead_77 ?_
          refine lv_aload_n hx hb dX12_lineRead_80 rfl (lv_at hl 2 rfl) ?_
          refine vp_callSi (va_Run.run (va_runV (As := []) (rest := [.int (nI sp35), .ref o]) ⟨hx, hb, hml, hown, hT⟩ (m_letters l dC dI cy L kap pr S_136 H.size o hTy hT_o sp35 sn wr35 pa ki rs (MKi (sp := sp35) (sn := sn) (pa := pa) (ki := ki) hS_o rfl rfl rfl rfl rfl rfl (by omega) (by omega) (by omega) (by omega)) (by omega)) (cwV 0 hT (gV w1207 w1209 ws58 w14 w1210) rfl rfl rfl (by decide +kernel) ⟨(Nat.le_of_ble_eq_true rfl), (Nat.le_of_ble_eq_true rfl)⟩) ⟨pcN.blind, pl_recv hK hW hT_o.1 hS_o rfl, pcN.pre hW.1 hK hW.2.1 hN (fun q h => absurd h List.not_mem_nil)⟩ rfl rfl hl.1 rfl (lv_room (Nat.le_of_ble_eq_true rfl)) dX12_lineRead_81 ⟨(Nat.le_of_ble_eq_true rfl), (Nat.le_of_ble_eq_true rfl)⟩)) (fun r_137 hr_137 => ?_)
          obtain ⟨k_138, hb_k_138, rfl⟩ := hr_137
          refine lv_iadd hx hb dX12_lineRead_84 ?_
          refine lv_topi (fun z_139 ez_139 => ?_)
          obtain rfl : z_139 = nI (sp35 + k_138) := ez_139.trans (nI_add (sp35) (k_138))
          refine pl_put (ci := 12) (v := .int (nI (sp35 + k_138))) (ty := .int) (C := RX12) (T := TX12) (N := 32) (fs' := [.ref rs, .ref x_37, .ref x_38, .ref x_39, .ref x_40, .int (nI pa), .int (nI ki), .int (nI x_43), .int x_44, .ref x_45, .int (nI (pr.2)), .int (nI sn), .int (nI (sp35 + k_138)), .int wr35, .int x_49, .int z_135, .int x_51, .ref x_52, .ref x_53, .int (nI x_54), .ref x_55, .ref x_56, .ref x_57, .ref x_58, .ref x_59, .ref x_60, .ref x_61, .ref x_62, .ref x_63, .ref x_64, .ref x_65, .int (nI x_66)]) hx hb hT iX12 tyX12 tyX12_ok nmX12 hown hK hW hT_o.1 hS_o rfl 12 (by decide) w1094 rfl (by decide +kernel) rfl rfl (Nat.le_of_ble_eq_true rfl) rfl dX12_lineRead_85 (fun H locs S_140 e1 hW => ?_)
          have hTy := hTy.u12 e1 hT_o ⟨rs, x_37, x_38, x_39, x_40, pa, ki, x_43, x_44, x_45, sn, sp35 + k_138, wr35, x_49, z_135, x_51, x_52, x_53, x_54, x_55, x_56, x_57, x_58, x_59, x_60, x_61, x_62, x_63, x_64, x_65, x_66, rfl, hT_x_36, hT_x_37, hT_x_38, hT_x_39, hT_x_40, (by omega), (by omega), (by omega), hT_x_45, (by show pr.2 ≤ 900; omega), (by omega), (by omega), hT_x_52, hT_x_53, (by omega), hT_x_55, hT_x_56, hT_x_57, hT_x_58, hT_x_59, hT_x_60, hT_x_61, hT_x_62, hT_x_63, hT_x_64, hT_x_65, (by omega)⟩
          have hS_rs := un e1 hT_x_36 hT_o (by decide) hS_rs
          have hws := (show wrs (.inr (12, [.ref rs, .ref x_37, .ref x_38, .ref x_39, .ref x_40, .int (nI pa), .int (nI ki), .int (nI x_43), .int x_44, .ref x_45, .int (nI (pr.2)), .int (nI sn), .int (nI (sp35 + k_138)), .int wr35, .int x_49, .int z_135, .int x_51, .ref x_52, .ref x_53, .int (nI x_54), .ref x_55, .ref x_56, .ref x_57, .ref x_58, .ref x_59, .ref x_60, .ref x_61, .ref x_62, .ref x_63, .ref x_64, .ref x_65, .int (nI x_66)])) = wrs (S_136 o) from by rw [hS_o]; rfl)
          have hFr := ufs hFr e1 hT_o (by decide) hws
          have hS_o := us e1
          refine lv_aload_n hx hb dX12_lineRead_88 rfl (lv_at hl 2 rfl) ?_
          refine lv_iload_n hx hb dX12_lineRead_89 rfl (lv_at hl 1 rfl) ?_
          refine pl_callv (va_runV (As := [.int r_34]) (rest := []) ⟨hx, hb, hml, hown, hT⟩ (m_behind l dC dI cy L kap pr ad S_140 H.size o r_34 hTy hT_o (sp35 + k_138) sn wr35 pa ki rs (MKi (sp := (sp35 + k_138)) (sn := sn) (pa := pa) (ki := ki) hS_o rfl rfl rfl rfl rfl rfl (by omega) (by omega) (by omega) (by omega)) (by omega) hfu0 hfu1 (fun h => (hfu2 h).imp (fun n q => And.intro q.1 (mnyi hS_o rfl hS_rs q.2))) (by rw [fld_i hS_o rfl hS_rs]; exact hdg_)) (cwV 1 hT (gV w1222 w1224 ws61 w14 w1225) rfl rfl rfl (by decide +kernel) ⟨(Nat.le_of_ble_eq_true rfl), (Nat.le_of_ble_eq_true rfl)⟩) ⟨pcS.blind, pl_recv hK hW hT_o.1 hS_o rfl, pcS.pre hW.1 hK hW.2.1 hN hSTR hW.2.2⟩ rfl rfl hl.1 rfl (lv_room (Nat.le_of_ble_eq_true rfl)) dX12_lineRead_90 ⟨(Nat.le_of_ble_eq_true rfl), (Nat.le_of_ble_eq_true rfl)⟩) hW hA0 hA (fun S_141 H locs hrel hW => ?_)
          obtain ⟨hTy, hF1, hx1⟩ := hrel
          have hFr := hFr.tr hF1 (by decide)
          obtain ⟨sp142, wr142, pa142, ki142, hM142, hpa142, hpb142, hw142, hv142⟩ := hx1
          obtain ⟨x_143, x_144, x_145, x_146, x_147, x_148, x_149, x_150, x_151, x_152, x_153, x_154, x_155, x_156, x_157, x_158, x_159, x_160, x_161, x_162, x_163, x_164, x_165, x_166, x_167, x_168, x_169, x_170, x_171, x_172, x_173, hS_o, hT_x_143, hT_x_144, hT_x_145, hT_x_146, hT_x_147, hb_x_148, hb_x_149, hb_x_150, hT_x_152, hb_q2, hb_x_153, hb_x_154, hT_x_159, hT_x_160, hb_x_161, hT_x_162, hT_x_163, hT_x_164, hT_x_165, hT_x_166, hT_x_167, hT_x_168, hT_x_169, hT_x_170, hT_x_171, hT_x_172, hb_x_173⟩ := hTy.k12 hT_o
          have hb_q2 : pr.2 ≤ 900 := hb_q2
          have hS_o : S_141 o = .inr (12, [.ref x_143, .ref x_144, .ref x_145, .ref x_146, .ref x_147, .int (nI x_148), .int (nI x_149), .int (nI x_150), .int x_151, .ref x_152, .int (nI (pr.2)), .int (nI x_153), .int (nI x_154), .int x_155, .int x_156, .int x_157, .int x_158, .ref x_159, .ref x_160, .int (nI x_161), .ref x_162, .ref x_163, .ref x_164, .ref x_165, .ref x_166, .ref x_167, .ref x_168, .ref x_169, .ref x_170, .ref x_171, .ref x_172, .int (nI x_173)]) := hS_o
          obtain ⟨e12_, e11_, e13_, e5_, e6_, e0_⟩ := MKe hM142 hS_o rfl rfl rfl rfl rfl rfl (by omega) (by omega) (by omega) (by omega)
          subst e12_ e11_ e13_ e5_ e6_ e0_
          obtain ⟨f_174, hS_rs, hi_f_174⟩ := hTy.k50 hT_x_143
          have hdg_ : dg f_174 := by have q := hv142; rw [fld_i hS_o rfl hS_rs] at q; exact q
          refine lv_aload_n hx hb dX12_lineRead_93 rfl (lv_at hl 2 rfl) ?_
          refine pl_get (ci := 12) (v := .int wr142) (C := RX12) (T := TX12) (N := 32) hx hb hT iX12 hown hK hW hT_o.1 hS_o rfl 13 (by decide) w1095 rfl dX12_lineRead_94 ?_
          refine lv_if_ne (tgt := 118) hx hb dX12_lineRead_97 (by decide) (fun c_97 => ?_) (fun c_97 => ?_)
          · refine lv_aload_n hx hb dX12_lineRead_118 rfl (lv_at hl 2 rfl) ?_
            refine lv_dup hx hb dX12_lineRead_119 rfl ?_
            refine pl_get (ci := 12) (v := .int (nI sp142)) (C := RX12) (T := TX12) (N := 32) hx hb hT iX12 hown hK hW hT_o.1 hS_o rfl 12 (by decide) w1094 rfl dX12_lineRead_120 ?_
            refine lv_iconst (v := 1) hx hb dX12_lineRead_123 (by decide) ?_
            refine lv_iadd hx hb dX12_lineRead_124 ?_
            refine lv_topi (fun z_175 ez_175 => ?_)
            obtain rfl : z_175 = nI (sp142 + 1) := ez_175.trans (nI_add (sp142) (1))
            refine pl_put (ci := 12) (v := .int (nI (sp142 + 1))) (ty := .int) (C := RX12) (T := TX12) (N := 32) (fs' := [.ref rs, .ref x_144, .ref x_145, .ref x_146, .ref x_147, .int (nI pa142), .int (nI ki142), .int (nI x_150), .int x_151, .ref x_152, .int (nI (pr.2)), .int (nI sn), .int (nI (sp142 + 1)), .int wr142, .int x_156, .int x_157, .int x_158, .ref x_159, .ref x_160, .int (nI x_161), .ref x_162, .ref x_163, .ref x_164, .ref x_165, .ref x_166, .ref x_167, .ref x_168, .ref x_169, .ref x_170, .ref x_171, .ref x_172, .int (nI x_173)]) hx hb hT iX12 tyX12 tyX12_ok nmX12 hown hK hW hT_o.1 hS_o rfl 12 (by decide) w1094 rfl (by decide +kernel) rfl rfl (Nat.le_of_ble_eq_true rfl) rfl dX12_lineRead_125 (fun H locs S_176 e1 hW => ?_)
            have hTy := hTy.u12 e1 hT_o ⟨rs, x_144, x_145, x_146, x_147, pa142, ki142, x_150, x_151, x_152, sn, sp142 + 1, wr142, x_156, x_157, x_158, x_159, x_160, x_161, x_162, x_163, x_164, x_165, x_166, x_167, x_168, x_169, x_170, x_171, x_172, x_173, rfl, hT_x_143, hT_x_144, hT_x_145, hT_x_146, hT_x_147, (by omega), (by omega), (by omega), hT_x_152, (by show pr.2 ≤ 900; omega), (by omega), (by omega), hT_x_159, hT_x_160, (by omega), hT_x_162, hT_x_163, hT_x_164, hT_x_165, hT_x_166, hT_x_167, hT_x_168, hT_x_169, hT_x_170, hT_x_171, hT_x_172, (by omega)⟩
            have hS_rs := un e1 hT_x_143 hT_o (by decide) hS_rs
            have hws := (show wrs (.inr (12, [.ref rs, .ref x_144, .ref x_145, .ref x_146, .ref x_147, .int (nI pa142), .int (nI ki142), .int (nI x_150), .int x_151, .ref x_152, .int (nI (pr.2)), .int (nI sn), .int (nI (sp142 + 1)), .int wr142, .int x_156, .int x_157, .int x_158, .ref x_159, .ref x_160, .int (nI x_161), .ref x_162, .ref x_163, .ref x_164, .ref x_165, .ref x_166, .ref x_167, .ref x_168, .ref x_169, .ref x_170, .ref x_171, .ref x_172, .int (nI x_173)])) = wrs (S_141 o) from by rw [hS_o]; rfl)
            have hFr := ufs hFr e1 hT_o (by decide) hws
            have hS_o := us e1
            exact W.vret hx hb hr (fun t ht h9 => ⟨⟨S_176, rfl, ⟨hTy, hFr, ⟨sp142 + 1, _, pa142, ki142, (MKi (sp := (sp142 + 1)) (sn := sn) (pa := pa142) (ki := ki142) hS_o rfl rfl rfl rfl rfl rfl (by omega) (by omega) (by omega) (by omega)), Or.inl c_97, (by rw [fld_i hS_o rfl hS_rs]; exact hdg_)⟩⟩, by rw [ht]; exact hW.1, va_K.moved h9.alike hK, hW.2.1⟩, hW.2.2.F ht⟩) hW.2.2.2.2 dX12_lineRead_128
          · refine lv_aload_n hx hb dX12_lineRead_100 rfl (lv_at hl 2 rfl) ?_
            refine pl_calli (va_runV (As := []) (rest := []) ⟨hx, hb, hml, hown, hT⟩ (m_peek l dC dI cy L kap pr S_141 H.size o hTy hT_o sp142 sn wr142 pa142 ki142 rs (MKi (sp := sp142) (sn := sn) (pa := pa142) (ki := ki142) hS_o rfl rfl rfl rfl rfl rfl (by omega) (by omega) (by omega) (by omega)) (by omega)) (cwV 0 hT (gV w1190 w1192 ws55 w14 w1193) rfl rfl rfl (by decide +kernel) ⟨(Nat.le_of_ble_eq_true rfl), (Nat.le_of_ble_eq_true rfl)⟩) ⟨pcN.blind, pl_recv hK hW hT_o.1 hS_o rfl, pcN.pre hW.1 hK hW.2.1 hN (fun q h => absurd h List.not_mem_nil)⟩ rfl rfl hl.1 rfl (lv_room (Nat.le_of_ble_eq_true rfl)) dX12_lineRead_101 ⟨(Nat.le_of_ble_eq_true rfl), (Nat.le_of_ble_eq_true rfl)⟩) hW hA0 hA (fun r_178 S_177 H locs hrel hW => ?_)
            obtain ⟨hTy, hF1, hx1⟩ := hrel
            have hFr := hFr.tr hF1 (by decide)
            have hS_rs := hF1.at hT_x_143 (by decide) hS_rs
            obtain ⟨sp179, wr179, hM179, hpa179, hpb179, hw179, hv179⟩ := hx1
            obtain ⟨x_180, x_181, x_182, x_183, x_184, x_185, x_186, x_187, x_188, x_189, x_190, x_191, x_192, x_193, x_194, x_195, x_196, x_197, x_198, x_199, x_200, x_201, x_202, x_203, x_204, x_205, x_206, x_207, x_208, x_209, x_210, hS_o, hT_x_180, hT_x_181, hT_x_182, hT_x_183, hT_x_184, hb_x_185, hb_x_186, hb_x_187, hT_x_189, hb_q2, hb_x_190, hb_x_191, hT_x_196, hT_x_197, hb_x_198, hT_x_199, hT_x_200, hT_x_201, hT_x_202, hT_x_203, hT_x_204, hT_x_205, hT_x_206, hT_x_207, hT_x_208, hT_x_209, hb_x_210⟩ := hTy.k12 hT_o
            have hb_q2 : pr.2 ≤ 900 := hb_q2
            have hS_o : S_177 o = .inr (12, [.ref x_180, .ref x_181, .ref x_182, .ref x_183, .ref x_184, .int (nI x_185), .int (nI x_186), .int (nI x_187), .int x_188, .ref x_189, .int (nI (pr.2)), .int (nI x_190), .int (nI x_191), .int x_192, .int x_193, .int x_194, .int x_195, .ref x_196, .ref x_197, .int (nI x_198), .ref x_199, .ref x_200, .ref x_201, .ref x_202, .ref x_203, .ref x_204, .ref x_205, .ref x_206, .ref x_207, .ref x_208, .ref x_209, .int (nI x_210)]) := hS_o
            obtain ⟨e12_, e11_, e13_, e5_, e6_, e0_⟩ := MKe hM179 hS_o rfl rfl rfl rfl rfl rfl (by omega) (by omega) (by omega) (by omega)
            subst e12_ e11_ e13_ e5_ e6_ e0_
            refine lv_bipush (v := 59) hx hb dX12_lineRead_104 (by decide) ?_
            refine lv_icmp_eq (tgt := 118) hx hb dX12_lineRead_106 (by decide) (fun c_106 => ?_) (fun c_106 => ?_)
            · have hpk := hv179.resolve_left (fun q => by rw [q] at c_106; exact absurd c_106 (by decide))
              refine lv_aload_n hx hb dX12_lineRead_118 rfl (lv_at hl 2 rfl) ?_
              refine lv_dup hx hb dX12_lineRead_119 rfl ?_
              refine pl_get (ci := 12) (v := .int (nI sp179)) (C := RX12) (T := TX12) (N := 32) hx hb hT iX12 hown hK hW hT_o.1 hS_o rfl 12 (by decide) w1094 rfl dX12_lineRead_120 ?_
              refine lv_iconst (v := 1) hx hb dX12_lineRead_123 (by decide) ?_
              refine lv_iadd hx hb dX12_lineRead_124 ?_
              refine lv_topi (fun z_211 ez_211 => ?_)
              obtain rfl : z_211 = nI (sp179 + 1) := ez_211.trans (nI_add (sp179) (1))
              refine pl_put (ci := 12) (v := .int (nI (sp179 + 1))) (ty := .int) (C := RX12) (T := TX12) (N := 32) (fs' := [.ref rs, .ref x_181, .ref x_182, .ref x_183, .ref x_184, .int (nI pa142), .int (nI ki142), .int (nI x_187), .int x_188, .ref x_189, .int (nI (pr.2)), .int (nI sn), .int (nI (sp179 + 1)), .int wr179, .int x_193, .int x_194, .int x_195, .ref x_196, .ref x_197, .int (nI x_198), .ref x_199, .ref x_200, .ref x_201, .ref x_202, .ref x_203, .ref x_204, .ref x_205, .ref x_206, .ref x_207, .ref x_208, .ref x_209, .int (nI x_210)]) hx hb hT iX12 tyX12 tyX12_ok nmX12 hown hK hW hT_o.1 hS_o rfl 12 (by decide) w1094 rfl (by decide +kernel) rfl rfl (Nat.le_of_ble_eq_true rfl) rfl dX12_lineRead_125 (fun H locs S_212 e1 hW => ?_)
              have hTy := hTy.u12 e1 hT_o ⟨rs, x_181, x_182, x_183, x_184, pa142, ki142, x_187, x_188, x_189, sn, sp179 + 1, wr179, x_193, x_194, x_195, x_196, x_197, x_198, x_199, x_200, x_201, x_202, x_203, x_204, x_205, x_206, x_207, x_208, x_209, x_210, rfl, hT_x_180, hT_x_181, hT_x_182, hT_x_183, hT_x_184, (by omega), (by omega), (by omega), hT_x_189, (by show pr.2 ≤ 900; omega), (by omega), (by omega), hT_x_196, hT_x_197, (by omega), hT_x_199, hT_x_200, hT_x_201, hT_x_202, hT_x_203, hT_x_204, hT_x_205, hT_x_206, hT_x_207, hT_x_208, hT_x_209, (by omega)⟩
              have hS_rs := un e1 hT_x_180 hT_o (by decide) hS_rs
              have hws := (show wrs (.inr (12, [.ref rs, .ref x_181, .ref x_182, .ref x_183, .ref x_184, .int (nI pa142), .int (nI ki142), .int (nI x_187), .int x_188, .ref x_189, .int (nI (pr.2)), .int (nI sn), .int (nI (sp179 + 1)), .int wr179, .int x_193, .int x_194, .int x_195, .ref x_196, .ref x_197, .int (nI x_198), .ref x_199, .ref x_200, .ref x_201, .ref x_202, .ref x_203, .ref x_204, .ref x_205, .ref x_206, .ref x_207, .ref x_208, .ref x_209, .int (nI x_210)])) = wrs (S_177 o) from by rw [hS_o]; rfl)
              have hFr := ufs hFr e1 hT_o (by decide) hws
              have hS_o := us e1
              exact W.vret hx hb hr (fun t ht h9 => ⟨⟨S_212, rfl, ⟨hTy, hFr, ⟨sp179 + 1, _, pa142, ki142, (MKi (sp := (sp179 + 1)) (sn := sn) (pa := pa142) (ki := ki142) hS_o rfl rfl rfl rfl rfl rfl (by omega) (by omega) (by omega) (by omega)), Or.inr ⟨by omega, by omega⟩, (by rw [fld_i hS_o rfl hS_rs]; exact hdg_)⟩⟩, by rw [ht]; exact hW.1, va_K.moved h9.alike hK, hW.2.1⟩, hW.2.2.F ht⟩) hW.2.2.2.2 dX12_lineRead_128
            · refine lv_aload_n hx hb dX12_lineRead_109 rfl (lv_at hl 2 rfl) ?_
              refine lv_iconst (v := 1) hx hb dX12_lineRead_110 (by decide) ?_
              refine lv_aload_n hx hb dX12_lineRead_111 rfl (lv_at hl 2 rfl) ?_
              refine pl_get (ci := 12) (v := .int (nI sp179)) (C := RX12) (T := TX12) (N := 32) hx hb hT iX12 hown hK hW hT_o.1 hS_o rfl 12 (by decide) w1094 rfl dX12_lineRead_112 ?_
              refine pl_callv (va_runV (As := [.int 1, .int (nI sp179)]) (rest := []) ⟨hx, hb, hml, hown, hT⟩ (m_fails l dC dI cy L kap pr S_177 H.size o 1 (nI sp179) hTy hT_o sp179 sn wr179 pa142 ki142 rs (MKi (sp := sp179) (sn := sn) (pa := pa142) (ki := ki142) hS_o rfl rfl rfl rfl rfl rfl (by omega) (by omega) (by omega) (by omega)) (by omega) (by decide)) (cwV 2 hT (gV w1214 w1216 ws59 w14 w1217) rfl rfl rfl (by decide +kernel) ⟨(Nat.le_of_ble_eq_true rfl), (Nat.le_of_ble_eq_true rfl)⟩) ⟨pcN.blind, pl_recv hK hW hT_o.1 hS_o rfl, pcN.pre hW.1 hK hW.2.1 hN (fun q h => absurd h List.not_mem_nil)⟩ rfl rfl hl.1 rfl (lv_room (Nat.le_of_ble_eq_true rfl)) dX12_lineRead_115 ⟨(Nat.le_of_ble_eq_true rfl), (Nat.le_of_ble_eq_true rfl)⟩) hW hA0 hA (fun S_213 H locs hrel hW => ?_)
              obtain ⟨hTy, hF1, hx1⟩ := hrel
              have hFr := hFr.tr hF1 (by decide)
              have hS_rs := hF1.at hT_x_180 (by decide) hS_rs
              obtain ⟨sp214, wr214, hM214, hpa214, hpb214, hw214⟩ := hx1
              obtain ⟨x_215, x_216, x_217, x_218, x_219, x_220, x_221, x_222, x_223, x_224, x_225, x_226, x_227, x_228, x_229, x_230, x_231, x_232, x_233, x_234, x_235, x_236, x_237, x_238, x_239, x_240, x_241, x_242, x_243, x_244, x_245, hS_o, hT_x_215, hT_x_216, hT_x_217, hT_x_218, hT_x_219, hb_x_220, hb_x_221, hb_x_222, hT_x_224, hb_q2, hb_x_225, hb_x_226, hT_x_231, hT_x_232, hb_x_233, hT_x_234, hT_x_235, hT_x_236, hT_x_237, hT_x_238, hT_x_239, hT_x_240, hT_x_241, hT_x_242, hT_x_243, hT_x_244, hb_x_245⟩ := hTy.k12 hT_o
              have hb_q2 : pr.2 ≤ 900 := hb_q2
              have hS_o : S_213 o = .inr (12, [.ref x_215, .ref x_216, .ref x_217, .ref x_218, .ref x_219, .int (nI x_220), .int (nI x_221), .int (nI x_222), .int x_223, .ref x_224, .int (nI (pr.2)), .int (nI x_225), .int (nI x_226), .int x_227, .int x_228, .int x_229, .int x_230, .ref x_231, .ref x_232, .int (nI x_233), .ref x_234, .ref x_235, .ref x_236, .ref x_237, .ref x_238, .ref x_239, .ref x_240, .ref x_241, .ref x_242, .ref x_243, .ref x_244, .int (nI x_245)]) := hS_o
              obtain ⟨e12_, e11_, e13_, e5_, e6_, e0_⟩ := MKe hM214 hS_o rfl rfl rfl rfl rfl rfl (by omega) (by omega) (by omega) (by omega)
              subst e12_ e11_ e13_ e5_ e6_ e0_
              refine lv_aload_n hx hb dX12_lineRead_118 rfl (lv_at hl 2 rfl) ?_
              refine lv_dup hx hb dX12_lineRead_119 rfl ?_
              refine pl_get (ci := 12) (v := .int (nI sp214)) (C := RX12) (T := TX12) (N := 32) hx hb hT iX12 hown hK hW hT_o.1 hS_o rfl 12 (by decide) w1094 rfl dX12_lineRead_120 ?_
              refine lv_iconst (v := 1) hx hb dX12_lineRead_123 (by decide) ?_
              refine lv_iadd hx hb dX12_lineRead_124 ?_
              refine lv_topi (fun z_246 ez_246 => ?_)
              obtain rfl : z_246 = nI (sp214 + 1) := ez_246.trans (nI_add (sp214) (1))
              refine pl_put (ci := 12) (v := .int (nI (sp214 + 1))) (ty := .int) (C := RX12) (T := TX12) (N := 32) (fs' := [.ref rs, .ref x_216, .ref x_217, .ref x_218, .ref x_219, .int (nI pa142), .int (nI ki142), .int (nI x_222), .int x_223, .ref x_224, .int (nI (pr.2)), .int (nI sn), .int (nI (sp214 + 1)), .int wr214, .int x_228, .int x_229, .int x_230, .ref x_231, .ref x_232, .int (nI x_233), .ref x_234, .ref x_235, .ref x_236, .ref x_237, .ref x_238, .ref x_239, .ref x_240, .ref x_241, .ref x_242, .ref x_243, .ref x_244, .int (nI x_245)]) hx hb hT iX12 tyX12 tyX12_ok nmX12 hown hK hW hT_o.1 hS_o rfl 12 (by decide) w1094 rfl (by decide +kernel) rfl rfl (Nat.le_of_ble_eq_true rfl) rfl dX12_lineRead_125 (fun H locs S_247 e1 hW => ?_)
              have hTy := hTy.u12 e1 hT_o ⟨rs, x_216, x_217, x_218, x_219, pa142, ki142, x_222, x_223, x_224, sn, sp214 + 1, wr214, x_228, x_229, x_230, x_231, x_232, x_233, x_234, x_235, x_236, x_237, x_238, x_239, x_240, x_241, x_242, x_243, x_244, x_245, rfl, hT_x_215, hT_x_216, hT_x_217, hT_x_218, hT_x_219, (by omega), (by omega), (by omega), hT_x_224, (by show pr.2 ≤ 900; omega), (by omega), (by omega), hT_x_231, hT_x_232, (by omega), hT_x_234, hT_x_235, hT_x_236, hT_x_237, hT_x_238, hT_x_239, hT_x_240, hT_x_241, hT_x_242, hT_x_243, hT_x_244, (by omega)⟩
              have hS_rs := un e1 hT_x_215 hT_o (by decide) hS_rs
              have hws := (show wrs (.inr (12, [.ref rs, .ref x_216, .ref x_217, .ref x_218, .ref x_219, .int (nI pa142), .int (nI ki142), .int (nI x_222), .int x_223, .ref x_224, .int (nI (pr.2)), .int (nI sn), .int (nI (sp214 + 1)), .int wr214, .int x_228, .int x_229, .int x_230, .ref x_231, .ref x_232, .int (nI x_233), .ref x_234, .ref x_235, .ref x_236, .ref x_237, .ref x_238, .ref x_239, .ref x_240, .ref x_241, .ref x_242, .ref x_243, .ref x_244, .int (nI x_245)])) = wrs (S_213 o) from by rw [hS_o]; rfl)
              have hFr := ufs hFr e1 hT_o (by decide) hws
              have hS_o := us e1
              exact W.vret hx hb hr (fun t ht h9 => ⟨⟨S_247, rfl, ⟨hTy, hFr, ⟨sp214 + 1, _, pa142, ki142, (MKi (sp := (sp214 + 1)) (sn := sn) (pa := pa142) (ki := ki142) hS_o rfl rfl rfl rfl rfl rfl (by omega) (by omega) (by omega) (by omega)), Or.inl hw214, (by rw [fld_i hS_o rfl hS_rs]; exact hdg_)⟩⟩, by rw [ht]; exact hW.1, va_K.moved h9.alike hK, hW.2.1⟩, hW.2.2.F ht⟩) hW.2.2.2.2 dX12_lineRead_128
        · exact W.vret hx hb hr (fun t ht h9 => ⟨⟨S_33, rfl, ⟨hTy, hFr, ⟨sp35, _, pa, ki, (MKi (sp := sp35) (sn := sn) (pa := pa) (ki := ki) hS_o rfl rfl rfl rfl rfl rfl (by omega) (by omega) (by omega) (by omega)), Or.inl c_59, (by rw [fld_i hS_o rfl hS_rs]; exact hdg_)⟩⟩, by rw [ht]; exact hW.1, va_K.moved h9.alike hK, hW.2.1⟩, hW.2.2.F ht⟩) hW.2.2.2.2 dX12_lineRead_62
    · refine lv_aload_n hx hb dX12_lineRead_20 rfl (lv_at hl 2 rfl) ?_
      refine pl_get (ci := 12) (v := .int x_50) (C := RX12) (T := TX12) (N := 32) hx hb hT iX12 hown hK hW hT_o.1 hS_o rfl 15 (by decide) w1097 rfl dX12_lineRead_21 ?_
      refine lv_iconst (v := 5) hx hb dX12_lineRead_24 (by decide) ?_
      refine lv_ishr hx hb dX12_lineRead_25 ?_
      refine lv_topi (fun z_248 ez_248 => ?_)
      refine lv_iconst (v := 1) hx hb dX12_lineRead_26 (by decide) ?_
      refine lv_iand hx hb dX12_lineRead_27 ?_
      refine lv_topi (fun z_249 ez_249 => ?_)
      refine lv_iconst (v := 1) hx hb dX12_lineRead_28 (by decide) ?_
      refine lv_icmp_ne (tgt := 41) hx hb dX12_lineRead_29 (by decide) (fun c_29 => ?_) (fun c_29 => ?_)
      · refine lv_aload_n hx hb dX12_lineRead_41 rfl (lv_at hl 2 rfl) ?_
        refine lv_iload_n hx hb dX12_lineRead_42 rfl (lv_at hl 1 rfl) ?_
        refine vp_callSi (va_Run.run (va_runV (As := [.int r_34]) (rest := []) ⟨hx, hb, hml, hown, hT⟩ (m_isFull l dC dI cy L kap pr S_33 H.size o r_34 hTy hT_o sp35 sn wr35 pa ki rs (MKi (sp := sp35) (sn := sn) (pa := pa) (ki := ki) hS_o rfl rfl rfl rfl rfl rfl (by omega) (by omega) (by omega) (by omega)) (by omega)) (cwV 1 hT (gV w1218 w1220 ws60 w14 w1221) rfl rfl rfl (by decide +kernel) ⟨(Nat.le_of_ble_eq_true rfl), (Nat.le_of_ble_eq_true rfl)⟩) ⟨pcN.blind, pl_recv hK hW hT_o.1 hS_o rfl, pcN.pre hW.1 hK hW.2.1 hN (fun q h => absurd h List.not_mem_nil)⟩ rfl rfl hl.1 rfl (lv_room (Nat.le_of_ble_eq_true rfl)) dX12_lineRead_43 ⟨(Nat.le_of_ble_eq_true rfl), (Nat.le_of_ble_eq_true rfl)⟩)) (fun r_250 hr_250 => ?_)
        rcases hr_250 with hc_ | hc_
        · obtain rfl : r_250 = 1 := hc_
          refine lv_if_eq (tgt := 55) hx hb dX12_lineRead_46 (by decide) (fun h => absurd h (by decide)) (fun _ => ?_)
          refine lv_aload_n hx hb dX12_lineRead_49 rfl (lv_at hl 2 rfl) ?_
          refine lv_iconst (v := 4) hx hb dX12_lineRead_50 (by decide) ?_
          refine lv_iload_n hx hb dX12_lineRead_51 rfl (lv_at hl 0 rfl) ?_
          refine pl_callv (va_runV (As := [.int 4, .int (nI sp35)]) (rest := []) ⟨hx, hb, hml, hown, hT⟩ (m_fails l dC dI cy L kap pr S_33 H.size o 4 (nI sp35) hTy hT_o sp35 sn wr35 pa ki rs (MKi (sp := sp35) (sn := sn) (pa := pa) (ki := ki) hS_o rfl rfl rfl rfl rfl rfl (by omega) (by omega) (by omega) (by omega)) (by omega) (by decide)) (cwV 2 hT (gV w1214 w1216 ws59 w14 w1217) rfl rfl rfl (by decide +kernel) ⟨(Nat.le_of_ble_eq_true rfl), (Nat.le_of_ble_eq_true rfl)⟩) ⟨pcN.blind, pl_recv hK hW hT_o.1 hS_o rfl, pcN.pre hW.1 hK hW.2.1 hN (fun q h => absurd h List.not_mem_nil)⟩ rfl rfl hl.1 rfl (lv_room (Nat.le_of_ble_eq_true rfl)) dX12_lineRead_52 ⟨(Nat.le_of_ble_eq_true rfl), (Nat.le_of_ble_eq_true rfl)⟩) hW hA0 hA (fun S_251 H locs hrel hW => ?_)
          obtain ⟨hTy, hF1, hx1⟩ := hrel
          have hFr := hFr.tr hF1 (by decide)
          have hS_rs := hF1.at hT_x_36 (by decide) hS_rs
          obtain ⟨sp252, wr252, hM252, hpa252, hpb252, hw252⟩ := hx1
          obtain ⟨x_253, x_254, x_255, x_256, x_257, x_258, x_259, x_260, x_261, x_262, x_263, x_264, x_265, x_266, x_267, x_268, x_269, x_270, x_271, x_272, x_273, x_274, x_275, x_276, x_277, x_278, x_279, x_280, x_281, x_282, x_283, hS_o, hT_x_253, hT_x_254, hT_x_255, hT_x_256, hT_x_257, hb_x_258, hb_x_259, hb_x_260, hT_x_262, hb_q2, hb_x_263, hb_x_264, hT_x_269, hT_x_270, hb_x_271, hT_x_272, hT_x_273, hT_x_274, hT_x_275, hT_x_276, hT_x_277, hT_x_278, hT_x_279, hT_x_280, hT_x_281, hT_x_282, hb_x_283⟩ := hTy.k12 hT_o
          have hb_q2 : pr.2 ≤ 900 := hb_q2
          have hS_o : S_251 o = .inr (12, [.ref x_253, .ref x_254, .ref x_255, .ref x_256, .ref x_257, .int (nI x_258), .int (nI x_259), .int (nI x_260), .int x_261, .ref x_262, .int (nI (pr.2)), .int (nI x_263), .int (nI x_264), .int x_265, .int x_266, .int x_267, .int x_268, .ref x_269, .ref x_270, .int (nI x_271), .ref x_272, .ref x_273, .ref x_274, .ref x_275, .ref x_276, .ref x_277, .ref x_278, .ref x_279, .ref x_280, .ref x_281, .ref x_282, .int (nI x_283)]) := hS_o
          obtain ⟨e12_, e11_, e13_, e5_, e6_, e0_⟩ := MKe hM252 hS_o rfl rfl rfl rfl rfl rfl (by omega) (by omega) (by omega) (by omega)
          subst e12_ e11_ e13_ e5_ e6_ e0_
          refine lv_aload_n hx hb dX12_lineRead_55 rfl (lv_at hl 2 rfl) ?_
          refine pl_get (ci := 12) (v := .int wr252) (C := RX12) (T := TX12) (N := 32) hx hb hT iX12 hown hK hW hT_o.1 hS_o rfl 13 (by decide) w1095 rfl dX12_lineRead_56 ?_
          have c_59 : ¬ wr252 = 0 := hw252
          refine lv_if_eq (tgt := 63) hx hb dX12_lineRead_59 (by decide) (fun h => absurd h c_59) (fun _ => ?_)
          exact W.vret hx hb hr (fun t ht h9 => ⟨⟨S_251, rfl, ⟨hTy, hFr, ⟨sp252, _, pa, ki, (MKi (sp := sp252) (sn := sn) (pa := pa) (ki := ki) hS_o rfl rfl rfl rfl rfl rfl (by omega) (by omega) (by omega) (by omega)), Or.inl c_59, (by rw [fld_i hS_o rfl hS_rs]; exact hdg_)⟩⟩, by rw [ht]; exact hW.1, va_K.moved h9.alike hK, hW.2.1⟩, hW.2.2.F ht⟩) hW.2.2.2.2 dX12_lineRead_62
        · obtain ⟨rfl, hfu0, hfu1, hfu2⟩ := hc_
          have hfu2 := fun h => (hfu2 h).imp (fun n q => And.intro q.1 (mnye q.2 hS_o rfl hS_rs))
          refine lv_if_eq (tgt := 55) hx hb dX12_lineRead_46 (by decide) (fun _ => ?_) (fun h => absurd (by decide) h)
          refine lv_aload_n hx hb dX12_lineRead_55 rfl (lv_at hl 2 rfl) ?_
          refine pl_get (ci := 12) (v := .int wr35) (C := RX12) (T := TX12) (N := 32) hx hb hT iX12 hown hK hW hT_o.1 hS_o rfl 13 (by decide) w1095 rfl dX12_lineRead_56 ?_
          refine lv_if_eq (tgt := 63) hx hb dX12_lineRead_59 (by decide) (fun c_59 => ?_) (fun c_59 => ?_)
          · refine lv_aload_n hx hb dX12_lineRead_63 rfl (lv_at hl 2 rfl) ?_
            refine lv_dup hx hb dX12_lineRead_64 rfl ?_
            refine pl_get (ci := 12) (v := .int x_50) (C := RX12) (T := TX12) (N := 32) hx hb hT iX12 hown hK hW hT_o.1 hS_o rfl 15 (by decide) w1097 rfl dX12_lineRead_65 ?_
            refine lv_iconst (v := 1) hx hb dX12_lineRead_68 (by decide) ?_
            refine lv_iload_n hx hb dX12_lineRead_69 rfl (lv_at hl 1 rfl) ?_
            refine lv_ishl hx hb dX12_lineRead_70 ?_
            refine lv_topi (fun z_284 ez_284 => ?_)
            refine lv_ior hx hb dX12_lineRead_71 ?_
            refine lv_topi (fun z_285 ez_285 => ?_)
            refine pl_put (ci := 12) (v := .int z_285) (ty := .int) (C := RX12) (T := TX12) (N := 32) (fs' := [.ref rs, .ref x_37, .ref x_38, .ref x_39, .ref x_40, .int (nI pa), .int (nI ki), .int (nI x_43), .int x_44, .ref x_45, .int (nI (pr.2)), .int (nI sn), .int (nI sp35), .int wr35, .int x_49, .int z_285, .int x_51, .ref x_52, .ref x_53, .int (nI x_54), .ref x_55, .ref x_56, .ref x_57, .ref x_58, .ref x_59, .ref x_60, .ref x_61, .ref x_62, .ref x_63, .ref x_64, .ref x_65, .int (nI x_66)]) hx hb hT iX12 tyX12 tyX12_ok nmX12 hown hK hW hT_o.1 hS_o rfl 15 (by decide) w1097 rfl (by decide +kernel) rfl rfl (Nat.le_of_ble_eq_true rfl) rfl dX12_lineRead_72 (fun H locs S_286 e1 hW => ?_)
            have hTy := hTy.u12 e1 hT_o ⟨rs, x_37, x_38, x_39, x_40, pa, ki, x_43, x_44, x_45, sn, sp35, wr35, x_49, z_285, x_51, x_52, x_53, x_54, x_55, x_56, x_57, x_58, x_59, x_60, x_61, x_62, x_63, x_64, x_65, x_66, rfl, hT_x_36, hT_x_37, hT_x_38, hT_x_39, hT_x_40, (by omega), (by omega), (by omega), hT_x_45, (by show pr.2 ≤ 900; omega), (by omega), (by omega), hT_x_52, hT_x_53, (by omega), hT_x_55, hT_x_56, hT_x_57, hT_x_58, hT_x_59, hT_x_60, hT_x_61, hT_x_62, hT_x_63, hT_x_64, hT_x_65, (by omega)⟩
            have hS_rs := un e1 hT_x_36 hT_o (by decide) hS_rs
            have hws := (show wrs (.inr (12, [.ref rs, .ref x_37, .ref x_38, .ref x_39, .ref x_40, .int (nI pa), .int (nI ki), .int (nI x_43), .int x_44, .ref x_45, .int (nI (pr.2)), .int (nI sn), .int (nI sp35), .int wr35, .int x_49, .int z_285, .int x_51, .ref x_52, .ref x_53, .int (nI x_54), .ref x_55, .ref x_56, .ref x_57, .ref x_58, .ref x_59, .ref x_60, .ref x_61, .ref x_62, .ref x_63, .ref x_64, .ref x_65, .int (nI x_66)])) = wrs (S_33 o) from by rw [hS_o]; rfl)
            have hFr := ufs hFr e1 hT_o (by decide) hws
            have hS_o := us e1
            refine lv_aload_n hx hb dX12_lineRead_75 rfl (lv_at hl 2 rfl) ?_
            refine lv_dup hx hb dX12_lineRead_76 rfl ?_
            refine pl_get (ci := 12) (v := .int (nI sp35)) (C := RX12) (T := TX12) (N := 32) hx hb hT iX12 hown hK hW hT_o.1 hS_o rfl 12 (by decide) w1094 rfl dX12_lineRead_77 ?_
            refine lv_aload_n hx hb dX12_lineRead_80 rfl (lv_at hl 2 rfl) ?_
            refine vp_callSi (va_Run.run (va_runV (As := []) (rest := [.int (nI sp35), .ref o]) ⟨hx, hb, hml, hown, hT⟩ (m_letters l dC dI cy L kap pr S_286 H.size o hTy hT_o sp35 sn wr35 pa ki rs (MKi (sp := sp35) (sn := sn) (pa := pa) (ki := ki) hS_o rfl rfl rfl rfl rfl rfl (by omega) (by omega) (by omega) (by omega)) (by omega)) (cwV 0 hT (gV w1207 w1209 ws58 w14 w1210) rfl rfl rfl (by decide +kernel) ⟨(Nat.le_of_ble_eq_true rfl), (Nat.le_of_ble_eq_true rfl)⟩) ⟨pcN.blind, pl_recv hK hW hT_o.1 hS_o rfl, pcN.pre hW.1 hK hW.2.1 hN (fun q h => absurd h List.not_mem_nil)⟩ rfl rfl hl.1 rfl (lv_room (Nat.le_of_ble_eq_true rfl)) dX12_lineRead_81 ⟨(Nat.le_of_ble_eq_true rfl), (Nat.le_of_ble_eq_true rfl)⟩)) (fun r_287 hr_287 => ?_)
            obtain ⟨k_288, hb_k_288, rfl⟩ := hr_287
            refine lv_iadd hx hb dX12_lineRead_84 ?_
            refine lv_topi (fun z_289 ez_289 => ?_)
            obtain rfl : z_289 = nI (sp35 + k_288) := ez_289.trans (nI_add (sp35) (k_288))
            refine pl_put (ci := 12) (v := .int (nI (sp35 + k_288))) (ty := .int) (C := RX12) (T := TX12) (N := 32) (fs' := [.ref rs, .ref x_37, .ref x_38, .ref x_39, .ref x_40, .int (nI pa), .int (nI ki), .int (nI x_43), .int x_44, .ref x_45, .int (nI (pr.2)), .int (nI sn), .int (nI (sp35 + k_288)), .int wr35, .int x_49, .int z_285, .int x_51, .ref x_52, .ref x_53, .int (nI x_54), .ref x_55, .ref x_56, .ref x_57, .ref x_58, .ref x_59, .ref x_60, .ref x_61, .ref x_62, .ref x_63, .ref x_64, .ref x_65, .int (nI x_66)]) hx hb hT iX12 tyX12 tyX12_ok nmX12 hown hK hW hT_o.1 hS_o rfl 12 (by decide) w1094 rfl (by decide +kernel) rfl rfl (Nat.le_of_ble_eq_true rfl) rfl dX12_lineRead_85 (fun H locs S_290 e1 hW => ?_)
            have hTy := hTy.u12 e1 hT_o ⟨rs, x_37, x_38, x_39, x_40, pa, ki, x_43, x_44, x_45, sn, sp35 + k_288, wr35, x_49, z_285, x_51, x_52, x_53, x_54, x_55, x_56, x_57, x_58, x_59, x_60, x_61, x_62, x_63, x_64, x_65, x_66, rfl, hT_x_36, hT_x_37, hT_x_38, hT_x_39, hT_x_40, (by omega), (by omega), (by omega), hT_x_45, (by show pr.2 ≤ 900; omega), (by omega), (by omega), hT_x_52, hT_x_53, (by omega), hT_x_55, hT_x_56, hT_x_57, hT_x_58, hT_x_59, hT_x_60, hT_x_61, hT_x_62, hT_x_63, hT_x_64, hT_x_65, (by omega)⟩
            have hS_rs := un e1 hT_x_36 hT_o (by decide) hS_rs
            have hws := (show wrs (.inr (12, [.ref rs, .ref x_37, .ref x_38, .ref x_39, .ref x_40, .int (nI pa), .int (nI ki), .int (nI x_43), .int x_44, .ref x_45, .int (nI (pr.2)), .int (nI sn), .int (nI (sp35 + k_288)), .int wr35, .int x_49, .int z_285, .int x_51, .ref x_52, .ref x_53, .int (nI x_54), .ref x_55, .ref x_56, .ref x_57, .ref x_58, .ref x_59, .ref x_60, .ref x_61, .ref x_62, .ref x_63, .ref x_64, .ref x_65, .int (nI x_66)])) = wrs (S_286 o) from by rw [hS_o]; rfl)
            have hFr := ufs hFr e1 hT_o (by decide) hws
            have hS_o := us e1
            refine lv_aload_n hx hb dX12_lineRead_88 rfl (lv_at hl 2 rfl) ?_
            refine lv_iload_n hx hb dX12_lineRead_89 rfl (lv_at hl 1 rfl) ?_
            refine pl_callv (va_runV (As := [.int r_34]) (rest := []) ⟨hx, hb, hml, hown, hT⟩ (m_behind l dC dI cy L kap pr ad S_290 H.size o r_34 hTy hT_o (sp35 + k_288) sn wr35 pa ki rs (MKi (sp := (sp35 + k_288)) (sn := sn) (pa := pa) (ki := ki) hS_o rfl rfl rfl rfl rfl rfl (by omega) (by omega) (by omega) (by omega)) (by omega) hfu0 hfu1 (fun h => (hfu2 h).imp (fun n q => And.intro q.1 (mnyi hS_o rfl hS_rs q.2))) (by rw [fld_i hS_o rfl hS_rs]; exact hdg_)) (cwV 1 hT (gV w1222 w1224 ws61 w14 w1225) rfl rfl rfl (by decide +kernel) ⟨(Nat.le_of_ble_eq_true rfl), (Nat.le_of_ble_eq_true rfl)⟩) ⟨pcS.blind, pl_recv hK hW hT_o.1 hS_o rfl, pcS.pre hW.1 hK hW.2.1 hN hSTR hW.2.2⟩ rfl rfl hl.1 rfl (lv_room (Nat.le_of_ble_eq_true rfl)) dX12_lineRead_90 ⟨(Nat.le_of_ble_eq_true rfl), (Nat.le_of_ble_eq_true rfl)⟩) hW hA0 hA (fun S_291 H locs hrel hW => ?_)
            obtain ⟨hTy, hF1, hx1⟩ := hrel
            have hFr := hFr.tr hF1 (by decide)
            obtain ⟨sp292, wr292, pa292, ki292, hM292, hpa292, hpb292, hw292, hv292⟩ := hx1
            obtain ⟨x_293, x_294, x_295, x_296, x_297, x_298, x_299, x_300, x_301, x_302, x_303, x_304, x_305, x_306, x_307, x_308, x_309, x_310, x_311, x_312, x_313, x_314, x_315, x_316, x_317, x_318, x_319, x_320, x_321, x_322, x_323, hS_o, hT_x_293, hT_x_294, hT_x_295, hT_x_296, hT_x_297, hb_x_298, hb_x_299, hb_x_300, hT_x_302, hb_q2, hb_x_303, hb_x_304, hT_x_309, hT_x_310, hb_x_311, hT_x_312, hT_x_313, hT_x_314, hT_x_315, hT_x_316, hT_x_317, hT_x_318, hT_x_319, hT_x_320, hT_x_321, hT_x_322, hb_x_323⟩ := hTy.k12 hT_o
            have hb_q2 : pr.2 ≤ 900 := hb_q2
            have hS_o : S_291 o = .inr (12, [.ref x_293, .ref x_294, .ref x_295, .ref x_296, .ref x_297, .int (nI x_298), .int (nI x_299), .int (nI x_300), .int x_301, .ref x_302, .int (nI (pr.2)), .int (nI x_303), .int (nI x_304), .int x_305, .int x_306, .int x_307, .int x_308, .ref x_309, .ref x_310, .int (nI x_311), .ref x_312, .ref x_313, .ref x_314, .ref x_315, .ref x_316, .ref x_317, .ref x_318, .ref x_319, .ref x_320, .ref x_321, .ref x_322, .int (nI x_323)]) := hS_o
            obtain ⟨e12_, e11_, e13_, e5_, e6_, e0_⟩ := MKe hM292 hS_o rfl rfl rfl rfl rfl rfl (by omega) (by omega) (by omega) (by omega)
            subst e12_ e11_ e13_ e5_ e6_ e0_
            obtain ⟨f_324, hS_rs, hi_f_324⟩ := hTy.k50 hT_x_293
            have hdg_ : dg f_324 := by have q := hv292; rw [fld_i hS_o rfl hS_rs] at q; exact q
            refine lv_aload_n hx hb dX12_lineRead_93 rfl (lv_at hl 2 rfl) ?_
            refine pl_get (ci := 12) (v := .int wr292) (C := RX12) (T := TX12) (N := 32) hx hb hT iX12 hown hK hW hT_o.1 hS_o rfl 13 (by decide) w1095 rfl dX12_lineRead_94 ?_
            refine lv_if_ne (tgt := 118) hx hb dX12_lineRead_97 (by decide) (fun c_97 => ?_) (fun c_97 => ?_)
            · refine lv_aload_n hx hb dX12_lineRead_118 rfl (lv_at hl 2 rfl) ?_
              refine lv_dup hx hb dX12_lineRead_119 rfl ?_
              refine pl_get (ci := 12) (v := .int (nI sp292)) (C := RX12) (T := TX12) (N := 32) hx hb hT iX12 hown hK hW hT_o.1 hS_o rfl 12 (by decide) w1094 rfl dX12_lineRead_120 ?_
              refine lv_iconst (v := 1) hx hb dX12_lineRead_123 (by decide) ?_
              refine lv_iadd hx hb dX12_lineRead_124 ?_
              refine lv_topi (fun z_325 ez_325 => ?_)
              obtain rfl : z_325 = nI (sp292 + 1) := ez_325.trans (nI_add (sp292) (1))
              refine pl_put (ci := 12) (v := .int (nI (sp292 + 1))) (ty := .int) (C := RX12) (T := TX12) (N := 32) (fs' := [.ref rs, .ref x_294, .ref x_295, .ref x_296, .ref x_297, .int (nI pa292), .int (nI ki292), .int (nI x_300), .int x_301, .ref x_302, .int (nI (pr.2)), .int (nI sn), .int (nI (sp292 + 1)), .int wr292, .int x_306, .int x_307, .int x_308, .ref x_309, .ref x_310, .int (nI x_311), .ref x_312, .ref x_313, .ref x_314, .ref x_315, .ref x_316, .ref x_317, .ref x_318, .ref x_319, .ref x_320, .ref x_321, .ref x_322, .int (nI x_323)]) hx hb hT iX12 tyX12 tyX12_ok nmX12 hown hK hW hT_o.1 hS_o rfl 12 (by decide) w1094 rfl (by decide +kernel) rfl rfl (Nat.le_of_ble_eq_true rfl) rfl dX12_lineRead_125 (fun H locs S_326 e1 hW => ?_)
              have hTy := hTy.u12 e1 hT_o ⟨rs, x_294, x_295, x_296, x_297, pa292, ki292, x_300, x_301, x_302, sn, sp292 + 1, wr292, x_306, x_307, x_308, x_309, x_310, x_311, x_312, x_313, x_314, x_315, x_316, x_317, x_318, x_319, x_320, x_321, x_322, x_323, rfl, hT_x_293, hT_x_294, hT_x_295, hT_x_296, hT_x_297, (by omega), (by omega), (by omega), hT_x_302, (by show pr.2 ≤ 900; omega), (by omega), (by omega), hT_x_309, hT_x_310, (by omega), hT_x_312, hT_x_313, hT_x_314, hT_x_315, hT_x_316, hT_x_317, hT_x_318, hT_x_319, hT_x_320, hT_x_321, hT_x_322, (by omega)⟩
              have hS_rs := un e1 hT_x_293 hT_o (by decide) hS_rs
              have hws := (show wrs (.inr (12, [.ref rs, .ref x_294, .ref x_295, .ref x_296, .ref x_297, .int (nI pa292), .int (nI ki292), .int (nI x_300), .int x_301, .ref x_302, .int (nI (pr.2)), .int (nI sn), .int (nI (sp292 + 1)), .int wr292, .int x_306, .int x_307, .int x_308, .ref x_309, .ref x_310, .int (nI x_311), .ref x_312, .ref x_313, .ref x_314, .ref x_315, .ref x_316, .ref x_317, .ref x_318, .ref x_319, .ref x_320, .ref x_321, .ref x_322, .int (nI x_323)])) = wrs (S_291 o) from by rw [hS_o]; rfl)
              have hFr := ufs hFr e1 hT_o (by decide) hws
              have hS_o := us e1
              exact W.vret hx hb hr (fun t ht h9 => ⟨⟨S_326, rfl, ⟨hTy, hFr, ⟨sp292 + 1, _, pa292, ki292, (MKi (sp := (sp292 + 1)) (sn := sn) (pa := pa292) (ki := ki292) hS_o rfl rfl rfl rfl rfl rfl (by omega) (by omega) (by omega) (by omega)), Or.inl c_97, (by rw [fld_i hS_o rfl hS_rs]; exact hdg_)⟩⟩, by rw [ht]; exact hW.1, va_K.moved h9.alike hK, hW.2.1⟩, hW.2.2.F ht⟩) hW.2.2.2.2 dX12_lineRead_128
            · refine lv_aload_n hx hb dX12_lineRead_100 rfl (lv_at hl 2 rfl) ?_
              refine pl_calli (va_runV (As := []) (rest := []) ⟨hx, hb, hml, hown, hT⟩ (m_peek l dC dI cy L kap pr S_291 H.size o hTy hT_o sp292 sn wr292 pa292 ki292 rs (MKi (sp := sp292) (sn := sn) (pa := pa292) (ki := ki292) hS_o rfl rfl rfl rfl rfl rfl (by omega) (by omega) (by omega) (by omega)) (by omega)) (cwV 0 hT (gV w1190 w1192 ws55 w14 w1193) rfl rfl rfl (by decide +kernel) ⟨(Nat.le_of_ble_eq_true rfl), (Nat.le_of_ble_eq_true rfl)⟩) ⟨pcN.blind, pl_recv hK hW hT_o.1 hS_o rfl, pcN.pre hW.1 hK hW.2.1 hN (fun q h => absurd h List.not_mem_nil)⟩ rfl rfl hl.1 rfl (lv_room (Nat.le_of_ble_eq_true rfl)) dX12_lineRead_101 ⟨(Nat.le_of_ble_eq_true rfl), (Nat.le_of_ble_eq_true rfl)⟩) hW hA0 hA (fun r_328 S_327 H locs hrel hW => ?_)
              obtain ⟨hTy, hF1, hx1⟩ := hrel
              have hFr := hFr.tr hF1 (by decide)
              have hS_rs := hF1.at hT_x_293 (by decide) hS_rs
              obtain ⟨sp329, wr329, hM329, hpa329, hpb329, hw329, hv329⟩ := hx1
              obtain ⟨x_330, x_331, x_332, x_333, x_334, x_335, x_336, x_337, x_338, x_339, x_340, x_341, x_342, x_343, x_344, x_345, x_346, x_347, x_348, x_349, x_350, x_351, x_352, x_353, x_354, x_355, x_356, x_357, x_358, x_359, x_360, hS_o, hT_x_330, hT_x_331, hT_x_332, hT_x_333, hT_x_334, hb_x_335, hb_x_336, hb_x_337, hT_x_339, hb_q2, hb_x_340, hb_x_341, hT_x_346, hT_x_347, hb_x_348, hT_x_349, hT_x_350, hT_x_351, hT_x_352, hT_x_353, hT_x_354, hT_x_355, hT_x_356, hT_x_357, hT_x_358, hT_x_359, hb_x_360⟩ := hTy.k12 hT_o
              have hb_q2 : pr.2 ≤ 900 := hb_q2
              have hS_o : S_327 o = .inr (12, [.ref x_330, .ref x_331, .ref x_332, .ref x_333, .ref x_334, .int (nI x_335), .int (nI x_336), .int (nI x_337), .int x_338, .ref x_339, .int (nI (pr.2)), .int (nI x_340), .int (nI x_341), .int x_342, .int x_343, .int x_344, .int x_345, .ref x_346, .ref x_347, .int (nI x_348), .ref x_349, .ref x_350, .ref x_351, .ref x_352, .ref x_353, .ref x_354, .ref x_355, .ref x_356, .ref x_357, .ref x_358, .ref x_359, .int (nI x_360)]) := hS_o
              obtain ⟨e12_, e11_, e13_, e5_, e6_, e0_⟩ := MKe hM329 hS_o rfl rfl rfl rfl rfl rfl (by omega) (by omega) (by omega) (by omega)
              subst e12_ e11_ e13_ e5_ e6_ e0_
              refine lv_bipush (v := 59) hx hb dX12_lineRead_104 (by decide) ?_
              refine lv_icmp_eq (tgt := 118) hx hb dX12_lineRead_106 (by decide) (fun c_106 => ?_) (fun c_106 => ?_)
              · have hpk := hv329.resolve_left (fun q => by rw [q] at c_106; exact absurd c_106 (by decide))
                refine lv_aload_n hx hb dX12_lineRead_118 rfl (lv_at hl 2 rfl) ?_
                refine lv_dup hx hb dX12_lineRead_119 rfl ?_
                refine pl_get (ci := 12) (v := .int (nI sp329)) (C := RX12) (T := TX12) (N := 32) hx hb hT iX12 hown hK hW hT_o.1 hS_o rfl 12 (by decide) w1094 rfl dX12_lineRead_120 ?_
                refine lv_iconst (v := 1) hx hb dX12_lineRead_123 (by decide) ?_
                refine lv_iadd hx hb dX12_lineRead_124 ?_
                refine lv_topi (fun z_361 ez_361 => ?_)
                obtain rfl : z_361 = nI (sp329 + 1) := ez_361.trans (nI_add (sp329) (1))
                refine pl_put (ci := 12) (v := .int (nI (sp329 + 1))) (ty := .int) (C := RX12) (T := TX12) (N := 32) (fs' := [.ref rs, .ref x_331, .ref x_332, .ref x_333, .ref x_334, .int (nI pa292), .int (nI ki292), .int (nI x_337), .int x_338, .ref x_339, .int (nI (pr.2)), .int (nI sn), .int (nI (sp329 + 1)), .int wr329, .int x_343, .int x_344, .int x_345, .ref x_346, .ref x_347, .int (nI x_348), .ref x_349, .ref x_350, .ref x_351, .ref x_352, .ref x_353, .ref x_354, .ref x_355, .ref x_356, .ref x_357, .ref x_358, .ref x_359, .int (nI x_360)]) hx hb hT iX12 tyX12 tyX12_ok nmX12 hown hK hW hT_o.1 hS_o rfl 12 (by decide) w1094 rfl (by decide +kernel) rfl rfl (Nat.le_of_ble_eq_true rfl) rfl dX12_lineRead_125 (fun H locs S_362 e1 hW => ?_)
                have hTy := hTy.u12 e1 hT_o ⟨rs, x_331, x_332, x_333, x_334, pa292, ki292, x_337, x_338, x_339, sn, sp329 + 1, wr329, x_343, x_344, x_345, x_346, x_347, x_348, x_349, x_350, x_351, x_352, x_353, x_354, x_355, x_356, x_357, x_358, x_359, x_360, rfl, hT_x_330, hT_x_331, hT_x_332, hT_x_333, hT_x_334, (by omega), (by omega), (by omega), hT_x_339, (by show pr.2 ≤ 900; omega), (by omega), (by omega), hT_x_346, hT_x_347, (by omega), hT_x_349, hT_x_350, hT_x_351, hT_x_352, hT_x_353, hT_x_354, hT_x_355, hT_x_356, hT_x_357, hT_x_358, hT_x_359, (by omega)⟩
                have hS_rs := un e1 hT_x_330 hT_o (by decide) hS_rs
                have hws := (show wrs (.inr (12, [.ref rs, .ref x_331, .ref x_332, .ref x_333, .ref x_334, .int (nI pa292), .int (nI ki292), .int (nI x_337), .int x_338, .ref x_339, .int (nI (pr.2)), .int (nI sn), .int (nI (sp329 + 1)), .int wr329, .int x_343, .int x_344, .int x_345, .ref x_346, .ref x_347, .int (nI x_348), .ref x_349, .ref x_350, .ref x_351, .ref x_352, .ref x_353, .ref x_354, .ref x_355, .ref x_356, .ref x_357, .ref x_358, .ref x_359, .int (nI x_360)])) = wrs (S_327 o) from by rw [hS_o]; rfl)
                have hFr := ufs hFr e1 hT_o (by decide) hws
                have hS_o := us e1
                exact W.vret hx hb hr (fun t ht h9 => ⟨⟨S_362, rfl, ⟨hTy, hFr, ⟨sp329 + 1, _, pa292, ki292, (MKi (sp := (sp329 + 1)) (sn := sn) (pa := pa292) (ki := ki292) hS_o rfl rfl rfl rfl rfl rfl (by omega) (by omega) (by omega) (by omega)), Or.inr ⟨by omega, by omega⟩, (by rw [fld_i hS_o rfl hS_rs]; exact hdg_)⟩⟩, by rw [ht]; exact hW.1, va_K.moved h9.alike hK, hW.2.1⟩, hW.2.2.F ht⟩) hW.2.2.2.2 dX12_lineRead_128
              · refine lv_aload_n hx hb dX12_lineRead_109 rfl (lv_at hl 2 rfl) ?_
                refine lv_iconst (v := 1) hx hb dX12_lineRead_110 (by decide) ?_
                refine lv_aload_n hx hb dX12_lineRead_111 rfl (lv_at hl 2 rfl) ?_
                refine pl_get (ci := 12) (v := .int (nI sp329)) (C := RX12) (T := TX12) (N := 32) hx hb hT iX12 hown hK hW hT_o.1 hS_o rfl 12 (by decide) w1094 rfl dX12_lineRead_112 ?_
                refine pl_callv (va_runV (As := [.int 1, .int (nI sp329)]) (rest := []) ⟨hx, hb, hml, hown, hT⟩ (m_fails l dC dI cy L kap pr S_327 H.size o 1 (nI sp329) hTy hT_o sp329 sn wr329 pa292 ki292 rs (MKi (sp := sp329) (sn := sn) (pa := pa292) (ki := ki292) hS_o rfl rfl rfl rfl rfl rfl (by omega) (by omega) (by omega) (by omega)) (by omega) (by decide)) (cwV 2 hT (gV w1214 w1216 ws59 w14 w1217) rfl rfl rfl (by decide +kernel) ⟨(Nat.le_of_ble_eq_true rfl), (Nat.le_of_ble_eq_true rfl)⟩) ⟨pcN.blind, pl_recv hK hW hT_o.1 hS_o rfl, pcN.pre hW.1 hK hW.2.1 hN (fun q h => absurd h List.not_mem_nil)⟩ rfl rfl hl.1 rfl (lv_room (Nat.le_of_ble_eq_true rfl)) dX12_lineRead_115 ⟨(Nat.le_of_ble_eq_true rfl), (Nat.le_of_ble_eq_true rfl)⟩) hW hA0 hA (fun S_363 H locs hrel hW => ?_)
                obtain ⟨hTy, hF1, hx1⟩ := hrel
                have hFr := hFr.tr hF1 (by decide)
                have hS_rs := hF1.at hT_x_330 (by decide) hS_rs
                obtain ⟨sp364, wr364, hM364, hpa364, hpb364, hw364⟩ := hx1
                obtain ⟨x_365, x_366, x_367, x_368, x_369, x_370, x_371, x_372, x_373, x_374, x_375, x_376, x_377, x_378, x_379, x_380, x_381, x_382, x_383, x_384, x_385, x_386, x_387, x_388, x_389, x_390, x_391, x_392, x_393, x_394, x_395, hS_o, hT_x_365, hT_x_366, hT_x_367, hT_x_368, hT_x_369, hb_x_370, hb_x_371, hb_x_372, hT_x_374, hb_q2, hb_x_375, hb_x_376, hT_x_381, hT_x_382, hb_x_383, hT_x_384, hT_x_385, hT_x_386, hT_x_387, hT_x_388, hT_x_389, hT_x_390, hT_x_391, hT_x_392, hT_x_393, hT_x_394, hb_x_395⟩ := hTy.k12 hT_o
                have hb_q2 : pr.2 ≤ 900 := hb_q2
                have hS_o : S_363 o = .inr (12, [.ref x_365, .ref x_366, .ref x_367, .ref x_368, .ref x_369, .int (nI x_370), .int (nI x_371), .int (nI x_372), .int x_373, .ref x_374, .int (nI (pr.2)), .int (nI x_375), .int (nI x_376), .int x_377, .int x_378, .int x_379, .int x_380, .ref x_381, .ref x_382, .int (nI x_383), .ref x_384, .ref x_385, .ref x_386, .ref x_387, .ref x_388, .ref x_389, .ref x_390, .ref x_391, .ref x_392, .ref x_393, .ref x_394, .int (nI x_395)]) := hS_o
                obtain ⟨e12_, e11_, e13_, e5_, e6_, e0_⟩ := MKe hM364 hS_o rfl rfl rfl rfl rfl rfl (by omega) (by omega) (by omega) (by omega)
                subst e12_ e11_ e13_ e5_ e6_ e0_
                refine lv_aload_n hx hb dX12_lineRead_118 rfl (lv_at hl 2 rfl) ?_
                refine lv_dup hx hb dX12_lineRead_119 rfl ?_
                refine pl_get (ci := 12) (v := .int (nI sp364)) (C := RX12) (T := TX12) (N := 32) hx hb hT iX12 hown hK hW hT_o.1 hS_o rfl 12 (by decide) w1094 rfl dX12_lineRead_120 ?_
                refine lv_iconst (v := 1) hx hb dX12_lineRead_123 (by decide) ?_
                refine lv_iadd hx hb dX12_lineRead_124 ?_
                refine lv_topi (fun z_396 ez_396 => ?_)
                obtain rfl : z_396 = nI (sp364 + 1) := ez_396.trans (nI_add (sp364) (1))
                refine pl_put (ci := 12) (v := .int (nI (sp364 + 1))) (ty := .int) (C := RX12) (T := TX12) (N := 32) (fs' := [.ref rs, .ref x_366, .ref x_367, .ref x_368, .ref x_369, .int (nI pa292), .int (nI ki292), .int (nI x_372), .int x_373, .ref x_374, .int (nI (pr.2)), .int (nI sn), .int (nI (sp364 + 1)), .int wr364, .int x_378, .int x_379, .int x_380, .ref x_381, .ref x_382, .int (nI x_383), .ref x_384, .ref x_385, .ref x_386, .ref x_387, .ref x_388, .ref x_389, .ref x_390, .ref x_391, .ref x_392, .ref x_393, .ref x_394, .int (nI x_395)]) hx hb hT iX12 tyX12 tyX12_ok nmX12 hown hK hW hT_o.1 hS_o rfl 12 (by decide) w1094 rfl (by decide +kernel) rfl rfl (Nat.le_of_ble_eq_true rfl) rfl dX12_lineRead_125 (fun H locs S_397 e1 hW => ?_)
                have hTy := hTy.u12 e1 hT_o ⟨rs, x_366, x_367, x_368, x_369, pa292, ki292, x_372, x_373, x_374, sn, sp364 + 1, wr364, x_378, x_379, x_380, x_381, x_382, x_383, x_384, x_385, x_386, x_387, x_388, x_389, x_390, x_391, x_392, x_393, x_394, x_395, rfl, hT_x_365, hT_x_366, hT_x_367, hT_x_368, hT_x_369, (by omega), (by omega), (by omega), hT_x_374, (by show pr.2 ≤ 900; omega), (by omega), (by omega), hT_x_381, hT_x_382, (by omega), hT_x_384, hT_x_385, hT_x_386, hT_x_387, hT_x_388, hT_x_389, hT_x_390, hT_x_391, hT_x_392, hT_x_393, hT_x_394, (by omega)⟩
                have hS_rs := un e1 hT_x_365 hT_o (by decide) hS_rs
                have hws := (show wrs (.inr (12, [.ref rs, .ref x_366, .ref x_367, .ref x_368, .ref x_369, .int (nI pa292), .int (nI ki292), .int (nI x_372), .int x_373, .ref x_374, .int (nI (pr.2)), .int (nI sn), .int (nI (sp364 + 1)), .int wr364, .int x_378, .int x_379, .int x_380, .ref x_381, .ref x_382, .int (nI x_383), .ref x_384, .ref x_385, .ref x_386, .ref x_387, .ref x_388, .ref x_389, .ref x_390, .ref x_391, .ref x_392, .ref x_393, .ref x_394, .int (nI x_395)])) = wrs (S_363 o) from by rw [hS_o]; rfl)
                have hFr := ufs hFr e1 hT_o (by decide) hws
                have hS_o := us e1
                exact W.vret hx hb hr (fun t ht h9 => ⟨⟨S_397, rfl, ⟨hTy, hFr, ⟨sp364 + 1, _, pa292, ki292, (MKi (sp := (sp364 + 1)) (sn := sn) (pa := pa292) (ki := ki292) hS_o rfl rfl rfl rfl rfl rfl (by omega) (by omega) (by omega) (by omega)), Or.inl hw364, (by rw [fld_i hS_o rfl hS_rs]; exact hdg_)⟩⟩, by rw [ht]; exact hW.1, va_K.moved h9.alike hK, hW.2.1⟩, hW.2.2.F ht⟩) hW.2.2.2.2 dX12_lineRead_128
          · exact W.vret hx hb hr (fun t ht h9 => ⟨⟨S_33, rfl, ⟨hTy, hFr, ⟨sp35, _, pa, ki, (MKi (sp := sp35) (sn := sn) (pa := pa) (ki := ki) hS_o rfl rfl rfl rfl rfl rfl (by omega) (by omega) (by omega) (by omega)), Or.inl c_59, (by rw [fld_i hS_o rfl hS_rs]; exact hdg_)⟩⟩, by rw [ht]; exact hW.1, va_K.moved h9.alike hK, hW.2.1⟩, hW.2.2.F ht⟩) hW.2.2.2.2 dX12_lineRead_62
      · refine lv_aload_n hx hb dX12_lineRead_32 rfl (lv_at hl 2 rfl) ?_
        refine lv_iconst (v := 1) hx hb dX12_lineRead_33 (by decide) ?_
        refine lv_iload_n hx hb dX12_lineRead_34 rfl (lv_at hl 0 rfl) ?_
        refine pl_callv (va_runV (As := [.int 1, .int (nI sp35)]) (rest := []) ⟨hx, hb, hml, hown, hT⟩ (m_fails l dC dI cy L kap pr S_33 H.size o 1 (nI sp35) hTy hT_o sp35 sn wr35 pa ki rs (MKi (sp := sp35) (sn := sn) (pa := pa) (ki := ki) hS_o rfl rfl rfl rfl rfl rfl (by omega) (by omega) (by omega) (by omega)) (by omega) (by decide)) (cwV 2 hT (gV w1214 w1216 ws59 w14 w1217) rfl rfl rfl (by decide +kernel) ⟨(Nat.le_of_ble_eq_true rfl), (Nat.le_of_ble_eq_true rfl)⟩) ⟨pcN.blind, pl_recv hK hW hT_o.1 hS_o rfl, pcN.pre hW.1 hK hW.2.1 hN (fun q h => absurd h List.not_mem_nil)⟩ rfl rfl hl.1 rfl (lv_room (Nat.le_of_ble_eq_true rfl)) dX12_lineRead_35 ⟨(Nat.le_of_ble_eq_true rfl), (Nat.le_of_ble_eq_true rfl)⟩) hW hA0 hA (fun S_398 H locs hrel hW => ?_)
        obtain ⟨hTy, hF1, hx1⟩ := hrel
        have hFr := hFr.tr hF1 (by decide)
        have hS_rs := hF1.at hT_x_36 (by decide) hS_rs
        obtain ⟨sp399, wr399, hM399, hpa399, hpb399, hw399⟩ := hx1
        obtain ⟨x_400, x_401, x_402, x_403, x_404, x_405, x_406, x_407, x_408, x_409, x_410, x_411, x_412, x_413, x_414, x_415, x_416, x_417, x_418, x_419, x_420, x_421, x_422, x_423, x_424, x_425, x_426, x_427, x_428, x_429, x_430, hS_o, hT_x_400, hT_x_401, hT_x_402, hT_x_403, hT_x_404, hb_x_405, hb_x_406, hb_x_407, hT_x_409, hb_q2, hb_x_410, hb_x_411, hT_x_416, hT_x_417, hb_x_418, hT_x_419, hT_x_420, hT_x_421, hT_x_422, hT_x_423, hT_x_424, hT_x_425, hT_x_426, hT_x_427, hT_x_428, hT_x_429, hb_x_430⟩ := hTy.k12 hT_o
        have hb_q2 : pr.2 ≤ 900 := hb_q2
        have hS_o : S_398 o = .inr (12, [.ref x_400, .ref x_401, .ref x_402, .ref x_403, .ref x_404, .int (nI x_405), .int (nI x_406), .int (nI x_407), .int x_408, .ref x_409, .int (nI (pr.2)), .int (nI x_410), .int (nI x_411), .int x_412, .int x_413, .int x_414, .int x_415, .ref x_416, .ref x_417, .int (nI x_418), .ref x_419, .ref x_420, .ref x_421, .ref x_422, .ref x_423, .ref x_424, .ref x_425, .ref x_426, .ref x_427, .ref x_428, .ref x_429, .int (nI x_430)]) := hS_o
        obtain ⟨e12_, e11_, e13_, e5_, e6_, e0_⟩ := MKe hM399 hS_o rfl rfl rfl rfl rfl rfl (by omega) (by omega) (by omega) (by omega)
        subst e12_ e11_ e13_ e5_ e6_ e0_
        refine lv_goto (tgt := 55) hx hb dX12_lineRead_38 (by decide) ?_
        refine lv_aload_n hx hb dX12_lineRead_55 rfl (lv_at hl 2 rfl) ?_
        refine pl_get (ci := 12) (v := .int wr399) (C := RX12) (T := TX12) (N := 32) hx hb hT iX12 hown hK hW hT_o.1 hS_o rfl 13 (by decide) w1095 rfl dX12_lineRead_56 ?_
        have c_59 : ¬ wr399 = 0 := hw399
        refine lv_if_eq (tgt := 63) hx hb dX12_lineRead_59 (by decide) (fun h => absurd h c_59) (fun _ => ?_)
        exact W.vret hx hb hr (fun t ht h9 => ⟨⟨S_398, rfl, ⟨hTy, hFr, ⟨sp399, _, pa, ki, (MKi (sp := sp399) (sn := sn) (pa := pa) (ki := ki) hS_o rfl rfl rfl rfl rfl rfl (by omega) (by omega) (by omega) (by omega)), Or.inl c_59, (by rw [fld_i hS_o rfl hS_rs]; exact hdg_)⟩⟩, by rw [ht]; exact hW.1, va_K.moved h9.alike hK, hW.2.1⟩, hW.2.2.F ht⟩) hW.2.2.2.2 dX12_lineRead_62

set_option maxHeartbeats 4000000 in
set_option maxRecDepth 100000 in
theorem m_plain (l : Launch) (dC : Nat → ClassId) (dI : Nat → Nat → Nat) (cy : Nat → ClassId) (L : List Nat) (kap : Nat → Nat) (pr : Pr) (S : Nat → va_E) (sz : Nat) (o : Nat) (hTy : Ty cy L kap pr S) (hT_o : TK L kap o 12) (sp : Nat) (sn : Nat) (wr : Int32) (pa : Nat) (ki : Nat) (rs : Nat) (hM : MK S o sp sn wr pa ki rs) (hsp : sp ≤ sn) : Met l yX12_plain (wT yX12_plain cX12_plain 2 none) ({ frames := 0, cells := 0, slots := 0, locals := 0 }) (pcN dC dI [.ref o] sz (va_pl L S) (cyT cy) NLs []) (va_Qv (fun S' => Ty cy L kap pr S' ∧ Fr kap [12, 50] S S' ∧ (MK S' o sp sn wr 0 0 rs ∧ mny S' o 0)) (fun S' t => pB dC dI (AL L sz) (va_pl L S') (cyT cy) t) (AL L sz)) 0 0 (AL L sz) := by
  refine Met.ofW (cc := cX12_plain) (maxL := 2) (ret := none) (by decide) rfl ?_
  intro p e s m args below meth c s₁ B hml hv
  obtain ⟨rfl, hsz, hP, hK, hD0, hN, -⟩ := hv
  have hx := B.exec
  have hb := B.bytes
  have hr := B.returns
  have hT : ∀ wd ∈ TB, wd.before [.ref o].toArray s = true := fun wd h => atoms_spec (ws := wT yX12_plain cX12_plain 2 none) B.pre wd (List.mem_cons_of_mem _ h)
  have hown : s.vm.findClass RX12 = some m.cls := findClass_of_methodNamed B.named
  have hlocks := B.notSynchronized
  subst hsz
  have hW : PW dC dI L (AL L s.heap.size) s.heap S s.heap [] := ⟨hP, pl_self hD0, va_S.rf⟩
  have hA0 : ∀ q, q ∈ L → AL L s.heap.size q := fun _ h => Or.inl h
  have hA : ∀ q, s.heap.size ≤ q → AL L s.heap.size q := fun _ h => Or.inr h
  have hFr : Fr kap [12, 50] S S := Fr.rf
  have hl := lv_entry ([.ref o]) (n := 2) (Nat.le_of_ble_eq_true rfl)
  rw [lg_entry_eq]
  generalize (lg_sl ([.ref o]) ++ List.replicate (2 - (lg_sl ([.ref o])).length) Slot.unset).toArray = ls at hl ⊢
  have hl : lv_has ls 2 [(0, .ref o)] := hl
  obtain ⟨x_1, x_2, x_3, x_4, x_5, x_6, x_7, x_8, x_9, x_10, x_11, x_12, x_13, x_14, x_15, x_16, x_17, x_18, x_19, x_20, x_21, x_22, x_23, x_24, x_25, x_26, x_27, x_28, x_29, x_30, x_31, hS_o, hT_x_1, hT_x_2, hT_x_3, hT_x_4, hT_x_5, hb_x_6, hb_x_7, hb_x_8, hT_x_10, hb_q2, hb_x_11, hb_x_12, hT_x_17, hT_x_18, hb_x_19, hT_x_20, hT_x_21, hT_x_22, hT_x_23, hT_x_24, hT_x_25, hT_x_26, hT_x_27, hT_x_28, hT_x_29, hT_x_30, hb_x_31⟩ := hTy.k12 hT_o
  have hb_q2 : pr.2 ≤ 900 := hb_q2
  have hS_o : S o = .inr (12, [.ref x_1, .ref x_2, .ref x_3, .ref x_4, .ref x_5, .int (nI x_6), .int (nI x_7), .int (nI x_8), .int x_9, .ref x_10, .int (nI (pr.2)), .int (nI x_11), .int (nI x_12), .int x_13, .int x_14, .int x_15, .int x_16, .ref x_17, .ref x_18, .int (nI x_19), .ref x_20, .ref x_21, .ref x_22, .ref x_23, .ref x_24, .ref x_25, .ref x_26, .ref x_27, .ref x_28, .ref x_29, .ref x_30, .int (nI x_31)]) := hS_o
  obtain ⟨e12_, e11_, e13_, e5_, e6_, e0_⟩ := MKe hM hS_o rfl rfl rfl rfl rfl rfl (by omega) (by omega) (by omega) (by omega)
  subst e12_ e11_ e13_ e5_ e6_ e0_
  refine lv_aload_n hx hb dX12_plain_0 rfl (lv_at hl 0 rfl) ?_
  refine lv_iconst (v := 0) hx hb dX12_plain_1 (by decide) ?_
  refine pl_put (ci := 12) (v := .int 0) (ty := .int) (C := RX12) (T := TX12) (N := 32) (fs' := [.ref rs, .ref x_2, .ref x_3, .ref x_4, .ref x_5, .int 0, .int (nI ki), .int (nI x_8), .int x_9, .ref x_10, .int (nI (pr.2)), .int (nI sn), .int (nI sp), .int wr, .int x_14, .int x_15, .int x_16, .ref x_17, .ref x_18, .int (nI x_19), .ref x_20, .ref x_21, .ref x_22, .ref x_23, .ref x_24, .ref x_25, .ref x_26, .ref x_27, .ref x_28, .ref x_29, .ref x_30, .int (nI x_31)]) hx hb hT iX12 tyX12 tyX12_ok nmX12 hown hK hW hT_o.1 hS_o rfl 5 (by decide) w1087 rfl (by decide +kernel) rfl rfl (Nat.le_of_ble_eq_true rfl) rfl dX12_plain_2 (fun H locs S_32 e1 hW => ?_)
  have hTy := hTy.u12 e1 hT_o ⟨rs, x_2, x_3, x_4, x_5, 0, ki, x_8, x_9, x_10, sn, sp, wr, x_14, x_15, x_16, x_17, x_18, x_19, x_20, x_21, x_22, x_23, x_24, x_25, x_26, x_27, x_28, x_29, x_30, x_31, rfl, hT_x_1, hT_x_2, hT_x_3, hT_x_4, hT_x_5, (by omega), (by omega), (by omega), hT_x_10, (by show pr.2 ≤ 900; omega), (by omega), (by omega), hT_x_17, hT_x_18, (by omega), hT_x_20, hT_x_21, hT_x_22, hT_x_23, hT_x_24, hT_x_25, hT_x_26, hT_x_27, hT_x_28, hT_x_29, hT_x_30, (by omega)⟩
  have hws := (show wrs (.inr (12, [.ref rs, .ref x_2, .ref x_3, .ref x_4, .ref x_5, .int 0, .int (nI ki), .int (nI x_8), .int x_9, .ref x_10, .int (nI (pr.2)), .int (nI sn), .int (nI sp), .int wr, .int x_14, .int x_15, .int x_16, .ref x_17, .ref x_18, .int (nI x_19), .ref x_20, .ref x_21, .ref x_22, .ref x_23, .ref x_24, .ref x_25, .ref x_26, .ref x_27, .ref x_28, .ref x_29, .ref x_30, .int (nI x_31)])) = wrs (S o) from by rw [hS_o]; rfl)
  have hFr := ufs hFr e1 hT_o (by decide) hws
  have hS_o := us e1
  refine lv_aload_n hx hb dX12_plain_5 rfl (lv_at hl 0 rfl) ?_
  refine lv_iconst (v := 0) hx hb dX12_plain_6 (by decide) ?_
  refine pl_put (ci := 12) (v := .int 0) (ty := .int) (C := RX12) (T := TX12) (N := 32) (fs' := [.ref rs, .ref x_2, .ref x_3, .ref x_4, .ref x_5, .int 0, .int 0, .int (nI x_8), .int x_9, .ref x_10, .int (nI (pr.2)), .int (nI sn), .int (nI sp), .int wr, .int x_14, .int x_15, .int x_16, .ref x_17, .ref x_18, .int (nI x_19), .ref x_20, .ref x_21, .ref x_22, .ref x_23, .ref x_24, .ref x_25, .ref x_26, .ref x_27, .ref x_28, .ref x_29, .ref x_30, .int (nI x_31)]) hx hb hT iX12 tyX12 tyX12_ok nmX12 hown hK hW hT_o.1 hS_o rfl 6 (by decide) w1088 rfl (by decide +kernel) rfl rfl (Nat.le_of_ble_eq_true rfl) rfl dX12_plain_7 (fun H locs S_33 e1 hW => ?_)
  have hTy := hTy.u12 e1 hT_o ⟨rs, x_2, x_3, x_4, x_5, 0, 0, x_8, x_9, x_10, sn, sp, wr, x_14, x_15, x_16, x_17, x_18, x_19, x_20, x_21, x_22, x_23, x_24, x_25, x_26, x_27, x_28, x_29, x_30, x_31, rfl, hT_x_1, hT_x_2, hT_x_3, hT_x_4, hT_x_5, (by omega), (by omega), (by omega), hT_x_10, (by show pr.2 ≤ 900; omega), (by omega), (by omega), hT_x_17, hT_x_18, (by omega), hT_x_20, hT_x_21, hT_x_22, hT_x_23, hT_x_24, hT_x_25, hT_x_26, hT_x_27, hT_x_28, hT_x_29, hT_x_30, (by omega)⟩
  have hws := (show wrs (.inr (12, [.ref rs, .ref x_2, .ref x_3, .ref x_4, .ref x_5, .int 0, .int 0, .int (nI x_8), .int x_9, .ref x_10, .int (nI (pr.2)), .int (nI sn), .int (nI sp), .int wr, .int x_14, .int x_15, .int x_16, .ref x_17, .ref x_18, .int (nI x_19), .ref x_20, .ref x_21, .ref x_22, .ref x_23, .ref x_24, .ref x_25, .ref x_26, .ref x_27, .ref x_28, .ref x_29, .ref x_30, .int (nI x_31)])) = wrs (S_32 o) from by rw [hS_o]; rfl)
  have hFr := ufs hFr e1 hT_o (by decide) hws
  have hS_o := us e1
  refine lv_iconst (v := 0) hx hb dX12_plain_10 (by decide) ?_
  refine lv_istore_n (lv' := [(1, .int 0), (0, .ref o)]) hx hb dX12_plain_11 rfl hl (by decide) rfl (fun ls hl => ?_)
  have loop : ∀ (fuel : Nat) (i : Nat) (SS : Nat → va_E) (H : Heap) (locs : List Loc) (ls : Array Slot), 267 - i < fuel → (i ≤ 266) → (0 < i → af (SS rs) 0 = nI 0) → Ty cy L kap pr SS → Fr kap [12, 50] S SS → Fr kap [50] S_33 SS → PW dC dI L (AL L s.heap.size) s.heap SS H locs → lv_has ls 2 [(1, .int (nI i)), (0, .ref o)] → W p l e (headSpec (wT yX12_plain cX12_plain 2 none) { frames := 0, cells := 0, slots := 0, locals := 0 }).room s m [.ref o].toArray below meth c H locs 0 0 (MQ below (va_Qv (fun S' => Ty cy L kap pr S' ∧ Fr kap [12, 50] S S' ∧ (MK S' o sp sn wr 0 0 rs ∧ mny S' o 0)) (fun S' t => pB dC dI (AL L s.heap.size) (va_pl L S') (cyT cy) t) (AL L s.heap.size)) [.ref o].toArray s 0 0 (AL L s.heap.size)) (F0 m 12 ls []) := by
    intro fuel
    induction fuel with
    | zero => intro i SS H locs ls h; exact absurd h (Nat.not_lt_zero _)
    | succ fu12 ih12 =>
      intro i S_34 H locs ls hm12 hb_i hz0 hTy hFr hFl12 hW hl
      have hS_o := hFl12.at hT_o (by decide) hS_o
      obtain ⟨f_35, hS_rs, hi_f_35⟩ := hTy.k50 hT_x_1
      have hz1 : 0 < i → f_35 0 = nI 0 := fun h => by rw [← af_i hS_rs]; exact hz0 h
      refine lv_iload_n hx hb dX12_plain_12 rfl (lv_at hl 0 rfl) ?_
      refine lv_sipush (v := 266) hx hb dX12_plain_13 (by decide) ?_
      refine lv_icmp_ge (tgt := 44) hx hb dX12_plain_16 (by decide) (fun c_16 => ?_) (fun c_16 => ?_)
      · have c_16 : 266 ≤ i := (nI_leI (a := 266) (b := i) (by omega) (by omega)).mp c_16
        exact W.vret hx hb hr (fun t ht h9 => ⟨⟨S_34, rfl, ⟨hTy, hFr, ⟨(MKi (sp := sp) (sn := sn) (pa := 0) (ki := 0) hS_o rfl rfl rfl rfl rfl rfl (by omega) (by omega) (by omega) (by omega)), mnyi hS_o rfl hS_rs (by rw [← af_i hS_rs]; exact hz0 (by omega))⟩⟩, by rw [ht]; exact hW.1, va_K.moved h9.alike hK, hW.2.1⟩, hW.2.2.F ht⟩) hW.2.2.2.2 dX12_plain_44
      · have c_16 : ¬ (266 ≤ i) := fun hh9 => c_16 ((nI_leI (a := 266) (b := i) (by omega) (by omega)).mpr hh9)
        refine lv_aload_n hx hb dX12_plain_19 rfl (lv_at hl 1 rfl) ?_
        refine pl_get (ci := 12) (v := .ref rs) (C := RX12) (T := TX12) (N := 32) hx hb hT iX12 hown hK hW hT_o.1 hS_o rfl 0 (by decide) w1082 rfl dX12_plain_20 ?_
        refine lv_iload_n hx hb dX12_plain_23 rfl (lv_at hl 0 rfl) ?_
        refine lv_iload_n hx hb dX12_plain_24 rfl (lv_at hl 0 rfl) ?_
        refine lv_sipush (v := 202) hx hb dX12_plain_25 (by decide) ?_
        refine lv_icmp_ge (tgt := 35) hx hb dX12_plain_28 (by decide) (fun c_28 => ?_) (fun c_28 => ?_)
        · have c_28 : 202 ≤ i := (nI_leI (a := 202) (b := i) (by omega) (by omega)).mp c_28
          refine lv_ldc (v := 99999999) hx hb hown (hT _ w1081) dX12_plain_35 ?_
          refine pl_iast hx hb hK hW hT_x_1.1 hS_rs (vp_in_nI (n := i) (N := 266) (by omega) (by omega)) dX12_plain_37 (fun H locs f_37 S_36 ef_f_37 e1 hW => ?_)
          have hok_ : okS i (nI (99999999)) := (okS_n (by omega) (by omega) (by omega))
          have hi_f_37 := okS_up (i := i) (by omega) hi_f_35 ef_f_37 hok_
          have hTy := hTy.u50 e1 hT_x_1 ⟨f_37, rfl, hi_f_37⟩
          have hS_o := un e1 hT_o hT_x_1 (by decide) hS_o
          have hFr := uf hFr e1 hT_x_1 (by decide) (by decide)
          have hFl12 := uf hFl12 e1 hT_x_1 (by decide) (by decide)
          have hS_rs := us e1
          have hz2 := pz_up ef_f_37 (by omega) (fun h => absurd h (by omega)) hz1
          refine lv_iinc (v := nI (i + 1)) (lv' := [(1, .int (nI (i + 1))), (0, .ref o)]) hx hb dX12_plain_38 hl (k := 0) rfl (nI_add (i) 1) (by decide) rfl (fun ls hl => ?_)
          refine lv_goto (tgt := 12) hx hb dX12_plain_41 (by decide) ?_
          exact ih12 (i + 1) _ _ _ ls (by omega) (by omega) (fun _ => by rw [af_i hS_rs]; exact hz2) hTy hFr hFl12 hW (lv_sub hl [0, 1] rfl)
        · have c_28 : ¬ (202 ≤ i) := fun hh9 => c_28 ((nI_leI (a := 202) (b := i) (by omega) (by omega)).mpr hh9)
          refine lv_iconst (v := 0) hx hb dX12_plain_31 (by decide) ?_
          refine lv_goto (tgt := 37) hx hb dX12_plain_32 (by decide) ?_
          refine pl_iast hx hb hK hW hT_x_1.1 hS_rs (vp_in_nI (n := i) (N := 266) (by omega) (by omega)) dX12_plain_37 (fun H locs f_39 S_38 ef_f_39 e1 hW => ?_)
          have hok_ : okS i (nI (0)) := (okS_n (by omega) (by omega) (by omega))
          have hi_f_39 := okS_up (i := i) (by omega) hi_f_35 ef_f_39 hok_
          have hTy := hTy.u50 e1 hT_x_1 ⟨f_39, rfl, hi_f_39⟩
          have hS_o := un e1 hT_o hT_x_1 (by decide) hS_o
          have hFr := uf hFr e1 hT_x_1 (by decide) (by decide)
          have hFl12 := uf hFl12 e1 hT_x_1 (by decide) (by decide)
          have hS_rs := us e1
          have hz2 := pz_up ef_f_39 (by omega) (fun h => rfl) hz1
          refine lv_iinc (v := nI (i + 1)) (lv' := [(1, .int (nI (i + 1))), (0, .ref o)]) hx hb dX12_plain_38 hl (k := 0) rfl (nI_add (i) 1) (by decide) rfl (fun ls hl => ?_)
          refine lv_goto (tgt := 12) hx hb dX12_plain_41 (by decide) ?_
          exact ih12 (i + 1) _ _ _ ls (by omega) (by omega) (fun _ => by rw [af_i hS_rs]; exact hz2) hTy hFr hFl12 hW (lv_sub hl [0, 1] rfl)
  exact loop ((267 - 0) + 1) 0 _ _ _ ls (Nat.lt_succ_self _) (by omega) (fun h => absurd h (Nat.not_lt_zero _)) hTy hFr Fr.rf hW (lv_sub hl [0, 1] rfl)

set_option maxHeartbeats 4000000 in
set_option maxRecDepth 100000 in
theorem m_tell (l : Launch) (dC : Nat → ClassId) (dI : Nat → Nat → Nat) (cy : Nat → ClassId) (L : List Nat) (kap : Nat → Nat) (pr : Pr) (ad : (Nat → Nat) × (Nat → Nat)) (S : Nat → va_E) (sz : Nat) (o : Nat) (tn : Int32) (hTy : Ty cy L kap pr S) (hT_o : TK L kap o 12) (hu12 : ∀ b9 c9, TK L kap b9 12 → TK L kap c9 12 → b9 = c9) (hu51 : ∀ b9 c9, TK L kap b9 51 → TK L kap c9 51 → b9 = c9) (hdg : dg (fld S o 0)) : Met l yX12_tell (wT yX12_tell cX12_tell 5 (some .int)) ({ frames := 11, cells := 0, slots := 0, locals := 247 }) (pcS dC dI [.ref o, .int tn] sz L S (cyT cy) NLs ad) (va_Qi (fun r S' => Ty cy L kap (pr.1, tl tn pr.2) S' ∧ Fr kap [12, 50, 51, 53, 54, 112] S S' ∧ (dg (fld S' o 0))) (fun S' t => pB dC dI (AL L sz) (va_pl L S') (cyT cy) t) (AL L sz)) 0 0 (AL L sz) := by
  refine Met.ofW (cc := cX12_tell) (maxL := 5) (ret := (some .int)) (by decide) rfl ?_
  intro p e s m args below meth c s₁ B hml hv
  obtain ⟨rfl, hsz, hP, hK, hD0, hN, hSTR⟩ := hv
  have hx := B.exec
  have hb := B.bytes
  have hr := B.returns
  have hT : ∀ wd ∈ TB, wd.before [.ref o, .int tn].toArray s = true := fun wd h => atoms_spec (ws := wT yX12_tell cX12_tell 5 (some .int)) B.pre wd (List.mem_cons_of_mem _ h)
  have hown : s.vm.findClass RX12 = some m.cls := findClass_of_methodNamed B.named
  have hlocks := B.notSynchronized
  subst hsz
  have hW : PW dC dI L (AL L s.heap.size) s.heap S s.heap [] := ⟨hP, pl_self hD0, va_S.rf⟩
  have hA0 : ∀ q, q ∈ L → AL L s.heap.size q := fun _ h => Or.inl h
  have hA : ∀ q, s.heap.size ≤ q → AL L s.heap.size q := fun _ h => Or.inr h
  have hFr : Fr kap [12, 50, 51, 53, 54, 112] S S := Fr.rf
  have hl := lv_entry ([.ref o, .int tn]) (n := 5) (Nat.le_of_ble_eq_true rfl)
  rw [lg_entry_eq]
  generalize (lg_sl ([.ref o, .int tn]) ++ List.replicate (5 - (lg_sl ([.ref o, .int tn])).length) Slot.unset).toArray = ls at hl ⊢
  have hl : lv_has ls 5 [(0, .ref o), (1, .int tn)] := hl
  obtain ⟨x_1, x_2, x_3, x_4, x_5, x_6, x_7, x_8, x_9, x_10, x_11, x_12, x_13, x_14, x_15, x_16, x_17, x_18, x_19, x_20, x_21, x_22, x_23, x_24, x_25, x_26, x_27, x_28, x_29, x_30, x_31, hS_o, hT_x_1, hT_x_2, hT_x_3, hT_x_4, hT_x_5, hb_x_6, hb_x_7, hb_x_8, hT_x_10, hb_q2, hb_x_11, hb_x_12, hT_x_17, hT_x_18, hb_x_19, hT_x_20, hT_x_21, hT_x_22, hT_x_23, hT_x_24, hT_x_25, hT_x_26, hT_x_27, hT_x_28, hT_x_29, hT_x_30, hb_x_31⟩ := hTy.k12 hT_o
  have hb_q2 : pr.2 ≤ 900 := hb_q2
  have hS_o : S o = .inr (12, [.ref x_1, .ref x_2, .ref x_3, .ref x_4, .ref x_5, .int (nI x_6), .int (nI x_7), .int (nI x_8), .int x_9, .ref x_10, .int (nI (pr.2)), .int (nI x_11), .int (nI x_12), .int x_13, .int x_14, .int x_15, .int x_16, .ref x_17, .ref x_18, .int (nI x_19), .ref x_20, .ref x_21, .ref x_22, .ref x_23, .ref x_24, .ref x_25, .ref x_26, .ref x_27, .ref x_28, .ref x_29, .ref x_30, .int (nI x_31)]) := hS_o
  obtain ⟨f_32, hS_x_1, hi_f_32⟩ := hTy.k50 hT_x_1
  obtain ⟨f_33, hS_x_2, hi_f_33⟩ := hTy.k51 hT_x_2
  have hdg_ : dg f_32 := by have q := hdg; rw [fld_i hS_o rfl hS_x_1] at q; exact q
  have hdgs := hdg_
  refine lv_aload_n hx hb dX12_tell_0 rfl (lv_at hl 0 rfl) ?_
  refine lv_iconst (v := 0) hx hb dX12_tell_1 (by decide) ?_
  refine pl_put (ci := 12) (v := .int 0) (ty := .int) (C := RX12) (T := TX12) (N := 32) (fs' := [.ref x_1, .ref x_2, .ref x_3, .ref x_4, .ref x_5, .int (nI x_6), .int (nI x_7), .int (nI x_8), .int 0, .ref x_10, .int (nI (pr.2)), .int (nI x_11), .int (nI x_12), .int x_13, .int x_14, .int x_15, .int x_16, .ref x_17, .ref x_18, .int (nI x_19), .ref x_20, .ref x_21, .ref x_22, .ref x_23, .ref x_24, .ref x_25, .ref x_26, .ref x_27, .ref x_28, .ref x_29, .ref x_30, .int (nI x_31)]) hx hb hT iX12 tyX12 tyX12_ok nmX12 hown hK hW hT_o.1 hS_o rfl 8 (by decide) w1090 rfl (by decide +kernel) rfl rfl (Nat.le_of_ble_eq_true rfl) rfl dX12_tell_2 (fun H locs S_34 e1 hW => ?_)
  have hTy := hTy.u12 e1 hT_o ⟨x_1, x_2, x_3, x_4, x_5, x_6, x_7, x_8, 0, x_10, x_11, x_12, x_13, x_14, x_15, x_16, x_17, x_18, x_19, x_20, x_21, x_22, x_23, x_24, x_25, x_26, x_27, x_28, x_29, x_30, x_31, rfl, hT_x_1, hT_x_2, hT_x_3, hT_x_4, hT_x_5, (by omega), (by omega), (by omega), hT_x_10, (by show pr.2 ≤ 900; omega), (by omega), (by omega), hT_x_17, hT_x_18, (by omega), hT_x_20, hT_x_21, hT_x_22, hT_x_23, hT_x_24, hT_x_25, hT_x_26, hT_x_27, hT_x_28, hT_x_29, hT_x_30, (by omega)⟩
  have hS_x_1 := un e1 hT_x_1 hT_o (by decide) hS_x_1
  have hS_x_2 := un e1 hT_x_2 hT_o (by decide) hS_x_2
  have hws := (show wrs (.inr (12, [.ref x_1, .ref x_2, .ref x_3, .ref x_4, .ref x_5, .int (nI x_6), .int (nI x_7), .int (nI x_8), .int 0, .ref x_10, .int (nI (pr.2)), .int (nI x_11), .int (nI x_12), .int x_13, .int x_14, .int x_15, .int x_16, .ref x_17, .ref x_18, .int (nI x_19), .ref x_20, .ref x_21, .ref x_22, .ref x_23, .ref x_24, .ref x_25, .ref x_26, .ref x_27, .ref x_28, .ref x_29, .ref x_30, .int (nI x_31)])) = wrs (S o) from by rw [hS_o]; rfl)
  have hFr := ufs hFr e1 hT_o (by decide) hws
  have hS_o := us e1
  refine lv_iload_n hx hb dX12_tell_5 rfl (lv_at hl 1 rfl) ?_
  refine lv_i2l hx hb dX12_tell_6 rfl ?_
  refine lv_topl (fun z_35 ez_35 => ?_)
  refine lv_lconst (v := 0) hx hb dX12_tell_7 (by decide) ?_
  refine lv_aload_n hx hb dX12_tell_8 rfl (lv_at hl 0 rfl) ?_
  refine pl_get (ci := 12) (v := .int (nI (pr.2))) (C := RX12) (T := TX12) (N := 32) hx hb hT iX12 hown hK hW hT_o.1 hS_o rfl 10 (by decide) w1092 rfl dX12_tell_9 ?_
  refine lv_i2l hx hb dX12_tell_12 rfl ?_
  refine lv_topl (fun z_36 ez_36 => ?_)
  refine vp_callSi (va_Run.run (va_runS (As := [.long z_35, .long 0, .long z_36]) (rest := []) ⟨hx, hb, hml, hown, hT⟩ (m_isIn l dC dI H.size z_35 0 z_36) (va_cwS 3 hT (gS w1187 w1188 w14 w1189) rfl rfl rfl (by decide +kernel) ⟨(Nat.le_of_ble_eq_true rfl), (Nat.le_of_ble_eq_true rfl)⟩) ⟨pcW.blind, pcW.pre (va_P0 _ _ _) (hK.sub (tys' := []) [] rfl) (va_D0 (fun _ => True))⟩ rfl rfl hl.1 rfl (lv_room (Nat.le_of_ble_eq_true rfl)) dX12_tell_13 ⟨(Nat.le_of_ble_eq_true rfl), (Nat.le_of_ble_eq_true rfl)⟩)) (fun r_37 hr_37 => ?_)
  rcases isInc hr_37 with hc_ | hc_
  · obtain ⟨rfl, hin_⟩ := hc_
    obtain ⟨k_38, hb_k_38, rfl⟩ := inN ez_35 ez_36 hin_ (by omega)
    refine lv_if_ne (tgt := 22) hx hb dX12_tell_16 (by decide) (fun _ => ?_) (fun h => absurd h (by decide))
    refine lv_aload_n hx hb dX12_tell_22 rfl (lv_at hl 0 rfl) ?_
    refine lv_iconst (v := 0) hx hb dX12_tell_23 (by decide) ?_
    refine pl_put (ci := 12) (v := .int 0) (ty := .int) (C := RX12) (T := TX12) (N := 32) (fs' := [.ref x_1, .ref x_2, .ref x_3, .ref x_4, .ref x_5, .int (nI x_6), .int (nI x_7), .int (nI x_8), .int 0, .ref x_10, .int 0, .int (nI x_11), .int (nI x_12), .int x_13, .int x_14, .int x_15, .int x_16, .ref x_17, .ref x_18, .int (nI x_19), .ref x_20, .ref x_21, .ref x_22, .ref x_23, .ref x_24, .ref x_25, .ref x_26, .ref x_27, .ref x_28, .ref x_29, .ref x_30, .int (nI x_31)]) hx hb hT iX12 tyX12 tyX12_ok nmX12 hown hK hW hT_o.1 hS_o rfl 10 (by decide) w1092 rfl (by decide +kernel) rfl rfl (Nat.le_of_ble_eq_true rfl) rfl dX12_tell_24 (fun H locs S_39 e1 hW => ?_)
    have hTy : Ty cy L kap (pr.1, 0) S_39 := hTy.p2 (n := 0) e1 hT_o (fun b9 hb9 => hu12 b9 o hb9 hT_o) ⟨x_1, x_2, x_3, x_4, x_5, x_6, x_7, x_8, 0, x_10, x_11, x_12, x_13, x_14, x_15, x_16, x_17, x_18, x_19, x_20, x_21, x_22, x_23, x_24, x_25, x_26, x_27, x_28, x_29, x_30, x_31, rfl, hT_x_1, hT_x_2, hT_x_3, hT_x_4, hT_x_5, (by omega), (by omega), (by omega), hT_x_10, (by show 0 ≤ 900; omega), (by omega), (by omega), hT_x_17, hT_x_18, (by omega), hT_x_20, hT_x_21, hT_x_22, hT_x_23, hT_x_24, hT_x_25, hT_x_26, hT_x_27, hT_x_28, hT_x_29, hT_x_30, (by omega)⟩
    have hS_x_1 := un e1 hT_x_1 hT_o (by decide) hS_x_1
    have hS_x_2 := un e1 hT_x_2 hT_o (by decide) hS_x_2
    have hws := (show wrs (.inr (12, [.ref x_1, .ref x_2, .ref x_3, .ref x_4, .ref x_5, .int (nI x_6), .int (nI x_7), .int (nI x_8), .int 0, .ref x_10, .int (nI (0)), .int (nI x_11), .int (nI x_12), .int x_13, .int x_14, .int x_15, .int x_16, .ref x_17, .ref x_18, .int (nI x_19), .ref x_20, .ref x_21, .ref x_22, .ref x_23, .ref x_24, .ref x_25, .ref x_26, .ref x_27, .ref x_28, .ref x_29, .ref x_30, .int (nI x_31)])) = wrs (S_34 o) from by rw [hS_o]; rfl)
    have hFr := ufs hFr e1 hT_o (by decide) hws
    have hS_o := us e1
    refine lv_aload_n hx hb dX12_tell_27 rfl (lv_at hl 0 rfl) ?_
    refine lv_iload_n hx hb dX12_tell_28 rfl (lv_at hl 1 rfl) ?_
    refine pl_put (ci := 12) (v := .int (nI k_38)) (ty := .int) (C := RX12) (T := TX12) (N := 32) (fs' := [.ref x_1, .ref x_2, .ref x_3, .ref x_4, .ref x_5, .int (nI x_6), .int (nI x_7), .int (nI x_8), .int 0, .ref x_10, .int (nI (0)), .int (nI k_38), .int (nI x_12), .int x_13, .int x_14, .int x_15, .int x_16, .ref x_17, .ref x_18, .int (nI x_19), .ref x_20, .ref x_21, .ref x_22, .ref x_23, .ref x_24, .ref x_25, .ref x_26, .ref x_27, .ref x_28, .ref x_29, .ref x_30, .int (nI x_31)]) hx hb hT iX12 tyX12 tyX12_ok nmX12 hown hK hW hT_o.1 hS_o rfl 11 (by decide) w1093 rfl (by decide +kernel) rfl rfl (Nat.le_of_ble_eq_true rfl) rfl dX12_tell_29 (fun H locs S_40 e1 hW => ?_)
    have hTy := hTy.u12 e1 hT_o ⟨x_1, x_2, x_3, x_4, x_5, x_6, x_7, x_8, 0, x_10, k_38, x_12, x_13, x_14, x_15, x_16, x_17, x_18, x_19, x_20, x_21, x_22, x_23, x_24, x_25, x_26, x_27, x_28, x_29, x_30, x_31, rfl, hT_x_1, hT_x_2, hT_x_3, hT_x_4, hT_x_5, (by omega), (by omega), (by omega), hT_x_10, (by show 0 ≤ 900; omega), (by omega), (by omega), hT_x_17, hT_x_18, (by omega), hT_x_20, hT_x_21, hT_x_22, hT_x_23, hT_x_24, hT_x_25, hT_x_26, hT_x_27, hT_x_28, hT_x_29, hT_x_30, (by omega)⟩
    have hS_x_1 := un e1 hT_x_1 hT_o (by decide) hS_x_1
    have hS_x_2 := un e1 hT_x_2 hT_o (by decide) hS_x_2
    have hws := (show wrs (.inr (12, [.ref x_1, .ref x_2, .ref x_3, .ref x_4, .ref x_5, .int (nI x_6), .int (nI x_7), .int (nI x_8), .int 0, .ref x_10, .int (nI (0)), .int (nI k_38), .int (nI x_12), .int x_13, .int x_14, .int x_15, .int x_16, .ref x_17, .ref x_18, .int (nI x_19), .ref x_20, .ref x_21, .ref x_22, .ref x_23, .ref x_24, .ref x_25, .ref x_26, .ref x_27, .ref x_28, .ref x_29, .ref x_30, .int (nI x_31)])) = wrs (S_39 o) from by rw [hS_o]; rfl)
    have hFr := ufs hFr e1 hT_o (by decide) hws
    have hS_o := us e1
    refine lv_aload_n hx hb dX12_tell_32 rfl (lv_at hl 0 rfl) ?_
    refine lv_iconst (v := 0) hx hb dX12_tell_33 (by decide) ?_
    refine pl_put (ci := 12) (v := .int 0) (ty := .int) (C := RX12) (T := TX12) (N := 32) (fs' := [.ref x_1, .ref x_2, .ref x_3, .ref x_4, .ref x_5, .int (nI x_6), .int (nI x_7), .int (nI x_8), .int 0, .ref x_10, .int (nI (0)), .int (nI k_38), .int 0, .int x_13, .int x_14, .int x_15, .int x_16, .ref x_17, .ref x_18, .int (nI x_19), .ref x_20, .ref x_21, .ref x_22, .ref x_23, .ref x_24, .ref x_25, .ref x_26, .ref x_27, .ref x_28, .ref x_29, .ref x_30, .int (nI x_31)]) hx hb hT iX12 tyX12 tyX12_ok nmX12 hown hK hW hT_o.1 hS_o rfl 12 (by decide) w1094 rfl (by decide +kernel) rfl rfl (Nat.le_of_ble_eq_true rfl) rfl dX12_tell_34 (fun H locs S_41 e1 hW => ?_)
    have hTy := hTy.u12 e1 hT_o ⟨x_1, x_2, x_3, x_4, x_5, x_6, x_7, x_8, 0, x_10, k_38, 0, x_13, x_14, x_15, x_16, x_17, x_18, x_19, x_20, x_21, x_22, x_23, x_24, x_25, x_26, x_27, x_28, x_29, x_30, x_31, rfl, hT_x_1, hT_x_2, hT_x_3, hT_x_4, hT_x_5, (by omega), (by omega), (by omega), hT_x_10, (by show 0 ≤ 900; omega), (by omega), (by omega), hT_x_17, hT_x_18, (by omega), hT_x_20, hT_x_21, hT_x_22, hT_x_23, hT_x_24, hT_x_25, hT_x_26, hT_x_27, hT_x_28, hT_x_29, hT_x_30, (by omega)⟩
    have hS_x_1 := un e1 hT_x_1 hT_o (by decide) hS_x_1
    have hS_x_2 := un e1 hT_x_2 hT_o (by decide) hS_x_2
    have hws := (show wrs (.inr (12, [.ref x_1, .ref x_2, .ref x_3, .ref x_4, .ref x_5, .int (nI x_6), .int (nI x_7), .int (nI x_8), .int 0, .ref x_10, .int (nI (0)), .int (nI k_38), .int 0, .int x_13, .int x_14, .int x_15, .int x_16, .ref x_17, .ref x_18, .int (nI x_19), .ref x_20, .ref x_21, .ref x_22, .ref x_23, .ref x_24, .ref x_25, .ref x_26, .ref x_27, .ref x_28, .ref x_29, .ref x_30, .int (nI x_31)])) = wrs (S_40 o) from by rw [hS_o]; rfl)
    have hFr := ufs hFr e1 hT_o (by decide) hws
    have hS_o := us e1
    refine lv_aload_n hx hb dX12_tell_37 rfl (lv_at hl 0 rfl) ?_
    refine lv_iconst (v := 0) hx hb dX12_tell_38 (by decide) ?_
    refine pl_put (ci := 12) (v := .int 0) (ty := .int) (C := RX12) (T := TX12) (N := 32) (fs' := [.ref x_1, .ref x_2, .ref x_3, .ref x_4, .ref x_5, .int (nI x_6), .int (nI x_7), .int (nI x_8), .int 0, .ref x_10, .int (nI (0)), .int (nI k_38), .int 0, .int 0, .int x_14, .int x_15, .int x_16, .ref x_17, .ref x_18, .int (nI x_19), .ref x_20, .ref x_21, .ref x_22, .ref x_23, .ref x_24, .ref x_25, .ref x_26, .ref x_27, .ref x_28, .ref x_29, .ref x_30, .int (nI x_31)]) hx hb hT iX12 tyX12 tyX12_ok nmX12 hown hK hW hT_o.1 hS_o rfl 13 (by decide) w1095 rfl (by decide +kernel) rfl rfl (Nat.le_of_ble_eq_true rfl) rfl dX12_tell_39 (fun H locs S_42 e1 hW => ?_)
    have hTy := hTy.u12 e1 hT_o ⟨x_1, x_2, x_3, x_4, x_5, x_6, x_7, x_8, 0, x_10, k_38, 0, 0, x_14, x_15, x_16, x_17, x_18, x_19, x_20, x_21, x_22, x_23, x_24, x_25, x_26, x_27, x_28, x_29, x_30, x_31, rfl, hT_x_1, hT_x_2, hT_x_3, hT_x_4, hT_x_5, (by omega), (by omega), (by omega), hT_x_10, (by show 0 ≤ 900; omega), (by omega), (by omega), hT_x_17, hT_x_18, (by omega), hT_x_20, hT_x_21, hT_x_22, hT_x_23, hT_x_24, hT_x_25, hT_x_26, hT_x_27, hT_x_28, hT_x_29, hT_x_30, (by omega)⟩
    have hS_x_1 := un e1 hT_x_1 hT_o (by decide) hS_x_1
    have hS_x_2 := un e1 hT_x_2 hT_o (by decide) hS_x_2
    have hws := trivial
    have hFr := ufw hFr e1 hT_o (by decide) (by decide)
    have hS_o := us e1
    refine lv_aload_n hx hb dX12_tell_42 rfl (lv_at hl 0 rfl) ?_
    refine lv_iconst (v := (-1)) hx hb dX12_tell_43 (by decide) ?_
    refine pl_put (ci := 12) (v := .int (-1)) (ty := .int) (C := RX12) (T := TX12) (N := 32) (fs' := [.ref x_1, .ref x_2, .ref x_3, .ref x_4, .ref x_5, .int (nI x_6), .int (nI x_7), .int (nI x_8), .int 0, .ref x_10, .int (nI (0)), .int (nI k_38), .int 0, .int 0, .int (-1), .int x_15, .int x_16, .ref x_17, .ref x_18, .int (nI x_19), .ref x_20, .ref x_21, .ref x_22, .ref x_23, .ref x_24, .ref x_25, .ref x_26, .ref x_27, .ref x_28, .ref x_29, .ref x_30, .int (nI x_31)]) hx hb hT iX12 tyX12 tyX12_ok nmX12 hown hK hW hT_o.1 hS_o rfl 14 (by decide) w1096 rfl (by decide +kernel) rfl rfl (Nat.le_of_ble_eq_true rfl) rfl dX12_tell_44 (fun H locs S_43 e1 hW => ?_)
    have hTy := hTy.u12 e1 hT_o ⟨x_1, x_2, x_3, x_4, x_5, x_6, x_7, x_8, 0, x_10, k_38, 0, 0, (-1), x_15, x_16, x_17, x_18, x_19, x_20, x_21, x_22, x_23, x_24, x_25, x_26, x_27, x_28, x_29, x_30, x_31, rfl, hT_x_1, hT_x_2, hT_x_3, hT_x_4, hT_x_5, (by omega), (by omega), (by omega), hT_x_10, (by show 0 ≤ 900; omega), (by omega), (by omega), hT_x_17, hT_x_18, (by omega), hT_x_20, hT_x_21, hT_x_22, hT_x_23, hT_x_24, hT_x_25, hT_x_26, hT_x_27, hT_x_28, hT_x_29, hT_x_30, (by omega)⟩
    have hS_x_1 := un e1 hT_x_1 hT_o (by decide) hS_x_1
    have hS_x_2 := un e1 hT_x_2 hT_o (by decide) hS_x_2
    have hws := trivial
    have hFr := ufw hFr e1 hT_o (by decide) (by decide)
    have hS_o := us e1
    refine lv_aload_n hx hb dX12_tell_47 rfl (lv_at hl 0 rfl) ?_
    refine lv_iconst (v := 0) hx hb dX12_tell_48 (by decide) ?_
    refine pl_put (ci := 12) (v := .int 0) (ty := .int) (C := RX12) (T := TX12) (N := 32) (fs' := [.ref x_1, .ref x_2, .ref x_3, .ref x_4, .ref x_5, .int (nI x_6), .int (nI x_7), .int (nI x_8), .int 0, .ref x_10, .int (nI (0)), .int (nI k_38), .int 0, .int 0, .int (-1), .int 0, .int x_16, .ref x_17, .ref x_18, .int (nI x_19), .ref x_20, .ref x_21, .ref x_22, .ref x_23, .ref x_24, .ref x_25, .ref x_26, .ref x_27, .ref x_28, .ref x_29, .ref x_30, .int (nI x_31)]) hx hb hT iX12 tyX12 tyX12_ok nmX12 hown hK hW hT_o.1 hS_o rfl 15 (by decide) w1097 rfl (by decide +kernel) rfl rfl (Nat.le_of_ble_eq_true rfl) rfl dX12_tell_49 (fun H locs S_44 e1 hW => ?_)
    have hTy := hTy.u12 e1 hT_o ⟨x_1, x_2, x_3, x_4, x_5, x_6, x_7, x_8, 0, x_10, k_38, 0, 0, (-1), 0, x_16, x_17, x_18, x_19, x_20, x_21, x_22, x_23, x_24, x_25, x_26, x_27, x_28, x_29, x_30, x_31, rfl, hT_x_1, hT_x_2, hT_x_3, hT_x_4, hT_x_5, (by omega), (by omega), (by omega), hT_x_10, (by show 0 ≤ 900; omega), (by omega), (by omega), hT_x_17, hT_x_18, (by omega), hT_x_20, hT_x_21, hT_x_22, hT_x_23, hT_x_24, hT_x_25, hT_x_26, hT_x_27, hT_x_28, hT_x_29, hT_x_30, (by omega)⟩
    have hS_x_1 := un e1 hT_x_1 hT_o (by decide) hS_x_1
    have hS_x_2 := un e1 hT_x_2 hT_o (by decide) hS_x_2
    have hws := (show wrs (.inr (12, [.ref x_1, .ref x_2, .ref x_3, .ref x_4, .ref x_5, .int (nI x_6), .int (nI x_7), .int (nI x_8), .int 0, .ref x_10, .int (nI (0)), .int (nI k_38), .int 0, .int 0, .int (-1), .int 0, .int x_16, .ref x_17, .ref x_18, .int (nI x_19), .ref x_20, .ref x_21, .ref x_22, .ref x_23, .ref x_24, .ref x_25, .ref x_26, .ref x_27, .ref x_28, .ref x_29, .ref x_30, .int (nI x_31)])) = wrs (S_43 o) from by rw [hS_o]; rfl)
    have hFr := ufs hFr e1 hT_o (by decide) hws
    have hS_o := us e1
    refine lv_aload_n hx hb dX12_tell_52 rfl (lv_at hl 0 rfl) ?_
    refine pl_get (ci := 12) (v := .int (nI x_6)) (C := RX12) (T := TX12) (N := 32) hx hb hT iX12 hown hK hW hT_o.1 hS_o rfl 5 (by decide) w1087 rfl dX12_tell_53 ?_
    refine lv_istore_n (lv' := [(2, .int (nI x_6)), (0, .ref o), (1, .int (nI k_38))]) hx hb dX12_tell_56 rfl hl (by decide) rfl (fun ls hl => ?_)
    refine lv_aload_n hx hb dX12_tell_57 rfl (lv_at hl 1 rfl) ?_
    refine pl_get (ci := 12) (v := .int (nI x_7)) (C := RX12) (T := TX12) (N := 32) hx hb hT iX12 hown hK hW hT_o.1 hS_o rfl 6 (by decide) w1088 rfl dX12_tell_58 ?_
    refine lv_istore_n (lv' := [(3, .int (nI x_7)), (2, .int (nI x_6)), (0, .ref o), (1, .int (nI k_38))]) hx hb dX12_tell_61 rfl hl (by decide) rfl (fun ls hl => ?_)
    refine lv_iconst (v := 0) hx hb dX12_tell_62 (by decide) ?_
    refine lv_istore (lv' := [(4, .int 0), (3, .int (nI x_7)), (2, .int (nI x_6)), (0, .ref o), (1, .int (nI k_38))]) hx hb dX12_tell_63 hl (by decide) rfl (fun ls hl => ?_)
    have loop : ∀ (fuel : Nat) (i : Nat) (gv : Nat → Int32) (SS : Nat → va_E) (H : Heap) (locs : List Loc) (ls : Array Slot), 267 - i < fuel → (i ≤ 266) → (SS x_2 = .inl (cy 0, 266, .inl gv)) → (∀ j, j < i → gv j = f_32 j) → Ty cy L kap (pr.1, 0) SS → Fr kap [12, 50, 51, 53, 54, 112] S SS → Fr kap [51] S_44 SS → PW dC dI L (AL L s.heap.size) s.heap SS H locs → lv_has ls 5 [(4, .int (nI i)), (3, .int (nI x_7)), (2, .int (nI x_6)), (0, .ref o), (1, .int (nI k_38))] → W p l e (headSpec (wT yX12_tell cX12_tell 5 (some .int)) { frames := 11, cells := 0, slots := 0, locals := 247 }).room s m [.ref o, .int (nI k_38)].toArray below meth c H locs 0 0 (MQ below (va_Qi (fun r S' => Ty cy L kap (pr.1, tl (nI k_38) pr.2) S' ∧ Fr kap [12, 50, 51, 53, 54, 112] S S' ∧ (dg (fld S' o 0))) (fun S' t => pB dC dI (AL L s.heap.size) (va_pl L S') (cyT cy) t) (AL L s.heap.size)) [.ref o, .int (nI k_38)].toArray s 0 0 (AL L s.heap.size)) (F0 m 65 ls []) := by
      intro fuel
      induction fuel with
      | zero => intro i gv SS H locs ls h; exact absurd h (Nat.not_lt_zero _)
      | succ fu65 ih65 =>
        intro i gv S_45 H locs ls hm65 hb_i hVs hcp hTy hFr hFl65 hW hl
        have hS_o := hFl65.at hT_o (by decide) hS_o
        have hS_x_1 := hFl65.at hT_x_1 (by decide) hS_x_1
        have hi_gv := k51i hTy hT_x_2 hVs
        refine lv_iload hx hb dX12_tell_65 (lv_at hl 0 rfl) ?_
        refine lv_sipush (v := 266) hx hb dX12_tell_67 (by decide) ?_
        refine lv_icmp_ge (tgt := 93) hx hb dX12_tell_70 (by decide) (fun c_70 => ?_) (fun c_70 => ?_)
        · have c_70 : 266 ≤ i := (nI_leI (a := 266) (b := i) (by omega) (by omega)).mp c_70
          have hsv : dg gv := dg_c hdgs (fun j hj => hcp j (by omega))
          refine lv_iconst (v := 0) hx hb dX12_tell_93 (by decide) ?_
          refine lv_istore (lv' := [(4, .int 0), (3, .int (nI x_7)), (2, .int (nI x_6)), (0, .ref o), (1, .int (nI k_38))]) hx hb dX12_tell_94 hl (by decide) rfl (fun ls hl => ?_)
          have loop : ∀ (fuel : Nat) (i : Nat) (SS : Nat → va_E) (H : Heap) (locs : List Loc) (ls : Array Slot), 13 - i < fuel → (i ≤ 12) → Ty cy L kap (pr.1, 0) SS → Fr kap [12, 50, 51, 53, 54, 112] S SS → Fr kap [54] S_45 SS → PW dC dI L (AL L s.heap.size) s.heap SS H locs → lv_has ls 5 [(4, .int (nI i)), (3, .int (nI x_7)), (2, .int (nI x_6)), (0, .ref o), (1, .int (nI k_38))] → W p l e (headSpec (wT yX12_tell cX12_tell 5 (some .int)) { frames := 11, cells := 0, slots := 0, locals := 247 }).room s m [.ref o, .int (nI k_38)].toArray below meth c H locs 0 0 (MQ below (va_Qi (fun r S' => Ty cy L kap (pr.1, tl (nI k_38) pr.2) S' ∧ Fr kap [12, 50, 51, 53, 54, 112] S S' ∧ (dg (fld S' o 0))) (fun S' t => pB dC dI (AL L s.heap.size) (va_pl L S') (cyT cy) t) (AL L s.heap.size)) [.ref o, .int (nI k_38)].toArray s 0 0 (AL L s.heap.size)) (F0 m 96 ls []) := by
            intro fuel
            induction fuel with
            | zero => intro i SS H locs ls h; exact absurd h (Nat.not_lt_zero _)
            | succ fu96 ih96 =>
              intro i S_46 H locs ls hm96 hb_i hTy hFr hFl96 hW hl
              have hS_o := hFl96.at hT_o (by decide) hS_o
              have hS_x_1 := hFl96.at hT_x_1 (by decide) hS_x_1
              have hVs := hFl96.at hT_x_2 (by decide) hVs
              refine lv_iload hx hb dX12_tell_96 (lv_at hl 0 rfl) ?_
              refine lv_bipush (v := 12) hx hb dX12_tell_98 (by decide) ?_
              refine lv_icmp_ge (tgt := 123) hx hb dX12_tell_100 (by decide) (fun c_100 => ?_) (fun c_100 => ?_)
              · have c_100 : 12 ≤ i := (nI_leI (a := 12) (b := i) (by omega) (by omega)).mp c_100
                refine lv_aload_n hx hb dX12_tell_123 rfl (lv_at hl 3 rfl) ?_
                refine pl_callv (va_runV (As := []) (rest := []) ⟨hx, hb, hml, hown, hT⟩ (m_plain l dC dI cy L kap (pr.1, 0) S_46 H.size o hTy hT_o 0 k_38 0 x_6 x_7 x_1 (MKi (sp := 0) (sn := k_38) (pa := x_6) (ki := x_7) hS_o rfl rfl rfl rfl rfl rfl (by omega) (by omega) (by omega) (by omega)) (by omega)) (cwV 0 hT (gV w1077 w1079 ws54 w14 w1080) rfl rfl rfl (by decide +kernel) ⟨(Nat.le_of_ble_eq_true rfl), (Nat.le_of_ble_eq_true rfl)⟩) ⟨pcN.blind, pl_recv hK hW hT_o.1 hS_o rfl, pcN.pre hW.1 hK hW.2.1 hN (fun q h => absurd h List.not_mem_nil)⟩ rfl rfl hl.1 rfl (lv_room (Nat.le_of_ble_eq_true rfl)) dX12_tell_124 ⟨(Nat.le_of_ble_eq_true rfl), (Nat.le_of_ble_eq_true rfl)⟩) hW hA0 hA (fun S_47 H locs hrel hW => ?_)
                obtain ⟨hTy, hF1, hx1⟩ := hrel
                have hFr := hFr.tr hF1 (by decide)
                have hVs := hF1.at hT_x_2 (by decide) hVs
                have hmn_ := hx1.2
                obtain ⟨x_48, x_49, x_50, x_51, x_52, x_53, x_54, x_55, x_56, x_57, x_58, x_59, x_60, x_61, x_62, x_63, x_64, x_65, x_66, x_67, x_68, x_69, x_70, x_71, x_72, x_73, x_74, x_75, x_76, x_77, x_78, hS_o, hT_x_48, hT_x_49, hT_x_50, hT_x_51, hT_x_52, hb_x_53, hb_x_54, hb_x_55, hT_x_57, hb_q2, hb_x_58, hb_x_59, hT_x_64, hT_x_65, hb_x_66, hT_x_67, hT_x_68, hT_x_69, hT_x_70, hT_x_71, hT_x_72, hT_x_73, hT_x_74, hT_x_75, hT_x_76, hT_x_77, hb_x_78⟩ := hTy.k12 hT_o
                have hb_q2 : 0 ≤ 900 := hb_q2
                have hS_o : S_47 o = .inr (12, [.ref x_48, .ref x_49, .ref x_50, .ref x_51, .ref x_52, .int (nI x_53), .int (nI x_54), .int (nI x_55), .int x_56, .ref x_57, .int (nI (0)), .int (nI x_58), .int (nI x_59), .int x_60, .int x_61, .int x_62, .int x_63, .ref x_64, .ref x_65, .int (nI x_66), .ref x_67, .ref x_68, .ref x_69, .ref x_70, .ref x_71, .ref x_72, .ref x_73, .ref x_74, .ref x_75, .ref x_76, .ref x_77, .int (nI x_78)]) := hS_o
                obtain ⟨e12_, e11_, e13_, e5_, e6_, e0_⟩ := MKe hx1.1 hS_o rfl rfl rfl rfl rfl rfl (by omega) (by omega) (by omega) (by omega)
                subst e12_ e11_ e13_ e5_ e6_ e0_
                have loop : ∀ (fuel : Nat) (gsp : Nat) (gwr : Int32) (gpa : Nat) (gki : Nat) (gd : Nat) (SS : Nat → va_E) (H : Heap) (locs : List Loc) (ls : Array Slot), gd < fuel → (MK SS o gsp k_38 gwr gpa gki x_1) → (dg (fld SS o 0)) → (gwr ≠ 0 ∨ gsp ≤ k_38) → (gwr ≠ 0 ∨ 902 ≤ gd + gsp) → Ty cy L kap (pr.1, 0) SS → Fr kap [12, 50, 51, 53, 54, 112] S SS → Fr kap [12, 50, 53, 112] S_47 SS → PW dC dI L (AL L s.heap.size) s.heap SS H locs → lv_has ls 5 [(4, .int (nI i)), (3, .int (nI x_7)), (2, .int (nI x_6)), (0, .ref o), (1, .int (nI k_38))] → W p l e (headSpec (wT yX12_tell cX12_tell 5 (some .int)) { frames := 11, cells := 0, slots := 0, locals := 247 }).room s m [.ref o, .int (nI k_38)].toArray below meth c H locs 0 0 (MQ below (va_Qi (fun r S' => Ty cy L kap (pr.1, tl (nI k_38) pr.2) S' ∧ Fr kap [12, 50, 51, 53, 54, 112] S S' ∧ (dg (fld S' o 0))) (fun S' t => pB dC dI (AL L s.heap.size) (va_pl L S') (cyT cy) t) (AL L s.heap.size)) [.ref o, .int (nI k_38)].toArray s 0 0 (AL L s.heap.size)) (F0 m 127 ls []) := by
                  intro fuel
                  induction fuel with
                  | zero => intro gsp gwr gpa gki gd SS H locs ls h; exact absurd h (Nat.not_lt_zero _)
                  | succ fu127 ih127 =>
                    intro gsp gwr gpa gki gd S_79 H locs ls hm127 hgM hgD hgs hgd hTy hFr hFl127 hW hl
                    have hVs := hFl127.at hT_x_2 (by decide) hVs
                    obtain ⟨x_80, x_81, x_82, x_83, x_84, x_85, x_86, x_87, x_88, x_89, x_90, x_91, x_92, x_93, x_94, x_95, x_96, x_97, x_98, x_99, x_100, x_101, x_102, x_103, x_104, x_105, x_106, x_107, x_108, x_109, x_110, hS_o, hT_x_80, hT_x_81, hT_x_82, hT_x_83, hT_x_84, hb_x_85, hb_x_86, hb_x_87, hT_x_89, hb_q2, hb_x_90, hb_x_91, hT_x_96, hT_x_97, hb_x_98, hT_x_99, hT_x_100, hT_x_101, hT_x_102, hT_x_103, hT_x_104, hT_x_105, hT_x_106, hT_x_107, hT_x_108, hT_x_109, hb_x_110⟩ := hTy.k12 hT_o
                    have hb_q2 : 0 ≤ 900 := hb_q2
                    have hS_o : S_79 o = .inr (12, [.ref x_80, .ref x_81, .ref x_82, .ref x_83, .ref x_84, .int (nI x_85), .int (nI x_86), .int (nI x_87), .int x_88, .ref x_89, .int (nI (0)), .int (nI x_90), .int (nI x_91), .int x_92, .int x_93, .int x_94, .int x_95, .ref x_96, .ref x_97, .int (nI x_98), .ref x_99, .ref x_100, .ref x_101, .ref x_102, .ref x_103, .ref x_104, .ref x_105, .ref x_106, .ref x_107, .ref x_108, .ref x_109, .int (nI x_110)]) := hS_o
                    obtain ⟨e12_, e11_, e13_, e5_, e6_, e0_⟩ := MKe hgM hS_o rfl rfl rfl rfl rfl rfl (by omega) (by omega) (by omega) (by omega)
                    subst e12_ e11_ e13_ e5_ e6_ e0_
                    obtain ⟨f_111, hS_x_1, hi_f_111⟩ := hTy.k50 hT_x_80
                    have hdg_ : dg f_111 := by have q := hgD; rw [fld_i hS_o rfl hS_x_1] at q; exact q
                    refine lv_aload_n hx hb dX12_tell_127 rfl (lv_at hl 3 rfl) ?_
                    refine pl_get (ci := 12) (v := .int gwr) (C := RX12) (T := TX12) (N := 32) hx hb hT iX12 hown hK hW hT_o.1 hS_o rfl 13 (by decide) w1095 rfl dX12_tell_128 ?_
                    refine lv_if_ne (tgt := 149) hx hb dX12_tell_131 (by decide) (fun c_131 => ?_) (fun c_131 => ?_)
                    · refine lv_aload_n hx hb dX12_tell_149 rfl (lv_at hl 3 rfl) ?_
                      refine pl_get (ci := 12) (v := .int gwr) (C := RX12) (T := TX12) (N := 32) hx hb hT iX12 hown hK hW hT_o.1 hS_o rfl 13 (by decide) w1095 rfl dX12_tell_150 ?_
                      refine lv_if_ne (tgt := 168) hx hb dX12_tell_153 (by decide) (fun c_153 => ?_) (fun c_153 => ?_)
                      · obtain rfl : x_2 = x_81 := hu51 _ _ hT_x_2 hT_x_81
                        refine lv_aload_n hx hb dX12_tell_168 rfl (lv_at hl 3 rfl) ?_
                        refine lv_iload_n hx hb dX12_tell_169 rfl (lv_at hl 2 rfl) ?_
                        refine pl_put (ci := 12) (v := .int (nI x_6)) (ty := .int) (C := RX12) (T := TX12) (N := 32) (fs' := [.ref x_1, .ref x_2, .ref x_82, .ref x_83, .ref x_84, .int (nI x_6), .int (nI gki), .int (nI x_87), .int x_88, .ref x_89, .int (nI (0)), .int (nI k_38), .int (nI gsp), .int gwr, .int x_93, .int x_94, .int x_95, .ref x_96, .ref x_97, .int (nI x_98), .ref x_99, .ref x_100, .ref x_101, .ref x_102, .ref x_103, .ref x_104, .ref x_105, .ref x_106, .ref x_107, .ref x_108, .ref x_109, .int (nI x_110)]) hx hb hT iX12 tyX12 tyX12_ok nmX12 hown hK hW hT_o.1 hS_o rfl 5 (by decide) w1087 rfl (by decide +kernel) rfl rfl (Nat.le_of_ble_eq_true rfl) rfl dX12_tell_170 (fun H locs S_112 e1 hW => ?_)
                        have hTy := hTy.u12 e1 hT_o ⟨x_1, x_2, x_82, x_83, x_84, x_6, gki, x_87, x_88, x_89, k_38, gsp, gwr, x_93, x_94, x_95, x_96, x_97, x_98, x_99, x_100, x_101, x_102, x_103, x_104, x_105, x_106, x_107, x_108, x_109, x_110, rfl, hT_x_80, hT_x_2, hT_x_82, hT_x_83, hT_x_84, (by omega), (by omega), (by omega), hT_x_89, (by show 0 ≤ 900; omega), (by omega), (by omega), hT_x_96, hT_x_97, (by omega), hT_x_99, hT_x_100, hT_x_101, hT_x_102, hT_x_103, hT_x_104, hT_x_105, hT_x_106, hT_x_107, hT_x_108, hT_x_109, (by omega)⟩
                        have hVs := un e1 hT_x_2 hT_o (by decide) hVs
                        have hS_x_1 := un e1 hT_x_80 hT_o (by decide) hS_x_1
                        have hws := (show wrs (.inr (12, [.ref x_1, .ref x_2, .ref x_82, .ref x_83, .ref x_84, .int (nI x_6), .int (nI gki), .int (nI x_87), .int x_88, .ref x_89, .int (nI (0)), .int (nI k_38), .int (nI gsp), .int gwr, .int x_93, .int x_94, .int x_95, .ref x_96, .ref x_97, .int (nI x_98), .ref x_99, .ref x_100, .ref x_101, .ref x_102, .ref x_103, .ref x_104, .ref x_105, .ref x_106, .ref x_107, .ref x_108, .ref x_109, .int (nI x_110)])) = wrs (S_79 o) from by rw [hS_o]; rfl)
                        have hFr := ufs hFr e1 hT_o (by decide) hws
                        have hFl127 := ufs hFl127 e1 hT_o (by decide) hws
                        have hS_o := us e1
                        refine lv_aload_n hx hb dX12_tell_173 rfl (lv_at hl 3 rfl) ?_
                        refine lv_iload_n hx hb dX12_tell_174 rfl (lv_at hl 1 rfl) ?_
                        refine pl_put (ci := 12) (v := .int (nI x_7)) (ty := .int) (C := RX12) (T := TX12) (N := 32) (fs' := [.ref x_1, .ref x_2, .ref x_82, .ref x_83, .ref x_84, .int (nI x_6), .int (nI x_7), .int (nI x_87), .int x_88, .ref x_89, .int (nI (0)), .int (nI k_38), .int (nI gsp), .int gwr, .int x_93, .int x_94, .int x_95, .ref x_96, .ref x_97, .int (nI x_98), .ref x_99, .ref x_100, .ref x_101, .ref x_102, .ref x_103, .ref x_104, .ref x_105, .ref x_106, .ref x_107, .ref x_108, .ref x_109, .int (nI x_110)]) hx hb hT iX12 tyX12 tyX12_ok nmX12 hown hK hW hT_o.1 hS_o rfl 6 (by decide) w1088 rfl (by decide +kernel) rfl rfl (Nat.le_of_ble_eq_true rfl) rfl dX12_tell_175 (fun H locs S_113 e1 hW => ?_)
                        have hTy := hTy.u12 e1 hT_o ⟨x_1, x_2, x_82, x_83, x_84, x_6, x_7, x_87, x_88, x_89, k_38, gsp, gwr, x_93, x_94, x_95, x_96, x_97, x_98, x_99, x_100, x_101, x_102, x_103, x_104, x_105, x_106, x_107, x_108, x_109, x_110, rfl, hT_x_80, hT_x_2, hT_x_82, hT_x_83, hT_x_84, (by omega), (by omega), (by omega), hT_x_89, (by show 0 ≤ 900; omega), (by omega), (by omega), hT_x_96, hT_x_97, (by omega), hT_x_99, hT_x_100, hT_x_101, hT_x_102, hT_x_103, hT_x_104, hT_x_105, hT_x_106, hT_x_107, hT_x_108, hT_x_109, (by omega)⟩
                        have hVs := un e1 hT_x_2 hT_o (by decide) hVs
                        have hS_x_1 := un e1 hT_x_80 hT_o (by decide) hS_x_1
                        have hws := (show wrs (.inr (12, [.ref x_1, .ref x_2, .ref x_82, .ref x_83, .ref x_84, .int (nI x_6), .int (nI x_7), .int (nI x_87), .int x_88, .ref x_89, .int (nI (0)), .int (nI k_38), .int (nI gsp), .int gwr, .int x_93, .int x_94, .int x_95, .ref x_96, .ref x_97, .int (nI x_98), .ref x_99, .ref x_100, .ref x_101, .ref x_102, .ref x_103, .ref x_104, .ref x_105, .ref x_106, .ref x_107, .ref x_108, .ref x_109, .int (nI x_110)])) = wrs (S_112 o) from by rw [hS_o]; rfl)
                        have hFr := ufs hFr e1 hT_o (by decide) hws
                        have hFl127 := ufs hFl127 e1 hT_o (by decide) hws
                        have hS_o := us e1
                        refine lv_iconst (v := 0) hx hb dX12_tell_178 (by decide) ?_
                        refine lv_istore (lv' := [(4, .int 0), (3, .int (nI x_7)), (2, .int (nI x_6)), (0, .ref o), (1, .int (nI k_38))]) hx hb dX12_tell_179 hl (by decide) rfl (fun ls hl => ?_)
                        have loop : ∀ (fuel : Nat) (i : Nat) (gr : Nat → Int32) (SS : Nat → va_E) (H : Heap) (locs : List Loc) (ls : Array Slot), 267 - i < fuel → (i ≤ 266) → (SS x_1 = .inl (cy 0, 266, .inl gr)) → (∀ j, j < i → gr j = gv j) → Ty cy L kap (pr.1, 0) SS → Fr kap [12, 50, 51, 53, 54, 112] S SS → Fr kap [50] S_113 SS → PW dC dI L (AL L s.heap.size) s.heap SS H locs → lv_has ls 5 [(4, .int (nI i)), (3, .int (nI x_7)), (2, .int (nI x_6)), (0, .ref o), (1, .int (nI k_38))] → W p l e (headSpec (wT yX12_tell cX12_tell 5 (some .int)) { frames := 11, cells := 0, slots := 0, locals := 247 }).room s m [.ref o, .int (nI k_38)].toArray below meth c H locs 0 0 (MQ below (va_Qi (fun r S' => Ty cy L kap (pr.1, tl (nI k_38) pr.2) S' ∧ Fr kap [12, 50, 51, 53, 54, 112] S S' ∧ (dg (fld S' o 0))) (fun S' t => pB dC dI (AL L s.heap.size) (va_pl L S') (cyT cy) t) (AL L s.heap.size)) [.ref o, .int (nI k_38)].toArray s 0 0 (AL L s.heap.size)) (F0 m 181 ls []) := by
                          intro fuel
                          induction fuel with
                          | zero => intro i gr SS H locs ls h; exact absurd h (Nat.not_lt_zero _)
                          | succ fu181 ih181 =>
                            intro i gr S_114 H locs ls hm181 hb_i hRs hcr hTy hFr hFl181 hW hl
                            have hVs := hFl181.at hT_x_2 (by decide) hVs
                            have hS_o := hFl181.at hT_o (by decide) hS_o
                            have hFl127 := hFl127.tr hFl181 (by decide)
                            have hi_gr := k50i hTy hT_x_80 hRs
                            refine lv_iload hx hb dX12_tell_181 (lv_at hl 0 rfl) ?_
                            refine lv_sipush (v := 266) hx hb dX12_tell_183 (by decide) ?_
                            refine lv_icmp_ge (tgt := 209) hx hb dX12_tell_186 (by decide) (fun c_186 => ?_) (fun c_186 => ?_)
                            · have c_186 : 266 ≤ i := (nI_leI (a := 266) (b := i) (by omega) (by omega)).mp c_186
                              have hdg_ : dg gr := dg_c hsv (fun j hj => hcr j (by omega))
                              refine lv_iconst (v := 0) hx hb dX12_tell_209 (by decide) ?_
                              refine lv_istore (lv' := [(4, .int 0), (3, .int (nI x_7)), (2, .int (nI x_6)), (0, .ref o), (1, .int (nI k_38))]) hx hb dX12_tell_210 hl (by decide) rfl (fun ls hl => ?_)
                              have loop : ∀ (fuel : Nat) (i : Nat) (SS : Nat → va_E) (H : Heap) (locs : List Loc) (ls : Array Slot), 13 - i < fuel → (i ≤ 12) → Ty cy L kap (pr.1, 0) SS → Fr kap [12, 50, 51, 53, 54, 112] S SS → Fr kap [53] S_114 SS → PW dC dI L (AL L s.heap.size) s.heap SS H locs → lv_has ls 5 [(4, .int (nI i)), (3, .int (nI x_7)), (2, .int (nI x_6)), (0, .ref o), (1, .int (nI k_38))] → W p l e (headSpec (wT yX12_tell cX12_tell 5 (some .int)) { frames := 11, cells := 0, slots := 0, locals := 247 }).room s m [.ref o, .int (nI k_38)].toArray below meth c H locs 0 0 (MQ below (va_Qi (fun r S' => Ty cy L kap (pr.1, tl (nI k_38) pr.2) S' ∧ Fr kap [12, 50, 51, 53, 54, 112] S S' ∧ (dg (fld S' o 0))) (fun S' t => pB dC dI (AL L s.heap.size) (va_pl L S') (cyT cy) t) (AL L s.heap.size)) [.ref o, .int (nI k_38)].toArray s 0 0 (AL L s.heap.size)) (F0 m 212 ls []) := by
                                intro fuel
                                induction fuel with
                                | zero => intro i SS H locs ls h; exact absurd h (Nat.not_lt_zero _)
                                | succ fu212 ih212 =>
                                  intro i S_115 H locs ls hm212 hb_i hTy hFr hFl212 hW hl
                                  have hVs := hFl212.at hT_x_2 (by decide) hVs
                                  have hS_o := hFl212.at hT_o (by decide) hS_o
                                  have hRs := hFl212.at hT_x_80 (by decide) hRs
                                  have hFl127 := hFl127.tr hFl212 (by decide)
                                  refine lv_iload hx hb dX12_tell_212 (lv_at hl 0 rfl) ?_
                                  refine lv_bipush (v := 12) hx hb dX12_tell_214 (by decide) ?_
                                  refine lv_icmp_ge (tgt := 239) hx hb dX12_tell_216 (by decide) (fun c_216 => ?_) (fun c_216 => ?_)
                                  · have c_216 : 12 ≤ i := (nI_leI (a := 12) (b := i) (by omega) (by omega)).mp c_216
                                    refine lv_bipush (v := (-30)) hx hb dX12_tell_239 (by decide) ?_
                                    refine lv_aload_n hx hb dX12_tell_241 rfl (lv_at hl 3 rfl) ?_
                                    refine pl_get (ci := 12) (v := .int gwr) (C := RX12) (T := TX12) (N := 32) hx hb hT iX12 hown hK hW hT_o.1 hS_o rfl 13 (by decide) w1095 rfl dX12_tell_242 ?_
                                    refine lv_isub hx hb dX12_tell_245 ?_
                                    refine lv_topi (fun z_116 ez_116 => ?_)
                                    have hTy : Ty cy L kap (pr.1, tl (nI k_38) pr.2) S_115 := (by rw [tl_3 hb_k_38 (by omega)]; exact hTy)
                                    exact W.iret (v := z_116) hx hb hr (fun t ht h9 => ⟨⟨z_116, S_115, rfl, ⟨hTy, hFr, (by rw [fld_i hS_o rfl hRs]; exact hdg_)⟩, by rw [ht]; exact hW.1, va_K.moved h9.alike hK, hW.2.1⟩, hW.2.2.F ht⟩) hW.2.2.2.2 dX12_tell_246
                                  · have c_216 : ¬ (12 ≤ i) := fun hh9 => c_216 ((nI_leI (a := 12) (b := i) (by omega) (by omega)).mpr hh9)
                                    refine lv_aload_n hx hb dX12_tell_219 rfl (lv_at hl 3 rfl) ?_
                                    refine pl_get (ci := 12) (v := .ref x_83) (C := RX12) (T := TX12) (N := 32) hx hb hT iX12 hown hK hW hT_o.1 hS_o rfl 3 (by decide) w1085 rfl dX12_tell_220 ?_
                                    refine lv_iload hx hb dX12_tell_223 (lv_at hl 0 rfl) ?_
                                    refine lv_aload_n hx hb dX12_tell_225 rfl (lv_at hl 3 rfl) ?_
                                    refine pl_get (ci := 12) (v := .ref x_84) (C := RX12) (T := TX12) (N := 32) hx hb hT iX12 hown hK hW hT_o.1 hS_o rfl 4 (by decide) w1086 rfl dX12_tell_226 ?_
                                    refine lv_iload hx hb dX12_tell_229 (lv_at hl 0 rfl) ?_
                                    obtain ⟨f_117, hS_x_84⟩ := hTy.k54 hT_x_84
                                    refine pl_lald hx hb hK hW hT_x_84.1 hS_x_84 (vp_in_nI (n := i) (N := 12) (by omega) (by omega)) dX12_tell_231 ?_
                                    refine lv_topl (fun y_118 ey_118 => ?_)
                                    obtain ⟨f_119, hS_x_83⟩ := hTy.k53 hT_x_83
                                    refine pl_last hx hb hK hW hT_x_83.1 hS_x_83 (vp_in_nI (n := i) (N := 12) (by omega) (by omega)) dX12_tell_232 (fun H locs f_121 S_120 ef_f_121 e1 hW => ?_)
                                    have hTy := hTy.u53 e1 hT_x_83 ⟨f_121, rfl⟩
                                    have hVs := un e1 hT_x_2 hT_x_83 (by decide) hVs
                                    have hS_o := un e1 hT_o hT_x_83 (by decide) hS_o
                                    have hRs := un e1 hT_x_80 hT_x_83 (by decide) hRs
                                    have hS_x_84 := un e1 hT_x_84 hT_x_83 (by decide) hS_x_84
                                    have hFr := uf hFr e1 hT_x_83 (by decide) (by decide)
                                    have hFl127 := uf hFl127 e1 hT_x_83 (by decide) (by decide)
                                    have hFl212 := uf hFl212 e1 hT_x_83 (by decide) (by decide)
                                    have hS_x_83 := us e1
                                    refine lv_iinc (v := nI (i + 1)) (lv' := [(4, .int (nI (i + 1))), (3, .int (nI x_7)), (2, .int (nI x_6)), (0, .ref o), (1, .int (nI k_38))]) hx hb dX12_tell_233 hl (k := 0) rfl (nI_add (i) 1) (by decide) rfl (fun ls hl => ?_)
                                    refine lv_goto (tgt := 212) hx hb dX12_tell_236 (by decide) ?_
                                    exact ih212 (i + 1) _ _ _ ls (by omega) (by omega) hTy hFr hFl212 hW (lv_sub hl [0, 1, 2, 3, 4] rfl)
                              exact loop ((13 - 0) + 1) 0 _ _ _ ls (Nat.lt_succ_self _) (by omega) hTy hFr Fr.rf hW (lv_sub hl [0, 1, 2, 3, 4] rfl)
                            · have c_186 : ¬ (266 ≤ i) := fun hh9 => c_186 ((nI_leI (a := 266) (b := i) (by omega) (by omega)).mpr hh9)
                              refine lv_aload_n hx hb dX12_tell_189 rfl (lv_at hl 3 rfl) ?_
                              refine pl_get (ci := 12) (v := .ref x_1) (C := RX12) (T := TX12) (N := 32) hx hb hT iX12 hown hK hW hT_o.1 hS_o rfl 0 (by decide) w1082 rfl dX12_tell_190 ?_
                              refine lv_iload hx hb dX12_tell_193 (lv_at hl 0 rfl) ?_
                              refine lv_aload_n hx hb dX12_tell_195 rfl (lv_at hl 3 rfl) ?_
                              refine pl_get (ci := 12) (v := .ref x_2) (C := RX12) (T := TX12) (N := 32) hx hb hT iX12 hown hK hW hT_o.1 hS_o rfl 1 (by decide) w1083 rfl dX12_tell_196 ?_
                              refine lv_iload hx hb dX12_tell_199 (lv_at hl 0 rfl) ?_
                              refine pl_iald hx hb hK hW hT_x_2.1 hVs (vp_in_nI (n := i) (N := 266) (by omega) (by omega)) dX12_tell_201 ?_
                              refine lv_topi (fun y_122 ey_122 => ?_)
                              have hv_y_122 : okS (i) y_122 := by rw [ey_122]; show okS _ (gv (nI (i)).toNatClampNeg); rw [nI_clamp (by omega)]; exact hi_gv (i) (by omega)
                              refine pl_iast hx hb hK hW hT_x_80.1 hRs (vp_in_nI (n := i) (N := 266) (by omega) (by omega)) dX12_tell_202 (fun H locs f_124 S_123 ef_f_124 e1 hW => ?_)
                              have hi_f_124 := okS_up (i := i) (by omega) hi_gr ef_f_124 hv_y_122
                              have hTy := hTy.u50 e1 hT_x_80 ⟨f_124, rfl, hi_f_124⟩
                              have hVs := un e1 hT_x_2 hT_x_80 (by decide) hVs
                              have hS_o := un e1 hT_o hT_x_80 (by decide) hS_o
                              have hFr := uf hFr e1 hT_x_80 (by decide) (by decide)
                              have hFl127 := uf hFl127 e1 hT_x_80 (by decide) (by decide)
                              have hFl181 := uf hFl181 e1 hT_x_80 (by decide) (by decide)
                              have hRs := us e1
                              have hcr1 := cpy_up (P := fun j x => x = gv j) ef_f_124 (by omega) hcr (by show _ = _; rw [ey_122, nI_clamp (by omega)])
                              refine lv_iinc (v := nI (i + 1)) (lv' := [(4, .int (nI (i + 1))), (3, .int (nI x_7)), (2, .int (nI x_6)), (0, .ref o), (1, .int (nI k_38))]) hx hb dX12_tell_203 hl (k := 0) rfl (nI_add (i) 1) (by decide) rfl (fun ls hl => ?_)
                              refine lv_goto (tgt := 181) hx hb dX12_tell_206 (by decide) ?_
                              exact ih181 (i + 1) f_124 _ _ _ ls (by omega) (by omega) hRs hcr1 hTy hFr hFl181 hW (lv_sub hl [0, 1, 2, 3, 4] rfl)
                        exact loop ((267 - 0) + 1) 0 f_111 _ _ _ ls (Nat.lt_succ_self _) (by omega) hS_x_1 (fun j h => absurd h (Nat.not_lt_zero _)) hTy hFr Fr.rf hW (lv_sub hl [0, 1, 2, 3, 4] rfl)
                      · refine lv_aload_n hx hb dX12_tell_156 rfl (lv_at hl 3 rfl) ?_
                        refine lv_iconst (v := 0) hx hb dX12_tell_157 (by decide) ?_
                        refine pl_put (ci := 12) (v := .int 0) (ty := .int) (C := RX12) (T := TX12) (N := 32) (fs' := [.ref x_1, .ref x_81, .ref x_82, .ref x_83, .ref x_84, .int (nI gpa), .int (nI gki), .int 0, .int x_88, .ref x_89, .int (nI (0)), .int (nI k_38), .int (nI gsp), .int gwr, .int x_93, .int x_94, .int x_95, .ref x_96, .ref x_97, .int (nI x_98), .ref x_99, .ref x_100, .ref x_101, .ref x_102, .ref x_103, .ref x_104, .ref x_105, .ref x_106, .ref x_107, .ref x_108, .ref x_109, .int (nI x_110)]) hx hb hT iX12 tyX12 tyX12_ok nmX12 hown hK hW hT_o.1 hS_o rfl 7 (by decide) w1089 rfl (by decide +kernel) rfl rfl (Nat.le_of_ble_eq_true rfl) rfl dX12_tell_158 (fun H locs S_125 e1 hW => ?_)
                        have hTy := hTy.u12 e1 hT_o ⟨x_1, x_81, x_82, x_83, x_84, gpa, gki, 0, x_88, x_89, k_38, gsp, gwr, x_93, x_94, x_95, x_96, x_97, x_98, x_99, x_100, x_101, x_102, x_103, x_104, x_105, x_106, x_107, x_108, x_109, x_110, rfl, hT_x_80, hT_x_81, hT_x_82, hT_x_83, hT_x_84, (by omega), (by omega), (by omega), hT_x_89, (by show 0 ≤ 900; omega), (by omega), (by omega), hT_x_96, hT_x_97, (by omega), hT_x_99, hT_x_100, hT_x_101, hT_x_102, hT_x_103, hT_x_104, hT_x_105, hT_x_106, hT_x_107, hT_x_108, hT_x_109, (by omega)⟩
                        have hVs := un e1 hT_x_2 hT_o (by decide) hVs
                        have hS_x_1 := un e1 hT_x_80 hT_o (by decide) hS_x_1
                        have hws := (show wrs (.inr (12, [.ref x_1, .ref x_81, .ref x_82, .ref x_83, .ref x_84, .int (nI gpa), .int (nI gki), .int 0, .int x_88, .ref x_89, .int (nI (0)), .int (nI k_38), .int (nI gsp), .int gwr, .int x_93, .int x_94, .int x_95, .ref x_96, .ref x_97, .int (nI x_98), .ref x_99, .ref x_100, .ref x_101, .ref x_102, .ref x_103, .ref x_104, .ref x_105, .ref x_106, .ref x_107, .ref x_108, .ref x_109, .int (nI x_110)])) = wrs (S_79 o) from by rw [hS_o]; rfl)
                        have hFr := ufs hFr e1 hT_o (by decide) hws
                        have hFl127 := ufs hFl127 e1 hT_o (by decide) hws
                        have hS_o := us e1
                        refine lv_aload_n hx hb dX12_tell_161 rfl (lv_at hl 3 rfl) ?_
                        refine pl_get (ci := 12) (v := .ref x_1) (C := RX12) (T := TX12) (N := 32) hx hb hT iX12 hown hK hW hT_o.1 hS_o rfl 0 (by decide) w1082 rfl dX12_tell_162 ?_
                        refine lv_iconst (v := 0) hx hb dX12_tell_165 (by decide) ?_
                        refine pl_iald hx hb hK hW hT_x_80.1 hS_x_1 (vp_in_nI (n := 0) (N := 266) (by omega) (by omega)) dX12_tell_166 ?_
                        refine lv_topi (fun y_126 ey_126 => ?_)
                        have hv_y_126 : okS (0) y_126 := by rw [ey_126]; show okS _ (f_111 (nI (0)).toNatClampNeg); rw [nI_clamp (by omega)]; exact hi_f_111 (0) (by omega)
                        obtain ⟨k_127, hb_k_127, hq_k_127⟩ := hv_y_126.1 rfl
                        obtain rfl : y_126 = nI k_127 := hq_k_127
                        have hTy : Ty cy L kap (pr.1, tl (nI k_38) pr.2) S_125 := (by rw [tl_3 hb_k_38 (by omega)]; exact hTy)
                        exact W.iret (v := nI k_127) hx hb hr (fun t ht h9 => ⟨⟨nI k_127, S_125, rfl, ⟨hTy, hFr, (by rw [fld_i hS_o rfl hS_x_1]; exact hdg_)⟩, by rw [ht]; exact hW.1, va_K.moved h9.alike hK, hW.2.1⟩, hW.2.2.F ht⟩) hW.2.2.2.2 dX12_tell_167
                    · have hgs1 := hgs.resolve_left (fun h => h c_131)
                      have hgd1 := hgd.resolve_left (fun h => h c_131)
                      refine lv_aload_n hx hb dX12_tell_134 rfl (lv_at hl 3 rfl) ?_
                      refine pl_calli (va_runV (As := []) (rest := []) ⟨hx, hb, hml, hown, hT⟩ (m_peek l dC dI cy L kap (pr.1, 0) S_79 H.size o hTy hT_o gsp k_38 gwr gpa gki x_1 (MKi (sp := gsp) (sn := k_38) (pa := gpa) (ki := gki) hS_o rfl rfl rfl rfl rfl rfl (by omega) (by omega) (by omega) (by omega)) (by omega)) (cwV 0 hT (gV w1190 w1192 ws55 w14 w1193) rfl rfl rfl (by decide +kernel) ⟨(Nat.le_of_ble_eq_true rfl), (Nat.le_of_ble_eq_true rfl)⟩) ⟨pcN.blind, pl_recv hK hW hT_o.1 hS_o rfl, pcN.pre hW.1 hK hW.2.1 hN (fun q h => absurd h List.not_mem_nil)⟩ rfl rfl hl.1 rfl (lv_room (Nat.le_of_ble_eq_true rfl)) dX12_tell_135 ⟨(Nat.le_of_ble_eq_true rfl), (Nat.le_of_ble_eq_true rfl)⟩) hW hA0 hA (fun r_129 S_128 H locs hrel hW => ?_)
                      obtain ⟨hTy, hF1, hx1⟩ := hrel
                      have hFr := hFr.tr hF1 (by decide)
                      have hFl127 := hFl127.tr hF1 (by decide)
                      have hVs := hF1.at hT_x_2 (by decide) hVs
                      have hS_x_1 := hF1.at hT_x_80 (by decide) hS_x_1
                      obtain ⟨sp130, wr130, hM130, hpa130, hpb130, hw130, hv130⟩ := hx1
                      obtain ⟨x_131, x_132, x_133, x_134, x_135, x_136, x_137, x_138, x_139, x_140, x_141, x_142, x_143, x_144, x_145, x_146, x_147, x_148, x_149, x_150, x_151, x_152, x_153, x_154, x_155, x_156, x_157, x_158, x_159, x_160, x_161, hS_o, hT_x_131, hT_x_132, hT_x_133, hT_x_134, hT_x_135, hb_x_136, hb_x_137, hb_x_138, hT_x_140, hb_q2, hb_x_141, hb_x_142, hT_x_147, hT_x_148, hb_x_149, hT_x_150, hT_x_151, hT_x_152, hT_x_153, hT_x_154, hT_x_155, hT_x_156, hT_x_157, hT_x_158, hT_x_159, hT_x_160, hb_x_161⟩ := hTy.k12 hT_o
                      have hb_q2 : 0 ≤ 900 := hb_q2
                      have hS_o : S_128 o = .inr (12, [.ref x_131, .ref x_132, .ref x_133, .ref x_134, .ref x_135, .int (nI x_136), .int (nI x_137), .int (nI x_138), .int x_139, .ref x_140, .int (nI (0)), .int (nI x_141), .int (nI x_142), .int x_143, .int x_144, .int x_145, .int x_146, .ref x_147, .ref x_148, .int (nI x_149), .ref x_150, .ref x_151, .ref x_152, .ref x_153, .ref x_154, .ref x_155, .ref x_156, .ref x_157, .ref x_158, .ref x_159, .ref x_160, .int (nI x_161)]) := hS_o
                      obtain ⟨e12_, e11_, e13_, e5_, e6_, e0_⟩ := MKe hM130 hS_o rfl rfl rfl rfl rfl rfl (by omega) (by omega) (by omega) (by omega)
                      subst e12_ e11_ e13_ e5_ e6_ e0_
                      refine lv_iconst (v := (-1)) hx hb dX12_tell_138 (by decide) ?_
                      refine lv_icmp_eq (tgt := 149) hx hb dX12_tell_139 (by decide) (fun c_139 => ?_) (fun c_139 => ?_)
                      · refine lv_aload_n hx hb dX12_tell_149 rfl (lv_at hl 3 rfl) ?_
                        refine pl_get (ci := 12) (v := .int wr130) (C := RX12) (T := TX12) (N := 32) hx hb hT iX12 hown hK hW hT_o.1 hS_o rfl 13 (by decide) w1095 rfl dX12_tell_150 ?_
                        refine lv_if_ne (tgt := 168) hx hb dX12_tell_153 (by decide) (fun c_153 => ?_) (fun c_153 => ?_)
                        · obtain rfl : x_2 = x_132 := hu51 _ _ hT_x_2 hT_x_132
                          refine lv_aload_n hx hb dX12_tell_168 rfl (lv_at hl 3 rfl) ?_
                          refine lv_iload_n hx hb dX12_tell_169 rfl (lv_at hl 2 rfl) ?_
                          refine pl_put (ci := 12) (v := .int (nI x_6)) (ty := .int) (C := RX12) (T := TX12) (N := 32) (fs' := [.ref x_1, .ref x_2, .ref x_133, .ref x_134, .ref x_135, .int (nI x_6), .int (nI gki), .int (nI x_138), .int x_139, .ref x_140, .int (nI (0)), .int (nI k_38), .int (nI sp130), .int wr130, .int x_144, .int x_145, .int x_146, .ref x_147, .ref x_148, .int (nI x_149), .ref x_150, .ref x_151, .ref x_152, .ref x_153, .ref x_154, .ref x_155, .ref x_156, .ref x_157, .ref x_158, .ref x_159, .ref x_160, .int (nI x_161)]) hx hb hT iX12 tyX12 tyX12_ok nmX12 hown hK hW hT_o.1 hS_o rfl 5 (by decide) w1087 rfl (by decide +kernel) rfl rfl (Nat.le_of_ble_eq_true rfl) rfl dX12_tell_170 (fun H locs S_162 e1 hW => ?_)
                          have hTy := hTy.u12 e1 hT_o ⟨x_1, x_2, x_133, x_134, x_135, x_6, gki, x_138, x_139, x_140, k_38, sp130, wr130, x_144, x_145, x_146, x_147, x_148, x_149, x_150, x_151, x_152, x_153, x_154, x_155, x_156, x_157, x_158, x_159, x_160, x_161, rfl, hT_x_131, hT_x_2, hT_x_133, hT_x_134, hT_x_135, (by omega), (by omega), (by omega), hT_x_140, (by show 0 ≤ 900; omega), (by omega), (by omega), hT_x_147, hT_x_148, (by omega), hT_x_150, hT_x_151, hT_x_152, hT_x_153, hT_x_154, hT_x_155, hT_x_156, hT_x_157, hT_x_158, hT_x_159, hT_x_160, (by omega)⟩
                          have hVs := un e1 hT_x_2 hT_o (by decide) hVs
                          have hS_x_1 := un e1 hT_x_131 hT_o (by decide) hS_x_1
                          have hws := (show wrs (.inr (12, [.ref x_1, .ref x_2, .ref x_133, .ref x_134, .ref x_135, .int (nI x_6), .int (nI gki), .int (nI x_138), .int x_139, .ref x_140, .int (nI (0)), .int (nI k_38), .int (nI sp130), .int wr130, .int x_144, .int x_145, .int x_146, .ref x_147, .ref x_148, .int (nI x_149), .ref x_150, .ref x_151, .ref x_152, .ref x_153, .ref x_154, .ref x_155, .ref x_156, .ref x_157, .ref x_158, .ref x_159, .ref x_160, .int (nI x_161)])) = wrs (S_128 o) from by rw [hS_o]; rfl)
                          have hFr := ufs hFr e1 hT_o (by decide) hws
                          have hFl127 := ufs hFl127 e1 hT_o (by decide) hws
                          have hS_o := us e1
                          refine lv_aload_n hx hb dX12_tell_173 rfl (lv_at hl 3 rfl) ?_
                          refine lv_iload_n hx hb dX12_tell_174 rfl (lv_at hl 1 rfl) ?_
                          refine pl_put (ci := 12) (v := .int (nI x_7)) (ty := .int) (C := RX12) (T := TX12) (N := 32) (fs' := [.ref x_1, .ref x_2, .ref x_133, .ref x_134, .ref x_135, .int (nI x_6), .int (nI x_7), .int (nI x_138), .int x_139, .ref x_140, .int (nI (0)), .int (nI k_38), .int (nI sp130), .int wr130, .int x_144, .int x_145, .int x_146, .ref x_147, .ref x_148, .int (nI x_149), .ref x_150, .ref x_151, .ref x_152, .ref x_153, .ref x_154, .ref x_155, .ref x_156, .ref x_157, .ref x_158, .ref x_159, .ref x_160, .int (nI x_161)]) hx hb hT iX12 tyX12 tyX12_ok nmX12 hown hK hW hT_o.1 hS_o rfl 6 (by decide) w1088 rfl (by decide +kernel) rfl rfl (Nat.le_of_ble_eq_true rfl) rfl dX12_tell_175 (fun H locs S_163 e1 hW => ?_)
                          have hTy := hTy.u12 e1 hT_o ⟨x_1, x_2, x_133, x_134, x_135, x_6, x_7, x_138, x_139, x_140, k_38, sp130, wr130, x_144, x_145, x_146, x_147, x_148, x_149, x_150, x_151, x_152, x_153, x_154, x_155, x_156, x_157, x_158, x_159, x_160, x_161, rfl, hT_x_131, hT_x_2, hT_x_133, hT_x_134, hT_x_135, (by omega), (by omega), (by omega), hT_x_140, (by show 0 ≤ 900; omega), (by omega), (by omega), hT_x_147, hT_x_148, (by omega), hT_x_150, hT_x_151, hT_x_152, hT_x_153, hT_x_154, hT_x_155, hT_x_156, hT_x_157, hT_x_158, hT_x_159, hT_x_160, (by omega)⟩
                          have hVs := un e1 hT_x_2 hT_o (by decide) hVs
                          have hS_x_1 := un e1 hT_x_131 hT_o (by decide) hS_x_1
                          have hws := (show wrs (.inr (12, [.ref x_1, .ref x_2, .ref x_133, .ref x_134, .ref x_135, .int (nI x_6), .int (nI x_7), .int (nI x_138), .int x_139, .ref x_140, .int (nI (0)), .int (nI k_38), .int (nI sp130), .int wr130, .int x_144, .int x_145, .int x_146, .ref x_147, .ref x_148, .int (nI x_149), .ref x_150, .ref x_151, .ref x_152, .ref x_153, .ref x_154, .ref x_155, .ref x_156, .ref x_157, .ref x_158, .ref x_159, .ref x_160, .int (nI x_161)])) = wrs (S_162 o) from by rw [hS_o]; rfl)
                          have hFr := ufs hFr e1 hT_o (by decide) hws
                          have hFl127 := ufs hFl127 e1 hT_o (by decide) hws
                          have hS_o := us e1
                          refine lv_iconst (v := 0) hx hb dX12_tell_178 (by decide) ?_
                          refine lv_istore (lv' := [(4, .int 0), (3, .int (nI x_7)), (2, .int (nI x_6)), (0, .ref o), (1, .int (nI k_38))]) hx hb dX12_tell_179 hl (by decide) rfl (fun ls hl => ?_)
                          have loop : ∀ (fuel : Nat) (i : Nat) (gr : Nat → Int32) (SS : Nat → va_E) (H : Heap) (locs : List Loc) (ls : Array Slot), 267 - i < fuel → (i ≤ 266) → (SS x_1 = .inl (cy 0, 266, .inl gr)) → (∀ j, j < i → gr j = gv j) → Ty cy L kap (pr.1, 0) SS → Fr kap [12, 50, 51, 53, 54, 112] S SS → Fr kap [50] S_163 SS → PW dC dI L (AL L s.heap.size) s.heap SS H locs → lv_has ls 5 [(4, .int (nI i)), (3, .int (nI x_7)), (2, .int (nI x_6)), (0, .ref o), (1, .int (nI k_38))] → W p l e (headSpec (wT yX12_tell cX12_tell 5 (some .int)) { frames := 11, cells := 0, slots := 0, locals := 247 }).room s m [.ref o, .int (nI k_38)].toArray below meth c H locs 0 0 (MQ below (va_Qi (fun r S' => Ty cy L kap (pr.1, tl (nI k_38) pr.2) S' ∧ Fr kap [12, 50, 51, 53, 54, 112] S S' ∧ (dg (fld S' o 0))) (fun S' t => pB dC dI (AL L s.heap.size) (va_pl L S') (cyT cy) t) (AL L s.heap.size)) [.ref o, .int (nI k_38)].toArray s 0 0 (AL L s.heap.size)) (F0 m 181 ls []) := by
                            intro fuel
                            induction fuel with
                            | zero => intro i gr SS H locs ls h; exact absurd h (Nat.not_lt_zero _)
                            | succ fu181 ih181 =>
                              intro i gr S_164 H locs ls hm181 hb_i hRs hcr hTy hFr hFl181 hW hl
                              have hVs := hFl181.at hT_x_2 (by decide) hVs
                              have hS_o := hFl181.at hT_o (by decide) hS_o
                              have hFl127 := hFl127.tr hFl181 (by decide)
                              have hi_gr := k50i hTy hT_x_131 hRs
                              refine lv_iload hx hb dX12_tell_181 (lv_at hl 0 rfl) ?_
                              refine lv_sipush (v := 266) hx hb dX12_tell_183 (by decide) ?_
                              refine lv_icmp_ge (tgt := 209) hx hb dX12_tell_186 (by decide) (fun c_186 => ?_) (fun c_186 => ?_)
                              · have c_186 : 266 ≤ i := (nI_leI (a := 266) (b := i) (by omega) (by omega)).mp c_186
                                have hdg_ : dg gr := dg_c hsv (fun j hj => hcr j (by omega))
                                refine lv_iconst (v := 0) hx hb dX12_tell_209 (by decide) ?_
                                refine lv_istore (lv' := [(4, .int 0), (3, .int (nI x_7)), (2, .int (nI x_6)), (0, .ref o), (1, .int (nI k_38))]) hx hb dX12_tell_210 hl (by decide) rfl (fun ls hl => ?_)
                                have loop : ∀ (fuel : Nat) (i : Nat) (SS : Nat → va_E) (H : Heap) (locs : List Loc) (ls : Array Slot), 13 - i < fuel → (i ≤ 12) → Ty cy L kap (pr.1, 0) SS → Fr kap [12, 50, 51, 53, 54, 112] S SS → Fr kap [53] S_164 SS → PW dC dI L (AL L s.heap.size) s.heap SS H locs → lv_has ls 5 [(4, .int (nI i)), (3, .int (nI x_7)), (2, .int (nI x_6)), (0, .ref o), (1, .int (nI k_38))] → W p l e (headSpec (wT yX12_tell cX12_tell 5 (some .int)) { frames := 11, cells := 0, slots := 0, locals := 247 }).room s m [.ref o, .int (nI k_38)].toArray below meth c H locs 0 0 (MQ below (va_Qi (fun r S' => Ty cy L kap (pr.1, tl (nI k_38) pr.2) S' ∧ Fr kap [12, 50, 51, 53, 54, 112] S S' ∧ (dg (fld S' o 0))) (fun S' t => pB dC dI (AL L s.heap.size) (va_pl L S') (cyT cy) t) (AL L s.heap.size)) [.ref o, .int (nI k_38)].toArray s 0 0 (AL L s.heap.size)) (F0 m 212 ls []) := by
                                  intro fuel
                                  induction fuel with
                                  | zero => intro i SS H locs ls h; exact absurd h (Nat.not_lt_zero _)
                                  | succ fu212 ih212 =>
                                    intro i S_165 H locs ls hm212 hb_i hTy hFr hFl212 hW hl
                                    have hVs := hFl212.at hT_x_2 (by decide) hVs
                                    have hS_o := hFl212.at hT_o (by decide) hS_o
                                    have hRs := hFl212.at hT_x_131 (by decide) hRs
                                    have hFl127 := hFl127.tr hFl212 (by decide)
                                    refine lv_iload hx hb dX12_tell_212 (lv_at hl 0 rfl) ?_
                                    refine lv_bipush (v := 12) hx hb dX12_tell_214 (by decide) ?_
                                    refine lv_icmp_ge (tgt := 239) hx hb dX12_tell_216 (by decide) (fun c_216 => ?_) (fun c_216 => ?_)
                                    · have c_216 : 12 ≤ i := (nI_leI (a := 12) (b := i) (by omega) (by omega)).mp c_216
                                      refine lv_bipush (v := (-30)) hx hb dX12_tell_239 (by decide) ?_
                                      refine lv_aload_n hx hb dX12_tell_241 rfl (lv_at hl 3 rfl) ?_
                                      refine pl_get (ci := 12) (v := .int wr130) (C := RX12) (T := TX12) (N := 32) hx hb hT iX12 hown hK hW hT_o.1 hS_o rfl 13 (by decide) w1095 rfl dX12_tell_242 ?_
                                      refine lv_isub hx hb dX12_tell_245 ?_
                                      refine lv_topi (fun z_166 ez_166 => ?_)
                                      have hTy : Ty cy L kap (pr.1, tl (nI k_38) pr.2) S_165 := (by rw [tl_3 hb_k_38 (by omega)]; exact hTy)
                                      exact W.iret (v := z_166) hx hb hr (fun t ht h9 => ⟨⟨z_166, S_165, rfl, ⟨hTy, hFr, (by rw [fld_i hS_o rfl hRs]; exact hdg_)⟩, by rw [ht]; exact hW.1, va_K.moved h9.alike hK, hW.2.1⟩, hW.2.2.F ht⟩) hW.2.2.2.2 dX12_tell_246
                                    · have c_216 : ¬ (12 ≤ i) := fun hh9 => c_216 ((nI_leI (a := 12) (b := i) (by omega) (by omega)).mpr hh9)
                                      refine lv_aload_n hx hb dX12_tell_219 rfl (lv_at hl 3 rfl) ?_
                                      refine pl_get (ci := 12) (v := .ref x_134) (C := RX12) (T := TX12) (N := 32) hx hb hT iX12 hown hK hW hT_o.1 hS_o rfl 3 (by decide) w1085 rfl dX12_tell_220 ?_
                                      refine lv_iload hx hb dX12_tell_223 (lv_at hl 0 rfl) ?_
                                      refine lv_aload_n hx hb dX12_tell_225 rfl (lv_at hl 3 rfl) ?_
                                      refine pl_get (ci := 12) (v := .ref x_135) (C := RX12) (T := TX12) (N := 32) hx hb hT iX12 hown hK hW hT_o.1 hS_o rfl 4 (by decide) w1086 rfl dX12_tell_226 ?_
                                      refine lv_iload hx hb dX12_tell_229 (lv_at hl 0 rfl) ?_
                                      obtain ⟨f_167, hS_x_135⟩ := hTy.k54 hT_x_135
                                      refine pl_lald hx hb hK hW hT_x_135.1 hS_x_135 (vp_in_nI (n := i) (N := 12) (by omega) (by omega)) dX12_tell_231 ?_
                                      refine lv_topl (fun y_168 ey_168 => ?_)
                                      obtain ⟨f_169, hS_x_134⟩ := hTy.k53 hT_x_134
                                      refine pl_last hx hb hK hW hT_x_134.1 hS_x_134 (vp_in_nI (n := i) (N := 12) (by omega) (by omega)) dX12_tell_232 (fun H locs f_171 S_170 ef_f_171 e1 hW => ?_)
                                      have hTy := hTy.u53 e1 hT_x_134 ⟨f_171, rfl⟩
                                      have hVs := un e1 hT_x_2 hT_x_134 (by decide) hVs
                                      have hS_o := un e1 hT_o hT_x_134 (by decide) hS_o
                                      have hRs := un e1 hT_x_131 hT_x_134 (by decide) hRs
                                      have hS_x_135 := un e1 hT_x_135 hT_x_134 (by decide) hS_x_135
                                      have hFr := uf hFr e1 hT_x_134 (by decide) (by decide)
                                      have hFl127 := uf hFl127 e1 hT_x_134 (by decide) (by decide)
                                      have hFl212 := uf hFl212 e1 hT_x_134 (by decide) (by decide)
                                      have hS_x_134 := us e1
                                      refine lv_iinc (v := nI (i + 1)) (lv' := [(4, .int (nI (i + 1))), (3, .int (nI x_7)), (2, .int (nI x_6)), (0, .ref o), (1, .int (nI k_38))]) hx hb dX12_tell_233 hl (k := 0) rfl (nI_add (i) 1) (by decide) rfl (fun ls hl => ?_)
                                      refine lv_goto (tgt := 212) hx hb dX12_tell_236 (by decide) ?_
                                      exact ih212 (i + 1) _ _ _ ls (by omega) (by omega) hTy hFr hFl212 hW (lv_sub hl [0, 1, 2, 3, 4] rfl)
                                exact loop ((13 - 0) + 1) 0 _ _ _ ls (Nat.lt_succ_self _) (by omega) hTy hFr Fr.rf hW (lv_sub hl [0, 1, 2, 3, 4] rfl)
                              · have c_186 : ¬ (266 ≤ i) := fun hh9 => c_186 ((nI_leI (a := 266) (b := i) (by omega) (by omega)).mpr hh9)
                                refine lv_aload_n hx hb dX12_tell_189 rfl (lv_at hl 3 rfl) ?_
                                refine pl_get (ci := 12) (v := .ref x_1) (C := RX12) (T := TX12) (N := 32) hx hb hT iX12 hown hK hW hT_o.1 hS_o rfl 0 (by decide) w1082 rfl dX12_tell_190 ?_
                                refine lv_iload hx hb dX12_tell_193 (lv_at hl 0 rfl) ?_
                                refine lv_aload_n hx hb dX12_tell_195 rfl (lv_at hl 3 rfl) ?_
                                refine pl_get (ci := 12) (v := .ref x_2) (C := RX12) (T := TX12) (N := 32) hx hb hT iX12 hown hK hW hT_o.1 hS_o rfl 1 (by decide) w1083 rfl dX12_tell_196 ?_
                                refine lv_iload hx hb dX12_tell_199 (lv_at hl 0 rfl) ?_
                                refine pl_iald hx hb hK hW hT_x_2.1 hVs (vp_in_nI (n := i) (N := 266) (by omega) (by omega)) dX12_tell_201 ?_
                                refine lv_topi (fun y_172 ey_172 => ?_)
                                have hv_y_172 : okS (i) y_172 := by rw [ey_172]; show okS _ (gv (nI (i)).toNatClampNeg); rw [nI_clamp (by omega)]; exact hi_gv (i) (by omega)
                                refine pl_iast hx hb hK hW hT_x_131.1 hRs (vp_in_nI (n := i) (N := 266) (by omega) (by omega)) dX12_tell_202 (fun H locs f_174 S_173 ef_f_174 e1 hW => ?_)
                                have hi_f_174 := okS_up (i := i) (by omega) hi_gr ef_f_174 hv_y_172
                                have hTy := hTy.u50 e1 hT_x_131 ⟨f_174, rfl, hi_f_174⟩
                                have hVs := un e1 hT_x_2 hT_x_131 (by decide) hVs
                                have hS_o := un e1 hT_o hT_x_131 (by decide) hS_o
                                have hFr := uf hFr e1 hT_x_131 (by decide) (by decide)
                                have hFl127 := uf hFl127 e1 hT_x_131 (by decide) (by decide)
                                have hFl181 := uf hFl181 e1 hT_x_131 (by decide) (by decide)
                                have hRs := us e1
                                have hcr1 := cpy_up (P := fun j x => x = gv j) ef_f_174 (by omega) hcr (by show _ = _; rw [ey_172, nI_clamp (by omega)])
                                refine lv_iinc (v := nI (i + 1)) (lv' := [(4, .int (nI (i + 1))), (3, .int (nI x_7)), (2, .int (nI x_6)), (0, .ref o), (1, .int (nI k_38))]) hx hb dX12_tell_203 hl (k := 0) rfl (nI_add (i) 1) (by decide) rfl (fun ls hl => ?_)
                                refine lv_goto (tgt := 181) hx hb dX12_tell_206 (by decide) ?_
                                exact ih181 (i + 1) f_174 _ _ _ ls (by omega) (by omega) hRs hcr1 hTy hFr hFl181 hW (lv_sub hl [0, 1, 2, 3, 4] rfl)
                          exact loop ((267 - 0) + 1) 0 f_111 _ _ _ ls (Nat.lt_succ_self _) (by omega) hS_x_1 (fun j h => absurd h (Nat.not_lt_zero _)) hTy hFr Fr.rf hW (lv_sub hl [0, 1, 2, 3, 4] rfl)
                        · refine lv_aload_n hx hb dX12_tell_156 rfl (lv_at hl 3 rfl) ?_
                          refine lv_iconst (v := 0) hx hb dX12_tell_157 (by decide) ?_
                          refine pl_put (ci := 12) (v := .int 0) (ty := .int) (C := RX12) (T := TX12) (N := 32) (fs' := [.ref x_1, .ref x_132, .ref x_133, .ref x_134, .ref x_135, .int (nI gpa), .int (nI gki), .int 0, .int x_139, .ref x_140, .int (nI (0)), .int (nI k_38), .int (nI sp130), .int wr130, .int x_144, .int x_145, .int x_146, .ref x_147, .ref x_148, .int (nI x_149), .ref x_150, .ref x_151, .ref x_152, .ref x_153, .ref x_154, .ref x_155, .ref x_156, .ref x_157, .ref x_158, .ref x_159, .ref x_160, .int (nI x_161)]) hx hb hT iX12 tyX12 tyX12_ok nmX12 hown hK hW hT_o.1 hS_o rfl 7 (by decide) w1089 rfl (by decide +kernel) rfl rfl (Nat.le_of_ble_eq_true rfl) rfl dX12_tell_158 (fun H locs S_175 e1 hW => ?_)
                          have hTy := hTy.u12 e1 hT_o ⟨x_1, x_132, x_133, x_134, x_135, gpa, gki, 0, x_139, x_140, k_38, sp130, wr130, x_144, x_145, x_146, x_147, x_148, x_149, x_150, x_151, x_152, x_153, x_154, x_155, x_156, x_157, x_158, x_159, x_160, x_161, rfl, hT_x_131, hT_x_132, hT_x_133, hT_x_134, hT_x_135, (by omega), (by omega), (by omega), hT_x_140, (by show 0 ≤ 900; omega), (by omega), (by omega), hT_x_147, hT_x_148, (by omega), hT_x_150, hT_x_151, hT_x_152, hT_x_153, hT_x_154, hT_x_155, hT_x_156, hT_x_157, hT_x_158, hT_x_159, hT_x_160, (by omega)⟩
                          have hVs := un e1 hT_x_2 hT_o (by decide) hVs
                          have hS_x_1 := un e1 hT_x_131 hT_o (by decide) hS_x_1
                          have hws := (show wrs (.inr (12, [.ref x_1, .ref x_132, .ref x_133, .ref x_134, .ref x_135, .int (nI gpa), .int (nI gki), .int 0, .int x_139, .ref x_140, .int (nI (0)), .int (nI k_38), .int (nI sp130), .int wr130, .int x_144, .int x_145, .int x_146, .ref x_147, .ref x_148, .int (nI x_149), .ref x_150, .ref x_151, .ref x_152, .ref x_153, .ref x_154, .ref x_155, .ref x_156, .ref x_157, .ref x_158, .ref x_159, .ref x_160, .int (nI x_161)])) = wrs (S_128 o) from by rw [hS_o]; rfl)
                          have hFr := ufs hFr e1 hT_o (by decide) hws
                          have hFl127 := ufs hFl127 e1 hT_o (by decide) hws
                          have hS_o := us e1
                          refine lv_aload_n hx hb dX12_tell_161 rfl (lv_at hl 3 rfl) ?_
                          refine pl_get (ci := 12) (v := .ref x_1) (C := RX12) (T := TX12) (N := 32) hx hb hT iX12 hown hK hW hT_o.1 hS_o rfl 0 (by decide) w1082 rfl dX12_tell_162 ?_
                          refine lv_iconst (v := 0) hx hb dX12_tell_165 (by decide) ?_
                          refine pl_iald hx hb hK hW hT_x_131.1 hS_x_1 (vp_in_nI (n := 0) (N := 266) (by omega) (by omega)) dX12_tell_166 ?_
                          refine lv_topi (fun y_176 ey_176 => ?_)
                          have hv_y_176 : okS (0) y_176 := by rw [ey_176]; show okS _ (f_111 (nI (0)).toNatClampNeg); rw [nI_clamp (by omega)]; exact hi_f_111 (0) (by omega)
                          obtain ⟨k_177, hb_k_177, hq_k_177⟩ := hv_y_176.1 rfl
                          obtain rfl : y_176 = nI k_177 := hq_k_177
                          have hTy : Ty cy L kap (pr.1, tl (nI k_38) pr.2) S_175 := (by rw [tl_3 hb_k_38 (by omega)]; exact hTy)
                          exact W.iret (v := nI k_177) hx hb hr (fun t ht h9 => ⟨⟨nI k_177, S_175, rfl, ⟨hTy, hFr, (by rw [fld_i hS_o rfl hS_x_1]; exact hdg_)⟩, by rw [ht]; exact hW.1, va_K.moved h9.alike hK, hW.2.1⟩, hW.2.2.F ht⟩) hW.2.2.2.2 dX12_tell_167
                      · have hpk := hv130.resolve_left c_139
                        refine lv_aload_n hx hb dX12_tell_142 rfl (lv_at hl 3 rfl) ?_
                        refine pl_callv (va_runV (As := []) (rest := []) ⟨hx, hb, hml, hown, hT⟩ (m_line l dC dI cy L kap (pr.1, 0) ad S_128 H.size o hTy hT_o sp130 k_38 wr130 gpa gki x_1 (MKi (sp := sp130) (sn := k_38) (pa := gpa) (ki := gki) hS_o rfl rfl rfl rfl rfl rfl (by omega) (by omega) (by omega) (by omega)) (by omega) (by rw [fld_i hS_o rfl hS_x_1]; exact hdg_)) (cwV 0 hT (gV w1194 w1196 ws56 w14 w1197) rfl rfl rfl (by decide +kernel) ⟨(Nat.le_of_ble_eq_true rfl), (Nat.le_of_ble_eq_true rfl)⟩) ⟨pcS.blind, pl_recv hK hW hT_o.1 hS_o rfl, pcS.pre hW.1 hK hW.2.1 hN hSTR hW.2.2⟩ rfl rfl hl.1 rfl (lv_room (Nat.le_of_ble_eq_true rfl)) dX12_tell_143 ⟨(Nat.le_of_ble_eq_true rfl), (Nat.le_of_ble_eq_true rfl)⟩) hW hA0 hA (fun S_178 H locs hrel hW => ?_)
                        obtain ⟨hTy, hF1, hx1⟩ := hrel
                        have hFr := hFr.tr hF1 (by decide)
                        have hFl127 := hFl127.tr hF1 (by decide)
                        have hVs := hF1.at hT_x_2 (by decide) hVs
                        obtain ⟨sp179, wr179, pa179, ki179, hM179, hlr179, hv179⟩ := hx1
                        obtain ⟨x_180, x_181, x_182, x_183, x_184, x_185, x_186, x_187, x_188, x_189, x_190, x_191, x_192, x_193, x_194, x_195, x_196, x_197, x_198, x_199, x_200, x_201, x_202, x_203, x_204, x_205, x_206, x_207, x_208, x_209, x_210, hS_o, hT_x_180, hT_x_181, hT_x_182, hT_x_183, hT_x_184, hb_x_185, hb_x_186, hb_x_187, hT_x_189, hb_q2, hb_x_190, hb_x_191, hT_x_196, hT_x_197, hb_x_198, hT_x_199, hT_x_200, hT_x_201, hT_x_202, hT_x_203, hT_x_204, hT_x_205, hT_x_206, hT_x_207, hT_x_208, hT_x_209, hb_x_210⟩ := hTy.k12 hT_o
                        have hb_q2 : 0 ≤ 900 := hb_q2
                        have hS_o : S_178 o = .inr (12, [.ref x_180, .ref x_181, .ref x_182, .ref x_183, .ref x_184, .int (nI x_185), .int (nI x_186), .int (nI x_187), .int x_188, .ref x_189, .int (nI (0)), .int (nI x_190), .int (nI x_191), .int x_192, .int x_193, .int x_194, .int x_195, .ref x_196, .ref x_197, .int (nI x_198), .ref x_199, .ref x_200, .ref x_201, .ref x_202, .ref x_203, .ref x_204, .ref x_205, .ref x_206, .ref x_207, .ref x_208, .ref x_209, .int (nI x_210)]) := hS_o
                        obtain ⟨e12_, e11_, e13_, e5_, e6_, e0_⟩ := MKe hM179 hS_o rfl rfl rfl rfl rfl rfl (by omega) (by omega) (by omega) (by omega)
                        subst e12_ e11_ e13_ e5_ e6_ e0_
                        obtain ⟨f_211, hS_x_1, hi_f_211⟩ := hTy.k50 hT_x_180
                        have hdg_ : dg f_211 := by have q := hv179; rw [fld_i hS_o rfl hS_x_1] at q; exact q
                        refine lv_goto (tgt := 127) hx hb dX12_tell_146 (by decide) ?_
                        exact ih127 sp179 wr179 pa179 ki179 (gd - 1) _ _ _ ls (by omega) (MKi (sp := sp179) (sn := k_38) (pa := pa179) (ki := ki179) hS_o rfl rfl rfl rfl rfl rfl (by omega) (by omega) (by omega) (by omega)) (by rw [fld_i hS_o rfl hS_x_1]; exact hdg_) (hlr179.imp_right (fun q => q.2)) (hlr179.imp_right (fun q => by omega)) hTy hFr hFl127 hW (lv_sub hl [0, 1, 2, 3, 4] rfl)
                obtain ⟨f_212, hS_x_1, hi_f_212⟩ := hTy.k50 hT_x_48
                have hdg_ : dg f_212 := dg_0 (mnye hmn_ hS_o rfl hS_x_1)
                exact loop ((902) + 1) 0 0 0 0 902 _ _ _ ls (Nat.lt_succ_self _) (MKi (sp := 0) (sn := k_38) (pa := 0) (ki := 0) hS_o rfl rfl rfl rfl rfl rfl (by omega) (by omega) (by omega) (by omega)) (by rw [fld_i hS_o rfl hS_x_1]; exact hdg_) (Or.inr (by omega)) (Or.inr (by omega)) hTy hFr Fr.rf hW (lv_sub hl [0, 1, 2, 3, 4] rfl)
              · have c_100 : ¬ (12 ≤ i) := fun hh9 => c_100 ((nI_leI (a := 12) (b := i) (by omega) (by omega)).mpr hh9)
                refine lv_aload_n hx hb dX12_tell_103 rfl (lv_at hl 3 rfl) ?_
                refine pl_get (ci := 12) (v := .ref x_5) (C := RX12) (T := TX12) (N := 32) hx hb hT iX12 hown hK hW hT_o.1 hS_o rfl 4 (by decide) w1086 rfl dX12_tell_104 ?_
                refine lv_iload hx hb dX12_tell_107 (lv_at hl 0 rfl) ?_
                refine lv_aload_n hx hb dX12_tell_109 rfl (lv_at hl 3 rfl) ?_
                refine pl_get (ci := 12) (v := .ref x_4) (C := RX12) (T := TX12) (N := 32) hx hb hT iX12 hown hK hW hT_o.1 hS_o rfl 3 (by decide) w1085 rfl dX12_tell_110 ?_
                refine lv_iload hx hb dX12_tell_113 (lv_at hl 0 rfl) ?_
                obtain ⟨f_213, hS_x_4⟩ := hTy.k53 hT_x_4
                refine pl_lald hx hb hK hW hT_x_4.1 hS_x_4 (vp_in_nI (n := i) (N := 12) (by omega) (by omega)) dX12_tell_115 ?_
                refine lv_topl (fun y_214 ey_214 => ?_)
                obtain ⟨f_215, hS_x_5⟩ := hTy.k54 hT_x_5
                refine pl_last hx hb hK hW hT_x_5.1 hS_x_5 (vp_in_nI (n := i) (N := 12) (by omega) (by omega)) dX12_tell_116 (fun H locs f_217 S_216 ef_f_217 e1 hW => ?_)
                have hTy := hTy.u54 e1 hT_x_5 ⟨f_217, rfl⟩
                have hS_o := un e1 hT_o hT_x_5 (by decide) hS_o
                have hS_x_1 := un e1 hT_x_1 hT_x_5 (by decide) hS_x_1
                have hVs := un e1 hT_x_2 hT_x_5 (by decide) hVs
                have hS_x_4 := un e1 hT_x_4 hT_x_5 (by decide) hS_x_4
                have hFr := uf hFr e1 hT_x_5 (by decide) (by decide)
                have hFl96 := uf hFl96 e1 hT_x_5 (by decide) (by decide)
                have hS_x_5 := us e1
                refine lv_iinc (v := nI (i + 1)) (lv' := [(4, .int (nI (i + 1))), (3, .int (nI x_7)), (2, .int (nI x_6)), (0, .ref o), (1, .int (nI k_38))]) hx hb dX12_tell_117 hl (k := 0) rfl (nI_add (i) 1) (by decide) rfl (fun ls hl => ?_)
                refine lv_goto (tgt := 96) hx hb dX12_tell_120 (by decide) ?_
                exact ih96 (i + 1) _ _ _ ls (by omega) (by omega) hTy hFr hFl96 hW (lv_sub hl [0, 1, 2, 3, 4] rfl)
          exact loop ((13 - 0) + 1) 0 _ _ _ ls (Nat.lt_succ_self _) (by omega) hTy hFr Fr.rf hW (lv_sub hl [0, 1, 2, 3, 4] rfl)
        · have c_70 : ¬ (266 ≤ i) := fun hh9 => c_70 ((nI_leI (a := 266) (b := i) (by omega) (by omega)).mpr hh9)
          refine lv_aload_n hx hb dX12_tell_73 rfl (lv_at hl 3 rfl) ?_
          refine pl_get (ci := 12) (v := .ref x_2) (C := RX12) (T := TX12) (N := 32) hx hb hT iX12 hown hK hW hT_o.1 hS_o rfl 1 (by decide) w1083 rfl dX12_tell_74 ?_
          refine lv_iload hx hb dX12_tell_77 (lv_at hl 0 rfl) ?_
          refine lv_aload_n hx hb dX12_tell_79 rfl (lv_at hl 3 rfl) ?_
          refine pl_get (ci := 12) (v := .ref x_1) (C := RX12) (T := TX12) (N := 32) hx hb hT iX12 hown hK hW hT_o.1 hS_o rfl 0 (by decide) w1082 rfl dX12_tell_80 ?_
          refine lv_iload hx hb dX12_tell_83 (lv_at hl 0 rfl) ?_
          refine pl_iald hx hb hK hW hT_x_1.1 hS_x_1 (vp_in_nI (n := i) (N := 266) (by omega) (by omega)) dX12_tell_85 ?_
          refine lv_topi (fun y_218 ey_218 => ?_)
          have hv_y_218 : okS (i) y_218 := by rw [ey_218]; show okS _ (f_32 (nI (i)).toNatClampNeg); rw [nI_clamp (by omega)]; exact hi_f_32 (i) (by omega)
          refine pl_iast hx hb hK hW hT_x_2.1 hVs (vp_in_nI (n := i) (N := 266) (by omega) (by omega)) dX12_tell_86 (fun H locs f_220 S_219 ef_f_220 e1 hW => ?_)
          have hi_f_220 := okS_up (i := i) (by omega) hi_gv ef_f_220 hv_y_218
          have hTy := hTy.u51 e1 hT_x_2 ⟨f_220, rfl, hi_f_220⟩
          have hS_o := un e1 hT_o hT_x_2 (by decide) hS_o
          have hS_x_1 := un e1 hT_x_1 hT_x_2 (by decide) hS_x_1
          have hFr := uf hFr e1 hT_x_2 (by decide) (by decide)
          have hFl65 := uf hFl65 e1 hT_x_2 (by decide) (by decide)
          have hVs := us e1
          have hcp1 := cpy_up (P := fun j x => x = f_32 j) ef_f_220 (by omega) hcp (by show _ = _; rw [ey_218, nI_clamp (by omega)])
          refine lv_iinc (v := nI (i + 1)) (lv' := [(4, .int (nI (i + 1))), (3, .int (nI x_7)), (2, .int (nI x_6)), (0, .ref o), (1, .int (nI k_38))]) hx hb dX12_tell_87 hl (k := 0) rfl (nI_add (i) 1) (by decide) rfl (fun ls hl => ?_)
          refine lv_goto (tgt := 65) hx hb dX12_tell_90 (by decide) ?_
          exact ih65 (i + 1) f_220 _ _ _ ls (by omega) (by omega) hVs hcp1 hTy hFr hFl65 hW (lv_sub hl [0, 1, 2, 3, 4] rfl)
    exact loop ((267 - 0) + 1) 0 f_33 _ _ _ ls (Nat.lt_succ_self _) (by omega) hS_x_2 (fun j h => absurd h (Nat.not_lt_zero _)) hTy hFr Fr.rf hW (lv_sub hl [0, 1, 2, 3, 4] rfl)
  · obtain ⟨rfl, hin_⟩ := hc_
    refine lv_if_ne (tgt := 22) hx hb dX12_tell_16 (by decide) (fun h => absurd (by decide) h) (fun _ => ?_)
    refine lv_bipush (v := (-3)) hx hb dX12_tell_19 (by decide) ?_
    have hTy : Ty cy L kap (pr.1, tl tn pr.2) S_34 := (by rw [tl_4 ez_35 ez_36 hin_ (by omega)]; exact hTy)
    exact W.iret (v := (-3)) hx hb hr (fun t ht h9 => ⟨⟨(-3), S_34, rfl, ⟨hTy, hFr, (by rw [fld_i hS_o rfl hS_x_1]; exact hdg_)⟩, by rw [ht]; exact hW.1, va_K.moved h9.alike hK, hW.2.1⟩, hW.2.2.F ht⟩) hW.2.2.2.2 dX12_tell_21

set_option maxHeartbeats 4000000 in
set_option maxRecDepth 100000 in
theorem m_feed (l : Launch) (dC : Nat → ClassId) (dI : Nat → Nat → Nat) (cy : Nat → ClassId) (L : List Nat) (kap : Nat → Nat) (pr : Pr) (S : Nat → va_E) (sz : Nat) (o : Nat) (va : Int32) (vb : Int32) (vc : Int32) (vd : Int32) (ve : Int32) (hTy : Ty cy L kap pr S) (hT_o : TK L kap o 12) (hu12 : ∀ b9 c9, TK L kap b9 12 → TK L kap c9 12 → b9 = c9) : Met l yX12_feed (wT yX12_feed cX12_feed 8 (some .int)) ({ frames := 0, cells := 0, slots := 0, locals := 0 }) (pcN dC dI [.ref o, .int va, .int vb, .int vc, .int vd, .int ve] sz (va_pl L S) (cyT cy) NLs []) (va_Qi (fun r S' => Ty cy L kap (pr.1, fd pr.2) S' ∧ Fr kap [12, 55] S S' ∧ (r = if 900 < pr.2 + 20 then -4 else nI (pr.2 + 20))) (fun S' t => pB dC dI (AL L sz) (va_pl L S') (cyT cy) t) (AL L sz)) 0 0 (AL L sz) := by
  refine Met.ofW (cc := cX12_feed) (maxL := 8) (ret := (some .int)) (by decide) rfl ?_
  intro p e s m args below meth c s₁ B hml hv
  obtain ⟨rfl, hsz, hP, hK, hD0, hN, -⟩ := hv
  have hx := B.exec
  have hb := B.bytes
  have hr := B.returns
  have hT : ∀ wd ∈ TB, wd.before [.ref o, .int va, .int vb, .int vc, .int vd, .int ve].toArray s = true := fun wd h => atoms_spec (ws := wT yX12_feed cX12_feed 8 (some .int)) B.pre wd (List.mem_cons_of_mem _ h)
  have hown : s.vm.findClass RX12 = some m.cls := findClass_of_methodNamed B.named
  have hlocks := B.notSynchronized
  subst hsz
  have hW : PW dC dI L (AL L s.heap.size) s.heap S s.heap [] := ⟨hP, pl_self hD0, va_S.rf⟩
  have hA0 : ∀ q, q ∈ L → AL L s.heap.size q := fun _ h => Or.inl h
  have hA : ∀ q, s.heap.size ≤ q → AL L s.heap.size q := fun _ h => Or.inr h
  have hFr : Fr kap [12, 55] S S := Fr.rf
  have hl := lv_entry ([.ref o, .int va, .int vb, .int vc, .int vd, .int ve]) (n := 8) (Nat.le_of_ble_eq_true rfl)
  rw [lg_entry_eq]
  generalize (lg_sl ([.ref o, .int va, .int vb, .int vc, .int vd, .int ve]) ++ List.replicate (8 - (lg_sl ([.ref o, .int va, .int vb, .int vc, .int vd, .int ve])).length) Slot.unset).toArray = ls at hl ⊢
  have hl : lv_has ls 8 [(0, .ref o), (1, .int va), (2, .int vb), (3, .int vc), (4, .int vd), (5, .int ve)] := hl
  refine lv_aload_n hx hb dX12_feed_0 rfl (lv_at hl 0 rfl) ?_
  refine lv_iconst (v := 0) hx hb dX12_feed_1 (by decide) ?_
  obtain ⟨x_1, x_2, x_3, x_4, x_5, x_6, x_7, x_8, x_9, x_10, x_11, x_12, x_13, x_14, x_15, x_16, x_17, x_18, x_19, x_20, x_21, x_22, x_23, x_24, x_25, x_26, x_27, x_28, x_29, x_30, x_31, hS_o, hT_x_1, hT_x_2, hT_x_3, hT_x_4, hT_x_5, hb_x_6, hb_x_7, hb_x_8, hT_x_10, hb_q2, hb_x_11, hb_x_12, hT_x_17, hT_x_18, hb_x_19, hT_x_20, hT_x_21, hT_x_22, hT_x_23, hT_x_24, hT_x_25, hT_x_26, hT_x_27, hT_x_28, hT_x_29, hT_x_30, hb_x_31⟩ := hTy.k12 hT_o
  have hb_q2 : pr.2 ≤ 900 := hb_q2
  have hS_o : S o = .inr (12, [.ref x_1, .ref x_2, .ref x_3, .ref x_4, .ref x_5, .int (nI x_6), .int (nI x_7), .int (nI x_8), .int x_9, .ref x_10, .int (nI (pr.2)), .int (nI x_11), .int (nI x_12), .int x_13, .int x_14, .int x_15, .int x_16, .ref x_17, .ref x_18, .int (nI x_19), .ref x_20, .ref x_21, .ref x_22, .ref x_23, .ref x_24, .ref x_25, .ref x_26, .ref x_27, .ref x_28, .ref x_29, .ref x_30, .int (nI x_31)]) := hS_o
  refine pl_put (ci := 12) (v := .int 0) (ty := .int) (C := RX12) (T := TX12) (N := 32) (fs' := [.ref x_1, .ref x_2, .ref x_3, .ref x_4, .ref x_5, .int (nI x_6), .int (nI x_7), .int (nI x_8), .int 0, .ref x_10, .int (nI (pr.2)), .int (nI x_11), .int (nI x_12), .int x_13, .int x_14, .int x_15, .int x_16, .ref x_17, .ref x_18, .int (nI x_19), .ref x_20, .ref x_21, .ref x_22, .ref x_23, .ref x_24, .ref x_25, .ref x_26, .ref x_27, .ref x_28, .ref x_29, .ref x_30, .int (nI x_31)]) hx hb hT iX12 tyX12 tyX12_ok nmX12 hown hK hW hT_o.1 hS_o rfl 8 (by decide) w1090 rfl (by decide +kernel) rfl rfl (Nat.le_of_ble_eq_true rfl) rfl dX12_feed_2 (fun H locs S_32 e1 hW => ?_)
  have hTy := hTy.u12 e1 hT_o ⟨x_1, x_2, x_3, x_4, x_5, x_6, x_7, x_8, 0, x_10, x_11, x_12, x_13, x_14, x_15, x_16, x_17, x_18, x_19, x_20, x_21, x_22, x_23, x_24, x_25, x_26, x_27, x_28, x_29, x_30, x_31, rfl, hT_x_1, hT_x_2, hT_x_3, hT_x_4, hT_x_5, (by omega), (by omega), (by omega), hT_x_10, (by show pr.2 ≤ 900; omega), (by omega), (by omega), hT_x_17, hT_x_18, (by omega), hT_x_20, hT_x_21, hT_x_22, hT_x_23, hT_x_24, hT_x_25, hT_x_26, hT_x_27, hT_x_28, hT_x_29, hT_x_30, (by omega)⟩
  have hws := (show wrs (.inr (12, [.ref x_1, .ref x_2, .ref x_3, .ref x_4, .ref x_5, .int (nI x_6), .int (nI x_7), .int (nI x_8), .int 0, .ref x_10, .int (nI (pr.2)), .int (nI x_11), .int (nI x_12), .int x_13, .int x_14, .int x_15, .int x_16, .ref x_17, .ref x_18, .int (nI x_19), .ref x_20, .ref x_21, .ref x_22, .ref x_23, .ref x_24, .ref x_25, .ref x_26, .ref x_27, .ref x_28, .ref x_29, .ref x_30, .int (nI x_31)])) = wrs (S o) from by rw [hS_o]; rfl)
  have hFr := ufs hFr e1 hT_o (by decide) hws
  have hS_o := us e1
  refine lv_aload_n hx hb dX12_feed_5 rfl (lv_at hl 0 rfl) ?_
  refine pl_get (ci := 12) (v := .int (nI (pr.2))) (C := RX12) (T := TX12) (N := 32) hx hb hT iX12 hown hK hW hT_o.1 hS_o rfl 10 (by decide) w1092 rfl dX12_feed_6 ?_
  refine lv_bipush (v := 20) hx hb dX12_feed_9 (by decide) ?_
  refine lv_iadd hx hb dX12_feed_11 ?_
  refine lv_topi (fun z_33 ez_33 => ?_)
  obtain rfl : z_33 = nI (pr.2 + 20) := ez_33.trans (nI_add (pr.2) (20))
  refine lv_sipush (v := 900) hx hb dX12_feed_12 (by decide) ?_
  refine lv_icmp_le (tgt := 21) hx hb dX12_feed_15 (by decide) (fun c_15 => ?_) (fun c_15 => ?_)
  · have c_15 : (pr.2 + 20) ≤ 900 := (nI_leI (a := pr.2 + 20) (b := 900) (by omega) (by omega)).mp c_15
    refine lv_iconst (v := 0) hx hb dX12_feed_21 (by decide) ?_
    refine lv_istore (lv' := [(6, .int 0), (0, .ref o), (1, .int va), (2, .int vb), (3, .int vc), (4, .int vd), (5, .int ve)]) hx hb dX12_feed_22 hl (by decide) rfl (fun ls hl => ?_)
    have loop : ∀ (fuel : Nat) (i : Nat) (g : Nat) (SS : Nat → va_E) (H : Heap) (locs : List Loc) (ls : Array Slot), 21 - i < fuel → (i ≤ 20) → (g = pr.2 + i) → Ty cy L kap (pr.1, g) SS → Fr kap [12, 55] S SS → Fr kap [12, 55] S_32 SS → PW dC dI L (AL L s.heap.size) s.heap SS H locs → lv_has ls 8 [(6, .int (nI i)), (0, .ref o), (1, .int va), (2, .int vb), (3, .int vc), (4, .int vd), (5, .int ve)] → W p l e (headSpec (wT yX12_feed cX12_feed 8 (some .int)) { frames := 0, cells := 0, slots := 0, locals := 0 }).room s m [.ref o, .int va, .int vb, .int vc, .int vd, .int ve].toArray below meth c H locs 0 0 (MQ below (va_Qi (fun r S' => Ty cy L kap (pr.1, fd pr.2) S' ∧ Fr kap [12, 55] S S' ∧ (r = if 900 < pr.2 + 20 then -4 else nI (pr.2 + 20))) (fun S' t => pB dC dI (AL L s.heap.size) (va_pl L S') (cyT cy) t) (AL L s.heap.size)) [.ref o, .int va, .int vb, .int vc, .int vd, .int ve].toArray s 0 0 (AL L s.heap.size)) (F0 m 24 ls []) := by
      intro fuel
      induction fuel with
      | zero => intro i g SS H locs ls h; exact absurd h (Nat.not_lt_zero _)
      | succ fu24 ih24 =>
        intro i g S_34 H locs ls hm24 hb_i hg hTy hFr hFl24 hW hl
        refine lv_iload hx hb dX12_feed_24 (lv_at hl 0 rfl) ?_
        refine lv_bipush (v := 20) hx hb dX12_feed_26 (by decide) ?_
        refine lv_icmp_ge (tgt := 118) hx hb dX12_feed_28 (by decide) (fun c_28 => ?_) (fun c_28 => ?_)
        · have c_28 : 20 ≤ i := (nI_leI (a := 20) (b := i) (by omega) (by omega)).mp c_28
          refine lv_aload_n hx hb dX12_feed_118 rfl (lv_at hl 1 rfl) ?_
          obtain ⟨x_35, x_36, x_37, x_38, x_39, x_40, x_41, x_42, x_43, x_44, x_45, x_46, x_47, x_48, x_49, x_50, x_51, x_52, x_53, x_54, x_55, x_56, x_57, x_58, x_59, x_60, x_61, x_62, x_63, x_64, x_65, hS_o, hT_x_35, hT_x_36, hT_x_37, hT_x_38, hT_x_39, hb_x_40, hb_x_41, hb_x_42, hT_x_44, hb_q2, hb_x_45, hb_x_46, hT_x_51, hT_x_52, hb_x_53, hT_x_54, hT_x_55, hT_x_56, hT_x_57, hT_x_58, hT_x_59, hT_x_60, hT_x_61, hT_x_62, hT_x_63, hT_x_64, hb_x_65⟩ := hTy.k12 hT_o
          have hb_q2 : g ≤ 900 := hb_q2
          have hS_o : S_34 o = .inr (12, [.ref x_35, .ref x_36, .ref x_37, .ref x_38, .ref x_39, .int (nI x_40), .int (nI x_41), .int (nI x_42), .int x_43, .ref x_44, .int (nI (g)), .int (nI x_45), .int (nI x_46), .int x_47, .int x_48, .int x_49, .int x_50, .ref x_51, .ref x_52, .int (nI x_53), .ref x_54, .ref x_55, .ref x_56, .ref x_57, .ref x_58, .ref x_59, .ref x_60, .ref x_61, .ref x_62, .ref x_63, .ref x_64, .int (nI x_65)]) := hS_o
          refine pl_get (ci := 12) (v := .int (nI (g))) (C := RX12) (T := TX12) (N := 32) hx hb hT iX12 hown hK hW hT_o.1 hS_o rfl 10 (by decide) w1092 rfl dX12_feed_119 ?_
          have hTy : Ty cy L kap (pr.1, fd pr.2) S_34 := (by rw [fd, if_neg (by omega), show pr.2 + 20 = g from by omega]; exact hTy)
          exact W.iret (v := nI (g)) hx hb hr (fun t ht h9 => ⟨⟨nI (g), S_34, rfl, ⟨hTy, hFr, (by rw [if_neg (by omega), show pr.2 + 20 = g from by omega])⟩, by rw [ht]; exact hW.1, va_K.moved h9.alike hK, hW.2.1⟩, hW.2.2.F ht⟩) hW.2.2.2.2 dX12_feed_122
        · have c_28 : ¬ (20 ≤ i) := fun hh9 => c_28 ((nI_leI (a := 20) (b := i) (by omega) (by omega)).mpr hh9)
          refine lv_iload hx hb dX12_feed_31 (lv_at hl 0 rfl) ?_
          refine lv_iconst (v := 4) hx hb dX12_feed_33 (by decide) ?_
          refine lv_icmp_ge (tgt := 41) hx hb dX12_feed_34 (by decide) (fun c_34 => ?_) (fun c_34 => ?_)
          · have c_34 : 4 ≤ i := (nI_leI (a := 4) (b := i) (by omega) (by omega)).mp c_34
            refine lv_iload hx hb dX12_feed_41 (lv_at hl 0 rfl) ?_
            refine lv_bipush (v := 8) hx hb dX12_feed_43 (by decide) ?_
            refine lv_icmp_ge (tgt := 52) hx hb dX12_feed_45 (by decide) (fun c_45 => ?_) (fun c_45 => ?_)
            · have c_45 : 8 ≤ i := (nI_leI (a := 8) (b := i) (by omega) (by omega)).mp c_45
              refine lv_iload hx hb dX12_feed_52 (lv_at hl 0 rfl) ?_
              refine lv_bipush (v := 12) hx hb dX12_feed_54 (by decide) ?_
              refine lv_icmp_ge (tgt := 63) hx hb dX12_feed_56 (by decide) (fun c_56 => ?_) (fun c_56 => ?_)
              · have c_56 : 12 ≤ i := (nI_leI (a := 12) (b := i) (by omega) (by omega)).mp c_56
                refine lv_iload hx hb dX12_feed_63 (lv_at hl 0 rfl) ?_
                refine lv_bipush (v := 16) hx hb dX12_feed_65 (by decide) ?_
                refine lv_icmp_ge (tgt := 75) hx hb dX12_feed_67 (by decide) (fun c_67 => ?_) (fun c_67 => ?_)
                · have c_67 : 16 ≤ i := (nI_leI (a := 16) (b := i) (by omega) (by omega)).mp c_67
                  refine lv_iload hx hb dX12_feed_75 (lv_at hl 6 rfl) ?_
                  refine lv_istore (lv' := [(7, .int ve), (6, .int (nI i)), (0, .ref o), (1, .int va), (2, .int vb), (3, .int vc), (4, .int vd), (5, .int ve)]) hx hb dX12_feed_77 hl (by decide) rfl (fun ls hl => ?_)
                  refine lv_aload_n hx hb dX12_feed_79 rfl (lv_at hl 2 rfl) ?_
                  obtain ⟨x_66, x_67, x_68, x_69, x_70, x_71, x_72, x_73, x_74, x_75, x_76, x_77, x_78, x_79, x_80, x_81, x_82, x_83, x_84, x_85, x_86, x_87, x_88, x_89, x_90, x_91, x_92, x_93, x_94, x_95, x_96, hS_o, hT_x_66, hT_x_67, hT_x_68, hT_x_69, hT_x_70, hb_x_71, hb_x_72, hb_x_73, hT_x_75, hb_q2, hb_x_76, hb_x_77, hT_x_82, hT_x_83, hb_x_84, hT_x_85, hT_x_86, hT_x_87, hT_x_88, hT_x_89, hT_x_90, hT_x_91, hT_x_92, hT_x_93, hT_x_94, hT_x_95, hb_x_96⟩ := hTy.k12 hT_o
                  have hb_q2 : g ≤ 900 := hb_q2
                  have hS_o : S_34 o = .inr (12, [.ref x_66, .ref x_67, .ref x_68, .ref x_69, .ref x_70, .int (nI x_71), .int (nI x_72), .int (nI x_73), .int x_74, .ref x_75, .int (nI (g)), .int (nI x_76), .int (nI x_77), .int x_78, .int x_79, .int x_80, .int x_81, .ref x_82, .ref x_83, .int (nI x_84), .ref x_85, .ref x_86, .ref x_87, .ref x_88, .ref x_89, .ref x_90, .ref x_91, .ref x_92, .ref x_93, .ref x_94, .ref x_95, .int (nI x_96)]) := hS_o
                  refine pl_get (ci := 12) (v := .ref x_75) (C := RX12) (T := TX12) (N := 32) hx hb hT iX12 hown hK hW hT_o.1 hS_o rfl 9 (by decide) w1091 rfl dX12_feed_80 ?_
                  refine lv_aload_n hx hb dX12_feed_83 rfl (lv_at hl 2 rfl) ?_
                  refine pl_get (ci := 12) (v := .int (nI (g))) (C := RX12) (T := TX12) (N := 32) hx hb hT iX12 hown hK hW hT_o.1 hS_o rfl 10 (by decide) w1092 rfl dX12_feed_84 ?_
                  refine lv_iload hx hb dX12_feed_87 (lv_at hl 0 rfl) ?_
                  refine lv_bipush (v := 24) hx hb dX12_feed_89 (by decide) ?_
                  refine lv_bipush (v := 8) hx hb dX12_feed_91 (by decide) ?_
                  refine lv_iload hx hb dX12_feed_93 (lv_at hl 1 rfl) ?_
                  refine lv_iconst (v := 4) hx hb dX12_feed_95 (by decide) ?_
                  refine lv_irem hx hb dX12_feed_96 (by decide) ?_
                  refine lv_topi (fun z_97 ez_97 => ?_)
                  refine lv_imul hx hb dX12_feed_97 ?_
                  refine lv_topi (fun z_98 ez_98 => ?_)
                  refine lv_isub hx hb dX12_feed_98 ?_
                  refine lv_topi (fun z_99 ez_99 => ?_)
                  refine lv_ishr hx hb dX12_feed_99 ?_
                  refine lv_topi (fun z_100 ez_100 => ?_)
                  refine lv_i2b hx hb dX12_feed_100 rfl ?_
                  refine lv_topi (fun z_101 ez_101 => ?_)
                  obtain ⟨f_102, hS_x_75⟩ := hTy.k55 hT_x_75
                  refine pl_bast hx hb hK hW hT_x_75.1 hS_x_75 (vp_in_nI (n := g) (N := 900) (by omega) (by omega)) dX12_feed_101 (fun H locs f_104 S_103 ef_f_104 e1 hW => ?_)
                  have hTy := hTy.u55 e1 hT_x_75 ⟨f_104, rfl⟩
                  have hS_o := un e1 hT_o hT_x_75 (by decide) hS_o
                  have hFr := uf hFr e1 hT_x_75 (by decide) (by decide)
                  have hFl24 := uf hFl24 e1 hT_x_75 (by decide) (by decide)
                  have hS_x_75 := us e1
                  refine lv_aload_n hx hb dX12_feed_102 rfl (lv_at hl 2 rfl) ?_
                  refine lv_dup hx hb dX12_feed_103 rfl ?_
                  refine pl_get (ci := 12) (v := .int (nI (g))) (C := RX12) (T := TX12) (N := 32) hx hb hT iX12 hown hK hW hT_o.1 hS_o rfl 10 (by decide) w1092 rfl dX12_feed_104 ?_
                  refine lv_iconst (v := 1) hx hb dX12_feed_107 (by decide) ?_
                  refine lv_iadd hx hb dX12_feed_108 ?_
                  refine lv_topi (fun z_105 ez_105 => ?_)
                  obtain rfl : z_105 = nI (g + 1) := ez_105.trans (nI_add (g) (1))
                  refine pl_put (ci := 12) (v := .int (nI (g + 1))) (ty := .int) (C := RX12) (T := TX12) (N := 32) (fs' := [.ref x_66, .ref x_67, .ref x_68, .ref x_69, .ref x_70, .int (nI x_71), .int (nI x_72), .int (nI x_73), .int x_74, .ref x_75, .int (nI (g + 1)), .int (nI x_76), .int (nI x_77), .int x_78, .int x_79, .int x_80, .int x_81, .ref x_82, .ref x_83, .int (nI x_84), .ref x_85, .ref x_86, .ref x_87, .ref x_88, .ref x_89, .ref x_90, .ref x_91, .ref x_92, .ref x_93, .ref x_94, .ref x_95, .int (nI x_96)]) hx hb hT iX12 tyX12 tyX12_ok nmX12 hown hK hW hT_o.1 hS_o rfl 10 (by decide) w1092 rfl (by decide +kernel) rfl rfl (Nat.le_of_ble_eq_true rfl) rfl dX12_feed_109 (fun H locs S_106 e1 hW => ?_)
                  have hTy : Ty cy L kap (pr.1, g + 1) S_106 := hTy.p2 (n := g + 1) e1 hT_o (fun b9 hb9 => hu12 b9 o hb9 hT_o) ⟨x_66, x_67, x_68, x_69, x_70, x_71, x_72, x_73, x_74, x_75, x_76, x_77, x_78, x_79, x_80, x_81, x_82, x_83, x_84, x_85, x_86, x_87, x_88, x_89, x_90, x_91, x_92, x_93, x_94, x_95, x_96, rfl, hT_x_66, hT_x_67, hT_x_68, hT_x_69, hT_x_70, (by omega), (by omega), (by omega), hT_x_75, (by show g + 1 ≤ 900; omega), (by omega), (by omega), hT_x_82, hT_x_83, (by omega), hT_x_85, hT_x_86, hT_x_87, hT_x_88, hT_x_89, hT_x_90, hT_x_91, hT_x_92, hT_x_93, hT_x_94, hT_x_95, (by omega)⟩
                  have hS_x_75 := un e1 hT_x_75 hT_o (by decide) hS_x_75
                  have hws := (show wrs (.inr (12, [.ref x_66, .ref x_67, .ref x_68, .ref x_69, .ref x_70, .int (nI x_71), .int (nI x_72), .int (nI x_73), .int x_74, .ref x_75, .int (nI (g + 1)), .int (nI x_76), .int (nI x_77), .int x_78, .int x_79, .int x_80, .int x_81, .ref x_82, .ref x_83, .int (nI x_84), .ref x_85, .ref x_86, .ref x_87, .ref x_88, .ref x_89, .ref x_90, .ref x_91, .ref x_92, .ref x_93, .ref x_94, .ref x_95, .int (nI x_96)])) = wrs (S_103 o) from by rw [hS_o]; rfl)
                  have hFr := ufs hFr e1 hT_o (by decide) hws
                  have hFl24 := ufs hFl24 e1 hT_o (by decide) hws
                  have hS_o := us e1
                  refine lv_iinc (v := nI (i + 1)) (lv' := [(6, .int (nI (i + 1))), (7, .int ve), (0, .ref o), (1, .int va), (2, .int vb), (3, .int vc), (4, .int vd), (5, .int ve)]) hx hb dX12_feed_112 hl (k := 1) rfl (nI_add (i) 1) (by decide) rfl (fun ls hl => ?_)
                  refine lv_goto (tgt := 24) hx hb dX12_feed_115 (by decide) ?_
                  exact ih24 (i + 1) (g + 1) _ _ _ ls (by omega) (by omega) (by omega) hTy hFr hFl24 hW (lv_sub hl [0, 2, 3, 4, 5, 6, 7] rfl)
                · have c_67 : ¬ (16 ≤ i) := fun hh9 => c_67 ((nI_leI (a := 16) (b := i) (by omega) (by omega)).mpr hh9)
                  refine lv_iload hx hb dX12_feed_70 (lv_at hl 5 rfl) ?_
                  refine lv_goto (tgt := 77) hx hb dX12_feed_72 (by decide) ?_
                  refine lv_istore (lv' := [(7, .int vd), (6, .int (nI i)), (0, .ref o), (1, .int va), (2, .int vb), (3, .int vc), (4, .int vd), (5, .int ve)]) hx hb dX12_feed_77 hl (by decide) rfl (fun ls hl => ?_)
                  refine lv_aload_n hx hb dX12_feed_79 rfl (lv_at hl 2 rfl) ?_
                  obtain ⟨x_107, x_108, x_109, x_110, x_111, x_112, x_113, x_114, x_115, x_116, x_117, x_118, x_119, x_120, x_121, x_122, x_123, x_124, x_125, x_126, x_127, x_128, x_129, x_130, x_131, x_132, x_133, x_134, x_135, x_136, x_137, hS_o, hT_x_107, hT_x_108, hT_x_109, hT_x_110, hT_x_111, hb_x_112, hb_x_113, hb_x_114, hT_x_116, hb_q2, hb_x_117, hb_x_118, hT_x_123, hT_x_124, hb_x_125, hT_x_126, hT_x_127, hT_x_128, hT_x_129, hT_x_130, hT_x_131, hT_x_132, hT_x_133, hT_x_134, hT_x_135, hT_x_136, hb_x_137⟩ := hTy.k12 hT_o
                  have hb_q2 : g ≤ 900 := hb_q2
                  have hS_o : S_34 o = .inr (12, [.ref x_107, .ref x_108, .ref x_109, .ref x_110, .ref x_111, .int (nI x_112), .int (nI x_113), .int (nI x_114), .int x_115, .ref x_116, .int (nI (g)), .int (nI x_117), .int (nI x_118), .int x_119, .int x_120, .int x_121, .int x_122, .ref x_123, .ref x_124, .int (nI x_125), .ref x_126, .ref x_127, .ref x_128, .ref x_129, .ref x_130, .ref x_131, .ref x_132, .ref x_133, .ref x_134, .ref x_135, .ref x_136, .int (nI x_137)]) := hS_o
                  refine pl_get (ci := 12) (v := .ref x_116) (C := RX12) (T := TX12) (N := 32) hx hb hT iX12 hown hK hW hT_o.1 hS_o rfl 9 (by decide) w1091 rfl dX12_feed_80 ?_
                  refine lv_aload_n hx hb dX12_feed_83 rfl (lv_at hl 2 rfl) ?_
                  refine pl_get (ci := 12) (v := .int (nI (g))) (C := RX12) (T := TX12) (N := 32) hx hb hT iX12 hown hK hW hT_o.1 hS_o rfl 10 (by decide) w1092 rfl dX12_feed_84 ?_
                  refine lv_iload hx hb dX12_feed_87 (lv_at hl 0 rfl) ?_
                  refine lv_bipush (v := 24) hx hb dX12_feed_89 (by decide) ?_
                  refine lv_bipush (v := 8) hx hb dX12_feed_91 (by decide) ?_
                  refine lv_iload hx hb dX12_feed_93 (lv_at hl 1 rfl) ?_
                  refine lv_iconst (v := 4) hx hb dX12_feed_95 (by decide) ?_
                  refine lv_irem hx hb dX12_feed_96 (by decide) ?_
                  refine lv_topi (fun z_138 ez_138 => ?_)
                  refine lv_imul hx hb dX12_feed_97 ?_
                  refine lv_topi (fun z_139 ez_139 => ?_)
                  refine lv_isub hx hb dX12_feed_98 ?_
                  refine lv_topi (fun z_140 ez_140 => ?_)
                  refine lv_ishr hx hb dX12_feed_99 ?_
                  refine lv_topi (fun z_141 ez_141 => ?_)
                  refine lv_i2b hx hb dX12_feed_100 rfl ?_
                  refine lv_topi (fun z_142 ez_142 => ?_)
                  obtain ⟨f_143, hS_x_116⟩ := hTy.k55 hT_x_116
                  refine pl_bast hx hb hK hW hT_x_116.1 hS_x_116 (vp_in_nI (n := g) (N := 900) (by omega) (by omega)) dX12_feed_101 (fun H locs f_145 S_144 ef_f_145 e1 hW => ?_)
                  have hTy := hTy.u55 e1 hT_x_116 ⟨f_145, rfl⟩
                  have hS_o := un e1 hT_o hT_x_116 (by decide) hS_o
                  have hFr := uf hFr e1 hT_x_116 (by decide) (by decide)
                  have hFl24 := uf hFl24 e1 hT_x_116 (by decide) (by decide)
                  have hS_x_116 := us e1
                  refine lv_aload_n hx hb dX12_feed_102 rfl (lv_at hl 2 rfl) ?_
                  refine lv_dup hx hb dX12_feed_103 rfl ?_
                  refine pl_get (ci := 12) (v := .int (nI (g))) (C := RX12) (T := TX12) (N := 32) hx hb hT iX12 hown hK hW hT_o.1 hS_o rfl 10 (by decide) w1092 rfl dX12_feed_104 ?_
                  refine lv_iconst (v := 1) hx hb dX12_feed_107 (by decide) ?_
                  refine lv_iadd hx hb dX12_feed_108 ?_
                  refine lv_topi (fun z_146 ez_146 => ?_)
                  obtain rfl : z_146 = nI (g + 1) := ez_146.trans (nI_add (g) (1))
                  refine pl_put (ci := 12) (v := .int (nI (g + 1))) (ty := .int) (C := RX12) (T := TX12) (N := 32) (fs' := [.ref x_107, .ref x_108, .ref x_109, .ref x_110, .ref x_111, .int (nI x_112), .int (nI x_113), .int (nI x_114), .int x_115, .ref x_116, .int (nI (g + 1)), .int (nI x_117), .int (nI x_118), .int x_119, .int x_120, .int x_121, .int x_122, .ref x_123, .ref x_124, .int (nI x_125), .ref x_126, .ref x_127, .ref x_128, .ref x_129, .ref x_130, .ref x_131, .ref x_132, .ref x_133, .ref x_134, .ref x_135, .ref x_136, .int (nI x_137)]) hx hb hT iX12 tyX12 tyX12_ok nmX12 hown hK hW hT_o.1 hS_o rfl 10 (by decide) w1092 rfl (by decide +kernel) rfl rfl (Nat.le_of_ble_eq_true rfl) rfl dX12_feed_109 (fun H locs S_147 e1 hW => ?_)
                  have hTy : Ty cy L kap (pr.1, g + 1) S_147 := hTy.p2 (n := g + 1) e1 hT_o (fun b9 hb9 => hu12 b9 o hb9 hT_o) ⟨x_107, x_108, x_109, x_110, x_111, x_112, x_113, x_114, x_115, x_116, x_117, x_118, x_119, x_120, x_121, x_122, x_123, x_124, x_125, x_126, x_127, x_128, x_129, x_130, x_131, x_132, x_133, x_134, x_135, x_136, x_137, rfl, hT_x_107, hT_x_108, hT_x_109, hT_x_110, hT_x_111, (by omega), (by omega), (by omega), hT_x_116, (by show g + 1 ≤ 900; omega), (by omega), (by omega), hT_x_123, hT_x_124, (by omega), hT_x_126, hT_x_127, hT_x_128, hT_x_129, hT_x_130, hT_x_131, hT_x_132, hT_x_133, hT_x_134, hT_x_135, hT_x_136, (by omega)⟩
                  have hS_x_116 := un e1 hT_x_116 hT_o (by decide) hS_x_116
                  have hws := (show wrs (.inr (12, [.ref x_107, .ref x_108, .ref x_109, .ref x_110, .ref x_111, .int (nI x_112), .int (nI x_113), .int (nI x_114), .int x_115, .ref x_116, .int (nI (g + 1)), .int (nI x_117), .int (nI x_118), .int x_119, .int x_120, .int x_121, .int x_122, .ref x_123, .ref x_124, .int (nI x_125), .ref x_126, .ref x_127, .ref x_128, .ref x_129, .ref x_130, .ref x_131, .ref x_132, .ref x_133, .ref x_134, .ref x_135, .ref x_136, .int (nI x_137)])) = wrs (S_144 o) from by rw [hS_o]; rfl)
                  have hFr := ufs hFr e1 hT_o (by decide) hws
                  have hFl24 := ufs hFl24 e1 hT_o (by decide) hws
                  have hS_o := us e1
                  refine lv_iinc (v := nI (i + 1)) (lv' := [(6, .int (nI (i + 1))), (7, .int vd), (0, .ref o), (1, .int va), (2, .int vb), (3, .int vc), (4, .int vd), (5, .int ve)]) hx hb dX12_feed_112 hl (k := 1) rfl (nI_add (i) 1) (by decide) rfl (fun ls hl => ?_)
                  refine lv_goto (tgt := 24) hx hb dX12_feed_115 (by decide) ?_
                  exact ih24 (i + 1) (g + 1) _ _ _ ls (by omega) (by omega) (by omega) hTy hFr hFl24 hW (lv_sub hl [0, 2, 3, 4, 5, 6, 7] rfl)
              · have c_56 : ¬ (12 ≤ i) := fun hh9 => c_56 ((nI_leI (a := 12) (b := i) (by omega) (by omega)).mpr hh9)
                refine lv_iload_n hx hb dX12_feed_59 rfl (lv_at hl 4 rfl) ?_
                refine lv_goto (tgt := 77) hx hb dX12_feed_60 (by decide) ?_
                refine lv_istore (lv' := [(7, .int vc), (6, .int (nI i)), (0, .ref o), (1, .int va), (2, .int vb), (3, .int vc), (4, .int vd), (5, .int ve)]) hx hb dX12_feed_77 hl (by decide) rfl (fun ls hl => ?_)
                refine lv_aload_n hx hb dX12_feed_79 rfl (lv_at hl 2 rfl) ?_
                obtain ⟨x_148, x_149, x_150, x_151, x_152, x_153, x_154, x_155, x_156, x_157, x_158, x_159, x_160, x_161, x_162, x_163, x_164, x_165, x_166, x_167, x_168, x_169, x_170, x_171, x_172, x_173, x_174, x_175, x_176, x_177, x_178, hS_o, hT_x_148, hT_x_149, hT_x_150, hT_x_151, hT_x_152, hb_x_153, hb_x_154, hb_x_155, hT_x_157, hb_q2, hb_x_158, hb_x_159, hT_x_164, hT_x_165, hb_x_166, hT_x_167, hT_x_168, hT_x_169, hT_x_170, hT_x_171, hT_x_172, hT_x_173, hT_x_174, hT_x_175, hT_x_176, hT_x_177, hb_x_178⟩ := hTy.k12 hT_o
                have hb_q2 : g ≤ 900 := hb_q2
                have hS_o : S_34 o = .inr (12, [.ref x_148, .ref x_149, .ref x_150, .ref x_151, .ref x_152, .int (nI x_153), .int (nI x_154), .int (nI x_155), .int x_156, .ref x_157, .int (nI (g)), .int (nI x_158), .int (nI x_159), .int x_160, .int x_161, .int x_162, .int x_163, .ref x_164, .ref x_165, .int (nI x_166), .ref x_167, .ref x_168, .ref x_169, .ref x_170, .ref x_171, .ref x_172, .ref x_173, .ref x_174, .ref x_175, .ref x_176, .ref x_177, .int (nI x_178)]) := hS_o
                refine pl_get (ci := 12) (v := .ref x_157) (C := RX12) (T := TX12) (N := 32) hx hb hT iX12 hown hK hW hT_o.1 hS_o rfl 9 (by decide) w1091 rfl dX12_feed_80 ?_
                refine lv_aload_n hx hb dX12_feed_83 rfl (lv_at hl 2 rfl) ?_
                refine pl_get (ci := 12) (v := .int (nI (g))) (C := RX12) (T := TX12) (N := 32) hx hb hT iX12 hown hK hW hT_o.1 hS_o rfl 10 (by decide) w1092 rfl dX12_feed_84 ?_
                refine lv_iload hx hb dX12_feed_87 (lv_at hl 0 rfl) ?_
                refine lv_bipush (v := 24) hx hb dX12_feed_89 (by decide) ?_
                refine lv_bipush (v := 8) hx hb dX12_feed_91 (by decide) ?_
                refine lv_iload hx hb dX12_feed_93 (lv_at hl 1 rfl) ?_
                refine lv_iconst (v := 4) hx hb dX12_feed_95 (by decide) ?_
                refine lv_irem hx hb dX12_feed_96 (by decide) ?_
                refine lv_topi (fun z_179 ez_179 => ?_)
                refine lv_imul hx hb dX12_feed_97 ?_
                refine lv_topi (fun z_180 ez_180 => ?_)
                refine lv_isub hx hb dX12_feed_98 ?_
                refine lv_topi (fun z_181 ez_181 => ?_)
                refine lv_ishr hx hb dX12_feed_99 ?_
                refine lv_topi (fun z_182 ez_182 => ?_)
                refine lv_i2b hx hb dX12_feed_100 rfl ?_
                refine lv_topi (fun z_183 ez_183 => ?_)
                obtain ⟨f_184, hS_x_157⟩ := hTy.k55 hT_x_157
                refine pl_bast hx hb hK hW hT_x_157.1 hS_x_157 (vp_in_nI (n := g) (N := 900) (by omega) (by omega)) dX12_feed_101 (fun H locs f_186 S_185 ef_f_186 e1 hW => ?_)
                have hTy := hTy.u55 e1 hT_x_157 ⟨f_186, rfl⟩
                have hS_o := un e1 hT_o hT_x_157 (by decide) hS_o
                have hFr := uf hFr e1 hT_x_157 (by decide) (by decide)
                have hFl24 := uf hFl24 e1 hT_x_157 (by decide) (by decide)
                have hS_x_157 := us e1
                refine lv_aload_n hx hb dX12_feed_102 rfl (lv_at hl 2 rfl) ?_
                refine lv_dup hx hb dX12_feed_103 rfl ?_
                refine pl_get (ci := 12) (v := .int (nI (g))) (C := RX12) (T := TX12) (N := 32) hx hb hT iX12 hown hK hW hT_o.1 hS_o rfl 10 (by decide) w1092 rfl dX12_feed_104 ?_
                refine lv_iconst (v := 1) hx hb dX12_feed_107 (by decide) ?_
                refine lv_iadd hx hb dX12_feed_108 ?_
                refine lv_topi (fun z_187 ez_187 => ?_)
                obtain rfl : z_187 = nI (g + 1) := ez_187.trans (nI_add (g) (1))
                refine pl_put (ci := 12) (v := .int (nI (g + 1))) (ty := .int) (C := RX12) (T := TX12) (N := 32) (fs' := [.ref x_148, .ref x_149, .ref x_150, .ref x_151, .ref x_152, .int (nI x_153), .int (nI x_154), .int (nI x_155), .int x_156, .ref x_157, .int (nI (g + 1)), .int (nI x_158), .int (nI x_159), .int x_160, .int x_161, .int x_162, .int x_163, .ref x_164, .ref x_165, .int (nI x_166), .ref x_167, .ref x_168, .ref x_169, .ref x_170, .ref x_171, .ref x_172, .ref x_173, .ref x_174, .ref x_175, .ref x_176, .ref x_177, .int (nI x_178)]) hx hb hT iX12 tyX12 tyX12_ok nmX12 hown hK hW hT_o.1 hS_o rfl 10 (by decide) w1092 rfl (by decide +kernel) rfl rfl (Nat.le_of_ble_eq_true rfl) rfl dX12_feed_109 (fun H locs S_188 e1 hW => ?_)
                have hTy : Ty cy L kap (pr.1, g + 1) S_188 := hTy.p2 (n := g + 1) e1 hT_o (fun b9 hb9 => hu12 b9 o hb9 hT_o) ⟨x_148, x_149, x_150, x_151, x_152, x_153, x_154, x_155, x_156, x_157, x_158, x_159, x_160, x_161, x_162, x_163, x_164, x_165, x_166, x_167, x_168, x_169, x_170, x_171, x_172, x_173, x_174, x_175, x_176, x_177, x_178, rfl, hT_x_148, hT_x_149, hT_x_150, hT_x_151, hT_x_152, (by omega), (by omega), (by omega), hT_x_157, (by show g + 1 ≤ 900; omega), (by omega), (by omega), hT_x_164, hT_x_165, (by omega), hT_x_167, hT_x_168, hT_x_169, hT_x_170, hT_x_171, hT_x_172, hT_x_173, hT_x_174, hT_x_175, hT_x_176, hT_x_177, (by omega)⟩
                have hS_x_157 := un e1 hT_x_157 hT_o (by decide) hS_x_157
                have hws := (show wrs (.inr (12, [.ref x_148, .ref x_149, .ref x_150, .ref x_151, .ref x_152, .int (nI x_153), .int (nI x_154), .int (nI x_155), .int x_156, .ref x_157, .int (nI (g + 1)), .int (nI x_158), .int (nI x_159), .int x_160, .int x_161, .int x_162, .int x_163, .ref x_164, .ref x_165, .int (nI x_166), .ref x_167, .ref x_168, .ref x_169, .ref x_170, .ref x_171, .ref x_172, .ref x_173, .ref x_174, .ref x_175, .ref x_176, .ref x_177, .int (nI x_178)])) = wrs (S_185 o) from by rw [hS_o]; rfl)
                have hFr := ufs hFr e1 hT_o (by decide) hws
                have hFl24 := ufs hFl24 e1 hT_o (by decide) hws
                have hS_o := us e1
                refine lv_iinc (v := nI (i + 1)) (lv' := [(6, .int (nI (i + 1))), (7, .int vc), (0, .ref o), (1, .int va), (2, .int vb), (3, .int vc), (4, .int vd), (5, .int ve)]) hx hb dX12_feed_112 hl (k := 1) rfl (nI_add (i) 1) (by decide) rfl (fun ls hl => ?_)
                refine lv_goto (tgt := 24) hx hb dX12_feed_115 (by decide) ?_
                exact ih24 (i + 1) (g + 1) _ _ _ ls (by omega) (by omega) (by omega) hTy hFr hFl24 hW (lv_sub hl [0, 2, 3, 4, 5, 6, 7] rfl)
            · have c_45 : ¬ (8 ≤ i) := fun hh9 => c_45 ((nI_leI (a := 8) (b := i) (by omega) (by omega)).mpr hh9)
              refine lv_iload_n hx hb dX12_feed_48 rfl (lv_at hl 3 rfl) ?_
              refine lv_goto (tgt := 77) hx hb dX12_feed_49 (by decide) ?_
              refine lv_istore (lv' := [(7, .int vb), (6, .int (nI i)), (0, .ref o), (1, .int va), (2, .int vb), (3, .int vc), (4, .int vd), (5, .int ve)]) hx hb dX12_feed_77 hl (by decide) rfl (fun ls hl => ?_)
              refine lv_aload_n hx hb dX12_feed_79 rfl (lv_at hl 2 rfl) ?_
              obtain ⟨x_189, x_190, x_191, x_192, x_193, x_194, x_195, x_196, x_197, x_198, x_199, x_200, x_201, x_202, x_203, x_204, x_205, x_206, x_207, x_208, x_209, x_210, x_211, x_212, x_213, x_214, x_215, x_216, x_217, x_218, x_219, hS_o, hT_x_189, hT_x_190, hT_x_191, hT_x_192, hT_x_193, hb_x_194, hb_x_195, hb_x_196, hT_x_198, hb_q2, hb_x_199, hb_x_200, hT_x_205, hT_x_206, hb_x_207, hT_x_208, hT_x_209, hT_x_210, hT_x_211, hT_x_212, hT_x_213, hT_x_214, hT_x_215, hT_x_216, hT_x_217, hT_x_218, hb_x_219⟩ := hTy.k12 hT_o
              have hb_q2 : g ≤ 900 := hb_q2
              have hS_o : S_34 o = .inr (12, [.ref x_189, .ref x_190, .ref x_191, .ref x_192, .ref x_193, .int (nI x_194), .int (nI x_195), .int (nI x_196), .int x_197, .ref x_198, .int (nI (g)), .int (nI x_199), .int (nI x_200), .int x_201, .int x_202, .int x_203, .int x_204, .ref x_205, .ref x_206, .int (nI x_207), .ref x_208, .ref x_209, .ref x_210, .ref x_211, .ref x_212, .ref x_213, .ref x_214, .ref x_215, .ref x_216, .ref x_217, .ref x_218, .int (nI x_219)]) := hS_o
              refine pl_get (ci := 12) (v := .ref x_198) (C := RX12) (T := TX12) (N := 32) hx hb hT iX12 hown hK hW hT_o.1 hS_o rfl 9 (by decide) w1091 rfl dX12_feed_80 ?_
              refine lv_aload_n hx hb dX12_feed_83 rfl (lv_at hl 2 rfl) ?_
              refine pl_get (ci := 12) (v := .int (nI (g))) (C := RX12) (T := TX12) (N := 32) hx hb hT iX12 hown hK hW hT_o.1 hS_o rfl 10 (by decide) w1092 rfl dX12_feed_84 ?_
              refine lv_iload hx hb dX12_feed_87 (lv_at hl 0 rfl) ?_
              refine lv_bipush (v := 24) hx hb dX12_feed_89 (by decide) ?_
              refine lv_bipush (v := 8) hx hb dX12_feed_91 (by decide) ?_
              refine lv_iload hx hb dX12_feed_93 (lv_at hl 1 rfl) ?_
              refine lv_iconst (v := 4) hx hb dX12_feed_95 (by decide) ?_
              refine lv_irem hx hb dX12_feed_96 (by decide) ?_
              refine lv_topi (fun z_220 ez_220 => ?_)
              refine lv_imul hx hb dX12_feed_97 ?_
              refine lv_topi (fun z_221 ez_221 => ?_)
              refine lv_isub hx hb dX12_feed_98 ?_
              refine lv_topi (fun z_222 ez_222 => ?_)
              refine lv_ishr hx hb dX12_feed_99 ?_
              refine lv_topi (fun z_223 ez_223 => ?_)
              refine lv_i2b hx hb dX12_feed_100 rfl ?_
              refine lv_topi (fun z_224 ez_224 => ?_)
              obtain ⟨f_225, hS_x_198⟩ := hTy.k55 hT_x_198
              refine pl_bast hx hb hK hW hT_x_198.1 hS_x_198 (vp_in_nI (n := g) (N := 900) (by omega) (by omega)) dX12_feed_101 (fun H locs f_227 S_226 ef_f_227 e1 hW => ?_)
              have hTy := hTy.u55 e1 hT_x_198 ⟨f_227, rfl⟩
              have hS_o := un e1 hT_o hT_x_198 (by decide) hS_o
              have hFr := uf hFr e1 hT_x_198 (by decide) (by decide)
              have hFl24 := uf hFl24 e1 hT_x_198 (by decide) (by decide)
              have hS_x_198 := us e1
              refine lv_aload_n hx hb dX12_feed_102 rfl (lv_at hl 2 rfl) ?_
              refine lv_dup hx hb dX12_feed_103 rfl ?_
              refine pl_get (ci := 12) (v := .int (nI (g))) (C := RX12) (T := TX12) (N := 32) hx hb hT iX12 hown hK hW hT_o.1 hS_o rfl 10 (by decide) w1092 rfl dX12_feed_104 ?_
              refine lv_iconst (v := 1) hx hb dX12_feed_107 (by decide) ?_
              refine lv_iadd hx hb dX12_feed_108 ?_
              refine lv_topi (fun z_228 ez_228 => ?_)
              obtain rfl : z_228 = nI (g + 1) := ez_228.trans (nI_add (g) (1))
              refine pl_put (ci := 12) (v := .int (nI (g + 1))) (ty := .int) (C := RX12) (T := TX12) (N := 32) (fs' := [.ref x_189, .ref x_190, .ref x_191, .ref x_192, .ref x_193, .int (nI x_194), .int (nI x_195), .int (nI x_196), .int x_197, .ref x_198, .int (nI (g + 1)), .int (nI x_199), .int (nI x_200), .int x_201, .int x_202, .int x_203, .int x_204, .ref x_205, .ref x_206, .int (nI x_207), .ref x_208, .ref x_209, .ref x_210, .ref x_211, .ref x_212, .ref x_213, .ref x_214, .ref x_215, .ref x_216, .ref x_217, .ref x_218, .int (nI x_219)]) hx hb hT iX12 tyX12 tyX12_ok nmX12 hown hK hW hT_o.1 hS_o rfl 10 (by decide) w1092 rfl (by decide +kernel) rfl rfl (Nat.le_of_ble_eq_true rfl) rfl dX12_feed_109 (fun H locs S_229 e1 hW => ?_)
              have hTy : Ty cy L kap (pr.1, g + 1) S_229 := hTy.p2 (n := g + 1) e1 hT_o (fun b9 hb9 => hu12 b9 o hb9 hT_o) ⟨x_189, x_190, x_191, x_192, x_193, x_194, x_195, x_196, x_197, x_198, x_199, x_200, x_201, x_202, x_203, x_204, x_205, x_206, x_207, x_208, x_209, x_210, x_211, x_212, x_213, x_214, x_215, x_216, x_217, x_218, x_219, rfl, hT_x_189, hT_x_190, hT_x_191, hT_x_192, hT_x_193, (by omega), (by omega), (by omega), hT_x_198, (by show g + 1 ≤ 900; omega), (by omega), (by omega), hT_x_205, hT_x_206, (by omega), hT_x_208, hT_x_209, hT_x_210, hT_x_211, hT_x_212, hT_x_213, hT_x_214, hT_x_215, hT_x_216, hT_x_217, hT_x_218, (by omega)⟩
              have hS_x_198 := un e1 hT_x_198 hT_o (by decide) hS_x_198
              have hws := (show wrs (.inr (12, [.ref x_189, .ref x_190, .ref x_191, .ref x_192, .ref x_193, .int (nI x_194), .int (nI x_195), .int (nI x_196), .int x_197, .ref x_198, .int (nI (g + 1)), .int (nI x_199), .int (nI x_200), .int x_201, .int x_202, .int x_203, .int x_204, .ref x_205, .ref x_206, .int (nI x_207), .ref x_208, .ref x_209, .ref x_210, .ref x_211, .ref x_212, .ref x_213, .ref x_214, .ref x_215, .ref x_216, .ref x_217, .ref x_218, .int (nI x_219)])) = wrs (S_226 o) from by rw [hS_o]; rfl)
              have hFr := ufs hFr e1 hT_o (by decide) hws
              have hFl24 := ufs hFl24 e1 hT_o (by decide) hws
              have hS_o := us e1
              refine lv_iinc (v := nI (i + 1)) (lv' := [(6, .int (nI (i + 1))), (7, .int vb), (0, .ref o), (1, .int va), (2, .int vb), (3, .int vc), (4, .int vd), (5, .int ve)]) hx hb dX12_feed_112 hl (k := 1) rfl (nI_add (i) 1) (by decide) rfl (fun ls hl => ?_)
              refine lv_goto (tgt := 24) hx hb dX12_feed_115 (by decide) ?_
              exact ih24 (i + 1) (g + 1) _ _ _ ls (by omega) (by omega) (by omega) hTy hFr hFl24 hW (lv_sub hl [0, 2, 3, 4, 5, 6, 7] rfl)
          · have c_34 : ¬ (4 ≤ i) := fun hh9 => c_34 ((nI_leI (a := 4) (b := i) (by omega) (by omega)).mpr hh9)
            refine lv_iload_n hx hb dX12_feed_37 rfl (lv_at hl 2 rfl) ?_
            refine lv_goto (tgt := 77) hx hb dX12_feed_38 (by decide) ?_
            refine lv_istore (lv' := [(7, .int va), (6, .int (nI i)), (0, .ref o), (1, .int va), (2, .int vb), (3, .int vc), (4, .int vd), (5, .int ve)]) hx hb dX12_feed_77 hl (by decide) rfl (fun ls hl => ?_)
            refine lv_aload_n hx hb dX12_feed_79 rfl (lv_at hl 2 rfl) ?_
            obtain ⟨x_230, x_231, x_232, x_233, x_234, x_235, x_236, x_237, x_238, x_239, x_240, x_241, x_242, x_243, x_244, x_245, x_246, x_247, x_248, x_249, x_250, x_251, x_252, x_253, x_254, x_255, x_256, x_257, x_258, x_259, x_260, hS_o, hT_x_230, hT_x_231, hT_x_232, hT_x_233, hT_x_234, hb_x_235, hb_x_236, hb_x_237, hT_x_239, hb_q2, hb_x_240, hb_x_241, hT_x_246, hT_x_247, hb_x_248, hT_x_249, hT_x_250, hT_x_251, hT_x_252, hT_x_253, hT_x_254, hT_x_255, hT_x_256, hT_x_257, hT_x_258, hT_x_259, hb_x_260⟩ := hTy.k12 hT_o
            have hb_q2 : g ≤ 900 := hb_q2
            have hS_o : S_34 o = .inr (12, [.ref x_230, .ref x_231, .ref x_232, .ref x_233, .ref x_234, .int (nI x_235), .int (nI x_236), .int (nI x_237), .int x_238, .ref x_239, .int (nI (g)), .int (nI x_240), .int (nI x_241), .int x_242, .int x_243, .int x_244, .int x_245, .ref x_246, .ref x_247, .int (nI x_248), .ref x_249, .ref x_250, .ref x_251, .ref x_252, .ref x_253, .ref x_254, .ref x_255, .ref x_256, .ref x_257, .ref x_258, .ref x_259, .int (nI x_260)]) := hS_o
            refine pl_get (ci := 12) (v := .ref x_239) (C := RX12) (T := TX12) (N := 32) hx hb hT iX12 hown hK hW hT_o.1 hS_o rfl 9 (by decide) w1091 rfl dX12_feed_80 ?_
            refine lv_aload_n hx hb dX12_feed_83 rfl (lv_at hl 2 rfl) ?_
            refine pl_get (ci := 12) (v := .int (nI (g))) (C := RX12) (T := TX12) (N := 32) hx hb hT iX12 hown hK hW hT_o.1 hS_o rfl 10 (by decide) w1092 rfl dX12_feed_84 ?_
            refine lv_iload hx hb dX12_feed_87 (lv_at hl 0 rfl) ?_
            refine lv_bipush (v := 24) hx hb dX12_feed_89 (by decide) ?_
            refine lv_bipush (v := 8) hx hb dX12_feed_91 (by decide) ?_
            refine lv_iload hx hb dX12_feed_93 (lv_at hl 1 rfl) ?_
            refine lv_iconst (v := 4) hx hb dX12_feed_95 (by decide) ?_
            refine lv_irem hx hb dX12_feed_96 (by decide) ?_
            refine lv_topi (fun z_261 ez_261 => ?_)
            refine lv_imul hx hb dX12_feed_97 ?_
            refine lv_topi (fun z_262 ez_262 => ?_)
            refine lv_isub hx hb dX12_feed_98 ?_
            refine lv_topi (fun z_263 ez_263 => ?_)
            refine lv_ishr hx hb dX12_feed_99 ?_
            refine lv_topi (fun z_264 ez_264 => ?_)
            refine lv_i2b hx hb dX12_feed_100 rfl ?_
            refine lv_topi (fun z_265 ez_265 => ?_)
            obtain ⟨f_266, hS_x_239⟩ := hTy.k55 hT_x_239
            refine pl_bast hx hb hK hW hT_x_239.1 hS_x_239 (vp_in_nI (n := g) (N := 900) (by omega) (by omega)) dX12_feed_101 (fun H locs f_268 S_267 ef_f_268 e1 hW => ?_)
            have hTy := hTy.u55 e1 hT_x_239 ⟨f_268, rfl⟩
            have hS_o := un e1 hT_o hT_x_239 (by decide) hS_o
            have hFr := uf hFr e1 hT_x_239 (by decide) (by decide)
            have hFl24 := uf hFl24 e1 hT_x_239 (by decide) (by decide)
            have hS_x_239 := us e1
            refine lv_aload_n hx hb dX12_feed_102 rfl (lv_at hl 2 rfl) ?_
            refine lv_dup hx hb dX12_feed_103 rfl ?_
            refine pl_get (ci := 12) (v := .int (nI (g))) (C := RX12) (T := TX12) (N := 32) hx hb hT iX12 hown hK hW hT_o.1 hS_o rfl 10 (by decide) w1092 rfl dX12_feed_104 ?_
            refine lv_iconst (v := 1) hx hb dX12_feed_107 (by decide) ?_
            refine lv_iadd hx hb dX12_feed_108 ?_
            refine lv_topi (fun z_269 ez_269 => ?_)
            obtain rfl : z_269 = nI (g + 1) := ez_269.trans (nI_add (g) (1))
            refine pl_put (ci := 12) (v := .int (nI (g + 1))) (ty := .int) (C := RX12) (T := TX12) (N := 32) (fs' := [.ref x_230, .ref x_231, .ref x_232, .ref x_233, .ref x_234, .int (nI x_235), .int (nI x_236), .int (nI x_237), .int x_238, .ref x_239, .int (nI (g + 1)), .int (nI x_240), .int (nI x_241), .int x_242, .int x_243, .int x_244, .int x_245, .ref x_246, .ref x_247, .int (nI x_248), .ref x_249, .ref x_250, .ref x_251, .ref x_252, .ref x_253, .ref x_254, .ref x_255, .ref x_256, .ref x_257, .ref x_258, .ref x_259, .int (nI x_260)]) hx hb hT iX12 tyX12 tyX12_ok nmX12 hown hK hW hT_o.1 hS_o rfl 10 (by decide) w1092 rfl (by decide +kernel) rfl rfl (Nat.le_of_ble_eq_true rfl) rfl dX12_feed_109 (fun H locs S_270 e1 hW => ?_)
            have hTy : Ty cy L kap (pr.1, g + 1) S_270 := hTy.p2 (n := g + 1) e1 hT_o (fun b9 hb9 => hu12 b9 o hb9 hT_o) ⟨x_230, x_231, x_232, x_233, x_234, x_235, x_236, x_237, x_238, x_239, x_240, x_241, x_242, x_243, x_244, x_245, x_246, x_247, x_248, x_249, x_250, x_251, x_252, x_253, x_254, x_255, x_256, x_257, x_258, x_259, x_260, rfl, hT_x_230, hT_x_231, hT_x_232, hT_x_233, hT_x_234, (by omega), (by omega), (by omega), hT_x_239, (by show g + 1 ≤ 900; omega), (by omega), (by omega), hT_x_246, hT_x_247, (by omega), hT_x_249, hT_x_250, hT_x_251, hT_x_252, hT_x_253, hT_x_254, hT_x_255, hT_x_256, hT_x_257, hT_x_258, hT_x_259, (by omega)⟩
            have hS_x_239 := un e1 hT_x_239 hT_o (by decide) hS_x_239
            have hws := (show wrs (.inr (12, [.ref x_230, .ref x_231, .ref x_232, .ref x_233, .ref x_234, .int (nI x_235), .int (nI x_236), .int (nI x_237), .int x_238, .ref x_239, .int (nI (g + 1)), .int (nI x_240), .int (nI x_241), .int x_242, .int x_243, .int x_244, .int x_245, .ref x_246, .ref x_247, .int (nI x_248), .ref x_249, .ref x_250, .ref x_251, .ref x_252, .ref x_253, .ref x_254, .ref x_255, .ref x_256, .ref x_257, .ref x_258, .ref x_259, .int (nI x_260)])) = wrs (S_267 o) from by rw [hS_o]; rfl)
            have hFr := ufs hFr e1 hT_o (by decide) hws
            have hFl24 := ufs hFl24 e1 hT_o (by decide) hws
            have hS_o := us e1
            refine lv_iinc (v := nI (i + 1)) (lv' := [(6, .int (nI (i + 1))), (7, .int va), (0, .ref o), (1, .int va), (2, .int vb), (3, .int vc), (4, .int vd), (5, .int ve)]) hx hb dX12_feed_112 hl (k := 1) rfl (nI_add (i) 1) (by decide) rfl (fun ls hl => ?_)
            refine lv_goto (tgt := 24) hx hb dX12_feed_115 (by decide) ?_
            exact ih24 (i + 1) (g + 1) _ _ _ ls (by omega) (by omega) (by omega) hTy hFr hFl24 hW (lv_sub hl [0, 2, 3, 4, 5, 6, 7] rfl)
    exact loop ((21 - 0) + 1) 0 pr.2 _ _ _ ls (Nat.lt_succ_self _) (by omega) (by omega) hTy hFr Fr.rf hW (lv_sub hl [0, 1, 2, 3, 4, 5, 6] rfl)
  · have c_15 : ¬ ((pr.2 + 20) ≤ 900) := fun hh9 => c_15 ((nI_leI (a := pr.2 + 20) (b := 900) (by omega) (by omega)).mpr hh9)
    refine lv_bipush (v := (-4)) hx hb dX12_feed_18 (by decide) ?_
    have hTy : Ty cy L kap (pr.1, fd pr.2) S_32 := (by rw [fd, if_pos (by omega)]; exact hTy)
    exact W.iret (v := (-4)) hx hb hr (fun t ht h9 => ⟨⟨(-4), S_32, rfl, ⟨hTy, hFr, ((if_pos (by omega)).symm)⟩, by rw [ht]; exact hW.1, va_K.moved h9.alike hK, hW.2.1⟩, hW.2.2.F ht⟩) hW.2.2.2.2 dX12_feed_20

set_option maxHeartbeats 4000000 in
set_option maxRecDepth 100000 in
theorem m_fault (l : Launch) (dC : Nat → ClassId) (dI : Nat → Nat → Nat) (cy : Nat → ClassId) (L : List Nat) (kap : Nat → Nat) (pr : Pr) (S : Nat → va_E) (sz : Nat) (o : Nat) (wh : Int32) (hTy : Ty cy L kap pr S) (hT_o : TK L kap o 12) : Met l yX12_fault (wT yX12_fault cX12_fault 2 (some .int)) ({ frames := 0, cells := 0, slots := 0, locals := 0 }) (pcN dC dI [.ref o, .int wh] sz (va_pl L S) (cyT cy) NLs []) (va_Qi (fun r S' => Ty cy L kap pr S' ∧ Fr kap [12] S S') (fun S' t => pB dC dI (AL L sz) (va_pl L S') (cyT cy) t) (AL L sz)) 0 0 (AL L sz) := by
  refine Met.ofW (cc := cX12_fault) (maxL := 2) (ret := (some .int)) (by decide) rfl ?_
  intro p e s m args below meth c s₁ B hml hv
  obtain ⟨rfl, hsz, hP, hK, hD0, hN, -⟩ := hv
  have hx := B.exec
  have hb := B.bytes
  have hr := B.returns
  have hT : ∀ wd ∈ TB, wd.before [.ref o, .int wh].toArray s = true := fun wd h => atoms_spec (ws := wT yX12_fault cX12_fault 2 (some .int)) B.pre wd (List.mem_cons_of_mem _ h)
  have hown : s.vm.findClass RX12 = some m.cls := findClass_of_methodNamed B.named
  have hlocks := B.notSynchronized
  subst hsz
  have hW : PW dC dI L (AL L s.heap.size) s.heap S s.heap [] := ⟨hP, pl_self hD0, va_S.rf⟩
  have hA0 : ∀ q, q ∈ L → AL L s.heap.size q := fun _ h => Or.inl h
  have hA : ∀ q, s.heap.size ≤ q → AL L s.heap.size q := fun _ h => Or.inr h
  have hFr : Fr kap [12] S S := Fr.rf
  have hl := lv_entry ([.ref o, .int wh]) (n := 2) (Nat.le_of_ble_eq_true rfl)
  rw [lg_entry_eq]
  generalize (lg_sl ([.ref o, .int wh]) ++ List.replicate (2 - (lg_sl ([.ref o, .int wh])).length) Slot.unset).toArray = ls at hl ⊢
  have hl : lv_has ls 2 [(0, .ref o), (1, .int wh)] := hl
  refine lv_aload_n hx hb dX12_fault_0 rfl (lv_at hl 0 rfl) ?_
  refine lv_iconst (v := 0) hx hb dX12_fault_1 (by decide) ?_
  obtain ⟨x_1, x_2, x_3, x_4, x_5, x_6, x_7, x_8, x_9, x_10, x_11, x_12, x_13, x_14, x_15, x_16, x_17, x_18, x_19, x_20, x_21, x_22, x_23, x_24, x_25, x_26, x_27, x_28, x_29, x_30, x_31, hS_o, hT_x_1, hT_x_2, hT_x_3, hT_x_4, hT_x_5, hb_x_6, hb_x_7, hb_x_8, hT_x_10, hb_q2, hb_x_11, hb_x_12, hT_x_17, hT_x_18, hb_x_19, hT_x_20, hT_x_21, hT_x_22, hT_x_23, hT_x_24, hT_x_25, hT_x_26, hT_x_27, hT_x_28, hT_x_29, hT_x_30, hb_x_31⟩ := hTy.k12 hT_o
  have hb_q2 : pr.2 ≤ 900 := hb_q2
  have hS_o : S o = .inr (12, [.ref x_1, .ref x_2, .ref x_3, .ref x_4, .ref x_5, .int (nI x_6), .int (nI x_7), .int (nI x_8), .int x_9, .ref x_10, .int (nI (pr.2)), .int (nI x_11), .int (nI x_12), .int x_13, .int x_14, .int x_15, .int x_16, .ref x_17, .ref x_18, .int (nI x_19), .ref x_20, .ref x_21, .ref x_22, .ref x_23, .ref x_24, .ref x_25, .ref x_26, .ref x_27, .ref x_28, .ref x_29, .ref x_30, .int (nI x_31)]) := hS_o
  refine pl_put (ci := 12) (v := .int 0) (ty := .int) (C := RX12) (T := TX12) (N := 32) (fs' := [.ref x_1, .ref x_2, .ref x_3, .ref x_4, .ref x_5, .int (nI x_6), .int (nI x_7), .int (nI x_8), .int 0, .ref x_10, .int (nI (pr.2)), .int (nI x_11), .int (nI x_12), .int x_13, .int x_14, .int x_15, .int x_16, .ref x_17, .ref x_18, .int (nI x_19), .ref x_20, .ref x_21, .ref x_22, .ref x_23, .ref x_24, .ref x_25, .ref x_26, .ref x_27, .ref x_28, .ref x_29, .ref x_30, .int (nI x_31)]) hx hb hT iX12 tyX12 tyX12_ok nmX12 hown hK hW hT_o.1 hS_o rfl 8 (by decide) w1090 rfl (by decide +kernel) rfl rfl (Nat.le_of_ble_eq_true rfl) rfl dX12_fault_2 (fun H locs S_32 e1 hW => ?_)
  have hTy := hTy.u12 e1 hT_o ⟨x_1, x_2, x_3, x_4, x_5, x_6, x_7, x_8, 0, x_10, x_11, x_12, x_13, x_14, x_15, x_16, x_17, x_18, x_19, x_20, x_21, x_22, x_23, x_24, x_25, x_26, x_27, x_28, x_29, x_30, x_31, rfl, hT_x_1, hT_x_2, hT_x_3, hT_x_4, hT_x_5, (by omega), (by omega), (by omega), hT_x_10, (by show pr.2 ≤ 900; omega), (by omega), (by omega), hT_x_17, hT_x_18, (by omega), hT_x_20, hT_x_21, hT_x_22, hT_x_23, hT_x_24, hT_x_25, hT_x_26, hT_x_27, hT_x_28, hT_x_29, hT_x_30, (by omega)⟩
  have hws := (show wrs (.inr (12, [.ref x_1, .ref x_2, .ref x_3, .ref x_4, .ref x_5, .int (nI x_6), .int (nI x_7), .int (nI x_8), .int 0, .ref x_10, .int (nI (pr.2)), .int (nI x_11), .int (nI x_12), .int x_13, .int x_14, .int x_15, .int x_16, .ref x_17, .ref x_18, .int (nI x_19), .ref x_20, .ref x_21, .ref x_22, .ref x_23, .ref x_24, .ref x_25, .ref x_26, .ref x_27, .ref x_28, .ref x_29, .ref x_30, .int (nI x_31)])) = wrs (S o) from by rw [hS_o]; rfl)
  have hFr := ufs hFr e1 hT_o (by decide) hws
  have hS_o := us e1
  refine lv_iload_n hx hb dX12_fault_5 rfl (lv_at hl 1 rfl) ?_
  refine lv_if_ne (tgt := 16) hx hb dX12_fault_6 (by decide) (fun c_6 => ?_) (fun c_6 => ?_)
  · refine lv_iload_n hx hb dX12_fault_16 rfl (lv_at hl 1 rfl) ?_
    refine lv_iconst (v := 1) hx hb dX12_fault_17 (by decide) ?_
    refine lv_icmp_ne (tgt := 28) hx hb dX12_fault_18 (by decide) (fun c_18 => ?_) (fun c_18 => ?_)
    · refine lv_iconst (v := (-1)) hx hb dX12_fault_28 (by decide) ?_
      exact W.iret (v := (-1)) hx hb hr (fun t ht h9 => ⟨⟨(-1), S_32, rfl, ⟨hTy, hFr⟩, by rw [ht]; exact hW.1, va_K.moved h9.alike hK, hW.2.1⟩, hW.2.2.F ht⟩) hW.2.2.2.2 dX12_fault_29
    · refine lv_aload_n hx hb dX12_fault_21 rfl (lv_at hl 0 rfl) ?_
      refine pl_get (ci := 12) (v := .int x_14) (C := RX12) (T := TX12) (N := 32) hx hb hT iX12 hown hK hW hT_o.1 hS_o rfl 14 (by decide) w1096 rfl dX12_fault_22 ?_
      refine lv_goto (tgt := 29) hx hb dX12_fault_25 (by decide) ?_
      exact W.iret (v := x_14) hx hb hr (fun t ht h9 => ⟨⟨x_14, S_32, rfl, ⟨hTy, hFr⟩, by rw [ht]; exact hW.1, va_K.moved h9.alike hK, hW.2.1⟩, hW.2.2.F ht⟩) hW.2.2.2.2 dX12_fault_29
  · refine lv_aload_n hx hb dX12_fault_9 rfl (lv_at hl 0 rfl) ?_
    refine pl_get (ci := 12) (v := .int x_13) (C := RX12) (T := TX12) (N := 32) hx hb hT iX12 hown hK hW hT_o.1 hS_o rfl 13 (by decide) w1095 rfl dX12_fault_10 ?_
    refine lv_goto (tgt := 29) hx hb dX12_fault_13 (by decide) ?_
    exact W.iret (v := x_13) hx hb hr (fun t ht h9 => ⟨⟨x_13, S_32, rfl, ⟨hTy, hFr⟩, by rw [ht]; exact hW.1, va_K.moved h9.alike hK, hW.2.1⟩, hW.2.2.F ht⟩) hW.2.2.2.2 dX12_fault_29

