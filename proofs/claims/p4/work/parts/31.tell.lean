theorem w1077 : (.methodLink RX12 77 yX12_plain : Cond) ∈ TB := mTB (List.mem_of_getElem? (i := 1077) (by decide +kernel)) (by decide +kernel)
theorem w1079 : (.instanceMethod yX12_plain : Cond) ∈ TB := mTB (List.mem_of_getElem? (i := 1079) (by decide +kernel)) (by decide +kernel)
theorem w1080 : (.code yX12_plain cX12_plain 2 none : Cond) ∈ TB := mTB (List.mem_of_getElem? (i := 1080) (by decide +kernel)) (by decide +kernel)
theorem w1081 : (.constant RX12 86 99999999 : Cond) ∈ TB := mTB (List.mem_of_getElem? (i := 1081) (by decide +kernel)) (by decide +kernel)
theorem w1083 : (.fieldLink RX12 17 "SwapPressModel" "saved" "[I" : Cond) ∈ TB := mTB (List.mem_of_getElem? (i := 1083) (by decide +kernel)) (by decide +kernel)
theorem w1086 : (.fieldLink RX12 27 "SwapPressModel" "savedNames" "[J" : Cond) ∈ TB := mTB (List.mem_of_getElem? (i := 1086) (by decide +kernel)) (by decide +kernel)
theorem w1089 : (.fieldLink RX12 195 "SwapPressModel" "actMany" "I" : Cond) ∈ TB := mTB (List.mem_of_getElem? (i := 1089) (by decide +kernel)) (by decide +kernel)
theorem w1090 : (.fieldLink RX12 1 "SwapPressModel" "thrown" "I" : Cond) ∈ TB := mTB (List.mem_of_getElem? (i := 1090) (by decide +kernel)) (by decide +kernel)
theorem w1092 : (.fieldLink RX12 87 "SwapPressModel" "taped" "I" : Cond) ∈ TB := mTB (List.mem_of_getElem? (i := 1092) (by decide +kernel)) (by decide +kernel)
theorem w1097 : (.fieldLink RX12 157 "SwapPressModel" "seen" "I" : Cond) ∈ TB := mTB (List.mem_of_getElem? (i := 1097) (by decide +kernel)) (by decide +kernel)
theorem w1194 : (.methodLink RX12 192 yX12_lineRead : Cond) ∈ TB := mTB (List.mem_of_getElem? (i := 1194) (by decide +kernel)) (by decide +kernel)
theorem w1196 : (.instanceMethod yX12_lineRead : Cond) ∈ TB := mTB (List.mem_of_getElem? (i := 1196) (by decide +kernel)) (by decide +kernel)
theorem w1197 : (.code yX12_lineRead cX12_lineRead 3 none : Cond) ∈ TB := mTB (List.mem_of_getElem? (i := 1197) (by decide +kernel)) (by decide +kernel)
theorem w1218 : (.methodLink RX12 160 yX12_isFull : Cond) ∈ TB := mTB (List.mem_of_getElem? (i := 1218) (by decide +kernel)) (by decide +kernel)
theorem w1220 : (.instanceMethod yX12_isFull : Cond) ∈ TB := mTB (List.mem_of_getElem? (i := 1220) (by decide +kernel)) (by decide +kernel)
theorem w1221 : (.code yX12_isFull cX12_isFull 2 (some .boolean) : Cond) ∈ TB := mTB (List.mem_of_getElem? (i := 1221) (by decide +kernel)) (by decide +kernel)
theorem w1222 : (.methodLink RX12 163 yX12_behind : Cond) ∈ TB := mTB (List.mem_of_getElem? (i := 1222) (by decide +kernel)) (by decide +kernel)
theorem w1224 : (.instanceMethod yX12_behind : Cond) ∈ TB := mTB (List.mem_of_getElem? (i := 1224) (by decide +kernel)) (by decide +kernel)
theorem w1225 : (.code yX12_behind cX12_behind 3 none : Cond) ∈ TB := mTB (List.mem_of_getElem? (i := 1225) (by decide +kernel)) (by decide +kernel)
theorem w1226 : (.methodLink RX12 167 yX12_newName : Cond) ∈ TB := mTB (List.mem_of_getElem? (i := 1226) (by decide +kernel)) (by decide +kernel)
theorem w1228 : (.instanceMethod yX12_newName : Cond) ∈ TB := mTB (List.mem_of_getElem? (i := 1228) (by decide +kernel)) (by decide +kernel)
theorem w1229 : (.code yX12_newName cX12_newName 4 none : Cond) ∈ TB := mTB (List.mem_of_getElem? (i := 1229) (by decide +kernel)) (by decide +kernel)
theorem w1238 : (.methodLink RX12 170 yX12_numeral : Cond) ∈ TB := mTB (List.mem_of_getElem? (i := 1238) (by decide +kernel)) (by decide +kernel)
theorem w1240 : (.instanceMethod yX12_numeral : Cond) ∈ TB := mTB (List.mem_of_getElem? (i := 1240) (by decide +kernel)) (by decide +kernel)
theorem w1241 : (.code yX12_numeral cX12_numeral 4 (some .int) : Cond) ∈ TB := mTB (List.mem_of_getElem? (i := 1241) (by decide +kernel)) (by decide +kernel)
theorem w1247 : (.methodLink RX12 174 yX12_tradeAt : Cond) ∈ TB := mTB (List.mem_of_getElem? (i := 1247) (by decide +kernel)) (by decide +kernel)
theorem w1249 : (.instanceMethod yX12_tradeAt : Cond) ∈ TB := mTB (List.mem_of_getElem? (i := 1249) (by decide +kernel)) (by decide +kernel)
theorem w1250 : (.code yX12_tradeAt cX12_tradeAt 3 (some .int) : Cond) ∈ TB := mTB (List.mem_of_getElem? (i := 1250) (by decide +kernel)) (by decide +kernel)
theorem w1251 : (.methodLink RX12 177 yX12_twoRead : Cond) ∈ TB := mTB (List.mem_of_getElem? (i := 1251) (by decide +kernel)) (by decide +kernel)
theorem w1253 : (.instanceMethod yX12_twoRead : Cond) ∈ TB := mTB (List.mem_of_getElem? (i := 1253) (by decide +kernel)) (by decide +kernel)
theorem w1254 : (.code yX12_twoRead cX12_twoRead 6 none : Cond) ∈ TB := mTB (List.mem_of_getElem? (i := 1254) (by decide +kernel)) (by decide +kernel)
theorem w1259 : (.methodLink RX12 180 yX12_otherRead : Cond) ∈ TB := mTB (List.mem_of_getElem? (i := 1259) (by decide +kernel)) (by decide +kernel)
theorem w1261 : (.instanceMethod yX12_otherRead : Cond) ∈ TB := mTB (List.mem_of_getElem? (i := 1261) (by decide +kernel)) (by decide +kernel)
theorem w1262 : (.code yX12_otherRead cX12_otherRead 3 (some .int) : Cond) ∈ TB := mTB (List.mem_of_getElem? (i := 1262) (by decide +kernel)) (by decide +kernel)
theorem w1263 : (.constant RX12 184 999999 : Cond) ∈ TB := mTB (List.mem_of_getElem? (i := 1263) (by decide +kernel)) (by decide +kernel)
theorem w1264 : (.methodLink RX12 185 yX12_kindRead : Cond) ∈ TB := mTB (List.mem_of_getElem? (i := 1264) (by decide +kernel)) (by decide +kernel)
theorem w1266 : (.instanceMethod yX12_kindRead : Cond) ∈ TB := mTB (List.mem_of_getElem? (i := 1266) (by decide +kernel)) (by decide +kernel)
theorem w1267 : (.code yX12_kindRead cX12_kindRead 2 (some .int) : Cond) ∈ TB := mTB (List.mem_of_getElem? (i := 1267) (by decide +kernel)) (by decide +kernel)
theorem w1268 : (.methodLink RX12 188 yX12_adds : Cond) ∈ TB := mTB (List.mem_of_getElem? (i := 1268) (by decide +kernel)) (by decide +kernel)
theorem w1270 : (.instanceMethod yX12_adds : Cond) ∈ TB := mTB (List.mem_of_getElem? (i := 1270) (by decide +kernel)) (by decide +kernel)
theorem w1271 : (.code yX12_adds cX12_adds 6 none : Cond) ∈ TB := mTB (List.mem_of_getElem? (i := 1271) (by decide +kernel)) (by decide +kernel)
theorem ws54 : (.selects RX12 yX12_plain yX12_plain : Cond) ∈ TB := mSel (y := yX12_plain) (n := 32) (List.mem_of_getElem? (i := 54) (by decide +kernel)) (by decide +kernel)
theorem ws56 : (.selects RX12 yX12_lineRead yX12_lineRead : Cond) ∈ TB := mSel (y := yX12_lineRead) (n := 32) (List.mem_of_getElem? (i := 56) (by decide +kernel)) (by decide +kernel)
theorem ws60 : (.selects RX12 yX12_isFull yX12_isFull : Cond) ∈ TB := mSel (y := yX12_isFull) (n := 32) (List.mem_of_getElem? (i := 60) (by decide +kernel)) (by decide +kernel)
theorem ws61 : (.selects RX12 yX12_behind yX12_behind : Cond) ∈ TB := mSel (y := yX12_behind) (n := 32) (List.mem_of_getElem? (i := 61) (by decide +kernel)) (by decide +kernel)
theorem ws62 : (.selects RX12 yX12_newName yX12_newName : Cond) ∈ TB := mSel (y := yX12_newName) (n := 32) (List.mem_of_getElem? (i := 62) (by decide +kernel)) (by decide +kernel)
theorem ws65 : (.selects RX12 yX12_numeral yX12_numeral : Cond) ∈ TB := mSel (y := yX12_numeral) (n := 32) (List.mem_of_getElem? (i := 65) (by decide +kernel)) (by decide +kernel)
theorem ws66 : (.selects RX12 yX12_tradeAt yX12_tradeAt : Cond) ∈ TB := mSel (y := yX12_tradeAt) (n := 32) (List.mem_of_getElem? (i := 66) (by decide +kernel)) (by decide +kernel)
theorem ws67 : (.selects RX12 yX12_twoRead yX12_twoRead : Cond) ∈ TB := mSel (y := yX12_twoRead) (n := 32) (List.mem_of_getElem? (i := 67) (by decide +kernel)) (by decide +kernel)
theorem ws69 : (.selects RX12 yX12_otherRead yX12_otherRead : Cond) ∈ TB := mSel (y := yX12_otherRead) (n := 32) (List.mem_of_getElem? (i := 69) (by decide +kernel)) (by decide +kernel)
theorem ws70 : (.selects RX12 yX12_kindRead yX12_kindRead : Cond) ∈ TB := mSel (y := yX12_kindRead) (n := 32) (List.mem_of_getElem? (i := 70) (by decide +kernel)) (by decide +kernel)
theorem ws71 : (.selects RX12 yX12_adds yX12_adds : Cond) ∈ TB := mSel (y := yX12_adds) (n := 32) (List.mem_of_getElem? (i := 71) (by decide +kernel)) (by decide +kernel)
theorem dX12_behind_0 : decode cX12_behind 0 = .ok (.iload_n 1, 1) := by decide +kernel
theorem dX12_behind_1 : decode cX12_behind 1 = .ok (.ifCond .ne 35, 3) := by decide +kernel
theorem dX12_behind_4 : decode cX12_behind 4 = .ok (.aload_n 0, 1) := by decide +kernel
theorem dX12_behind_5 : decode cX12_behind 5 = .ok (.aload_n 0, 1) := by decide +kernel
theorem dX12_behind_6 : decode cX12_behind 6 = .ok (.getfield 80, 3) := by decide +kernel
theorem dX12_behind_9 : decode cX12_behind 9 = .ok (.invokevirtual 167, 3) := by decide +kernel
theorem dX12_behind_12 : decode cX12_behind 12 = .ok (.aload_n 0, 1) := by decide +kernel
theorem dX12_behind_13 : decode cX12_behind 13 = .ok (.dup, 1) := by decide +kernel
theorem dX12_behind_14 : decode cX12_behind 14 = .ok (.getfield 80, 3) := by decide +kernel
theorem dX12_behind_17 : decode cX12_behind 17 = .ok (.aload_n 0, 1) := by decide +kernel
theorem dX12_behind_18 : decode cX12_behind 18 = .ok (.getfield 96, 3) := by decide +kernel
theorem dX12_behind_21 : decode cX12_behind 21 = .ok (.ifCond .ne 7, 3) := by decide +kernel
theorem dX12_behind_24 : decode cX12_behind 24 = .ok (.iconst 1, 1) := by decide +kernel
theorem dX12_behind_25 : decode cX12_behind 25 = .ok (.goto 4, 3) := by decide +kernel
theorem dX12_behind_28 : decode cX12_behind 28 = .ok (.iconst 0, 1) := by decide +kernel
theorem dX12_behind_29 : decode cX12_behind 29 = .ok (.iadd, 1) := by decide +kernel
theorem dX12_behind_30 : decode cX12_behind 30 = .ok (.putfield 80, 3) := by decide +kernel
theorem dX12_behind_33 : decode cX12_behind 33 = .ok (.goto 136, 3) := by decide +kernel
theorem dX12_behind_36 : decode cX12_behind 36 = .ok (.iload_n 1, 1) := by decide +kernel
theorem dX12_behind_37 : decode cX12_behind 37 = .ok (.iconst 1, 1) := by decide +kernel
theorem dX12_behind_38 : decode cX12_behind 38 = .ok (.if_icmp .ne 38, 3) := by decide +kernel
theorem dX12_behind_41 : decode cX12_behind 41 = .ok (.aload_n 0, 1) := by decide +kernel
theorem dX12_behind_42 : decode cX12_behind 42 = .ok (.bipush 8, 2) := by decide +kernel
theorem dX12_behind_44 : decode cX12_behind 44 = .ok (.aload_n 0, 1) := by decide +kernel
theorem dX12_behind_45 : decode cX12_behind 45 = .ok (.getfield 83, 3) := by decide +kernel
theorem dX12_behind_48 : decode cX12_behind 48 = .ok (.iadd, 1) := by decide +kernel
theorem dX12_behind_49 : decode cX12_behind 49 = .ok (.invokevirtual 167, 3) := by decide +kernel
theorem dX12_behind_52 : decode cX12_behind 52 = .ok (.aload_n 0, 1) := by decide +kernel
theorem dX12_behind_53 : decode cX12_behind 53 = .ok (.dup, 1) := by decide +kernel
theorem dX12_behind_54 : decode cX12_behind 54 = .ok (.getfield 83, 3) := by decide +kernel
theorem dX12_behind_57 : decode cX12_behind 57 = .ok (.aload_n 0, 1) := by decide +kernel
theorem dX12_behind_58 : decode cX12_behind 58 = .ok (.getfield 96, 3) := by decide +kernel
theorem dX12_behind_61 : decode cX12_behind 61 = .ok (.ifCond .ne 7, 3) := by decide +kernel
theorem dX12_behind_64 : decode cX12_behind 64 = .ok (.iconst 1, 1) := by decide +kernel
theorem dX12_behind_65 : decode cX12_behind 65 = .ok (.goto 4, 3) := by decide +kernel
theorem dX12_behind_68 : decode cX12_behind 68 = .ok (.iconst 0, 1) := by decide +kernel
theorem dX12_behind_69 : decode cX12_behind 69 = .ok (.iadd, 1) := by decide +kernel
theorem dX12_behind_70 : decode cX12_behind 70 = .ok (.putfield 83, 3) := by decide +kernel
theorem dX12_behind_73 : decode cX12_behind 73 = .ok (.goto 96, 3) := by decide +kernel
theorem dX12_behind_76 : decode cX12_behind 76 = .ok (.iload_n 1, 1) := by decide +kernel
theorem dX12_behind_77 : decode cX12_behind 77 = .ok (.iconst 3, 1) := by decide +kernel
theorem dX12_behind_78 : decode cX12_behind 78 = .ok (.if_icmp .ne 66, 3) := by decide +kernel
theorem dX12_behind_81 : decode cX12_behind 81 = .ok (.aload_n 0, 1) := by decide +kernel
theorem dX12_behind_82 : decode cX12_behind 82 = .ok (.iconst 0, 1) := by decide +kernel
theorem dX12_behind_83 : decode cX12_behind 83 = .ok (.aload_n 0, 1) := by decide +kernel
theorem dX12_behind_84 : decode cX12_behind 84 = .ok (.getfield 13, 3) := by decide +kernel
theorem dX12_behind_87 : decode cX12_behind 87 = .ok (.iconst 0, 1) := by decide +kernel
theorem dX12_behind_88 : decode cX12_behind 88 = .ok (.iaload, 1) := by decide +kernel
theorem dX12_behind_89 : decode cX12_behind 89 = .ok (.iconst 1, 1) := by decide +kernel
theorem dX12_behind_90 : decode cX12_behind 90 = .ok (.isub, 1) := by decide +kernel
theorem dX12_behind_91 : decode cX12_behind 91 = .ok (.invokevirtual 170, 3) := by decide +kernel
theorem dX12_behind_94 : decode cX12_behind 94 = .ok (.istore_n 2, 1) := by decide +kernel
theorem dX12_behind_95 : decode cX12_behind 95 = .ok (.aload_n 0, 1) := by decide +kernel
theorem dX12_behind_96 : decode cX12_behind 96 = .ok (.getfield 96, 3) := by decide +kernel
theorem dX12_behind_99 : decode cX12_behind 99 = .ok (.ifCond .ne 22, 3) := by decide +kernel
theorem dX12_behind_102 : decode cX12_behind 102 = .ok (.aload_n 0, 1) := by decide +kernel
theorem dX12_behind_103 : decode cX12_behind 103 = .ok (.iload_n 2, 1) := by decide +kernel
theorem dX12_behind_104 : decode cX12_behind 104 = .ok (.iconst 4, 1) := by decide +kernel
theorem dX12_behind_105 : decode cX12_behind 105 = .ok (.invokevirtual 174, 3) := by decide +kernel
theorem dX12_behind_108 : decode cX12_behind 108 = .ok (.iconst 1, 1) := by decide +kernel
theorem dX12_behind_109 : decode cX12_behind 109 = .ok (.if_icmp .ne 12, 3) := by decide +kernel
theorem dX12_behind_112 : decode cX12_behind 112 = .ok (.aload_n 0, 1) := by decide +kernel
theorem dX12_behind_113 : decode cX12_behind 113 = .ok (.iconst 5, 1) := by decide +kernel
theorem dX12_behind_114 : decode cX12_behind 114 = .ok (.aload_n 0, 1) := by decide +kernel
theorem dX12_behind_115 : decode cX12_behind 115 = .ok (.getfield 140, 3) := by decide +kernel
theorem dX12_behind_118 : decode cX12_behind 118 = .ok (.invokevirtual 136, 3) := by decide +kernel
theorem dX12_behind_121 : decode cX12_behind 121 = .ok (.aload_n 0, 1) := by decide +kernel
theorem dX12_behind_122 : decode cX12_behind 122 = .ok (.getfield 96, 3) := by decide +kernel
theorem dX12_behind_125 : decode cX12_behind 125 = .ok (.ifCond .ne 16, 3) := by decide +kernel
theorem dX12_behind_128 : decode cX12_behind 128 = .ok (.aload_n 0, 1) := by decide +kernel
theorem dX12_behind_129 : decode cX12_behind 129 = .ok (.getfield 13, 3) := by decide +kernel
theorem dX12_behind_132 : decode cX12_behind 132 = .ok (.iconst 2, 1) := by decide +kernel
theorem dX12_behind_133 : decode cX12_behind 133 = .ok (.iconst 5, 1) := by decide +kernel
theorem dX12_behind_134 : decode cX12_behind 134 = .ok (.iload_n 2, 1) := by decide +kernel
theorem dX12_behind_135 : decode cX12_behind 135 = .ok (.imul, 1) := by decide +kernel
theorem dX12_behind_136 : decode cX12_behind 136 = .ok (.iadd, 1) := by decide +kernel
theorem dX12_behind_137 : decode cX12_behind 137 = .ok (.iconst 4, 1) := by decide +kernel
theorem dX12_behind_138 : decode cX12_behind 138 = .ok (.iadd, 1) := by decide +kernel
theorem dX12_behind_139 : decode cX12_behind 139 = .ok (.iconst 1, 1) := by decide +kernel
theorem dX12_behind_140 : decode cX12_behind 140 = .ok (.iastore, 1) := by decide +kernel
theorem dX12_behind_141 : decode cX12_behind 141 = .ok (.goto 28, 3) := by decide +kernel
theorem dX12_behind_144 : decode cX12_behind 144 = .ok (.iload_n 1, 1) := by decide +kernel
theorem dX12_behind_145 : decode cX12_behind 145 = .ok (.iconst 5, 1) := by decide +kernel
theorem dX12_behind_146 : decode cX12_behind 146 = .ok (.if_icmp .ne 18, 3) := by decide +kernel
theorem dX12_behind_149 : decode cX12_behind 149 = .ok (.aload_n 0, 1) := by decide +kernel
theorem dX12_behind_150 : decode cX12_behind 150 = .ok (.getfield 13, 3) := by decide +kernel
theorem dX12_behind_153 : decode cX12_behind 153 = .ok (.iconst 1, 1) := by decide +kernel
theorem dX12_behind_154 : decode cX12_behind 154 = .ok (.aload_n 0, 1) := by decide +kernel
theorem dX12_behind_155 : decode cX12_behind 155 = .ok (.iconst 0, 1) := by decide +kernel
theorem dX12_behind_156 : decode cX12_behind 156 = .ok (.iconst 3, 1) := by decide +kernel
theorem dX12_behind_157 : decode cX12_behind 157 = .ok (.invokevirtual 170, 3) := by decide +kernel
theorem dX12_behind_160 : decode cX12_behind 160 = .ok (.iastore, 1) := by decide +kernel
theorem dX12_behind_161 : decode cX12_behind 161 = .ok (.goto 8, 3) := by decide +kernel
theorem dX12_behind_164 : decode cX12_behind 164 = .ok (.aload_n 0, 1) := by decide +kernel
theorem dX12_behind_165 : decode cX12_behind 165 = .ok (.iload_n 1, 1) := by decide +kernel
theorem dX12_behind_166 : decode cX12_behind 166 = .ok (.invokevirtual 177, 3) := by decide +kernel
theorem dX12_behind_169 : decode cX12_behind 169 = .ok (.return_, 1) := by decide +kernel
theorem dX12_fault_0 : decode cX12_fault 0 = .ok (.aload_n 0, 1) := by decide +kernel
theorem dX12_fault_1 : decode cX12_fault 1 = .ok (.iconst 0, 1) := by decide +kernel
theorem dX12_fault_2 : decode cX12_fault 2 = .ok (.putfield 1, 3) := by decide +kernel
theorem dX12_fault_5 : decode cX12_fault 5 = .ok (.iload_n 1, 1) := by decide +kernel
theorem dX12_fault_6 : decode cX12_fault 6 = .ok (.ifCond .ne 10, 3) := by decide +kernel
theorem dX12_fault_9 : decode cX12_fault 9 = .ok (.aload_n 0, 1) := by decide +kernel
theorem dX12_fault_10 : decode cX12_fault 10 = .ok (.getfield 96, 3) := by decide +kernel
theorem dX12_fault_13 : decode cX12_fault 13 = .ok (.goto 16, 3) := by decide +kernel
theorem dX12_fault_16 : decode cX12_fault 16 = .ok (.iload_n 1, 1) := by decide +kernel
theorem dX12_fault_17 : decode cX12_fault 17 = .ok (.iconst 1, 1) := by decide +kernel
theorem dX12_fault_18 : decode cX12_fault 18 = .ok (.if_icmp .ne 10, 3) := by decide +kernel
theorem dX12_fault_21 : decode cX12_fault 21 = .ok (.aload_n 0, 1) := by decide +kernel
theorem dX12_fault_22 : decode cX12_fault 22 = .ok (.getfield 34, 3) := by decide +kernel
theorem dX12_fault_25 : decode cX12_fault 25 = .ok (.goto 4, 3) := by decide +kernel
theorem dX12_fault_28 : decode cX12_fault 28 = .ok (.iconst (-1), 1) := by decide +kernel
theorem dX12_fault_29 : decode cX12_fault 29 = .ok (.ireturn, 1) := by decide +kernel
theorem dX12_feed_0 : decode cX12_feed 0 = .ok (.aload_n 0, 1) := by decide +kernel
theorem dX12_feed_1 : decode cX12_feed 1 = .ok (.iconst 0, 1) := by decide +kernel
theorem dX12_feed_2 : decode cX12_feed 2 = .ok (.putfield 1, 3) := by decide +kernel
theorem dX12_feed_5 : decode cX12_feed 5 = .ok (.aload_n 0, 1) := by decide +kernel
theorem dX12_feed_6 : decode cX12_feed 6 = .ok (.getfield 87, 3) := by decide +kernel
theorem dX12_feed_9 : decode cX12_feed 9 = .ok (.bipush 20, 2) := by decide +kernel
theorem dX12_feed_11 : decode cX12_feed 11 = .ok (.iadd, 1) := by decide +kernel
theorem dX12_feed_12 : decode cX12_feed 12 = .ok (.sipush 900, 3) := by decide +kernel
theorem dX12_feed_15 : decode cX12_feed 15 = .ok (.if_icmp .le 6, 3) := by decide +kernel
theorem dX12_feed_18 : decode cX12_feed 18 = .ok (.bipush (-4), 2) := by decide +kernel
theorem dX12_feed_20 : decode cX12_feed 20 = .ok (.ireturn, 1) := by decide +kernel
theorem dX12_feed_21 : decode cX12_feed 21 = .ok (.iconst 0, 1) := by decide +kernel
theorem dX12_feed_22 : decode cX12_feed 22 = .ok (.istore 6, 2) := by decide +kernel
theorem dX12_feed_24 : decode cX12_feed 24 = .ok (.iload 6, 2) := by decide +kernel
theorem dX12_feed_26 : decode cX12_feed 26 = .ok (.bipush 20, 2) := by decide +kernel
theorem dX12_feed_28 : decode cX12_feed 28 = .ok (.if_icmp .ge 90, 3) := by decide +kernel
theorem dX12_feed_31 : decode cX12_feed 31 = .ok (.iload 6, 2) := by decide +kernel
theorem dX12_feed_33 : decode cX12_feed 33 = .ok (.iconst 4, 1) := by decide +kernel
theorem dX12_feed_34 : decode cX12_feed 34 = .ok (.if_icmp .ge 7, 3) := by decide +kernel
theorem dX12_feed_37 : decode cX12_feed 37 = .ok (.iload_n 1, 1) := by decide +kernel
theorem dX12_feed_38 : decode cX12_feed 38 = .ok (.goto 39, 3) := by decide +kernel
theorem dX12_feed_41 : decode cX12_feed 41 = .ok (.iload 6, 2) := by decide +kernel
theorem dX12_feed_43 : decode cX12_feed 43 = .ok (.bipush 8, 2) := by decide +kernel
theorem dX12_feed_45 : decode cX12_feed 45 = .ok (.if_icmp .ge 7, 3) := by decide +kernel
theorem dX12_feed_48 : decode cX12_feed 48 = .ok (.iload_n 2, 1) := by decide +kernel
theorem dX12_feed_49 : decode cX12_feed 49 = .ok (.goto 28, 3) := by decide +kernel
theorem dX12_feed_52 : decode cX12_feed 52 = .ok (.iload 6, 2) := by decide +kernel
theorem dX12_feed_54 : decode cX12_feed 54 = .ok (.bipush 12, 2) := by decide +kernel
theorem dX12_feed_56 : decode cX12_feed 56 = .ok (.if_icmp .ge 7, 3) := by decide +kernel
theorem dX12_feed_59 : decode cX12_feed 59 = .ok (.iload_n 3, 1) := by decide +kernel
theorem dX12_feed_60 : decode cX12_feed 60 = .ok (.goto 17, 3) := by decide +kernel
theorem dX12_feed_63 : decode cX12_feed 63 = .ok (.iload 6, 2) := by decide +kernel
theorem dX12_feed_65 : decode cX12_feed 65 = .ok (.bipush 16, 2) := by decide +kernel
theorem dX12_feed_67 : decode cX12_feed 67 = .ok (.if_icmp .ge 8, 3) := by decide +kernel
theorem dX12_feed_70 : decode cX12_feed 70 = .ok (.iload 4, 2) := by decide +kernel
theorem dX12_feed_72 : decode cX12_feed 72 = .ok (.goto 5, 3) := by decide +kernel
theorem dX12_feed_75 : decode cX12_feed 75 = .ok (.iload 5, 2) := by decide +kernel
theorem dX12_feed_77 : decode cX12_feed 77 = .ok (.istore 7, 2) := by decide +kernel
theorem dX12_feed_79 : decode cX12_feed 79 = .ok (.aload_n 0, 1) := by decide +kernel
theorem dX12_feed_80 : decode cX12_feed 80 = .ok (.getfield 30, 3) := by decide +kernel
theorem dX12_feed_83 : decode cX12_feed 83 = .ok (.aload_n 0, 1) := by decide +kernel
theorem dX12_feed_84 : decode cX12_feed 84 = .ok (.getfield 87, 3) := by decide +kernel
theorem dX12_feed_87 : decode cX12_feed 87 = .ok (.iload 7, 2) := by decide +kernel
theorem dX12_feed_89 : decode cX12_feed 89 = .ok (.bipush 24, 2) := by decide +kernel
theorem dX12_feed_91 : decode cX12_feed 91 = .ok (.bipush 8, 2) := by decide +kernel
theorem dX12_feed_93 : decode cX12_feed 93 = .ok (.iload 6, 2) := by decide +kernel
theorem dX12_feed_95 : decode cX12_feed 95 = .ok (.iconst 4, 1) := by decide +kernel
theorem dX12_feed_96 : decode cX12_feed 96 = .ok (.irem, 1) := by decide +kernel
theorem dX12_feed_97 : decode cX12_feed 97 = .ok (.imul, 1) := by decide +kernel
theorem dX12_feed_98 : decode cX12_feed 98 = .ok (.isub, 1) := by decide +kernel
theorem dX12_feed_99 : decode cX12_feed 99 = .ok (.ishr, 1) := by decide +kernel
theorem dX12_feed_100 : decode cX12_feed 100 = .ok (.i2b, 1) := by decide +kernel
theorem dX12_feed_101 : decode cX12_feed 101 = .ok (.bastore, 1) := by decide +kernel
theorem dX12_feed_102 : decode cX12_feed 102 = .ok (.aload_n 0, 1) := by decide +kernel
theorem dX12_feed_103 : decode cX12_feed 103 = .ok (.dup, 1) := by decide +kernel
theorem dX12_feed_104 : decode cX12_feed 104 = .ok (.getfield 87, 3) := by decide +kernel
theorem dX12_feed_107 : decode cX12_feed 107 = .ok (.iconst 1, 1) := by decide +kernel
theorem dX12_feed_108 : decode cX12_feed 108 = .ok (.iadd, 1) := by decide +kernel
theorem dX12_feed_109 : decode cX12_feed 109 = .ok (.putfield 87, 3) := by decide +kernel
theorem dX12_feed_112 : decode cX12_feed 112 = .ok (.iinc 6 1, 3) := by decide +kernel
theorem dX12_feed_115 : decode cX12_feed 115 = .ok (.goto (-91), 3) := by decide +kernel
theorem dX12_feed_118 : decode cX12_feed 118 = .ok (.aload_n 0, 1) := by decide +kernel
theorem dX12_feed_119 : decode cX12_feed 119 = .ok (.getfield 87, 3) := by decide +kernel
theorem dX12_feed_122 : decode cX12_feed 122 = .ok (.ireturn, 1) := by decide +kernel
theorem dX12_lineRead_0 : decode cX12_lineRead 0 = .ok (.aload_n 0, 1) := by decide +kernel
theorem dX12_lineRead_1 : decode cX12_lineRead 1 = .ok (.invokevirtual 143, 3) := by decide +kernel
theorem dX12_lineRead_4 : decode cX12_lineRead 4 = .ok (.istore_n 1, 1) := by decide +kernel
theorem dX12_lineRead_5 : decode cX12_lineRead 5 = .ok (.aload_n 0, 1) := by decide +kernel
theorem dX12_lineRead_6 : decode cX12_lineRead 6 = .ok (.getfield 90, 3) := by decide +kernel
theorem dX12_lineRead_9 : decode cX12_lineRead 9 = .ok (.istore_n 2, 1) := by decide +kernel
theorem dX12_lineRead_10 : decode cX12_lineRead 10 = .ok (.iload_n 1, 1) := by decide +kernel
theorem dX12_lineRead_11 : decode cX12_lineRead 11 = .ok (.iconst (-1), 1) := by decide +kernel
theorem dX12_lineRead_12 : decode cX12_lineRead 12 = .ok (.if_icmp .eq 20, 3) := by decide +kernel
theorem dX12_lineRead_15 : decode cX12_lineRead 15 = .ok (.iload_n 1, 1) := by decide +kernel
theorem dX12_lineRead_16 : decode cX12_lineRead 16 = .ok (.iconst 5, 1) := by decide +kernel
theorem dX12_lineRead_17 : decode cX12_lineRead 17 = .ok (.if_icmp .ne 24, 3) := by decide +kernel
theorem dX12_lineRead_20 : decode cX12_lineRead 20 = .ok (.aload_n 0, 1) := by decide +kernel
theorem dX12_lineRead_21 : decode cX12_lineRead 21 = .ok (.getfield 157, 3) := by decide +kernel
theorem dX12_lineRead_24 : decode cX12_lineRead 24 = .ok (.iconst 5, 1) := by decide +kernel
theorem dX12_lineRead_25 : decode cX12_lineRead 25 = .ok (.ishr, 1) := by decide +kernel
theorem dX12_lineRead_26 : decode cX12_lineRead 26 = .ok (.iconst 1, 1) := by decide +kernel
theorem dX12_lineRead_27 : decode cX12_lineRead 27 = .ok (.iand, 1) := by decide +kernel
theorem dX12_lineRead_28 : decode cX12_lineRead 28 = .ok (.iconst 1, 1) := by decide +kernel
theorem dX12_lineRead_29 : decode cX12_lineRead 29 = .ok (.if_icmp .ne 12, 3) := by decide +kernel
theorem dX12_lineRead_32 : decode cX12_lineRead 32 = .ok (.aload_n 0, 1) := by decide +kernel
theorem dX12_lineRead_33 : decode cX12_lineRead 33 = .ok (.iconst 1, 1) := by decide +kernel
theorem dX12_lineRead_34 : decode cX12_lineRead 34 = .ok (.iload_n 2, 1) := by decide +kernel
theorem dX12_lineRead_35 : decode cX12_lineRead 35 = .ok (.invokevirtual 136, 3) := by decide +kernel
theorem dX12_lineRead_38 : decode cX12_lineRead 38 = .ok (.goto 17, 3) := by decide +kernel
theorem dX12_lineRead_41 : decode cX12_lineRead 41 = .ok (.aload_n 0, 1) := by decide +kernel
theorem dX12_lineRead_42 : decode cX12_lineRead 42 = .ok (.iload_n 1, 1) := by decide +kernel
theorem dX12_lineRead_43 : decode cX12_lineRead 43 = .ok (.invokevirtual 160, 3) := by decide +kernel
theorem dX12_lineRead_46 : decode cX12_lineRead 46 = .ok (.ifCond .eq 9, 3) := by decide +kernel
theorem dX12_lineRead_49 : decode cX12_lineRead 49 = .ok (.aload_n 0, 1) := by decide +kernel
theorem dX12_lineRead_50 : decode cX12_lineRead 50 = .ok (.iconst 4, 1) := by decide +kernel
theorem dX12_lineRead_51 : decode cX12_lineRead 51 = .ok (.iload_n 2, 1) := by decide +kernel
theorem dX12_lineRead_52 : decode cX12_lineRead 52 = .ok (.invokevirtual 136, 3) := by decide +kernel
theorem dX12_lineRead_55 : decode cX12_lineRead 55 = .ok (.aload_n 0, 1) := by decide +kernel
theorem dX12_lineRead_56 : decode cX12_lineRead 56 = .ok (.getfield 96, 3) := by decide +kernel
theorem dX12_lineRead_59 : decode cX12_lineRead 59 = .ok (.ifCond .eq 4, 3) := by decide +kernel
theorem dX12_lineRead_62 : decode cX12_lineRead 62 = .ok (.return_, 1) := by decide +kernel
theorem dX12_lineRead_63 : decode cX12_lineRead 63 = .ok (.aload_n 0, 1) := by decide +kernel
theorem dX12_lineRead_64 : decode cX12_lineRead 64 = .ok (.dup, 1) := by decide +kernel
theorem dX12_lineRead_65 : decode cX12_lineRead 65 = .ok (.getfield 157, 3) := by decide +kernel
theorem dX12_lineRead_68 : decode cX12_lineRead 68 = .ok (.iconst 1, 1) := by decide +kernel
theorem dX12_lineRead_69 : decode cX12_lineRead 69 = .ok (.iload_n 1, 1) := by decide +kernel
theorem dX12_lineRead_70 : decode cX12_lineRead 70 = .ok (.ishl, 1) := by decide +kernel
theorem dX12_lineRead_71 : decode cX12_lineRead 71 = .ok (.ior, 1) := by decide +kernel
theorem dX12_lineRead_72 : decode cX12_lineRead 72 = .ok (.putfield 157, 3) := by decide +kernel
theorem dX12_lineRead_75 : decode cX12_lineRead 75 = .ok (.aload_n 0, 1) := by decide +kernel
theorem dX12_lineRead_76 : decode cX12_lineRead 76 = .ok (.dup, 1) := by decide +kernel
theorem dX12_lineRead_77 : decode cX12_lineRead 77 = .ok (.getfield 90, 3) := by decide +kernel
theorem dX12_lineRead_80 : decode cX12_lineRead 80 = .ok (.aload_n 0, 1) := by decide +kernel
theorem dX12_lineRead_81 : decode cX12_lineRead 81 = .ok (.invokevirtual 119, 3) := by decide +kernel
theorem dX12_lineRead_84 : decode cX12_lineRead 84 = .ok (.iadd, 1) := by decide +kernel
theorem dX12_lineRead_85 : decode cX12_lineRead 85 = .ok (.putfield 90, 3) := by decide +kernel
theorem dX12_lineRead_88 : decode cX12_lineRead 88 = .ok (.aload_n 0, 1) := by decide +kernel
theorem dX12_lineRead_89 : decode cX12_lineRead 89 = .ok (.iload_n 1, 1) := by decide +kernel
theorem dX12_lineRead_90 : decode cX12_lineRead 90 = .ok (.invokevirtual 163, 3) := by decide +kernel
theorem dX12_lineRead_93 : decode cX12_lineRead 93 = .ok (.aload_n 0, 1) := by decide +kernel
theorem dX12_lineRead_94 : decode cX12_lineRead 94 = .ok (.getfield 96, 3) := by decide +kernel
theorem dX12_lineRead_97 : decode cX12_lineRead 97 = .ok (.ifCond .ne 21, 3) := by decide +kernel
theorem dX12_lineRead_100 : decode cX12_lineRead 100 = .ok (.aload_n 0, 1) := by decide +kernel
theorem dX12_lineRead_101 : decode cX12_lineRead 101 = .ok (.invokevirtual 115, 3) := by decide +kernel
theorem dX12_lineRead_104 : decode cX12_lineRead 104 = .ok (.bipush 59, 2) := by decide +kernel
theorem dX12_lineRead_106 : decode cX12_lineRead 106 = .ok (.if_icmp .eq 12, 3) := by decide +kernel
theorem dX12_lineRead_109 : decode cX12_lineRead 109 = .ok (.aload_n 0, 1) := by decide +kernel
theorem dX12_lineRead_110 : decode cX12_lineRead 110 = .ok (.iconst 1, 1) := by decide +kernel
theorem dX12_lineRead_111 : decode cX12_lineRead 111 = .ok (.aload_n 0, 1) := by decide +kernel
theorem dX12_lineRead_112 : decode cX12_lineRead 112 = .ok (.getfield 90, 3) := by decide +kernel
theorem dX12_lineRead_115 : decode cX12_lineRead 115 = .ok (.invokevirtual 136, 3) := by decide +kernel
theorem dX12_lineRead_118 : decode cX12_lineRead 118 = .ok (.aload_n 0, 1) := by decide +kernel
theorem dX12_lineRead_119 : decode cX12_lineRead 119 = .ok (.dup, 1) := by decide +kernel
theorem dX12_lineRead_120 : decode cX12_lineRead 120 = .ok (.getfield 90, 3) := by decide +kernel
theorem dX12_lineRead_123 : decode cX12_lineRead 123 = .ok (.iconst 1, 1) := by decide +kernel
theorem dX12_lineRead_124 : decode cX12_lineRead 124 = .ok (.iadd, 1) := by decide +kernel
theorem dX12_lineRead_125 : decode cX12_lineRead 125 = .ok (.putfield 90, 3) := by decide +kernel
theorem dX12_lineRead_128 : decode cX12_lineRead 128 = .ok (.return_, 1) := by decide +kernel
theorem dX12_plain_0 : decode cX12_plain 0 = .ok (.aload_n 0, 1) := by decide +kernel
theorem dX12_plain_1 : decode cX12_plain 1 = .ok (.iconst 0, 1) := by decide +kernel
theorem dX12_plain_2 : decode cX12_plain 2 = .ok (.putfield 80, 3) := by decide +kernel
theorem dX12_plain_5 : decode cX12_plain 5 = .ok (.aload_n 0, 1) := by decide +kernel
theorem dX12_plain_6 : decode cX12_plain 6 = .ok (.iconst 0, 1) := by decide +kernel
theorem dX12_plain_7 : decode cX12_plain 7 = .ok (.putfield 83, 3) := by decide +kernel
theorem dX12_plain_10 : decode cX12_plain 10 = .ok (.iconst 0, 1) := by decide +kernel
theorem dX12_plain_11 : decode cX12_plain 11 = .ok (.istore_n 1, 1) := by decide +kernel
theorem dX12_plain_12 : decode cX12_plain 12 = .ok (.iload_n 1, 1) := by decide +kernel
theorem dX12_plain_13 : decode cX12_plain 13 = .ok (.sipush 266, 3) := by decide +kernel
theorem dX12_plain_16 : decode cX12_plain 16 = .ok (.if_icmp .ge 28, 3) := by decide +kernel
theorem dX12_plain_19 : decode cX12_plain 19 = .ok (.aload_n 0, 1) := by decide +kernel
theorem dX12_plain_20 : decode cX12_plain 20 = .ok (.getfield 13, 3) := by decide +kernel
theorem dX12_plain_23 : decode cX12_plain 23 = .ok (.iload_n 1, 1) := by decide +kernel
theorem dX12_plain_24 : decode cX12_plain 24 = .ok (.iload_n 1, 1) := by decide +kernel
theorem dX12_plain_25 : decode cX12_plain 25 = .ok (.sipush 202, 3) := by decide +kernel
theorem dX12_plain_28 : decode cX12_plain 28 = .ok (.if_icmp .ge 7, 3) := by decide +kernel
theorem dX12_plain_31 : decode cX12_plain 31 = .ok (.iconst 0, 1) := by decide +kernel
theorem dX12_plain_32 : decode cX12_plain 32 = .ok (.goto 5, 3) := by decide +kernel
theorem dX12_plain_35 : decode cX12_plain 35 = .ok (.ldc 86, 2) := by decide +kernel
theorem dX12_plain_37 : decode cX12_plain 37 = .ok (.iastore, 1) := by decide +kernel
theorem dX12_plain_38 : decode cX12_plain 38 = .ok (.iinc 1 1, 3) := by decide +kernel
theorem dX12_plain_41 : decode cX12_plain 41 = .ok (.goto (-29), 3) := by decide +kernel
theorem dX12_plain_44 : decode cX12_plain 44 = .ok (.return_, 1) := by decide +kernel
theorem dX12_tell_0 : decode cX12_tell 0 = .ok (.aload_n 0, 1) := by decide +kernel
theorem dX12_tell_1 : decode cX12_tell 1 = .ok (.iconst 0, 1) := by decide +kernel
theorem dX12_tell_2 : decode cX12_tell 2 = .ok (.putfield 1, 3) := by decide +kernel
theorem dX12_tell_5 : decode cX12_tell 5 = .ok (.iload_n 1, 1) := by decide +kernel
theorem dX12_tell_6 : decode cX12_tell 6 = .ok (.i2l, 1) := by decide +kernel
theorem dX12_tell_7 : decode cX12_tell 7 = .ok (.lconst 0, 1) := by decide +kernel
theorem dX12_tell_8 : decode cX12_tell 8 = .ok (.aload_n 0, 1) := by decide +kernel
theorem dX12_tell_9 : decode cX12_tell 9 = .ok (.getfield 87, 3) := by decide +kernel
theorem dX12_tell_12 : decode cX12_tell 12 = .ok (.i2l, 1) := by decide +kernel
theorem dX12_tell_13 : decode cX12_tell 13 = .ok (.invokestatic 103, 3) := by decide +kernel
theorem dX12_tell_16 : decode cX12_tell 16 = .ok (.ifCond .ne 6, 3) := by decide +kernel
theorem dX12_tell_19 : decode cX12_tell 19 = .ok (.bipush (-3), 2) := by decide +kernel
theorem dX12_tell_21 : decode cX12_tell 21 = .ok (.ireturn, 1) := by decide +kernel
theorem dX12_tell_22 : decode cX12_tell 22 = .ok (.aload_n 0, 1) := by decide +kernel
theorem dX12_tell_23 : decode cX12_tell 23 = .ok (.iconst 0, 1) := by decide +kernel
theorem dX12_tell_24 : decode cX12_tell 24 = .ok (.putfield 87, 3) := by decide +kernel
theorem dX12_tell_27 : decode cX12_tell 27 = .ok (.aload_n 0, 1) := by decide +kernel
theorem dX12_tell_28 : decode cX12_tell 28 = .ok (.iload_n 1, 1) := by decide +kernel
theorem dX12_tell_29 : decode cX12_tell 29 = .ok (.putfield 93, 3) := by decide +kernel
theorem dX12_tell_32 : decode cX12_tell 32 = .ok (.aload_n 0, 1) := by decide +kernel
theorem dX12_tell_33 : decode cX12_tell 33 = .ok (.iconst 0, 1) := by decide +kernel
theorem dX12_tell_34 : decode cX12_tell 34 = .ok (.putfield 90, 3) := by decide +kernel
theorem dX12_tell_37 : decode cX12_tell 37 = .ok (.aload_n 0, 1) := by decide +kernel
theorem dX12_tell_38 : decode cX12_tell 38 = .ok (.iconst 0, 1) := by decide +kernel
theorem dX12_tell_39 : decode cX12_tell 39 = .ok (.putfield 96, 3) := by decide +kernel
theorem dX12_tell_42 : decode cX12_tell 42 = .ok (.aload_n 0, 1) := by decide +kernel
theorem dX12_tell_43 : decode cX12_tell 43 = .ok (.iconst (-1), 1) := by decide +kernel
theorem dX12_tell_44 : decode cX12_tell 44 = .ok (.putfield 34, 3) := by decide +kernel
theorem dX12_tell_47 : decode cX12_tell 47 = .ok (.aload_n 0, 1) := by decide +kernel
theorem dX12_tell_48 : decode cX12_tell 48 = .ok (.iconst 0, 1) := by decide +kernel
theorem dX12_tell_49 : decode cX12_tell 49 = .ok (.putfield 157, 3) := by decide +kernel
theorem dX12_tell_52 : decode cX12_tell 52 = .ok (.aload_n 0, 1) := by decide +kernel
theorem dX12_tell_53 : decode cX12_tell 53 = .ok (.getfield 80, 3) := by decide +kernel
theorem dX12_tell_56 : decode cX12_tell 56 = .ok (.istore_n 2, 1) := by decide +kernel
theorem dX12_tell_57 : decode cX12_tell 57 = .ok (.aload_n 0, 1) := by decide +kernel
theorem dX12_tell_58 : decode cX12_tell 58 = .ok (.getfield 83, 3) := by decide +kernel
theorem dX12_tell_61 : decode cX12_tell 61 = .ok (.istore_n 3, 1) := by decide +kernel
theorem dX12_tell_62 : decode cX12_tell 62 = .ok (.iconst 0, 1) := by decide +kernel
theorem dX12_tell_63 : decode cX12_tell 63 = .ok (.istore 4, 2) := by decide +kernel
theorem dX12_tell_65 : decode cX12_tell 65 = .ok (.iload 4, 2) := by decide +kernel
theorem dX12_tell_67 : decode cX12_tell 67 = .ok (.sipush 266, 3) := by decide +kernel
theorem dX12_tell_70 : decode cX12_tell 70 = .ok (.if_icmp .ge 23, 3) := by decide +kernel
theorem dX12_tell_73 : decode cX12_tell 73 = .ok (.aload_n 0, 1) := by decide +kernel
theorem dX12_tell_74 : decode cX12_tell 74 = .ok (.getfield 17, 3) := by decide +kernel
theorem dX12_tell_77 : decode cX12_tell 77 = .ok (.iload 4, 2) := by decide +kernel
theorem dX12_tell_79 : decode cX12_tell 79 = .ok (.aload_n 0, 1) := by decide +kernel
theorem dX12_tell_80 : decode cX12_tell 80 = .ok (.getfield 13, 3) := by decide +kernel
theorem dX12_tell_83 : decode cX12_tell 83 = .ok (.iload 4, 2) := by decide +kernel
theorem dX12_tell_85 : decode cX12_tell 85 = .ok (.iaload, 1) := by decide +kernel
theorem dX12_tell_86 : decode cX12_tell 86 = .ok (.iastore, 1) := by decide +kernel
theorem dX12_tell_87 : decode cX12_tell 87 = .ok (.iinc 4 1, 3) := by decide +kernel
theorem dX12_tell_90 : decode cX12_tell 90 = .ok (.goto (-25), 3) := by decide +kernel
theorem dX12_tell_93 : decode cX12_tell 93 = .ok (.iconst 0, 1) := by decide +kernel
theorem dX12_tell_94 : decode cX12_tell 94 = .ok (.istore 4, 2) := by decide +kernel
theorem dX12_tell_96 : decode cX12_tell 96 = .ok (.iload 4, 2) := by decide +kernel
theorem dX12_tell_98 : decode cX12_tell 98 = .ok (.bipush 12, 2) := by decide +kernel
theorem dX12_tell_100 : decode cX12_tell 100 = .ok (.if_icmp .ge 23, 3) := by decide +kernel
theorem dX12_tell_103 : decode cX12_tell 103 = .ok (.aload_n 0, 1) := by decide +kernel
theorem dX12_tell_104 : decode cX12_tell 104 = .ok (.getfield 27, 3) := by decide +kernel
theorem dX12_tell_107 : decode cX12_tell 107 = .ok (.iload 4, 2) := by decide +kernel
theorem dX12_tell_109 : decode cX12_tell 109 = .ok (.aload_n 0, 1) := by decide +kernel
theorem dX12_tell_110 : decode cX12_tell 110 = .ok (.getfield 23, 3) := by decide +kernel
theorem dX12_tell_113 : decode cX12_tell 113 = .ok (.iload 4, 2) := by decide +kernel
theorem dX12_tell_115 : decode cX12_tell 115 = .ok (.laload, 1) := by decide +kernel
theorem dX12_tell_116 : decode cX12_tell 116 = .ok (.lastore, 1) := by decide +kernel
theorem dX12_tell_117 : decode cX12_tell 117 = .ok (.iinc 4 1, 3) := by decide +kernel
theorem dX12_tell_120 : decode cX12_tell 120 = .ok (.goto (-24), 3) := by decide +kernel
theorem dX12_tell_123 : decode cX12_tell 123 = .ok (.aload_n 0, 1) := by decide +kernel
theorem dX12_tell_124 : decode cX12_tell 124 = .ok (.invokevirtual 77, 3) := by decide +kernel
theorem dX12_tell_127 : decode cX12_tell 127 = .ok (.aload_n 0, 1) := by decide +kernel
theorem dX12_tell_128 : decode cX12_tell 128 = .ok (.getfield 96, 3) := by decide +kernel
theorem dX12_tell_131 : decode cX12_tell 131 = .ok (.ifCond .ne 18, 3) := by decide +kernel
theorem dX12_tell_134 : decode cX12_tell 134 = .ok (.aload_n 0, 1) := by decide +kernel
theorem dX12_tell_135 : decode cX12_tell 135 = .ok (.invokevirtual 115, 3) := by decide +kernel
theorem dX12_tell_138 : decode cX12_tell 138 = .ok (.iconst (-1), 1) := by decide +kernel
theorem dX12_tell_139 : decode cX12_tell 139 = .ok (.if_icmp .eq 10, 3) := by decide +kernel
theorem dX12_tell_142 : decode cX12_tell 142 = .ok (.aload_n 0, 1) := by decide +kernel
theorem dX12_tell_143 : decode cX12_tell 143 = .ok (.invokevirtual 192, 3) := by decide +kernel
theorem dX12_tell_146 : decode cX12_tell 146 = .ok (.goto (-19), 3) := by decide +kernel
theorem dX12_tell_149 : decode cX12_tell 149 = .ok (.aload_n 0, 1) := by decide +kernel
theorem dX12_tell_150 : decode cX12_tell 150 = .ok (.getfield 96, 3) := by decide +kernel
theorem dX12_tell_153 : decode cX12_tell 153 = .ok (.ifCond .ne 15, 3) := by decide +kernel
theorem dX12_tell_156 : decode cX12_tell 156 = .ok (.aload_n 0, 1) := by decide +kernel
theorem dX12_tell_157 : decode cX12_tell 157 = .ok (.iconst 0, 1) := by decide +kernel
theorem dX12_tell_158 : decode cX12_tell 158 = .ok (.putfield 195, 3) := by decide +kernel
theorem dX12_tell_161 : decode cX12_tell 161 = .ok (.aload_n 0, 1) := by decide +kernel
theorem dX12_tell_162 : decode cX12_tell 162 = .ok (.getfield 13, 3) := by decide +kernel
theorem dX12_tell_165 : decode cX12_tell 165 = .ok (.iconst 0, 1) := by decide +kernel
theorem dX12_tell_166 : decode cX12_tell 166 = .ok (.iaload, 1) := by decide +kernel
theorem dX12_tell_167 : decode cX12_tell 167 = .ok (.ireturn, 1) := by decide +kernel
theorem dX12_tell_168 : decode cX12_tell 168 = .ok (.aload_n 0, 1) := by decide +kernel
theorem dX12_tell_169 : decode cX12_tell 169 = .ok (.iload_n 2, 1) := by decide +kernel
theorem dX12_tell_170 : decode cX12_tell 170 = .ok (.putfield 80, 3) := by decide +kernel
theorem dX12_tell_173 : decode cX12_tell 173 = .ok (.aload_n 0, 1) := by decide +kernel
theorem dX12_tell_174 : decode cX12_tell 174 = .ok (.iload_n 3, 1) := by decide +kernel
theorem dX12_tell_175 : decode cX12_tell 175 = .ok (.putfield 83, 3) := by decide +kernel
theorem dX12_tell_178 : decode cX12_tell 178 = .ok (.iconst 0, 1) := by decide +kernel
theorem dX12_tell_179 : decode cX12_tell 179 = .ok (.istore 4, 2) := by decide +kernel
theorem dX12_tell_181 : decode cX12_tell 181 = .ok (.iload 4, 2) := by decide +kernel
theorem dX12_tell_183 : decode cX12_tell 183 = .ok (.sipush 266, 3) := by decide +kernel
theorem dX12_tell_186 : decode cX12_tell 186 = .ok (.if_icmp .ge 23, 3) := by decide +kernel
theorem dX12_tell_189 : decode cX12_tell 189 = .ok (.aload_n 0, 1) := by decide +kernel
theorem dX12_tell_190 : decode cX12_tell 190 = .ok (.getfield 13, 3) := by decide +kernel
theorem dX12_tell_193 : decode cX12_tell 193 = .ok (.iload 4, 2) := by decide +kernel
theorem dX12_tell_195 : decode cX12_tell 195 = .ok (.aload_n 0, 1) := by decide +kernel
theorem dX12_tell_196 : decode cX12_tell 196 = .ok (.getfield 17, 3) := by decide +kernel
theorem dX12_tell_199 : decode cX12_tell 199 = .ok (.iload 4, 2) := by decide +kernel
theorem dX12_tell_201 : decode cX12_tell 201 = .ok (.iaload, 1) := by decide +kernel
theorem dX12_tell_202 : decode cX12_tell 202 = .ok (.iastore, 1) := by decide +kernel
theorem dX12_tell_203 : decode cX12_tell 203 = .ok (.iinc 4 1, 3) := by decide +kernel
theorem dX12_tell_206 : decode cX12_tell 206 = .ok (.goto (-25), 3) := by decide +kernel
theorem dX12_tell_209 : decode cX12_tell 209 = .ok (.iconst 0, 1) := by decide +kernel
theorem dX12_tell_210 : decode cX12_tell 210 = .ok (.istore 4, 2) := by decide +kernel
theorem dX12_tell_212 : decode cX12_tell 212 = .ok (.iload 4, 2) := by decide +kernel
theorem dX12_tell_214 : decode cX12_tell 214 = .ok (.bipush 12, 2) := by decide +kernel
theorem dX12_tell_216 : decode cX12_tell 216 = .ok (.if_icmp .ge 23, 3) := by decide +kernel
theorem dX12_tell_219 : decode cX12_tell 219 = .ok (.aload_n 0, 1) := by decide +kernel
theorem dX12_tell_220 : decode cX12_tell 220 = .ok (.getfield 23, 3) := by decide +kernel
theorem dX12_tell_223 : decode cX12_tell 223 = .ok (.iload 4, 2) := by decide +kernel
theorem dX12_tell_225 : decode cX12_tell 225 = .ok (.aload_n 0, 1) := by decide +kernel
theorem dX12_tell_226 : decode cX12_tell 226 = .ok (.getfield 27, 3) := by decide +kernel
theorem dX12_tell_229 : decode cX12_tell 229 = .ok (.iload 4, 2) := by decide +kernel
theorem dX12_tell_231 : decode cX12_tell 231 = .ok (.laload, 1) := by decide +kernel
theorem dX12_tell_232 : decode cX12_tell 232 = .ok (.lastore, 1) := by decide +kernel
theorem dX12_tell_233 : decode cX12_tell 233 = .ok (.iinc 4 1, 3) := by decide +kernel
theorem dX12_tell_236 : decode cX12_tell 236 = .ok (.goto (-24), 3) := by decide +kernel
theorem dX12_tell_239 : decode cX12_tell 239 = .ok (.bipush (-30), 2) := by decide +kernel
theorem dX12_tell_241 : decode cX12_tell 241 = .ok (.aload_n 0, 1) := by decide +kernel
theorem dX12_tell_242 : decode cX12_tell 242 = .ok (.getfield 96, 3) := by decide +kernel
theorem dX12_tell_245 : decode cX12_tell 245 = .ok (.isub, 1) := by decide +kernel
theorem dX12_tell_246 : decode cX12_tell 246 = .ok (.ireturn, 1) := by decide +kernel
theorem dX12_twoRead_0 : decode cX12_twoRead 0 = .ok (.aload_n 0, 1) := by decide +kernel
theorem dX12_twoRead_1 : decode cX12_twoRead 1 = .ok (.invokevirtual 154, 3) := by decide +kernel
theorem dX12_twoRead_4 : decode cX12_twoRead 4 = .ok (.istore_n 2, 1) := by decide +kernel
theorem dX12_twoRead_5 : decode cX12_twoRead 5 = .ok (.aload_n 0, 1) := by decide +kernel
theorem dX12_twoRead_6 : decode cX12_twoRead 6 = .ok (.iload_n 2, 1) := by decide +kernel
theorem dX12_twoRead_7 : decode cX12_twoRead 7 = .ok (.invokevirtual 180, 3) := by decide +kernel
theorem dX12_twoRead_10 : decode cX12_twoRead 10 = .ok (.istore_n 3, 1) := by decide +kernel
theorem dX12_twoRead_11 : decode cX12_twoRead 11 = .ok (.aload_n 0, 1) := by decide +kernel
theorem dX12_twoRead_12 : decode cX12_twoRead 12 = .ok (.iload_n 1, 1) := by decide +kernel
theorem dX12_twoRead_13 : decode cX12_twoRead 13 = .ok (.iconst 2, 1) := by decide +kernel
theorem dX12_twoRead_14 : decode cX12_twoRead 14 = .ok (.if_icmp .ne 7, 3) := by decide +kernel
theorem dX12_twoRead_17 : decode cX12_twoRead 17 = .ok (.iconst 1, 1) := by decide +kernel
theorem dX12_twoRead_18 : decode cX12_twoRead 18 = .ok (.goto 4, 3) := by decide +kernel
theorem dX12_twoRead_21 : decode cX12_twoRead 21 = .ok (.iconst 0, 1) := by decide +kernel
theorem dX12_twoRead_22 : decode cX12_twoRead 22 = .ok (.iload_n 1, 1) := by decide +kernel
theorem dX12_twoRead_23 : decode cX12_twoRead 23 = .ok (.iconst 2, 1) := by decide +kernel
theorem dX12_twoRead_24 : decode cX12_twoRead 24 = .ok (.if_icmp .ne 8, 3) := by decide +kernel
theorem dX12_twoRead_27 : decode cX12_twoRead 27 = .ok (.ldc 184, 2) := by decide +kernel
theorem dX12_twoRead_29 : decode cX12_twoRead 29 = .ok (.goto 5, 3) := by decide +kernel
theorem dX12_twoRead_32 : decode cX12_twoRead 32 = .ok (.ldc 86, 2) := by decide +kernel
theorem dX12_twoRead_34 : decode cX12_twoRead 34 = .ok (.invokevirtual 170, 3) := by decide +kernel
theorem dX12_twoRead_37 : decode cX12_twoRead 37 = .ok (.istore 4, 2) := by decide +kernel
theorem dX12_twoRead_39 : decode cX12_twoRead 39 = .ok (.iload_n 1, 1) := by decide +kernel
theorem dX12_twoRead_40 : decode cX12_twoRead 40 = .ok (.iconst 2, 1) := by decide +kernel
theorem dX12_twoRead_41 : decode cX12_twoRead 41 = .ok (.if_icmp .ne 10, 3) := by decide +kernel
theorem dX12_twoRead_44 : decode cX12_twoRead 44 = .ok (.aload_n 0, 1) := by decide +kernel
theorem dX12_twoRead_45 : decode cX12_twoRead 45 = .ok (.invokevirtual 185, 3) := by decide +kernel
theorem dX12_twoRead_48 : decode cX12_twoRead 48 = .ok (.goto 4, 3) := by decide +kernel
theorem dX12_twoRead_51 : decode cX12_twoRead 51 = .ok (.iconst 0, 1) := by decide +kernel
theorem dX12_twoRead_52 : decode cX12_twoRead 52 = .ok (.istore 5, 2) := by decide +kernel
theorem dX12_twoRead_54 : decode cX12_twoRead 54 = .ok (.aload_n 0, 1) := by decide +kernel
theorem dX12_twoRead_55 : decode cX12_twoRead 55 = .ok (.getfield 96, 3) := by decide +kernel
theorem dX12_twoRead_58 : decode cX12_twoRead 58 = .ok (.ifCond .eq 4, 3) := by decide +kernel
theorem dX12_twoRead_61 : decode cX12_twoRead 61 = .ok (.return_, 1) := by decide +kernel
theorem dX12_twoRead_62 : decode cX12_twoRead 62 = .ok (.iload_n 1, 1) := by decide +kernel
theorem dX12_twoRead_63 : decode cX12_twoRead 63 = .ok (.iconst 2, 1) := by decide +kernel
theorem dX12_twoRead_64 : decode cX12_twoRead 64 = .ok (.if_icmp .ne 16, 3) := by decide +kernel
theorem dX12_twoRead_67 : decode cX12_twoRead 67 = .ok (.aload_n 0, 1) := by decide +kernel
theorem dX12_twoRead_68 : decode cX12_twoRead 68 = .ok (.iload_n 2, 1) := by decide +kernel
theorem dX12_twoRead_69 : decode cX12_twoRead 69 = .ok (.iload_n 3, 1) := by decide +kernel
theorem dX12_twoRead_70 : decode cX12_twoRead 70 = .ok (.iload 4, 2) := by decide +kernel
theorem dX12_twoRead_72 : decode cX12_twoRead 72 = .ok (.iload 5, 2) := by decide +kernel
theorem dX12_twoRead_74 : decode cX12_twoRead 74 = .ok (.invokevirtual 188, 3) := by decide +kernel
theorem dX12_twoRead_77 : decode cX12_twoRead 77 = .ok (.goto 20, 3) := by decide +kernel
theorem dX12_twoRead_80 : decode cX12_twoRead 80 = .ok (.aload_n 0, 1) := by decide +kernel
theorem dX12_twoRead_81 : decode cX12_twoRead 81 = .ok (.getfield 13, 3) := by decide +kernel
theorem dX12_twoRead_84 : decode cX12_twoRead 84 = .ok (.sipush 202, 3) := by decide +kernel
theorem dX12_twoRead_87 : decode cX12_twoRead 87 = .ok (.bipush 8, 2) := by decide +kernel
theorem dX12_twoRead_89 : decode cX12_twoRead 89 = .ok (.iload_n 2, 1) := by decide +kernel
theorem dX12_twoRead_90 : decode cX12_twoRead 90 = .ok (.imul, 1) := by decide +kernel
theorem dX12_twoRead_91 : decode cX12_twoRead 91 = .ok (.iadd, 1) := by decide +kernel
theorem dX12_twoRead_92 : decode cX12_twoRead 92 = .ok (.iload_n 3, 1) := by decide +kernel
theorem dX12_twoRead_93 : decode cX12_twoRead 93 = .ok (.iadd, 1) := by decide +kernel
theorem dX12_twoRead_94 : decode cX12_twoRead 94 = .ok (.iload 4, 2) := by decide +kernel
theorem dX12_twoRead_96 : decode cX12_twoRead 96 = .ok (.iastore, 1) := by decide +kernel
theorem dX12_twoRead_97 : decode cX12_twoRead 97 = .ok (.return_, 1) := by decide +kernel
theorem tl_4 {n : Int32} {t : Nat} {z z2 : Int64} (hz : z = n.toInt64) (hz2 : z2 = (nI t).toInt64) (h : ¬ (0 ≤ z ∧ z ≤ z2)) (ht : t ≤ 900) : tl n t = t := by
  refine if_pos ?_
  by_cases q : n < 0
  · exact Or.inl q
  · refine Or.inr ?_
    subst hz hz2
    rw [Int64.le_iff_toInt_le, Int64.le_iff_toInt_le, Int32.toInt_toInt64, Int32.toInt_toInt64] at h
    rw [Int32.lt_iff_toInt_lt] at q ⊢
    have e0 : (0 : Int64).toInt = 0 := by decide
    have f0 : (0 : Int32).toInt = 0 := by decide
    omega
set_option maxHeartbeats 4000000 in
set_option maxRecDepth 100000 in
theorem m_plain (l : Launch) (dC : Nat → ClassId) (dI : Nat → Nat → Nat) (cy : Nat → ClassId) (L : List Nat) (kap : Nat → Nat) (pr : Pr) (S : Nat → va_E) (sz : Nat) (o : Nat) (hTy : Ty cy L kap pr S) (hT_o : TK L kap o 12) (sp : Nat) (sn : Nat) (wr : Int32) (pa : Nat) (ki : Nat) (rs : Nat) (hM : MK S o sp sn wr pa ki rs) (hsp : sp ≤ sn) : Met l yX12_plain (wT yX12_plain cX12_plain 2 none) ({ frames := 0, cells := 0, slots := 0, locals := 0 }) (pcN dC dI [.ref o] sz (va_pl L S) (cyT cy) NLs []) (va_Qv (fun S' => Ty cy L kap pr S' ∧ Fr kap [12, 50] S S' ∧ (MK S' o sp sn wr 0 0 rs ∧ mny S' o 0)) (fun S' t => pB dC dI (AL L sz) (va_pl L S') (cyT cy) t) (AL L sz)) 0 0 (AL L sz) := by
  refine Met.ofW (cc := cX12_plain) (maxL := 2) (ret := none) (by decide) rfl ?_
  intro p e s m args below meth c s₁ B hml hv
  obtain ⟨rfl, hsz, hP, hK, hD0, hN, -⟩ := hv
  have hx := B.exec
  have hb := B.bytes
  have hr := B.returns
  have hT : ∀ wd ∈ TB, wd.before [.ref o].toArray s = true := fun wd h => atoms_spec (ws := wT yX12_plain cX12_plain 2 none) B.pre wd (List.mem_cons_of_mem _ h)
  have hown : s.vm.findClass RX12 = some m.cls := findClass_of_methodNamed B.named
  have hlocks := B.notSynchronized
  subst hsz
  have hW : PW dC dI L (AL L s.heap.size) s.heap S s.heap [] := ⟨hP, pl_self hD0, va_S.rf⟩
  have hA0 : ∀ q, q ∈ L → AL L s.heap.size q := fun _ h => Or.inl h
  have hA : ∀ q, s.heap.size ≤ q → AL L s.heap.size q := fun _ h => Or.inr h
  have hFr : Fr kap [12, 50] S S := Fr.rf
  have hl := lv_entry ([.ref o]) (n := 2) (Nat.le_of_ble_eq_true rfl)
  rw [lg_entry_eq]
  generalize (lg_sl ([.ref o]) ++ List.replicate (2 - (lg_sl ([.ref o])).length) Slot.unset).toArray = ls at hl ⊢
  have hl : lv_has ls 2 [(0, .ref o)] := hl
  obtain ⟨x_1, x_2, x_3, x_4, x_5, x_6, x_7, x_8, x_9, x_10, x_11, x_12, x_13, x_14, x_15, x_16, x_17, x_18, x_19, x_20, x_21, x_22, x_23, x_24, x_25, x_26, x_27, x_28, x_29, x_30, x_31, hS_o, hT_x_1, hT_x_2, hT_x_3, hT_x_4, hT_x_5, hb_x_6, hb_x_7, hb_x_8, hT_x_10, hb_q2, hb_x_11, hb_x_12, hT_x_17, hT_x_18, hb_x_19, hT_x_20, hT_x_21, hT_x_22, hT_x_23, hT_x_24, hT_x_25, hT_x_26, hT_x_27, hT_x_28, hT_x_29, hT_x_30, hb_x_31⟩ := hTy.k12 hT_o
  have hb_q2 : pr.2 ≤ 900 := hb_q2
  have hS_o : S o = .inr (12, [.ref x_1, .ref x_2, .ref x_3, .ref x_4, .ref x_5, .int (nI x_6), .int (nI x_7), .int (nI x_8), .int x_9, .ref x_10, .int (nI (pr.2)), .int (nI x_11), .int (nI x_12), .int x_13, .int x_14, .int x_15, .int x_16, .ref x_17, .ref x_18, .int (nI x_19), .ref x_20, .ref x_21, .ref x_22, .ref x_23, .ref x_24, .ref x_25, .ref x_26, .ref x_27, .ref x_28, .ref x_29, .ref x_30, .int (nI x_31)]) := hS_o
  obtain ⟨e12_, e11_, e13_, e5_, e6_, e0_⟩ := MKe hM hS_o rfl rfl rfl rfl rfl rfl (by omega) (by omega) (by omega) (by omega)
  subst e12_ e11_ e13_ e5_ e6_ e0_
  refine lv_aload_n hx hb dX12_plain_0 rfl (lv_at hl 0 rfl) ?_
  refine lv_iconst (v := 0) hx hb dX12_plain_1 (by decide) ?_
  refine pl_put (ci := 12) (v := .int 0) (ty := .int) (C := RX12) (T := TX12) (N := 32) (fs' := [.ref rs, .ref x_2, .ref x_3, .ref x_4, .ref x_5, .int 0, .int (nI ki), .int (nI x_8), .int x_9, .ref x_10, .int (nI (pr.2)), .int (nI sn), .int (nI sp), .int wr, .int x_14, .int x_15, .int x_16, .ref x_17, .ref x_18, .int (nI x_19), .ref x_20, .ref x_21, .ref x_22, .ref x_23, .ref x_24, .ref x_25, .ref x_26, .ref x_27, .ref x_28, .ref x_29, .ref x_30, .int (nI x_31)]) hx hb hT iX12 tyX12 tyX12_ok nmX12 hown hK hW hT_o.1 hS_o rfl 5 (by decide) w1087 rfl (by decide +kernel) rfl rfl (Nat.le_of_ble_eq_true rfl) rfl dX12_plain_2 (fun H locs S_32 e1 hW => ?_)
  have hTy := hTy.u12 e1 hT_o ⟨rs, x_2, x_3, x_4, x_5, 0, ki, x_8, x_9, x_10, sn, sp, wr, x_14, x_15, x_16, x_17, x_18, x_19, x_20, x_21, x_22, x_23, x_24, x_25, x_26, x_27, x_28, x_29, x_30, x_31, rfl, hT_x_1, hT_x_2, hT_x_3, hT_x_4, hT_x_5, (by omega), (by omega), (by omega), hT_x_10, (by show pr.2 ≤ 900; omega), (by omega), (by omega), hT_x_17, hT_x_18, (by omega), hT_x_20, hT_x_21, hT_x_22, hT_x_23, hT_x_24, hT_x_25, hT_x_26, hT_x_27, hT_x_28, hT_x_29, hT_x_30, (by omega)⟩
  have hws := (show wrs (.inr (12, [.ref rs, .ref x_2, .ref x_3, .ref x_4, .ref x_5, .int 0, .int (nI ki), .int (nI x_8), .int x_9, .ref x_10, .int (nI (pr.2)), .int (nI sn), .int (nI sp), .int wr, .int x_14, .int x_15, .int x_16, .ref x_17, .ref x_18, .int (nI x_19), .ref x_20, .ref x_21, .ref x_22, .ref x_23, .ref x_24, .ref x_25, .ref x_26, .ref x_27, .ref x_28, .ref x_29, .ref x_30, .int (nI x_31)])) = wrs (S o) from by rw [hS_o]; rfl)
  have hFr := ufs hFr e1 hT_o (by decide) hws
  have hS_o := us e1
  refine lv_aload_n hx hb dX12_plain_5 rfl (lv_at hl 0 rfl) ?_
  refine lv_iconst (v := 0) hx hb dX12_plain_6 (by decide) ?_
  refine pl_put (ci := 12) (v := .int 0) (ty := .int) (C := RX12) (T := TX12) (N := 32) (fs' := [.ref rs, .ref x_2, .ref x_3, .ref x_4, .ref x_5, .int 0, .int 0, .int (nI x_8), .int x_9, .ref x_10, .int (nI (pr.2)), .int (nI sn), .int (nI sp), .int wr, .int x_14, .int x_15, .int x_16, .ref x_17, .ref x_18, .int (nI x_19), .ref x_20, .ref x_21, .ref x_22, .ref x_23, .ref x_24, .ref x_25, .ref x_26, .ref x_27, .ref x_28, .ref x_29, .ref x_30, .int (nI x_31)]) hx hb hT iX12 tyX12 tyX12_ok nmX12 hown hK hW hT_o.1 hS_o rfl 6 (by decide) w1088 rfl (by decide +kernel) rfl rfl (Nat.le_of_ble_eq_true rfl) rfl dX12_plain_7 (fun H locs S_33 e1 hW => ?_)
  have hTy := hTy.u12 e1 hT_o ⟨rs, x_2, x_3, x_4, x_5, 0, 0, x_8, x_9, x_10, sn, sp, wr, x_14, x_15, x_16, x_17, x_18, x_19, x_20, x_21, x_22, x_23, x_24, x_25, x_26, x_27, x_28, x_29, x_30, x_31, rfl, hT_x_1, hT_x_2, hT_x_3, hT_x_4, hT_x_5, (by omega), (by omega), (by omega), hT_x_10, (by show pr.2 ≤ 900; omega), (by omega), (by omega), hT_x_17, hT_x_18, (by omega), hT_x_20, hT_x_21, hT_x_22, hT_x_23, hT_x_24, hT_x_25, hT_x_26, hT_x_27, hT_x_28, hT_x_29, hT_x_30, (by omega)⟩
  have hws := (show wrs (.inr (12, [.ref rs, .ref x_2, .ref x_3, .ref x_4, .ref x_5, .int 0, .int 0, .int (nI x_8), .int x_9, .ref x_10, .int (nI (pr.2)), .int (nI sn), .int (nI sp), .int wr, .int x_14, .int x_15, .int x_16, .ref x_17, .ref x_18, .int (nI x_19), .ref x_20, .ref x_21, .ref x_22, .ref x_23, .ref x_24, .ref x_25, .ref x_26, .ref x_27, .ref x_28, .ref x_29, .ref x_30, .int (nI x_31)])) = wrs (S_32 o) from by rw [hS_o]; rfl)
  have hFr := ufs hFr e1 hT_o (by decide) hws
  have hS_o := us e1
  refine lv_iconst (v := 0) hx hb dX12_plain_10 (by decide) ?_
  refine lv_istore_n (lv' := [(1, .int 0), (0, .ref o)]) hx hb dX12_plain_11 rfl hl (by decide) rfl (fun ls hl => ?_)
  have loop : ∀ (fuel : Nat) (i : Nat) (SS : Nat → va_E) (H : Heap) (locs : List Loc) (ls : Array Slot), 267 - i < fuel → (i ≤ 266) → (0 < i → af (SS rs) 0 = nI 0) → Ty cy L kap pr SS → Fr kap [12, 50] S SS → Fr kap [50] S_33 SS → PW dC dI L (AL L s.heap.size) s.heap SS H locs → lv_has ls 2 [(1, .int (nI i)), (0, .ref o)] → W p l e (headSpec (wT yX12_plain cX12_plain 2 none) { frames := 0, cells := 0, slots := 0, locals := 0 }).room s m [.ref o].toArray below meth c H locs 0 0 (MQ below (va_Qv (fun S' => Ty cy L kap pr S' ∧ Fr kap [12, 50] S S' ∧ (MK S' o sp sn wr 0 0 rs ∧ mny S' o 0)) (fun S' t => pB dC dI (AL L s.heap.size) (va_pl L S') (cyT cy) t) (AL L s.heap.size)) [.ref o].toArray s 0 0 (AL L s.heap.size)) (F0 m 12 ls []) := by
    intro fuel
    induction fuel with
    | zero => intro i SS H locs ls h; exact absurd h (Nat.not_lt_zero _)
    | succ fu12 ih12 =>
      intro i S_34 H locs ls hm12 hb_i hz0 hTy hFr hFl12 hW hl
      have hS_o := hFl12.at hT_o (by decide) hS_o
      obtain ⟨f_35, hS_rs, hi_f_35⟩ := hTy.k50 hT_x_1
      have hz1 : 0 < i → f_35 0 = nI 0 := fun h => by rw [← af_i hS_rs]; exact hz0 h
      refine lv_iload_n hx hb dX12_plain_12 rfl (lv_at hl 0 rfl) ?_
      refine lv_sipush (v := 266) hx hb dX12_plain_13 (by decide) ?_
      refine lv_icmp_ge (tgt := 44) hx hb dX12_plain_16 (by decide) (fun c_16 => ?_) (fun c_16 => ?_)
      · have c_16 : 266 ≤ i := (nI_leI (a := 266) (b := i) (by omega) (by omega)).mp c_16
        exact W.vret hx hb hr (fun t ht h9 => ⟨⟨S_34, rfl, ⟨hTy, hFr, ⟨(MKi (sp := sp) (sn := sn) (pa := 0) (ki := 0) hS_o rfl rfl rfl rfl rfl rfl (by omega) (by omega) (by omega) (by omega)), mnyi hS_o rfl hS_rs (by rw [← af_i hS_rs]; exact hz0 (by omega))⟩⟩, by rw [ht]; exact hW.1, va_K.moved h9.alike hK, hW.2.1⟩, hW.2.2.F ht⟩) hW.2.2.2.2 dX12_plain_44
      · have c_16 : ¬ (266 ≤ i) := fun hh9 => c_16 ((nI_leI (a := 266) (b := i) (by omega) (by omega)).mpr hh9)
        refine lv_aload_n hx hb dX12_plain_19 rfl (lv_at hl 1 rfl) ?_
        refine pl_get (ci := 12) (v := .ref rs) (C := RX12) (T := TX12) (N := 32) hx hb hT iX12 hown hK hW hT_o.1 hS_o rfl 0 (by decide) w1082 rfl dX12_plain_20 ?_
        refine lv_iload_n hx hb dX12_plain_23 rfl (lv_at hl 0 rfl) ?_
        refine lv_iload_n hx hb dX12_plain_24 rfl (lv_at hl 0 rfl) ?_
        refine lv_sipush (v := 202) hx hb dX12_plain_25 (by decide) ?_
        refine lv_icmp_ge (tgt := 35) hx hb dX12_plain_28 (by decide) (fun c_28 => ?_) (fun c_28 => ?_)
        · have c_28 : 202 ≤ i := (nI_leI (a := 202) (b := i) (by omega) (by omega)).mp c_28
          refine lv_ldc (v := 99999999) hx hb hown (hT _ w1081) dX12_plain_35 ?_
          refine pl_iast hx hb hK hW hT_x_1.1 hS_rs (vp_in_nI (n := i) (N := 266) (by omega) (by omega)) dX12_plain_37 (fun H locs f_37 S_36 ef_f_37 e1 hW => ?_)
          have hok_ : okS i (nI (99999999)) := (okS_n (by omega) (by omega) (by omega))
          have hi_f_37 := okS_up (i := i) (by omega) hi_f_35 ef_f_37 hok_
          have hTy := hTy.u50 e1 hT_x_1 ⟨f_37, rfl, hi_f_37⟩
          have hS_o := un e1 hT_o hT_x_1 (by decide) hS_o
          have hFr := uf hFr e1 hT_x_1 (by decide) (by decide)
          have hFl12 := uf hFl12 e1 hT_x_1 (by decide) (by decide)
          have hS_rs := us e1
          have hz2 := pz_up ef_f_37 (by omega) (fun h => absurd h (by omega)) hz1
          refine lv_iinc (v := nI (i + 1)) (lv' := [(1, .int (nI (i + 1))), (0, .ref o)]) hx hb dX12_plain_38 hl (k := 0) rfl (nI_add (i) 1) (by decide) rfl (fun ls hl => ?_)
          refine lv_goto (tgt := 12) hx hb dX12_plain_41 (by decide) ?_
          exact ih12 (i + 1) _ _ _ ls (by omega) (by omega) (fun _ => by rw [af_i hS_rs]; exact hz2) hTy hFr hFl12 hW (lv_sub hl [0, 1] rfl)
        · have c_28 : ¬ (202 ≤ i) := fun hh9 => c_28 ((nI_leI (a := 202) (b := i) (by omega) (by omega)).mpr hh9)
          refine lv_iconst (v := 0) hx hb dX12_plain_31 (by decide) ?_
          refine lv_goto (tgt := 37) hx hb dX12_plain_32 (by decide) ?_
          refine pl_iast hx hb hK hW hT_x_1.1 hS_rs (vp_in_nI (n := i) (N := 266) (by omega) (by omega)) dX12_plain_37 (fun H locs f_39 S_38 ef_f_39 e1 hW => ?_)
          have hok_ : okS i (nI (0)) := (okS_n (by omega) (by omega) (by omega))
          have hi_f_39 := okS_up (i := i) (by omega) hi_f_35 ef_f_39 hok_
          have hTy := hTy.u50 e1 hT_x_1 ⟨f_39, rfl, hi_f_39⟩
          have hS_o := un e1 hT_o hT_x_1 (by decide) hS_o
          have hFr := uf hFr e1 hT_x_1 (by decide) (by decide)
          have hFl12 := uf hFl12 e1 hT_x_1 (by decide) (by decide)
          have hS_rs := us e1
          have hz2 := pz_up ef_f_39 (by omega) (fun h => rfl) hz1
          refine lv_iinc (v := nI (i + 1)) (lv' := [(1, .int (nI (i + 1))), (0, .ref o)]) hx hb dX12_plain_38 hl (k := 0) rfl (nI_add (i) 1) (by decide) rfl (fun ls hl => ?_)
          refine lv_goto (tgt := 12) hx hb dX12_plain_41 (by decide) ?_
          exact ih12 (i + 1) _ _ _ ls (by omega) (by omega) (fun _ => by rw [af_i hS_rs]; exact hz2) hTy hFr hFl12 hW (lv_sub hl [0, 1] rfl)
  exact loop ((267 - 0) + 1) 0 _ _ _ ls (Nat.lt_succ_self _) (by omega) (fun h => absurd h (Nat.not_lt_zero _)) hTy hFr Fr.rf hW (lv_sub hl [0, 1] rfl)
