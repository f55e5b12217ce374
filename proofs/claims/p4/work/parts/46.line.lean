theorem w1111 : (.fieldLink RX12 71 "SwapPressModel" "groups" "[I" : Cond) ∈ TB := mTB (List.mem_of_getElem? (i := 1111) (by decide +kernel)) (by decide +kernel)
theorem w1112 : (.fieldLink RX12 74 "SwapPressModel" "bytes" "[I" : Cond) ∈ TB := mTB (List.mem_of_getElem? (i := 1112) (by decide +kernel)) (by decide +kernel)
theorem w1113 : (.fieldLink RX12 342 "SwapPressModel" "byteMany" "I" : Cond) ∈ TB := mTB (List.mem_of_getElem? (i := 1113) (by decide +kernel)) (by decide +kernel)
theorem w1567 : (.methodLink RX12 350 yX12_putsName : Cond) ∈ TB := mTB (List.mem_of_getElem? (i := 1567) (by decide +kernel)) (by decide +kernel)
theorem w1569 : (.instanceMethod yX12_putsName : Cond) ∈ TB := mTB (List.mem_of_getElem? (i := 1569) (by decide +kernel)) (by decide +kernel)
theorem w1570 : (.code yX12_putsName cX12_putsName 4 none : Cond) ∈ TB := mTB (List.mem_of_getElem? (i := 1570) (by decide +kernel)) (by decide +kernel)
theorem w1571 : (.constantLong RX12 345 255 : Cond) ∈ TB := mTB (List.mem_of_getElem? (i := 1571) (by decide +kernel)) (by decide +kernel)
theorem w1572 : (.methodLink RX12 347 yX12_puts : Cond) ∈ TB := mTB (List.mem_of_getElem? (i := 1572) (by decide +kernel)) (by decide +kernel)
theorem w1574 : (.instanceMethod yX12_puts : Cond) ∈ TB := mTB (List.mem_of_getElem? (i := 1574) (by decide +kernel)) (by decide +kernel)
theorem w1575 : (.code yX12_puts cX12_puts 2 none : Cond) ∈ TB := mTB (List.mem_of_getElem? (i := 1575) (by decide +kernel)) (by decide +kernel)
theorem w1576 : (.methodLink RX12 354 yX12_putsNumber : Cond) ∈ TB := mTB (List.mem_of_getElem? (i := 1576) (by decide +kernel)) (by decide +kernel)
theorem w1578 : (.instanceMethod yX12_putsNumber : Cond) ∈ TB := mTB (List.mem_of_getElem? (i := 1578) (by decide +kernel)) (by decide +kernel)
theorem w1579 : (.code yX12_putsNumber cX12_putsNumber 4 none : Cond) ∈ TB := mTB (List.mem_of_getElem? (i := 1579) (by decide +kernel)) (by decide +kernel)
theorem ws107 : (.selects RX12 yX12_putsName yX12_putsName : Cond) ∈ TB := mSel (y := yX12_putsName) (n := 32) (List.mem_of_getElem? (i := 107) (by decide +kernel)) (by decide +kernel)
theorem ws108 : (.selects RX12 yX12_puts yX12_puts : Cond) ∈ TB := mSel (y := yX12_puts) (n := 32) (List.mem_of_getElem? (i := 108) (by decide +kernel)) (by decide +kernel)
theorem ws109 : (.selects RX12 yX12_putsNumber yX12_putsNumber : Cond) ∈ TB := mSel (y := yX12_putsNumber) (n := 32) (List.mem_of_getElem? (i := 109) (by decide +kernel)) (by decide +kernel)
theorem dX12_couples_0 : decode cX12_couples 0 = .ok (.aload_n 0, 1) := by decide +kernel
theorem dX12_couples_1 : decode cX12_couples 1 = .ok (.iconst 0, 1) := by decide +kernel
theorem dX12_couples_2 : decode cX12_couples 2 = .ok (.putfield 1, 3) := by decide +kernel
theorem dX12_couples_5 : decode cX12_couples 5 = .ok (.aload_n 0, 1) := by decide +kernel
theorem dX12_couples_6 : decode cX12_couples 6 = .ok (.iload_n 1, 1) := by decide +kernel
theorem dX12_couples_7 : decode cX12_couples 7 = .ok (.invokevirtual 205, 3) := by decide +kernel
theorem dX12_couples_10 : decode cX12_couples 10 = .ok (.ifCond .ne 6, 3) := by decide +kernel
theorem dX12_couples_13 : decode cX12_couples 13 = .ok (.bipush (-2), 2) := by decide +kernel
theorem dX12_couples_15 : decode cX12_couples 15 = .ok (.ireturn, 1) := by decide +kernel
theorem dX12_couples_16 : decode cX12_couples 16 = .ok (.aload_n 0, 1) := by decide +kernel
theorem dX12_couples_17 : decode cX12_couples 17 = .ok (.iload_n 1, 1) := by decide +kernel
theorem dX12_couples_18 : decode cX12_couples 18 = .ok (.invokevirtual 330, 3) := by decide +kernel
theorem dX12_couples_21 : decode cX12_couples 21 = .ok (.ifCond .eq 10, 3) := by decide +kernel
theorem dX12_couples_24 : decode cX12_couples 24 = .ok (.aload_n 0, 1) := by decide +kernel
theorem dX12_couples_25 : decode cX12_couples 25 = .ok (.invokevirtual 333, 3) := by decide +kernel
theorem dX12_couples_28 : decode cX12_couples 28 = .ok (.goto 4, 3) := by decide +kernel
theorem dX12_couples_31 : decode cX12_couples 31 = .ok (.iconst (-1), 1) := by decide +kernel
theorem dX12_couples_32 : decode cX12_couples 32 = .ok (.ireturn, 1) := by decide +kernel
theorem dX12_fewest_0 : decode cX12_fewest 0 = .ok (.aload_n 0, 1) := by decide +kernel
theorem dX12_fewest_1 : decode cX12_fewest 1 = .ok (.iconst 0, 1) := by decide +kernel
theorem dX12_fewest_2 : decode cX12_fewest 2 = .ok (.putfield 1, 3) := by decide +kernel
theorem dX12_fewest_5 : decode cX12_fewest 5 = .ok (.aload_n 0, 1) := by decide +kernel
theorem dX12_fewest_6 : decode cX12_fewest 6 = .ok (.iload_n 1, 1) := by decide +kernel
theorem dX12_fewest_7 : decode cX12_fewest 7 = .ok (.invokevirtual 205, 3) := by decide +kernel
theorem dX12_fewest_10 : decode cX12_fewest 10 = .ok (.ifCond .eq 13, 3) := by decide +kernel
theorem dX12_fewest_13 : decode cX12_fewest 13 = .ok (.iload_n 2, 1) := by decide +kernel
theorem dX12_fewest_14 : decode cX12_fewest 14 = .ok (.i2l, 1) := by decide +kernel
theorem dX12_fewest_15 : decode cX12_fewest 15 = .ok (.lconst 0, 1) := by decide +kernel
theorem dX12_fewest_16 : decode cX12_fewest 16 = .ok (.lconst 1, 1) := by decide +kernel
theorem dX12_fewest_17 : decode cX12_fewest 17 = .ok (.invokestatic 103, 3) := by decide +kernel
theorem dX12_fewest_20 : decode cX12_fewest 20 = .ok (.ifCond .ne 6, 3) := by decide +kernel
theorem dX12_fewest_23 : decode cX12_fewest 23 = .ok (.bipush (-2), 2) := by decide +kernel
theorem dX12_fewest_25 : decode cX12_fewest 25 = .ok (.ireturn, 1) := by decide +kernel
theorem dX12_fewest_26 : decode cX12_fewest 26 = .ok (.aload_n 0, 1) := by decide +kernel
theorem dX12_fewest_27 : decode cX12_fewest 27 = .ok (.iload_n 1, 1) := by decide +kernel
theorem dX12_fewest_28 : decode cX12_fewest 28 = .ok (.iconst (-1), 1) := by decide +kernel
theorem dX12_fewest_29 : decode cX12_fewest 29 = .ok (.invokevirtual 234, 3) := by decide +kernel
theorem dX12_fewest_32 : decode cX12_fewest 32 = .ok (.iconst 0, 1) := by decide +kernel
theorem dX12_fewest_33 : decode cX12_fewest 33 = .ok (.istore_n 3, 1) := by decide +kernel
theorem dX12_fewest_34 : decode cX12_fewest 34 = .ok (.iconst 0, 1) := by decide +kernel
theorem dX12_fewest_35 : decode cX12_fewest 35 = .ok (.istore 4, 2) := by decide +kernel
theorem dX12_fewest_37 : decode cX12_fewest 37 = .ok (.iload 4, 2) := by decide +kernel
theorem dX12_fewest_39 : decode cX12_fewest 39 = .ok (.aload_n 0, 1) := by decide +kernel
theorem dX12_fewest_40 : decode cX12_fewest 40 = .ok (.getfield 80, 3) := by decide +kernel
theorem dX12_fewest_43 : decode cX12_fewest 43 = .ok (.if_icmp .ge 29, 3) := by decide +kernel
theorem dX12_fewest_46 : decode cX12_fewest 46 = .ok (.iload_n 3, 1) := by decide +kernel
theorem dX12_fewest_47 : decode cX12_fewest 47 = .ok (.aload_n 0, 1) := by decide +kernel
theorem dX12_fewest_48 : decode cX12_fewest 48 = .ok (.iload 4, 2) := by decide +kernel
theorem dX12_fewest_50 : decode cX12_fewest 50 = .ok (.invokevirtual 238, 3) := by decide +kernel
theorem dX12_fewest_53 : decode cX12_fewest 53 = .ok (.ifCond .eq 10, 3) := by decide +kernel
theorem dX12_fewest_56 : decode cX12_fewest 56 = .ok (.iconst 1, 1) := by decide +kernel
theorem dX12_fewest_57 : decode cX12_fewest 57 = .ok (.iload 4, 2) := by decide +kernel
theorem dX12_fewest_59 : decode cX12_fewest 59 = .ok (.ishl, 1) := by decide +kernel
theorem dX12_fewest_60 : decode cX12_fewest 60 = .ok (.goto 4, 3) := by decide +kernel
theorem dX12_fewest_63 : decode cX12_fewest 63 = .ok (.iconst 0, 1) := by decide +kernel
theorem dX12_fewest_64 : decode cX12_fewest 64 = .ok (.ior, 1) := by decide +kernel
theorem dX12_fewest_65 : decode cX12_fewest 65 = .ok (.istore_n 3, 1) := by decide +kernel
theorem dX12_fewest_66 : decode cX12_fewest 66 = .ok (.iinc 4 1, 3) := by decide +kernel
theorem dX12_fewest_69 : decode cX12_fewest 69 = .ok (.goto (-32), 3) := by decide +kernel
theorem dX12_fewest_72 : decode cX12_fewest 72 = .ok (.aload_n 0, 1) := by decide +kernel
theorem dX12_fewest_73 : decode cX12_fewest 73 = .ok (.getfield 71, 3) := by decide +kernel
theorem dX12_fewest_76 : decode cX12_fewest 76 = .ok (.iconst 0, 1) := by decide +kernel
theorem dX12_fewest_77 : decode cX12_fewest 77 = .ok (.iconst 0, 1) := by decide +kernel
theorem dX12_fewest_78 : decode cX12_fewest 78 = .ok (.iastore, 1) := by decide +kernel
theorem dX12_fewest_79 : decode cX12_fewest 79 = .ok (.iconst 1, 1) := by decide +kernel
theorem dX12_fewest_80 : decode cX12_fewest 80 = .ok (.istore 4, 2) := by decide +kernel
theorem dX12_fewest_82 : decode cX12_fewest 82 = .ok (.iload 4, 2) := by decide +kernel
theorem dX12_fewest_84 : decode cX12_fewest 84 = .ok (.iload_n 3, 1) := by decide +kernel
theorem dX12_fewest_85 : decode cX12_fewest 85 = .ok (.if_icmp .gt 131, 3) := by decide +kernel
theorem dX12_fewest_88 : decode cX12_fewest 88 = .ok (.aload_n 0, 1) := by decide +kernel
theorem dX12_fewest_89 : decode cX12_fewest 89 = .ok (.getfield 71, 3) := by decide +kernel
theorem dX12_fewest_92 : decode cX12_fewest 92 = .ok (.iload 4, 2) := by decide +kernel
theorem dX12_fewest_94 : decode cX12_fewest 94 = .ok (.iconst 0, 1) := by decide +kernel
theorem dX12_fewest_95 : decode cX12_fewest 95 = .ok (.iastore, 1) := by decide +kernel
theorem dX12_fewest_96 : decode cX12_fewest 96 = .ok (.iload 4, 2) := by decide +kernel
theorem dX12_fewest_98 : decode cX12_fewest 98 = .ok (.iload_n 3, 1) := by decide +kernel
theorem dX12_fewest_99 : decode cX12_fewest 99 = .ok (.iconst (-1), 1) := by decide +kernel
theorem dX12_fewest_100 : decode cX12_fewest 100 = .ok (.ixor, 1) := by decide +kernel
theorem dX12_fewest_101 : decode cX12_fewest 101 = .ok (.iand, 1) := by decide +kernel
theorem dX12_fewest_102 : decode cX12_fewest 102 = .ok (.ifCond .eq 6, 3) := by decide +kernel
theorem dX12_fewest_105 : decode cX12_fewest 105 = .ok (.goto 105, 3) := by decide +kernel
theorem dX12_fewest_108 : decode cX12_fewest 108 = .ok (.iconst 0, 1) := by decide +kernel
theorem dX12_fewest_109 : decode cX12_fewest 109 = .ok (.istore 5, 2) := by decide +kernel
theorem dX12_fewest_111 : decode cX12_fewest 111 = .ok (.iload 5, 2) := by decide +kernel
theorem dX12_fewest_113 : decode cX12_fewest 113 = .ok (.aload_n 0, 1) := by decide +kernel
theorem dX12_fewest_114 : decode cX12_fewest 114 = .ok (.getfield 80, 3) := by decide +kernel
theorem dX12_fewest_117 : decode cX12_fewest 117 = .ok (.if_icmp .ge 69, 3) := by decide +kernel
theorem dX12_fewest_120 : decode cX12_fewest 120 = .ok (.iload 4, 2) := by decide +kernel
theorem dX12_fewest_122 : decode cX12_fewest 122 = .ok (.iload 5, 2) := by decide +kernel
theorem dX12_fewest_124 : decode cX12_fewest 124 = .ok (.ishr, 1) := by decide +kernel
theorem dX12_fewest_125 : decode cX12_fewest 125 = .ok (.iconst 1, 1) := by decide +kernel
theorem dX12_fewest_126 : decode cX12_fewest 126 = .ok (.iand, 1) := by decide +kernel
theorem dX12_fewest_127 : decode cX12_fewest 127 = .ok (.ifCond .ne 6, 3) := by decide +kernel
theorem dX12_fewest_130 : decode cX12_fewest 130 = .ok (.goto 50, 3) := by decide +kernel
theorem dX12_fewest_133 : decode cX12_fewest 133 = .ok (.aload_n 0, 1) := by decide +kernel
theorem dX12_fewest_134 : decode cX12_fewest 134 = .ok (.getfield 71, 3) := by decide +kernel
theorem dX12_fewest_137 : decode cX12_fewest 137 = .ok (.iload 4, 2) := by decide +kernel
theorem dX12_fewest_139 : decode cX12_fewest 139 = .ok (.iconst 1, 1) := by decide +kernel
theorem dX12_fewest_140 : decode cX12_fewest 140 = .ok (.iload 5, 2) := by decide +kernel
theorem dX12_fewest_142 : decode cX12_fewest 142 = .ok (.ishl, 1) := by decide +kernel
theorem dX12_fewest_143 : decode cX12_fewest 143 = .ok (.iconst (-1), 1) := by decide +kernel
theorem dX12_fewest_144 : decode cX12_fewest 144 = .ok (.ixor, 1) := by decide +kernel
theorem dX12_fewest_145 : decode cX12_fewest 145 = .ok (.iand, 1) := by decide +kernel
theorem dX12_fewest_146 : decode cX12_fewest 146 = .ok (.iaload, 1) := by decide +kernel
theorem dX12_fewest_147 : decode cX12_fewest 147 = .ok (.istore 6, 2) := by decide +kernel
theorem dX12_fewest_149 : decode cX12_fewest 149 = .ok (.aload_n 0, 1) := by decide +kernel
theorem dX12_fewest_150 : decode cX12_fewest 150 = .ok (.getfield 71, 3) := by decide +kernel
theorem dX12_fewest_153 : decode cX12_fewest 153 = .ok (.iload 4, 2) := by decide +kernel
theorem dX12_fewest_155 : decode cX12_fewest 155 = .ok (.iload 6, 2) := by decide +kernel
theorem dX12_fewest_157 : decode cX12_fewest 157 = .ok (.aload_n 0, 1) := by decide +kernel
theorem dX12_fewest_158 : decode cX12_fewest 158 = .ok (.getfield 71, 3) := by decide +kernel
theorem dX12_fewest_161 : decode cX12_fewest 161 = .ok (.iload 4, 2) := by decide +kernel
theorem dX12_fewest_163 : decode cX12_fewest 163 = .ok (.iaload, 1) := by decide +kernel
theorem dX12_fewest_164 : decode cX12_fewest 164 = .ok (.if_icmp .le 8, 3) := by decide +kernel
theorem dX12_fewest_167 : decode cX12_fewest 167 = .ok (.iload 6, 2) := by decide +kernel
theorem dX12_fewest_169 : decode cX12_fewest 169 = .ok (.goto 10, 3) := by decide +kernel
theorem dX12_fewest_172 : decode cX12_fewest 172 = .ok (.aload_n 0, 1) := by decide +kernel
theorem dX12_fewest_173 : decode cX12_fewest 173 = .ok (.getfield 71, 3) := by decide +kernel
theorem dX12_fewest_176 : decode cX12_fewest 176 = .ok (.iload 4, 2) := by decide +kernel
theorem dX12_fewest_178 : decode cX12_fewest 178 = .ok (.iaload, 1) := by decide +kernel
theorem dX12_fewest_179 : decode cX12_fewest 179 = .ok (.iastore, 1) := by decide +kernel
theorem dX12_fewest_180 : decode cX12_fewest 180 = .ok (.iinc 5 1, 3) := by decide +kernel
theorem dX12_fewest_183 : decode cX12_fewest 183 = .ok (.goto (-72), 3) := by decide +kernel
theorem dX12_fewest_186 : decode cX12_fewest 186 = .ok (.aload_n 0, 1) := by decide +kernel
theorem dX12_fewest_187 : decode cX12_fewest 187 = .ok (.getfield 71, 3) := by decide +kernel
theorem dX12_fewest_190 : decode cX12_fewest 190 = .ok (.iload 4, 2) := by decide +kernel
theorem dX12_fewest_192 : decode cX12_fewest 192 = .ok (.dup2, 1) := by decide +kernel
theorem dX12_fewest_193 : decode cX12_fewest 193 = .ok (.iaload, 1) := by decide +kernel
theorem dX12_fewest_194 : decode cX12_fewest 194 = .ok (.aload_n 0, 1) := by decide +kernel
theorem dX12_fewest_195 : decode cX12_fewest 195 = .ok (.iload 4, 2) := by decide +kernel
theorem dX12_fewest_197 : decode cX12_fewest 197 = .ok (.invokevirtual 339, 3) := by decide +kernel
theorem dX12_fewest_200 : decode cX12_fewest 200 = .ok (.ifCond .ne 7, 3) := by decide +kernel
theorem dX12_fewest_203 : decode cX12_fewest 203 = .ok (.iconst 1, 1) := by decide +kernel
theorem dX12_fewest_204 : decode cX12_fewest 204 = .ok (.goto 4, 3) := by decide +kernel
theorem dX12_fewest_207 : decode cX12_fewest 207 = .ok (.iconst 0, 1) := by decide +kernel
theorem dX12_fewest_208 : decode cX12_fewest 208 = .ok (.iadd, 1) := by decide +kernel
theorem dX12_fewest_209 : decode cX12_fewest 209 = .ok (.iastore, 1) := by decide +kernel
theorem dX12_fewest_210 : decode cX12_fewest 210 = .ok (.iinc 4 1, 3) := by decide +kernel
theorem dX12_fewest_213 : decode cX12_fewest 213 = .ok (.goto (-131), 3) := by decide +kernel
theorem dX12_fewest_216 : decode cX12_fewest 216 = .ok (.iload_n 2, 1) := by decide +kernel
theorem dX12_fewest_217 : decode cX12_fewest 217 = .ok (.iconst 1, 1) := by decide +kernel
theorem dX12_fewest_218 : decode cX12_fewest 218 = .ok (.if_icmp .ne 12, 3) := by decide +kernel
theorem dX12_fewest_221 : decode cX12_fewest 221 = .ok (.aload_n 0, 1) := by decide +kernel
theorem dX12_fewest_222 : decode cX12_fewest 222 = .ok (.getfield 71, 3) := by decide +kernel
theorem dX12_fewest_225 : decode cX12_fewest 225 = .ok (.iload_n 3, 1) := by decide +kernel
theorem dX12_fewest_226 : decode cX12_fewest 226 = .ok (.iaload, 1) := by decide +kernel
theorem dX12_fewest_227 : decode cX12_fewest 227 = .ok (.goto 14, 3) := by decide +kernel
theorem dX12_fewest_230 : decode cX12_fewest 230 = .ok (.iload_n 3, 1) := by decide +kernel
theorem dX12_fewest_231 : decode cX12_fewest 231 = .ok (.invokestatic 247, 3) := by decide +kernel
theorem dX12_fewest_234 : decode cX12_fewest 234 = .ok (.aload_n 0, 1) := by decide +kernel
theorem dX12_fewest_235 : decode cX12_fewest 235 = .ok (.getfield 71, 3) := by decide +kernel
theorem dX12_fewest_238 : decode cX12_fewest 238 = .ok (.iload_n 3, 1) := by decide +kernel
theorem dX12_fewest_239 : decode cX12_fewest 239 = .ok (.iaload, 1) := by decide +kernel
theorem dX12_fewest_240 : decode cX12_fewest 240 = .ok (.isub, 1) := by decide +kernel
theorem dX12_fewest_241 : decode cX12_fewest 241 = .ok (.ireturn, 1) := by decide +kernel
theorem dX12_line_0 : decode cX12_line 0 = .ok (.aload_n 0, 1) := by decide +kernel
theorem dX12_line_1 : decode cX12_line 1 = .ok (.iconst 0, 1) := by decide +kernel
theorem dX12_line_2 : decode cX12_line 2 = .ok (.putfield 1, 3) := by decide +kernel
theorem dX12_line_5 : decode cX12_line 5 = .ok (.aload_n 0, 1) := by decide +kernel
theorem dX12_line_6 : decode cX12_line 6 = .ok (.iload_n 1, 1) := by decide +kernel
theorem dX12_line_7 : decode cX12_line 7 = .ok (.invokevirtual 213, 3) := by decide +kernel
theorem dX12_line_10 : decode cX12_line 10 = .ok (.ifCond .ne 6, 3) := by decide +kernel
theorem dX12_line_13 : decode cX12_line 13 = .ok (.bipush (-2), 2) := by decide +kernel
theorem dX12_line_15 : decode cX12_line 15 = .ok (.ireturn, 1) := by decide +kernel
theorem dX12_line_16 : decode cX12_line 16 = .ok (.iload_n 2, 1) := by decide +kernel
theorem dX12_line_17 : decode cX12_line 17 = .ok (.ifCond .ge 6, 3) := by decide +kernel
theorem dX12_line_20 : decode cX12_line 20 = .ok (.bipush (-3), 2) := by decide +kernel
theorem dX12_line_22 : decode cX12_line 22 = .ok (.ireturn, 1) := by decide +kernel
theorem dX12_line_23 : decode cX12_line 23 = .ok (.aload_n 0, 1) := by decide +kernel
theorem dX12_line_24 : decode cX12_line 24 = .ok (.iconst 0, 1) := by decide +kernel
theorem dX12_line_25 : decode cX12_line 25 = .ok (.putfield 342, 3) := by decide +kernel
theorem dX12_line_28 : decode cX12_line 28 = .ok (.aload_n 0, 1) := by decide +kernel
theorem dX12_line_29 : decode cX12_line 29 = .ok (.aload_n 0, 1) := by decide +kernel
theorem dX12_line_30 : decode cX12_line 30 = .ok (.getfield 23, 3) := by decide +kernel
theorem dX12_line_33 : decode cX12_line 33 = .ok (.aload_n 0, 1) := by decide +kernel
theorem dX12_line_34 : decode cX12_line 34 = .ok (.iload_n 1, 1) := by decide +kernel
theorem dX12_line_35 : decode cX12_line 35 = .ok (.iconst 0, 1) := by decide +kernel
theorem dX12_line_36 : decode cX12_line 36 = .ok (.invokevirtual 174, 3) := by decide +kernel
theorem dX12_line_39 : decode cX12_line 39 = .ok (.laload, 1) := by decide +kernel
theorem dX12_line_40 : decode cX12_line 40 = .ok (.invokevirtual 350, 3) := by decide +kernel
theorem dX12_line_43 : decode cX12_line 43 = .ok (.aload_n 0, 1) := by decide +kernel
theorem dX12_line_44 : decode cX12_line 44 = .ok (.bipush 62, 2) := by decide +kernel
theorem dX12_line_46 : decode cX12_line 46 = .ok (.invokevirtual 347, 3) := by decide +kernel
theorem dX12_line_49 : decode cX12_line 49 = .ok (.aload_n 0, 1) := by decide +kernel
theorem dX12_line_50 : decode cX12_line 50 = .ok (.aload_n 0, 1) := by decide +kernel
theorem dX12_line_51 : decode cX12_line 51 = .ok (.getfield 23, 3) := by decide +kernel
theorem dX12_line_54 : decode cX12_line 54 = .ok (.aload_n 0, 1) := by decide +kernel
theorem dX12_line_55 : decode cX12_line 55 = .ok (.iload_n 1, 1) := by decide +kernel
theorem dX12_line_56 : decode cX12_line 56 = .ok (.iconst 1, 1) := by decide +kernel
theorem dX12_line_57 : decode cX12_line 57 = .ok (.invokevirtual 174, 3) := by decide +kernel
theorem dX12_line_60 : decode cX12_line 60 = .ok (.laload, 1) := by decide +kernel
theorem dX12_line_61 : decode cX12_line 61 = .ok (.invokevirtual 350, 3) := by decide +kernel
theorem dX12_line_64 : decode cX12_line 64 = .ok (.aload_n 0, 1) := by decide +kernel
theorem dX12_line_65 : decode cX12_line 65 = .ok (.bipush 32, 2) := by decide +kernel
theorem dX12_line_67 : decode cX12_line 67 = .ok (.invokevirtual 347, 3) := by decide +kernel
theorem dX12_line_70 : decode cX12_line 70 = .ok (.aload_n 0, 1) := by decide +kernel
theorem dX12_line_71 : decode cX12_line 71 = .ok (.aload_n 0, 1) := by decide +kernel
theorem dX12_line_72 : decode cX12_line 72 = .ok (.iload_n 1, 1) := by decide +kernel
theorem dX12_line_73 : decode cX12_line 73 = .ok (.iconst 2, 1) := by decide +kernel
theorem dX12_line_74 : decode cX12_line 74 = .ok (.invokevirtual 174, 3) := by decide +kernel
theorem dX12_line_77 : decode cX12_line 77 = .ok (.invokevirtual 354, 3) := by decide +kernel
theorem dX12_line_80 : decode cX12_line 80 = .ok (.aload_n 0, 1) := by decide +kernel
theorem dX12_line_81 : decode cX12_line 81 = .ok (.bipush 32, 2) := by decide +kernel
theorem dX12_line_83 : decode cX12_line 83 = .ok (.invokevirtual 347, 3) := by decide +kernel
theorem dX12_line_86 : decode cX12_line 86 = .ok (.aload_n 0, 1) := by decide +kernel
theorem dX12_line_87 : decode cX12_line 87 = .ok (.aload_n 0, 1) := by decide +kernel
theorem dX12_line_88 : decode cX12_line 88 = .ok (.getfield 23, 3) := by decide +kernel
theorem dX12_line_91 : decode cX12_line 91 = .ok (.bipush 8, 2) := by decide +kernel
theorem dX12_line_93 : decode cX12_line 93 = .ok (.aload_n 0, 1) := by decide +kernel
theorem dX12_line_94 : decode cX12_line 94 = .ok (.iload_n 1, 1) := by decide +kernel
theorem dX12_line_95 : decode cX12_line 95 = .ok (.iconst 3, 1) := by decide +kernel
theorem dX12_line_96 : decode cX12_line 96 = .ok (.invokevirtual 174, 3) := by decide +kernel
theorem dX12_line_99 : decode cX12_line 99 = .ok (.iadd, 1) := by decide +kernel
theorem dX12_line_100 : decode cX12_line 100 = .ok (.laload, 1) := by decide +kernel
theorem dX12_line_101 : decode cX12_line 101 = .ok (.invokevirtual 350, 3) := by decide +kernel
theorem dX12_line_104 : decode cX12_line 104 = .ok (.aload_n 0, 1) := by decide +kernel
theorem dX12_line_105 : decode cX12_line 105 = .ok (.iload_n 1, 1) := by decide +kernel
theorem dX12_line_106 : decode cX12_line 106 = .ok (.iconst 4, 1) := by decide +kernel
theorem dX12_line_107 : decode cX12_line 107 = .ok (.invokevirtual 174, 3) := by decide +kernel
theorem dX12_line_110 : decode cX12_line 110 = .ok (.iconst 1, 1) := by decide +kernel
theorem dX12_line_111 : decode cX12_line 111 = .ok (.if_icmp .ne 15, 3) := by decide +kernel
theorem dX12_line_114 : decode cX12_line 114 = .ok (.aload_n 0, 1) := by decide +kernel
theorem dX12_line_115 : decode cX12_line 115 = .ok (.bipush 32, 2) := by decide +kernel
theorem dX12_line_117 : decode cX12_line 117 = .ok (.invokevirtual 347, 3) := by decide +kernel
theorem dX12_line_120 : decode cX12_line 120 = .ok (.aload_n 0, 1) := by decide +kernel
theorem dX12_line_121 : decode cX12_line 121 = .ok (.bipush 42, 2) := by decide +kernel
theorem dX12_line_123 : decode cX12_line 123 = .ok (.invokevirtual 347, 3) := by decide +kernel
theorem dX12_line_126 : decode cX12_line 126 = .ok (.iload_n 2, 1) := by decide +kernel
theorem dX12_line_127 : decode cX12_line 127 = .ok (.aload_n 0, 1) := by decide +kernel
theorem dX12_line_128 : decode cX12_line 128 = .ok (.getfield 342, 3) := by decide +kernel
theorem dX12_line_131 : decode cX12_line 131 = .ok (.if_icmp .ge 12, 3) := by decide +kernel
theorem dX12_line_134 : decode cX12_line 134 = .ok (.aload_n 0, 1) := by decide +kernel
theorem dX12_line_135 : decode cX12_line 135 = .ok (.getfield 74, 3) := by decide +kernel
theorem dX12_line_138 : decode cX12_line 138 = .ok (.iload_n 2, 1) := by decide +kernel
theorem dX12_line_139 : decode cX12_line 139 = .ok (.iaload, 1) := by decide +kernel
theorem dX12_line_140 : decode cX12_line 140 = .ok (.goto 4, 3) := by decide +kernel
theorem dX12_line_143 : decode cX12_line 143 = .ok (.iconst (-1), 1) := by decide +kernel
theorem dX12_line_144 : decode cX12_line 144 = .ok (.ireturn, 1) := by decide +kernel
theorem dX12_puts_0 : decode cX12_puts 0 = .ok (.aload_n 0, 1) := by decide +kernel
theorem dX12_puts_1 : decode cX12_puts 1 = .ok (.getfield 74, 3) := by decide +kernel
theorem dX12_puts_4 : decode cX12_puts 4 = .ok (.aload_n 0, 1) := by decide +kernel
theorem dX12_puts_5 : decode cX12_puts 5 = .ok (.getfield 342, 3) := by decide +kernel
theorem dX12_puts_8 : decode cX12_puts 8 = .ok (.iload_n 1, 1) := by decide +kernel
theorem dX12_puts_9 : decode cX12_puts 9 = .ok (.iastore, 1) := by decide +kernel
theorem dX12_puts_10 : decode cX12_puts 10 = .ok (.aload_n 0, 1) := by decide +kernel
theorem dX12_puts_11 : decode cX12_puts 11 = .ok (.dup, 1) := by decide +kernel
theorem dX12_puts_12 : decode cX12_puts 12 = .ok (.getfield 342, 3) := by decide +kernel
theorem dX12_puts_15 : decode cX12_puts 15 = .ok (.iconst 1, 1) := by decide +kernel
theorem dX12_puts_16 : decode cX12_puts 16 = .ok (.iadd, 1) := by decide +kernel
theorem dX12_puts_17 : decode cX12_puts 17 = .ok (.putfield 342, 3) := by decide +kernel
theorem dX12_puts_20 : decode cX12_puts 20 = .ok (.return_, 1) := by decide +kernel
theorem dX12_putsName_0 : decode cX12_putsName 0 = .ok (.bipush 56, 2) := by decide +kernel
theorem dX12_putsName_2 : decode cX12_putsName 2 = .ok (.istore_n 3, 1) := by decide +kernel
theorem dX12_putsName_3 : decode cX12_putsName 3 = .ok (.iload_n 3, 1) := by decide +kernel
theorem dX12_putsName_4 : decode cX12_putsName 4 = .ok (.ifCond .lt 33, 3) := by decide +kernel
theorem dX12_putsName_7 : decode cX12_putsName 7 = .ok (.lload_n 1, 1) := by decide +kernel
theorem dX12_putsName_8 : decode cX12_putsName 8 = .ok (.iload_n 3, 1) := by decide +kernel
theorem dX12_putsName_9 : decode cX12_putsName 9 = .ok (.lshr, 1) := by decide +kernel
theorem dX12_putsName_10 : decode cX12_putsName 10 = .ok (.ldc2_w 345, 3) := by decide +kernel
theorem dX12_putsName_13 : decode cX12_putsName 13 = .ok (.land, 1) := by decide +kernel
theorem dX12_putsName_14 : decode cX12_putsName 14 = .ok (.lconst 0, 1) := by decide +kernel
theorem dX12_putsName_15 : decode cX12_putsName 15 = .ok (.lcmp, 1) := by decide +kernel
theorem dX12_putsName_16 : decode cX12_putsName 16 = .ok (.ifCond .eq 15, 3) := by decide +kernel
theorem dX12_putsName_19 : decode cX12_putsName 19 = .ok (.aload_n 0, 1) := by decide +kernel
theorem dX12_putsName_20 : decode cX12_putsName 20 = .ok (.lload_n 1, 1) := by decide +kernel
theorem dX12_putsName_21 : decode cX12_putsName 21 = .ok (.iload_n 3, 1) := by decide +kernel
theorem dX12_putsName_22 : decode cX12_putsName 22 = .ok (.lshr, 1) := by decide +kernel
theorem dX12_putsName_23 : decode cX12_putsName 23 = .ok (.ldc2_w 345, 3) := by decide +kernel
theorem dX12_putsName_26 : decode cX12_putsName 26 = .ok (.land, 1) := by decide +kernel
theorem dX12_putsName_27 : decode cX12_putsName 27 = .ok (.l2i, 1) := by decide +kernel
theorem dX12_putsName_28 : decode cX12_putsName 28 = .ok (.invokevirtual 347, 3) := by decide +kernel
theorem dX12_putsName_31 : decode cX12_putsName 31 = .ok (.iinc 3 (-8), 3) := by decide +kernel
theorem dX12_putsName_34 : decode cX12_putsName 34 = .ok (.goto (-31), 3) := by decide +kernel
theorem dX12_putsName_37 : decode cX12_putsName 37 = .ok (.return_, 1) := by decide +kernel
theorem dX12_putsNumber_0 : decode cX12_putsNumber 0 = .ok (.iconst 1, 1) := by decide +kernel
theorem dX12_putsNumber_1 : decode cX12_putsNumber 1 = .ok (.istore_n 2, 1) := by decide +kernel
theorem dX12_putsNumber_2 : decode cX12_putsNumber 2 = .ok (.iload_n 1, 1) := by decide +kernel
theorem dX12_putsNumber_3 : decode cX12_putsNumber 3 = .ok (.iload_n 2, 1) := by decide +kernel
theorem dX12_putsNumber_4 : decode cX12_putsNumber 4 = .ok (.idiv, 1) := by decide +kernel
theorem dX12_putsNumber_5 : decode cX12_putsNumber 5 = .ok (.bipush 9, 2) := by decide +kernel
theorem dX12_putsNumber_7 : decode cX12_putsNumber 7 = .ok (.if_icmp .le 11, 3) := by decide +kernel
theorem dX12_putsNumber_10 : decode cX12_putsNumber 10 = .ok (.iload_n 2, 1) := by decide +kernel
theorem dX12_putsNumber_11 : decode cX12_putsNumber 11 = .ok (.bipush 10, 2) := by decide +kernel
theorem dX12_putsNumber_13 : decode cX12_putsNumber 13 = .ok (.imul, 1) := by decide +kernel
theorem dX12_putsNumber_14 : decode cX12_putsNumber 14 = .ok (.istore_n 2, 1) := by decide +kernel
theorem dX12_putsNumber_15 : decode cX12_putsNumber 15 = .ok (.goto (-13), 3) := by decide +kernel
theorem dX12_putsNumber_18 : decode cX12_putsNumber 18 = .ok (.iload_n 2, 1) := by decide +kernel
theorem dX12_putsNumber_19 : decode cX12_putsNumber 19 = .ok (.istore_n 3, 1) := by decide +kernel
theorem dX12_putsNumber_20 : decode cX12_putsNumber 20 = .ok (.iload_n 3, 1) := by decide +kernel
theorem dX12_putsNumber_21 : decode cX12_putsNumber 21 = .ok (.ifCond .le 24, 3) := by decide +kernel
theorem dX12_putsNumber_24 : decode cX12_putsNumber 24 = .ok (.aload_n 0, 1) := by decide +kernel
theorem dX12_putsNumber_25 : decode cX12_putsNumber 25 = .ok (.bipush 48, 2) := by decide +kernel
theorem dX12_putsNumber_27 : decode cX12_putsNumber 27 = .ok (.iload_n 1, 1) := by decide +kernel
theorem dX12_putsNumber_28 : decode cX12_putsNumber 28 = .ok (.iload_n 3, 1) := by decide +kernel
theorem dX12_putsNumber_29 : decode cX12_putsNumber 29 = .ok (.idiv, 1) := by decide +kernel
theorem dX12_putsNumber_30 : decode cX12_putsNumber 30 = .ok (.bipush 10, 2) := by decide +kernel
theorem dX12_putsNumber_32 : decode cX12_putsNumber 32 = .ok (.irem, 1) := by decide +kernel
theorem dX12_putsNumber_33 : decode cX12_putsNumber 33 = .ok (.iadd, 1) := by decide +kernel
theorem dX12_putsNumber_34 : decode cX12_putsNumber 34 = .ok (.invokevirtual 347, 3) := by decide +kernel
theorem dX12_putsNumber_37 : decode cX12_putsNumber 37 = .ok (.iload_n 3, 1) := by decide +kernel
theorem dX12_putsNumber_38 : decode cX12_putsNumber 38 = .ok (.bipush 10, 2) := by decide +kernel
theorem dX12_putsNumber_40 : decode cX12_putsNumber 40 = .ok (.idiv, 1) := by decide +kernel
theorem dX12_putsNumber_41 : decode cX12_putsNumber 41 = .ok (.istore_n 3, 1) := by decide +kernel
theorem dX12_putsNumber_42 : decode cX12_putsNumber 42 = .ok (.goto (-22), 3) := by decide +kernel
theorem dX12_putsNumber_45 : decode cX12_putsNumber 45 = .ok (.return_, 1) := by decide +kernel
theorem or_b {a b : Nat} (ha : a < 256) (hb : b < 256) : ∃ c, c < 256 ∧ nI a ||| nI b = nI c := by
  refine ⟨a ||| b, Nat.or_lt_two_pow (n := 8) ha hb, ?_⟩
  apply Int32.toBitVec_inj.mp
  rw [Int32.toBitVec_or]
  show BitVec.ofNat 32 a ||| BitVec.ofNat 32 b = BitVec.ofNat 32 (a ||| b)
  apply BitVec.eq_of_toNat_eq
  rw [BitVec.toNat_or, BitVec.toNat_ofNat, BitVec.toNat_ofNat, BitVec.toNat_ofNat, Nat.mod_eq_of_lt (by omega), Nat.mod_eq_of_lt (by omega), Nat.mod_eq_of_lt (Nat.lt_trans (Nat.or_lt_two_pow (n := 8) ha hb) (by decide))]
theorem sh_b {p : Nat} (hp : p < 8) : ∃ c, c < 256 ∧ (1 : Int32) <<< (nI p &&& 31) = nI c := by
  rcases (show p = 0 ∨ p = 1 ∨ p = 2 ∨ p = 3 ∨ p = 4 ∨ p = 5 ∨ p = 6 ∨ p = 7 by omega) with rfl | rfl | rfl | rfl | rfl | rfl | rfl | rfl
  · exact ⟨1, by decide, by decide⟩
  · exact ⟨2, by decide, by decide⟩
  · exact ⟨4, by decide, by decide⟩
  · exact ⟨8, by decide, by decide⟩
  · exact ⟨16, by decide, by decide⟩
  · exact ⟨32, by decide, by decide⟩
  · exact ⟨64, by decide, by decide⟩
  · exact ⟨128, by decide, by decide⟩
theorem kz_c {kz : Int32} {c : Nat} (h : kz = nI (8 * c) - 8) (hc : c ≤ 8) (hn : ¬ kz < 0) : 1 ≤ c := by
  by_cases q : c = 0
  · subst q
    rw [h] at hn
    exact absurd (by decide) hn
  · omega
theorem kz_s {kz k2 : Int32} {c : Nat} (h : kz = nI (8 * c) - 8) (hc : 1 ≤ c) (hc8 : c ≤ 8) (e : k2 = kz + Int32.ofInt (-8)) : k2 = nI (8 * (c - 1)) - 8 := by
  subst h e
  rcases (show c = 1 ∨ c = 2 ∨ c = 3 ∨ c = 4 ∨ c = 5 ∨ c = 6 ∨ c = 7 ∨ c = 8 by omega) with rfl | rfl | rfl | rfl | rfl | rfl | rfl | rfl <;> decide
theorem p10_9 {v z : Int32} {pw e : Nat} (hp : pw = 10 ^ e) (he : e ≤ 9) (hz : z = v / nI pw) (h : ¬ z ≤ 9) : e < 9 := by
  by_cases q : e = 9
  · exfalso
    subst q
    apply h
    rw [hz, hp, Int32.le_iff_toInt_le, Int32.toInt_div]
    have e1 : (nI (10 ^ 9)).toInt = 1000000000 := by decide
    have e9 : (9 : Int32).toInt = 9 := by decide
    rw [e1, e9]
    have h1 := Int32.toInt_lt v
    have h2 := Int32.le_toInt v
    have h3 : v.toInt.tdiv 1000000000 ≤ 9 ∧ -9 ≤ v.toInt.tdiv 1000000000 := by
      rcases Int.le_total 0 v.toInt with c | c
      · rw [Int.tdiv_eq_ediv_of_nonneg c]
        omega
      · have e2 : v.toInt.tdiv 1000000000 = -((-v.toInt).tdiv 1000000000) := by rw [Int.neg_tdiv, Int.neg_neg]
        rw [e2, Int.tdiv_eq_ediv_of_nonneg (by omega)]
        omega
    rw [Int.bmod_eq_of_le (by omega) (by omega)]
    exact h3.1
  · omega
theorem p10_b {pw e : Nat} (hp : pw = 10 ^ e) (he : e ≤ 9) : 1 ≤ pw ∧ pw ≤ 1000000000 := by
  subst hp
  exact ⟨Nat.one_le_pow _ _ (by decide), Nat.pow_le_pow_right (n := 10) (by decide) he⟩
theorem p10_d {kk g : Nat} (h : kk < 10 ^ g) (hk : 0 < kk) : 1 ≤ g ∧ kk / 10 < 10 ^ (g - 1) := by
  cases g with
  | zero =>
    have e : (10 : Nat) ^ 0 = 1 := rfl
    omega
  | succ g =>
    rw [Nat.pow_succ] at h
    refine ⟨by omega, ?_⟩
    show kk / 10 < 10 ^ g
    omega
set_option maxHeartbeats 4000000 in
set_option maxRecDepth 100000 in
theorem m_couples (l : Launch) (dC : Nat → ClassId) (dI : Nat → Nat → Nat) (cy : Nat → ClassId) (L : List Nat) (kap : Nat → Nat) (pr : Pr) (S : Nat → va_E) (sz : Nat) (o : Nat) (kd : Int32) (hTy : Ty cy L kap pr S) (hT_o : TK L kap o 12) : Met l yX12_couples (wT yX12_couples cX12_couples 2 (some .int)) ({ frames := 6, cells := 0, slots := 0, locals := 145 }) (pcN dC dI [.ref o, .int kd] sz (va_pl L S) (cyT cy) NLs []) (va_Qi (fun r S' => Ty cy L kap pr S' ∧ Fr kap [12, 56, 59, 60, 61, 62, 63, 64, 65, 66] S S') (fun S' t => pB dC dI (AL L sz) (va_pl L S') (cyT cy) t) (AL L sz)) 0 0 (AL L sz) := by
  refine Met.ofW (cc := cX12_couples) (maxL := 2) (ret := (some .int)) (by decide) rfl ?_
  intro p e s m args below meth c s₁ B hml hv
  obtain ⟨rfl, hsz, hP, hK, hD0, hN, -⟩ := hv
  have hx := B.exec
  have hb := B.bytes
  have hr := B.returns
  have hT : ∀ wd ∈ TB, wd.before [.ref o, .int kd].toArray s = true := fun wd h => atoms_spec (ws := wT yX12_couples cX12_couples 2 (some .int)) B.pre wd (List.mem_cons_of_mem _ h)
  have hown : s.vm.findClass RX12 = some m.cls := findClass_of_methodNamed B.named
  have hlocks := B.notSynchronized
  subst hsz
  have hW : PW dC dI L (AL L s.heap.size) s.heap S s.heap [] := ⟨hP, pl_self hD0, va_S.rf⟩
  have hA0 : ∀ q, q ∈ L → AL L s.heap.size q := fun _ h => Or.inl h
  have hA : ∀ q, s.heap.size ≤ q → AL L s.heap.size q := fun _ h => Or.inr h
  have hFr : Fr kap [12, 56, 59, 60, 61, 62, 63, 64, 65, 66] S S := Fr.rf
  have hl := lv_entry ([.ref o, .int kd]) (n := 2) (Nat.le_of_ble_eq_true rfl)
  rw [lg_entry_eq]
  generalize (lg_sl ([.ref o, .int kd]) ++ List.replicate (2 - (lg_sl ([.ref o, .int kd])).length) Slot.unset).toArray = ls at hl ⊢
  have hl : lv_has ls 2 [(0, .ref o), (1, .int kd)] := hl
  refine lv_aload_n hx hb dX12_couples_0 rfl (lv_at hl 0 rfl) ?_
  refine lv_iconst (v := 0) hx hb dX12_couples_1 (by decide) ?_
  obtain ⟨x_1, x_2, x_3, x_4, x_5, x_6, x_7, x_8, x_9, x_10, x_11, x_12, x_13, x_14, x_15, x_16, x_17, x_18, x_19, x_20, x_21, x_22, x_23, x_24, x_25, x_26, x_27, x_28, x_29, x_30, x_31, hS_o, hT_x_1, hT_x_2, hT_x_3, hT_x_4, hT_x_5, hb_x_6, hb_x_7, hb_x_8, hT_x_10, hb_q2, hb_x_11, hb_x_12, hT_x_17, hT_x_18, hb_x_19, hT_x_20, hT_x_21, hT_x_22, hT_x_23, hT_x_24, hT_x_25, hT_x_26, hT_x_27, hT_x_28, hT_x_29, hT_x_30, hb_x_31⟩ := hTy.k12 hT_o
  have hb_q2 : pr.2 ≤ 900 := hb_q2
  have hS_o : S o = .inr (12, [.ref x_1, .ref x_2, .ref x_3, .ref x_4, .ref x_5, .int (nI x_6), .int (nI x_7), .int (nI x_8), .int x_9, .ref x_10, .int (nI (pr.2)), .int (nI x_11), .int (nI x_12), .int x_13, .int x_14, .int x_15, .int x_16, .ref x_17, .ref x_18, .int (nI x_19), .ref x_20, .ref x_21, .ref x_22, .ref x_23, .ref x_24, .ref x_25, .ref x_26, .ref x_27, .ref x_28, .ref x_29, .ref x_30, .int (nI x_31)]) := hS_o
  refine pl_put (ci := 12) (v := .int 0) (ty := .int) (C := RX12) (T := TX12) (N := 32) (fs' := [.ref x_1, .ref x_2, .ref x_3, .ref x_4, .ref x_5, .int (nI x_6), .int (nI x_7), .int (nI x_8), .int 0, .ref x_10, .int (nI (pr.2)), .int (nI x_11), .int (nI x_12), .int x_13, .int x_14, .int x_15, .int x_16, .ref x_17, .ref x_18, .int (nI x_19), .ref x_20, .ref x_21, .ref x_22, .ref x_23, .ref x_24, .ref x_25, .ref x_26, .ref x_27, .ref x_28, .ref x_29, .ref x_30, .int (nI x_31)]) hx hb hT iX12 tyX12 tyX12_ok nmX12 hown hK hW hT_o.1 hS_o rfl 8 (by decide) w1090 rfl (by decide +kernel) rfl rfl (Nat.le_of_ble_eq_true rfl) rfl dX12_couples_2 (fun H locs S_32 e1 hW => ?_)
  have hTy := hTy.u12 e1 hT_o ⟨x_1, x_2, x_3, x_4, x_5, x_6, x_7, x_8, 0, x_10, x_11, x_12, x_13, x_14, x_15, x_16, x_17, x_18, x_19, x_20, x_21, x_22, x_23, x_24, x_25, x_26, x_27, x_28, x_29, x_30, x_31, rfl, hT_x_1, hT_x_2, hT_x_3, hT_x_4, hT_x_5, (by omega), (by omega), (by omega), hT_x_10, (by show pr.2 ≤ 900; omega), (by omega), (by omega), hT_x_17, hT_x_18, (by omega), hT_x_20, hT_x_21, hT_x_22, hT_x_23, hT_x_24, hT_x_25, hT_x_26, hT_x_27, hT_x_28, hT_x_29, hT_x_30, (by omega)⟩
  have hws := (show wrs (.inr (12, [.ref x_1, .ref x_2, .ref x_3, .ref x_4, .ref x_5, .int (nI x_6), .int (nI x_7), .int (nI x_8), .int 0, .ref x_10, .int (nI (pr.2)), .int (nI x_11), .int (nI x_12), .int x_13, .int x_14, .int x_15, .int x_16, .ref x_17, .ref x_18, .int (nI x_19), .ref x_20, .ref x_21, .ref x_22, .ref x_23, .ref x_24, .ref x_25, .ref x_26, .ref x_27, .ref x_28, .ref x_29, .ref x_30, .int (nI x_31)])) = wrs (S o) from by rw [hS_o]; rfl)
  have hFr := ufs hFr e1 hT_o (by decide) hws
  have hS_o := us e1
  refine lv_aload_n hx hb dX12_couples_5 rfl (lv_at hl 0 rfl) ?_
  refine lv_iload_n hx hb dX12_couples_6 rfl (lv_at hl 1 rfl) ?_
  refine vp_callSi (va_Run.run (va_runV (As := [.int kd]) (rest := []) ⟨hx, hb, hml, hown, hT⟩ (m_isKind l dC dI cy L kap pr S_32 H.size o kd hTy hT_o) (cwV 1 hT (gV w1288 w1290 ws74 w14 w1291) rfl rfl rfl (by decide +kernel) ⟨(Nat.le_of_ble_eq_true rfl), (Nat.le_of_ble_eq_true rfl)⟩) ⟨pcN.blind, pl_recv hK hW hT_o.1 hS_o rfl, pcN.pre hW.1 hK hW.2.1 hN (fun q h => absurd h List.not_mem_nil)⟩ rfl rfl hl.1 rfl (lv_room (Nat.le_of_ble_eq_true rfl)) dX12_couples_7 ⟨(Nat.le_of_ble_eq_true rfl), (Nat.le_of_ble_eq_true rfl)⟩)) (fun r_33 hr_33 => ?_)
  rcases hr_33 with hc_ | hc_
  · obtain rfl : r_33 = 0 := hc_
    refine lv_if_ne (tgt := 16) hx hb dX12_couples_10 (by decide) (fun h => absurd (by decide) h) (fun _ => ?_)
    refine lv_bipush (v := (-2)) hx hb dX12_couples_13 (by decide) ?_
    exact W.iret (v := (-2)) hx hb hr (fun t ht h9 => ⟨⟨(-2), S_32, rfl, ⟨hTy, hFr⟩, by rw [ht]; exact hW.1, va_K.moved h9.alike hK, hW.2.1⟩, hW.2.2.F ht⟩) hW.2.2.2.2 dX12_couples_15
  · obtain ⟨rfl, k_34, hb_k_34, rfl⟩ := hc_
    refine lv_if_ne (tgt := 16) hx hb dX12_couples_10 (by decide) (fun _ => ?_) (fun h => absurd h (by decide))
    refine lv_aload_n hx hb dX12_couples_16 rfl (lv_at hl 0 rfl) ?_
    refine lv_iload_n hx hb dX12_couples_17 rfl (lv_at hl 1 rfl) ?_
    refine pl_calli (va_runV (As := [.int (nI k_34)]) (rest := []) ⟨hx, hb, hml, hown, hT⟩ (m_pressesFirst l dC dI cy L kap pr S_32 H.size o (nI k_34) hTy hT_o) (cwV 1 hT (gV w1491 w1493 ws101 w14 w1494) rfl rfl rfl (by decide +kernel) ⟨(Nat.le_of_ble_eq_true rfl), (Nat.le_of_ble_eq_true rfl)⟩) ⟨pcN.blind, pl_recv hK hW hT_o.1 hS_o rfl, pcN.pre hW.1 hK hW.2.1 hN (fun q h => absurd h List.not_mem_nil)⟩ rfl rfl hl.1 rfl (lv_room (Nat.le_of_ble_eq_true rfl)) dX12_couples_18 ⟨(Nat.le_of_ble_eq_true rfl), (Nat.le_of_ble_eq_true rfl)⟩) hW hA0 hA (fun r_36 S_35 H locs hrel hW => ?_)
    obtain ⟨hTy, hF1, hx1⟩ := hrel
    have hFr := hFr.tr hF1 (by decide)
    have hS_o := hF1.at hT_o (by decide) hS_o
    have hdz9 := hx1
    refine lv_if_eq (tgt := 31) hx hb dX12_couples_21 (by decide) (fun c_21 => ?_) (fun c_21 => ?_)
    · refine lv_iconst (v := (-1)) hx hb dX12_couples_31 (by decide) ?_
      exact W.iret (v := (-1)) hx hb hr (fun t ht h9 => ⟨⟨(-1), S_35, rfl, ⟨hTy, hFr⟩, by rw [ht]; exact hW.1, va_K.moved h9.alike hK, hW.2.1⟩, hW.2.2.F ht⟩) hW.2.2.2.2 dX12_couples_32
    · refine lv_aload_n hx hb dX12_couples_24 rfl (lv_at hl 0 rfl) ?_
      refine vp_callSi (va_Run.run (va_runV (As := []) (rest := []) ⟨hx, hb, hml, hown, hT⟩ (m_couplesNow l dC dI cy L kap pr S_35 H.size o hTy hT_o) (cwV 0 hT (gV w1507 w1509 ws104 w14 w1510) rfl rfl rfl (by decide +kernel) ⟨(Nat.le_of_ble_eq_true rfl), (Nat.le_of_ble_eq_true rfl)⟩) ⟨pcN.blind, pl_recv hK hW hT_o.1 hS_o rfl, pcN.pre hW.1 hK hW.2.1 hN (fun q h => absurd h List.not_mem_nil)⟩ rfl rfl hl.1 rfl (lv_room (Nat.le_of_ble_eq_true rfl)) dX12_couples_25 ⟨(Nat.le_of_ble_eq_true rfl), (Nat.le_of_ble_eq_true rfl)⟩)) (fun r_37 hr_37 => ?_)
      obtain ⟨f_38, hS_x_22⟩ := hTy.k60 hT_x_22
      obtain ⟨cn9, hcn64, rfl, hcn9⟩ := hr_37
      rw [fld_i (S := S_35) hS_o rfl hS_x_22] at hcn9
      refine lv_goto (tgt := 32) hx hb dX12_couples_28 (by decide) ?_
      exact W.iret (v := nI cn9) hx hb hr (fun t ht h9 => ⟨⟨nI cn9, S_35, rfl, ⟨hTy, hFr⟩, by rw [ht]; exact hW.1, va_K.moved h9.alike hK, hW.2.1⟩, hW.2.2.F ht⟩) hW.2.2.2.2 dX12_couples_32

set_option maxHeartbeats 4000000 in
set_option maxRecDepth 100000 in
theorem m_fewest (l : Launch) (dC : Nat → ClassId) (dI : Nat → Nat → Nat) (cy : Nat → ClassId) (L : List Nat) (kap : Nat → Nat) (pr : Pr) (S : Nat → va_E) (sz : Nat) (o : Nat) (kd : Int32) (wh : Int32) (hTy : Ty cy L kap pr S) (hT_o : TK L kap o 12) : Met l yX12_fewest (wT yX12_fewest cX12_fewest 7 (some .int)) ({ frames := 3, cells := 0, slots := 0, locals := 67 }) (pcN dC dI [.ref o, .int kd, .int wh] sz (va_pl L S) (cyT cy) NLs []) (va_Qi (fun r S' => Ty cy L kap pr S' ∧ Fr kap [12, 56, 67] S S') (fun S' t => pB dC dI (AL L sz) (va_pl L S') (cyT cy) t) (AL L sz)) 0 0 (AL L sz) := by
  refine Met.ofW (cc := cX12_fewest) (maxL := 7) (ret := (some .int)) (by decide) rfl ?_
  intro p e s m args below meth c s₁ B hml hv
  obtain ⟨rfl, hsz, hP, hK, hD0, hN, -⟩ := hv
  have hx := B.exec
  have hb := B.bytes
  have hr := B.returns
  have hT : ∀ wd ∈ TB, wd.before [.ref o, .int kd, .int wh].toArray s = true := fun wd h => atoms_spec (ws := wT yX12_fewest cX12_fewest 7 (some .int)) B.pre wd (List.mem_cons_of_mem _ h)
  have hown : s.vm.findClass RX12 = some m.cls := findClass_of_methodNamed B.named
  have hlocks := B.notSynchronized
  subst hsz
  have hW : PW dC dI L (AL L s.heap.size) s.heap S s.heap [] := ⟨hP, pl_self hD0, va_S.rf⟩
  have hA0 : ∀ q, q ∈ L → AL L s.heap.size q := fun _ h => Or.inl h
  have hA : ∀ q, s.heap.size ≤ q → AL L s.heap.size q := fun _ h => Or.inr h
  have hFr : Fr kap [12, 56, 67] S S := Fr.rf
  have hl := lv_entry ([.ref o, .int kd, .int wh]) (n := 7) (Nat.le_of_ble_eq_true rfl)
  rw [lg_entry_eq]
  generalize (lg_sl ([.ref o, .int kd, .int wh]) ++ List.replicate (7 - (lg_sl ([.ref o, .int kd, .int wh])).length) Slot.unset).toArray = ls at hl ⊢
  have hl : lv_has ls 7 [(0, .ref o), (1, .int kd), (2, .int wh)] := hl
  refine lv_aload_n hx hb dX12_fewest_0 rfl (lv_at hl 0 rfl) ?_
  refine lv_iconst (v := 0) hx hb dX12_fewest_1 (by decide) ?_
  obtain ⟨x_1, x_2, x_3, x_4, x_5, x_6, x_7, x_8, x_9, x_10, x_11, x_12, x_13, x_14, x_15, x_16, x_17, x_18, x_19, x_20, x_21, x_22, x_23, x_24, x_25, x_26, x_27, x_28, x_29, x_30, x_31, hS_o, hT_x_1, hT_x_2, hT_x_3, hT_x_4, hT_x_5, hb_x_6, hb_x_7, hb_x_8, hT_x_10, hb_q2, hb_x_11, hb_x_12, hT_x_17, hT_x_18, hb_x_19, hT_x_20, hT_x_21, hT_x_22, hT_x_23, hT_x_24, hT_x_25, hT_x_26, hT_x_27, hT_x_28, hT_x_29, hT_x_30, hb_x_31⟩ := hTy.k12 hT_o
  have hb_q2 : pr.2 ≤ 900 := hb_q2
  have hS_o : S o = .inr (12, [.ref x_1, .ref x_2, .ref x_3, .ref x_4, .ref x_5, .int (nI x_6), .int (nI x_7), .int (nI x_8), .int x_9, .ref x_10, .int (nI (pr.2)), .int (nI x_11), .int (nI x_12), .int x_13, .int x_14, .int x_15, .int x_16, .ref x_17, .ref x_18, .int (nI x_19), .ref x_20, .ref x_21, .ref x_22, .ref x_23, .ref x_24, .ref x_25, .ref x_26, .ref x_27, .ref x_28, .ref x_29, .ref x_30, .int (nI x_31)]) := hS_o
  refine pl_put (ci := 12) (v := .int 0) (ty := .int) (C := RX12) (T := TX12) (N := 32) (fs' := [.ref x_1, .ref x_2, .ref x_3, .ref x_4, .ref x_5, .int (nI x_6), .int (nI x_7), .int (nI x_8), .int 0, .ref x_10, .int (nI (pr.2)), .int (nI x_11), .int (nI x_12), .int x_13, .int x_14, .int x_15, .int x_16, .ref x_17, .ref x_18, .int (nI x_19), .ref x_20, .ref x_21, .ref x_22, .ref x_23, .ref x_24, .ref x_25, .ref x_26, .ref x_27, .ref x_28, .ref x_29, .ref x_30, .int (nI x_31)]) hx hb hT iX12 tyX12 tyX12_ok nmX12 hown hK hW hT_o.1 hS_o rfl 8 (by decide) w1090 rfl (by decide +kernel) rfl rfl (Nat.le_of_ble_eq_true rfl) rfl dX12_fewest_2 (fun H locs S_32 e1 hW => ?_)
  have hTy := hTy.u12 e1 hT_o ⟨x_1, x_2, x_3, x_4, x_5, x_6, x_7, x_8, 0, x_10, x_11, x_12, x_13, x_14, x_15, x_16, x_17, x_18, x_19, x_20, x_21, x_22, x_23, x_24, x_25, x_26, x_27, x_28, x_29, x_30, x_31, rfl, hT_x_1, hT_x_2, hT_x_3, hT_x_4, hT_x_5, (by omega), (by omega), (by omega), hT_x_10, (by show pr.2 ≤ 900; omega), (by omega), (by omega), hT_x_17, hT_x_18, (by omega), hT_x_20, hT_x_21, hT_x_22, hT_x_23, hT_x_24, hT_x_25, hT_x_26, hT_x_27, hT_x_28, hT_x_29, hT_x_30, (by omega)⟩
  have hws := (show wrs (.inr (12, [.ref x_1, .ref x_2, .ref x_3, .ref x_4, .ref x_5, .int (nI x_6), .int (nI x_7), .int (nI x_8), .int 0, .ref x_10, .int (nI (pr.2)), .int (nI x_11), .int (nI x_12), .int x_13, .int x_14, .int x_15, .int x_16, .ref x_17, .ref x_18, .int (nI x_19), .ref x_20, .ref x_21, .ref x_22, .ref x_23, .ref x_24, .ref x_25, .ref x_26, .ref x_27, .ref x_28, .ref x_29, .ref x_30, .int (nI x_31)])) = wrs (S o) from by rw [hS_o]; rfl)
  have hFr := ufs hFr e1 hT_o (by decide) hws
  have hS_o := us e1
  refine lv_aload_n hx hb dX12_fewest_5 rfl (lv_at hl 0 rfl) ?_
  refine lv_iload_n hx hb dX12_fewest_6 rfl (lv_at hl 1 rfl) ?_
  refine vp_callSi (va_Run.run (va_runV (As := [.int kd]) (rest := []) ⟨hx, hb, hml, hown, hT⟩ (m_isKind l dC dI cy L kap pr S_32 H.size o kd hTy hT_o) (cwV 1 hT (gV w1288 w1290 ws74 w14 w1291) rfl rfl rfl (by decide +kernel) ⟨(Nat.le_of_ble_eq_true rfl), (Nat.le_of_ble_eq_true rfl)⟩) ⟨pcN.blind, pl_recv hK hW hT_o.1 hS_o rfl, pcN.pre hW.1 hK hW.2.1 hN (fun q h => absurd h List.not_mem_nil)⟩ rfl rfl hl.1 rfl (lv_room (Nat.le_of_ble_eq_true rfl)) dX12_fewest_7 ⟨(Nat.le_of_ble_eq_true rfl), (Nat.le_of_ble_eq_true rfl)⟩)) (fun r_33 hr_33 => ?_)
  rcases hr_33 with hc_ | hc_
  · obtain rfl : r_33 = 0 := hc_
    refine lv_if_eq (tgt := 23) hx hb dX12_fewest_10 (by decide) (fun _ => ?_) (fun h => absurd (by decide) h)
    refine lv_bipush (v := (-2)) hx hb dX12_fewest_23 (by decide) ?_
    exact W.iret (v := (-2)) hx hb hr (fun t ht h9 => ⟨⟨(-2), S_32, rfl, ⟨hTy, hFr⟩, by rw [ht]; exact hW.1, va_K.moved h9.alike hK, hW.2.1⟩, hW.2.2.F ht⟩) hW.2.2.2.2 dX12_fewest_25
  · obtain ⟨rfl, k_34, hb_k_34, rfl⟩ := hc_
    refine lv_if_eq (tgt := 23) hx hb dX12_fewest_10 (by decide) (fun h => absurd h (by decide)) (fun _ => ?_)
    refine lv_iload_n hx hb dX12_fewest_13 rfl (lv_at hl 2 rfl) ?_
    refine lv_i2l hx hb dX12_fewest_14 rfl ?_
    refine lv_topl (fun z_35 ez_35 => ?_)
    refine lv_lconst (v := 0) hx hb dX12_fewest_15 (by decide) ?_
    refine lv_lconst (v := 1) hx hb dX12_fewest_16 (by decide) ?_
    refine vp_callSi (va_Run.run (va_runS (As := [.long z_35, .long 0, .long 1]) (rest := []) ⟨hx, hb, hml, hown, hT⟩ (m_isIn l dC dI H.size z_35 0 1) (va_cwS 3 hT (gS w1187 w1188 w14 w1189) rfl rfl rfl (by decide +kernel) ⟨(Nat.le_of_ble_eq_true rfl), (Nat.le_of_ble_eq_true rfl)⟩) ⟨pcW.blind, pcW.pre (va_P0 _ _ _) (hK.sub (tys' := []) [] rfl) (va_D0 (fun _ => True))⟩ rfl rfl hl.1 rfl (lv_room (Nat.le_of_ble_eq_true rfl)) dX12_fewest_17 ⟨(Nat.le_of_ble_eq_true rfl), (Nat.le_of_ble_eq_true rfl)⟩)) (fun r_36 hr_36 => ?_)
    rcases isInc hr_36 with hc_ | hc_
    · obtain ⟨rfl, hin_⟩ := hc_
      obtain ⟨k_37, hb_k_37, rfl⟩ := inK (H := 1) ez_35 hin_ (by decide) (by decide)
      refine lv_if_ne (tgt := 26) hx hb dX12_fewest_20 (by decide) (fun _ => ?_) (fun h => absurd h (by decide))
      refine lv_aload_n hx hb dX12_fewest_26 rfl (lv_at hl 0 rfl) ?_
      refine lv_iload_n hx hb dX12_fewest_27 rfl (lv_at hl 1 rfl) ?_
      refine lv_iconst (v := (-1)) hx hb dX12_fewest_28 (by decide) ?_
      refine pl_callv (va_runV (As := [.int (nI k_34), .int (-1)]) (rest := []) ⟨hx, hb, hml, hown, hT⟩ (m_laysFlows l dC dI cy L kap pr S_32 H.size o (nI k_34) (-1) hTy hT_o) (cwV 2 hT (gV w1336 w1338 ws78 w14 w1339) rfl rfl rfl (by decide +kernel) ⟨(Nat.le_of_ble_eq_true rfl), (Nat.le_of_ble_eq_true rfl)⟩) ⟨pcN.blind, pl_recv hK hW hT_o.1 hS_o rfl, pcN.pre hW.1 hK hW.2.1 hN (fun q h => absurd h List.not_mem_nil)⟩ rfl rfl hl.1 rfl (lv_room (Nat.le_of_ble_eq_true rfl)) dX12_fewest_29 ⟨(Nat.le_of_ble_eq_true rfl), (Nat.le_of_ble_eq_true rfl)⟩) hW hA0 hA (fun S_38 H locs hrel hW => ?_)
      obtain ⟨hTy, hF1⟩ := hrel
      have hFr := hFr.tr hF1 (by decide)
      have hS_o := hF1.at hT_o (by decide) hS_o
      refine lv_iconst (v := 0) hx hb dX12_fewest_32 (by decide) ?_
      refine lv_istore_n (lv' := [(3, .int 0), (0, .ref o), (1, .int (nI k_34)), (2, .int (nI k_37))]) hx hb dX12_fewest_33 rfl hl (by decide) rfl (fun ls hl => ?_)
      refine lv_iconst (v := 0) hx hb dX12_fewest_34 (by decide) ?_
      refine lv_istore (lv' := [(4, .int 0), (3, .int 0), (0, .ref o), (1, .int (nI k_34)), (2, .int (nI k_37))]) hx hb dX12_fewest_35 hl (by decide) rfl (fun ls hl => ?_)
      have loop : ∀ (fuel : Nat) (i : Nat) (al : Nat) (SS : Nat → va_E) (H : Heap) (locs : List Loc) (ls : Array Slot), 9 - i < fuel → (i ≤ 8) → (al ≤ 255) → Ty cy L kap pr SS → Fr kap [12, 56, 67] S SS → Fr kap [] S_38 SS → PW dC dI L (AL L s.heap.size) s.heap SS H locs → lv_has ls 7 [(4, .int (nI i)), (3, .int (nI al)), (0, .ref o), (1, .int (nI k_34)), (2, .int (nI k_37))] → W p l e (headSpec (wT yX12_fewest cX12_fewest 7 (some .int)) { frames := 3, cells := 0, slots := 0, locals := 67 }).room s m [.ref o, .int (nI k_34), .int (nI k_37)].toArray below meth c H locs 0 0 (MQ below (va_Qi (fun r S' => Ty cy L kap pr S' ∧ Fr kap [12, 56, 67] S S') (fun S' t => pB dC dI (AL L s.heap.size) (va_pl L S') (cyT cy) t) (AL L s.heap.size)) [.ref o, .int (nI k_34), .int (nI k_37)].toArray s 0 0 (AL L s.heap.size)) (F0 m 37 ls []) := by
        intro fuel
        induction fuel with
        | zero => intro i al SS H locs ls h; exact absurd h (Nat.not_lt_zero _)
        | succ fu37 ih37 =>
          intro i al S_39 H locs ls hm37 hb_i hb_al hTy hFr hFl37 hW hl
          have hS_o := hFl37.at hT_o (by decide) hS_o
          refine lv_iload hx hb dX12_fewest_37 (lv_at hl 0 rfl) ?_
          refine lv_aload_n hx hb dX12_fewest_39 rfl (lv_at hl 2 rfl) ?_
          refine pl_get (ci := 12) (v := .int (nI x_6)) (C := RX12) (T := TX12) (N := 32) hx hb hT iX12 hown hK hW hT_o.1 hS_o rfl 5 (by decide) w1087 rfl dX12_fewest_40 ?_
          refine lv_icmp_ge (tgt := 72) hx hb dX12_fewest_43 (by decide) (fun c_43 => ?_) (fun c_43 => ?_)
          · have c_43 : x_6 ≤ i := (nI_leI (a := x_6) (b := i) (by omega) (by omega)).mp c_43
            refine lv_aload_n hx hb dX12_fewest_72 rfl (lv_at hl 2 rfl) ?_
            refine pl_get (ci := 12) (v := .ref x_29) (C := RX12) (T := TX12) (N := 32) hx hb hT iX12 hown hK hW hT_o.1 hS_o rfl 29 (by decide) w1111 rfl dX12_fewest_73 ?_
            refine lv_iconst (v := 0) hx hb dX12_fewest_76 (by decide) ?_
            refine lv_iconst (v := 0) hx hb dX12_fewest_77 (by decide) ?_
            obtain ⟨f_40, hS_x_29⟩ := hTy.k67 hT_x_29
            refine pl_iast hx hb hK hW hT_x_29.1 hS_x_29 (vp_in_nI (n := 0) (N := 256) (by omega) (by omega)) dX12_fewest_78 (fun H locs f_42 S_41 ef_f_42 e1 hW => ?_)
            have hTy := hTy.u67 e1 hT_x_29 ⟨f_42, rfl⟩
            have hS_o := un e1 hT_o hT_x_29 (by decide) hS_o
            have hFr := uf hFr e1 hT_x_29 (by decide) (by decide)
            have hS_x_29 := us e1
            refine lv_iconst (v := 1) hx hb dX12_fewest_79 (by decide) ?_
            refine lv_istore (lv' := [(4, .int 1), (3, .int (nI al)), (0, .ref o), (1, .int (nI k_34)), (2, .int (nI k_37))]) hx hb dX12_fewest_80 hl (by decide) rfl (fun ls hl => ?_)
            have loop : ∀ (fuel : Nat) (st : Nat) (SS : Nat → va_E) (H : Heap) (locs : List Loc) (ls : Array Slot), 257 - st < fuel → (st ≤ 256) → Ty cy L kap pr SS → Fr kap [12, 56, 67] S SS → Fr kap [67] S_41 SS → PW dC dI L (AL L s.heap.size) s.heap SS H locs → lv_has ls 7 [(4, .int (nI st)), (3, .int (nI al)), (0, .ref o), (1, .int (nI k_34)), (2, .int (nI k_37))] → W p l e (headSpec (wT yX12_fewest cX12_fewest 7 (some .int)) { frames := 3, cells := 0, slots := 0, locals := 67 }).room s m [.ref o, .int (nI k_34), .int (nI k_37)].toArray below meth c H locs 0 0 (MQ below (va_Qi (fun r S' => Ty cy L kap pr S' ∧ Fr kap [12, 56, 67] S S') (fun S' t => pB dC dI (AL L s.heap.size) (va_pl L S') (cyT cy) t) (AL L s.heap.size)) [.ref o, .int (nI k_34), .int (nI k_37)].toArray s 0 0 (AL L s.heap.size)) (F0 m 82 ls []) := by
              intro fuel
              induction fuel with
              | zero => intro st SS H locs ls h; exact absurd h (Nat.not_lt_zero _)
              | succ fu82 ih82 =>
                intro st S_43 H locs ls hm82 hb_st hTy hFr hFl82 hW hl
                have hS_o := hFl82.at hT_o (by decide) hS_o
                refine lv_iload hx hb dX12_fewest_82 (lv_at hl 0 rfl) ?_
                refine lv_iload_n hx hb dX12_fewest_84 rfl (lv_at hl 1 rfl) ?_
                refine lv_icmp_gt (tgt := 216) hx hb dX12_fewest_85 (by decide) (fun c_85 => ?_) (fun c_85 => ?_)
                · have c_85 : al < st := (nI_ltI (a := al) (b := st) (by omega) (by omega)).mp c_85
                  refine lv_iload_n hx hb dX12_fewest_216 rfl (lv_at hl 4 rfl) ?_
                  refine lv_iconst (v := 1) hx hb dX12_fewest_217 (by decide) ?_
                  refine lv_icmp_ne (tgt := 230) hx hb dX12_fewest_218 (by decide) (fun c_218 => ?_) (fun c_218 => ?_)
                  · have c_218 : ¬ (k_37 = 1) := fun hh9 => c_218 ((nI_eq (a := k_37) (b := 1) (by omega) (by omega)).mpr hh9)
                    refine lv_iload_n hx hb dX12_fewest_230 rfl (lv_at hl 1 rfl) ?_
                    refine vp_callSi (va_Run.run (va_runS (As := [.int (nI al)]) (rest := []) ⟨hx, hb, hml, hown, hT⟩ (s_bitCount l dC dI H.size (nI al)) (va_cwS 1 hT (gS w1369 w883 w21 w884) rfl rfl rfl (by decide +kernel) ⟨(Nat.le_of_ble_eq_true rfl), (Nat.le_of_ble_eq_true rfl)⟩) ⟨pcW.blind, pcW.pre (va_P0 _ _ _) (hK.sub (tys' := []) [] rfl) (va_D0 (fun _ => True))⟩ rfl rfl hl.1 rfl (lv_room (Nat.le_of_ble_eq_true rfl)) dX12_fewest_231 ⟨(Nat.le_of_ble_eq_true rfl), (Nat.le_of_ble_eq_true rfl)⟩)) (fun r_44 hr_44 => ?_)
                    refine lv_aload_n hx hb dX12_fewest_234 rfl (lv_at hl 2 rfl) ?_
                    refine pl_get (ci := 12) (v := .ref x_29) (C := RX12) (T := TX12) (N := 32) hx hb hT iX12 hown hK hW hT_o.1 hS_o rfl 29 (by decide) w1111 rfl dX12_fewest_235 ?_
                    refine lv_iload_n hx hb dX12_fewest_238 rfl (lv_at hl 1 rfl) ?_
                    obtain ⟨f_45, hS_x_29⟩ := hTy.k67 hT_x_29
                    refine pl_iald hx hb hK hW hT_x_29.1 hS_x_29 (vp_in_nI (n := al) (N := 256) (by omega) (by omega)) dX12_fewest_239 ?_
                    refine lv_topi (fun y_46 ey_46 => ?_)
                    refine lv_isub hx hb dX12_fewest_240 ?_
                    refine lv_topi (fun z_47 ez_47 => ?_)
                    exact W.iret (v := z_47) hx hb hr (fun t ht h9 => ⟨⟨z_47, S_43, rfl, ⟨hTy, hFr⟩, by rw [ht]; exact hW.1, va_K.moved h9.alike hK, hW.2.1⟩, hW.2.2.F ht⟩) hW.2.2.2.2 dX12_fewest_241
                  · have c_218 : k_37 = 1 := (nI_eq (a := k_37) (b := 1) (by omega) (by omega)).mp c_218
                    refine lv_aload_n hx hb dX12_fewest_221 rfl (lv_at hl 2 rfl) ?_
                    refine pl_get (ci := 12) (v := .ref x_29) (C := RX12) (T := TX12) (N := 32) hx hb hT iX12 hown hK hW hT_o.1 hS_o rfl 29 (by decide) w1111 rfl dX12_fewest_222 ?_
                    refine lv_iload_n hx hb dX12_fewest_225 rfl (lv_at hl 1 rfl) ?_
                    obtain ⟨f_48, hS_x_29⟩ := hTy.k67 hT_x_29
                    refine pl_iald hx hb hK hW hT_x_29.1 hS_x_29 (vp_in_nI (n := al) (N := 256) (by omega) (by omega)) dX12_fewest_226 ?_
                    refine lv_topi (fun y_49 ey_49 => ?_)
                    refine lv_goto (tgt := 241) hx hb dX12_fewest_227 (by decide) ?_
                    exact W.iret (v := y_49) hx hb hr (fun t ht h9 => ⟨⟨y_49, S_43, rfl, ⟨hTy, hFr⟩, by rw [ht]; exact hW.1, va_K.moved h9.alike hK, hW.2.1⟩, hW.2.2.F ht⟩) hW.2.2.2.2 dX12_fewest_241
                · have c_85 : ¬ (al < st) := fun hh9 => c_85 ((nI_ltI (a := al) (b := st) (by omega) (by omega)).mpr hh9)
                  refine lv_aload_n hx hb dX12_fewest_88 rfl (lv_at hl 2 rfl) ?_
                  refine pl_get (ci := 12) (v := .ref x_29) (C := RX12) (T := TX12) (N := 32) hx hb hT iX12 hown hK hW hT_o.1 hS_o rfl 29 (by decide) w1111 rfl dX12_fewest_89 ?_
                  refine lv_iload hx hb dX12_fewest_92 (lv_at hl 0 rfl) ?_
                  refine lv_iconst (v := 0) hx hb dX12_fewest_94 (by decide) ?_
                  obtain ⟨f_50, hS_x_29⟩ := hTy.k67 hT_x_29
                  refine pl_iast hx hb hK hW hT_x_29.1 hS_x_29 (vp_in_nI (n := st) (N := 256) (by omega) (by omega)) dX12_fewest_95 (fun H locs f_52 S_51 ef_f_52 e1 hW => ?_)
                  have hTy := hTy.u67 e1 hT_x_29 ⟨f_52, rfl⟩
                  have hS_o := un e1 hT_o hT_x_29 (by decide) hS_o
                  have hFr := uf hFr e1 hT_x_29 (by decide) (by decide)
                  have hFl82 := uf hFl82 e1 hT_x_29 (by decide) (by decide)
                  have hS_x_29 := us e1
                  refine lv_iload hx hb dX12_fewest_96 (lv_at hl 0 rfl) ?_
                  refine lv_iload_n hx hb dX12_fewest_98 rfl (lv_at hl 1 rfl) ?_
                  refine lv_iconst (v := (-1)) hx hb dX12_fewest_99 (by decide) ?_
                  refine lv_ixor hx hb dX12_fewest_100 ?_
                  refine lv_topi (fun z_53 ez_53 => ?_)
                  refine lv_iand hx hb dX12_fewest_101 ?_
                  refine lv_topi (fun z_54 ez_54 => ?_)
                  obtain ⟨k_55, hb_k_55, hq_k_55⟩ := andN (t := st) (by omega) z_53
                  obtain rfl : z_54 = nI k_55 := ez_54.trans hq_k_55
                  refine lv_if_eq (tgt := 108) hx hb dX12_fewest_102 (by decide) (fun c_102 => ?_) (fun c_102 => ?_)
                  · have c_102 : k_55 = 0 := (nI_eq (a := k_55) (b := 0) (by omega) (by omega)).mp c_102
                    refine lv_iconst (v := 0) hx hb dX12_fewest_108 (by decide) ?_
                    refine lv_istore (lv' := [(5, .int 0), (4, .int (nI st)), (3, .int (nI al)), (0, .ref o), (1, .int (nI k_34)), (2, .int (nI k_37))]) hx hb dX12_fewest_109 hl (by decide) rfl (fun ls hl => ?_)
                    have loop : ∀ (fuel : Nat) (i2 : Nat) (SS : Nat → va_E) (H : Heap) (locs : List Loc) (ls : Array Slot), 9 - i2 < fuel → (i2 ≤ 8) → Ty cy L kap pr SS → Fr kap [12, 56, 67] S SS → Fr kap [67] S_51 SS → PW dC dI L (AL L s.heap.size) s.heap SS H locs → lv_has ls 7 [(5, .int (nI i2)), (4, .int (nI st)), (3, .int (nI al)), (0, .ref o), (1, .int (nI k_34)), (2, .int (nI k_37))] → W p l e (headSpec (wT yX12_fewest cX12_fewest 7 (some .int)) { frames := 3, cells := 0, slots := 0, locals := 67 }).room s m [.ref o, .int (nI k_34), .int (nI k_37)].toArray below meth c H locs 0 0 (MQ below (va_Qi (fun r S' => Ty cy L kap pr S' ∧ Fr kap [12, 56, 67] S S') (fun S' t => pB dC dI (AL L s.heap.size) (va_pl L S') (cyT cy) t) (AL L s.heap.size)) [.ref o, .int (nI k_34), .int (nI k_37)].toArray s 0 0 (AL L s.heap.size)) (F0 m 111 ls []) := by
                      intro fuel
                      induction fuel with
                      | zero => intro i2 SS H locs ls h; exact absurd h (Nat.not_lt_zero _)
                      | succ fu111 ih111 =>
                        intro i2 S_56 H locs ls hm111 hb_i2 hTy hFr hFl111 hW hl
                        have hS_o := hFl111.at hT_o (by decide) hS_o
                        have hFl82 := hFl82.tr hFl111 (by decide)
                        refine lv_iload hx hb dX12_fewest_111 (lv_at hl 0 rfl) ?_
                        refine lv_aload_n hx hb dX12_fewest_113 rfl (lv_at hl 3 rfl) ?_
                        refine pl_get (ci := 12) (v := .int (nI x_6)) (C := RX12) (T := TX12) (N := 32) hx hb hT iX12 hown hK hW hT_o.1 hS_o rfl 5 (by decide) w1087 rfl dX12_fewest_114 ?_
                        refine lv_icmp_ge (tgt := 186) hx hb dX12_fewest_117 (by decide) (fun c_117 => ?_) (fun c_117 => ?_)
                        · have c_117 : x_6 ≤ i2 := (nI_leI (a := x_6) (b := i2) (by omega) (by omega)).mp c_117
                          refine lv_aload_n hx hb dX12_fewest_186 rfl (lv_at hl 3 rfl) ?_
                          refine pl_get (ci := 12) (v := .ref x_29) (C := RX12) (T := TX12) (N := 32) hx hb hT iX12 hown hK hW hT_o.1 hS_o rfl 29 (by decide) w1111 rfl dX12_fewest_187 ?_
                          refine lv_iload hx hb dX12_fewest_190 (lv_at hl 1 rfl) ?_
                          refine lv_dup2_11 hx hb dX12_fewest_192 rfl rfl ?_
                          obtain ⟨f_57, hS_x_29⟩ := hTy.k67 hT_x_29
                          refine pl_iald hx hb hK hW hT_x_29.1 hS_x_29 (vp_in_nI (n := st) (N := 256) (by omega) (by omega)) dX12_fewest_193 ?_
                          refine lv_topi (fun y_58 ey_58 => ?_)
                          refine lv_aload_n hx hb dX12_fewest_194 rfl (lv_at hl 3 rfl) ?_
                          refine lv_iload hx hb dX12_fewest_195 (lv_at hl 1 rfl) ?_
                          refine vp_callSi (va_Run.run (va_runV (As := [.int (nI st)]) (rest := [.int y_58, .int (nI st), .ref x_29]) ⟨hx, hb, hml, hown, hT⟩ (m_sumBy l dC dI cy L kap pr S_56 H.size o (nI st) hTy hT_o) (cwV 1 hT (gV w1555 w1557 ws106 w14 w1558) rfl rfl rfl (by decide +kernel) ⟨(Nat.le_of_ble_eq_true rfl), (Nat.le_of_ble_eq_true rfl)⟩) ⟨pcN.blind, pl_recv hK hW hT_o.1 hS_o rfl, pcN.pre hW.1 hK hW.2.1 hN (fun q h => absurd h List.not_mem_nil)⟩ rfl rfl hl.1 rfl (lv_room (Nat.le_of_ble_eq_true rfl)) dX12_fewest_197 ⟨(Nat.le_of_ble_eq_true rfl), (Nat.le_of_ble_eq_true rfl)⟩)) (fun r_59 hr_59 => ?_)
                          refine lv_if_ne (tgt := 207) hx hb dX12_fewest_200 (by decide) (fun c_200 => ?_) (fun c_200 => ?_)
                          · refine lv_iconst (v := 0) hx hb dX12_fewest_207 (by decide) ?_
                            refine lv_iadd hx hb dX12_fewest_208 ?_
                            refine lv_topi (fun z_60 ez_60 => ?_)
                            refine pl_iast hx hb hK hW hT_x_29.1 hS_x_29 (vp_in_nI (n := st) (N := 256) (by omega) (by omega)) dX12_fewest_209 (fun H locs f_62 S_61 ef_f_62 e1 hW => ?_)
                            have hTy := hTy.u67 e1 hT_x_29 ⟨f_62, rfl⟩
                            have hS_o := un e1 hT_o hT_x_29 (by decide) hS_o
                            have hFr := uf hFr e1 hT_x_29 (by decide) (by decide)
                            have hFl82 := uf hFl82 e1 hT_x_29 (by decide) (by decide)
                            have hFl111 := uf hFl111 e1 hT_x_29 (by decide) (by decide)
                            have hS_x_29 := us e1
                            refine lv_iinc (v := nI (st + 1)) (lv' := [(4, .int (nI (st + 1))), (5, .int (nI i2)), (3, .int (nI al)), (0, .ref o), (1, .int (nI k_34)), (2, .int (nI k_37))]) hx hb dX12_fewest_210 hl (k := 1) rfl (nI_add (st) 1) (by decide) rfl (fun ls hl => ?_)
                            refine lv_goto (tgt := 82) hx hb dX12_fewest_213 (by decide) ?_
                            exact ih82 (st + 1) _ _ _ ls (by omega) (by omega) hTy hFr hFl82 hW (lv_sub hl [0, 2, 3, 4, 5] rfl)
                          · refine lv_iconst (v := 1) hx hb dX12_fewest_203 (by decide) ?_
                            refine lv_goto (tgt := 208) hx hb dX12_fewest_204 (by decide) ?_
                            refine lv_iadd hx hb dX12_fewest_208 ?_
                            refine lv_topi (fun z_63 ez_63 => ?_)
                            refine pl_iast hx hb hK hW hT_x_29.1 hS_x_29 (vp_in_nI (n := st) (N := 256) (by omega) (by omega)) dX12_fewest_209 (fun H locs f_65 S_64 ef_f_65 e1 hW => ?_)
                            have hTy := hTy.u67 e1 hT_x_29 ⟨f_65, rfl⟩
                            have hS_o := un e1 hT_o hT_x_29 (by decide) hS_o
                            have hFr := uf hFr e1 hT_x_29 (by decide) (by decide)
                            have hFl82 := uf hFl82 e1 hT_x_29 (by decide) (by decide)
                            have hFl111 := uf hFl111 e1 hT_x_29 (by decide) (by decide)
                            have hS_x_29 := us e1
                            refine lv_iinc (v := nI (st + 1)) (lv' := [(4, .int (nI (st + 1))), (5, .int (nI i2)), (3, .int (nI al)), (0, .ref o), (1, .int (nI k_34)), (2, .int (nI k_37))]) hx hb dX12_fewest_210 hl (k := 1) rfl (nI_add (st) 1) (by decide) rfl (fun ls hl => ?_)
                            refine lv_goto (tgt := 82) hx hb dX12_fewest_213 (by decide) ?_
                            exact ih82 (st + 1) _ _ _ ls (by omega) (by omega) hTy hFr hFl82 hW (lv_sub hl [0, 2, 3, 4, 5] rfl)
                        · have c_117 : ¬ (x_6 ≤ i2) := fun hh9 => c_117 ((nI_leI (a := x_6) (b := i2) (by omega) (by omega)).mpr hh9)
                          refine lv_iload hx hb dX12_fewest_120 (lv_at hl 1 rfl) ?_
                          refine lv_iload hx hb dX12_fewest_122 (lv_at hl 0 rfl) ?_
                          refine lv_ishr hx hb dX12_fewest_124 ?_
                          refine lv_topi (fun z_66 ez_66 => ?_)
                          refine lv_iconst (v := 1) hx hb dX12_fewest_125 (by decide) ?_
                          refine lv_iand hx hb dX12_fewest_126 ?_
                          refine lv_topi (fun z_67 ez_67 => ?_)
                          refine lv_if_ne (tgt := 133) hx hb dX12_fewest_127 (by decide) (fun c_127 => ?_) (fun c_127 => ?_)
                          · refine lv_aload_n hx hb dX12_fewest_133 rfl (lv_at hl 3 rfl) ?_
                            refine pl_get (ci := 12) (v := .ref x_29) (C := RX12) (T := TX12) (N := 32) hx hb hT iX12 hown hK hW hT_o.1 hS_o rfl 29 (by decide) w1111 rfl dX12_fewest_134 ?_
                            refine lv_iload hx hb dX12_fewest_137 (lv_at hl 1 rfl) ?_
                            refine lv_iconst (v := 1) hx hb dX12_fewest_139 (by decide) ?_
                            refine lv_iload hx hb dX12_fewest_140 (lv_at hl 0 rfl) ?_
                            refine lv_ishl hx hb dX12_fewest_142 ?_
                            refine lv_topi (fun z_68 ez_68 => ?_)
                            refine lv_iconst (v := (-1)) hx hb dX12_fewest_143 (by decide) ?_
                            refine lv_ixor hx hb dX12_fewest_144 ?_
                            refine lv_topi (fun z_69 ez_69 => ?_)
                            refine lv_iand hx hb dX12_fewest_145 ?_
                            refine lv_topi (fun z_70 ez_70 => ?_)
                            obtain ⟨k_71, hb_k_71, hq_k_71⟩ := andN (t := st) (by omega) z_69
                            obtain rfl : z_70 = nI k_71 := ez_70.trans hq_k_71
                            obtain ⟨f_72, hS_x_29⟩ := hTy.k67 hT_x_29
                            refine pl_iald hx hb hK hW hT_x_29.1 hS_x_29 (vp_in_nI (n := k_71) (N := 256) (by omega) (by omega)) dX12_fewest_146 ?_
                            refine lv_topi (fun y_73 ey_73 => ?_)
                            refine lv_istore (lv' := [(6, .int y_73), (5, .int (nI i2)), (4, .int (nI st)), (3, .int (nI al)), (0, .ref o), (1, .int (nI k_34)), (2, .int (nI k_37))]) hx hb dX12_fewest_147 hl (by decide) rfl (fun ls hl => ?_)
                            refine lv_aload_n hx hb dX12_fewest_149 rfl (lv_at hl 4 rfl) ?_
                            refine pl_get (ci := 12) (v := .ref x_29) (C := RX12) (T := TX12) (N := 32) hx hb hT iX12 hown hK hW hT_o.1 hS_o rfl 29 (by decide) w1111 rfl dX12_fewest_150 ?_
                            refine lv_iload hx hb dX12_fewest_153 (lv_at hl 2 rfl) ?_
                            refine lv_iload hx hb dX12_fewest_155 (lv_at hl 0 rfl) ?_
                            refine lv_aload_n hx hb dX12_fewest_157 rfl (lv_at hl 4 rfl) ?_
                            refine pl_get (ci := 12) (v := .ref x_29) (C := RX12) (T := TX12) (N := 32) hx hb hT iX12 hown hK hW hT_o.1 hS_o rfl 29 (by decide) w1111 rfl dX12_fewest_158 ?_
                            refine lv_iload hx hb dX12_fewest_161 (lv_at hl 2 rfl) ?_
                            refine pl_iald hx hb hK hW hT_x_29.1 hS_x_29 (vp_in_nI (n := st) (N := 256) (by omega) (by omega)) dX12_fewest_163 ?_
                            refine lv_topi (fun y_74 ey_74 => ?_)
                            refine lv_icmp_le (tgt := 172) hx hb dX12_fewest_164 (by decide) (fun c_164 => ?_) (fun c_164 => ?_)
                            · refine lv_aload_n hx hb dX12_fewest_172 rfl (lv_at hl 4 rfl) ?_
                              refine pl_get (ci := 12) (v := .ref x_29) (C := RX12) (T := TX12) (N := 32) hx hb hT iX12 hown hK hW hT_o.1 hS_o rfl 29 (by decide) w1111 rfl dX12_fewest_173 ?_
                              refine lv_iload hx hb dX12_fewest_176 (lv_at hl 2 rfl) ?_
                              refine pl_iald hx hb hK hW hT_x_29.1 hS_x_29 (vp_in_nI (n := st) (N := 256) (by omega) (by omega)) dX12_fewest_178 ?_
                              refine lv_topi (fun y_75 ey_75 => ?_)
                              refine pl_iast hx hb hK hW hT_x_29.1 hS_x_29 (vp_in_nI (n := st) (N := 256) (by omega) (by omega)) dX12_fewest_179 (fun H locs f_77 S_76 ef_f_77 e1 hW => ?_)
                              have hTy := hTy.u67 e1 hT_x_29 ⟨f_77, rfl⟩
                              have hS_o := un e1 hT_o hT_x_29 (by decide) hS_o
                              have hFr := uf hFr e1 hT_x_29 (by decide) (by decide)
                              have hFl82 := uf hFl82 e1 hT_x_29 (by decide) (by decide)
                              have hFl111 := uf hFl111 e1 hT_x_29 (by decide) (by decide)
                              have hS_x_29 := us e1
                              refine lv_iinc (v := nI (i2 + 1)) (lv' := [(5, .int (nI (i2 + 1))), (6, .int y_73), (4, .int (nI st)), (3, .int (nI al)), (0, .ref o), (1, .int (nI k_34)), (2, .int (nI k_37))]) hx hb dX12_fewest_180 hl (k := 1) rfl (nI_add (i2) 1) (by decide) rfl (fun ls hl => ?_)
                              refine lv_goto (tgt := 111) hx hb dX12_fewest_183 (by decide) ?_
                              exact ih111 (i2 + 1) _ _ _ ls (by omega) (by omega) hTy hFr hFl111 hW (lv_sub hl [0, 2, 3, 4, 5, 6] rfl)
                            · refine lv_iload hx hb dX12_fewest_167 (lv_at hl 0 rfl) ?_
                              refine lv_goto (tgt := 179) hx hb dX12_fewest_169 (by decide) ?_
                              refine pl_iast hx hb hK hW hT_x_29.1 hS_x_29 (vp_in_nI (n := st) (N := 256) (by omega) (by omega)) dX12_fewest_179 (fun H locs f_79 S_78 ef_f_79 e1 hW => ?_)
                              have hTy := hTy.u67 e1 hT_x_29 ⟨f_79, rfl⟩
                              have hS_o := un e1 hT_o hT_x_29 (by decide) hS_o
                              have hFr := uf hFr e1 hT_x_29 (by decide) (by decide)
                              have hFl82 := uf hFl82 e1 hT_x_29 (by decide) (by decide)
                              have hFl111 := uf hFl111 e1 hT_x_29 (by decide) (by decide)
                              have hS_x_29 := us e1
                              refine lv_iinc (v := nI (i2 + 1)) (lv' := [(5, .int (nI (i2 + 1))), (6, .int y_73), (4, .int (nI st)), (3, .int (nI al)), (0, .ref o), (1, .int (nI k_34)), (2, .int (nI k_37))]) hx hb dX12_fewest_180 hl (k := 1) rfl (nI_add (i2) 1) (by decide) rfl (fun ls hl => ?_)
                              refine lv_goto (tgt := 111) hx hb dX12_fewest_183 (by decide) ?_
                              exact ih111 (i2 + 1) _ _ _ ls (by omega) (by omega) hTy hFr hFl111 hW (lv_sub hl [0, 2, 3, 4, 5, 6] rfl)
                          · refine lv_goto (tgt := 180) hx hb dX12_fewest_130 (by decide) ?_
                            refine lv_iinc (v := nI (i2 + 1)) (lv' := [(5, .int (nI (i2 + 1))), (4, .int (nI st)), (3, .int (nI al)), (0, .ref o), (1, .int (nI k_34)), (2, .int (nI k_37))]) hx hb dX12_fewest_180 hl (k := 0) rfl (nI_add (i2) 1) (by decide) rfl (fun ls hl => ?_)
                            refine lv_goto (tgt := 111) hx hb dX12_fewest_183 (by decide) ?_
                            exact ih111 (i2 + 1) _ _ _ ls (by omega) (by omega) hTy hFr hFl111 hW (lv_sub hl [0, 1, 2, 3, 4, 5] rfl)
                    exact loop ((9 - 0) + 1) 0 _ _ _ ls (Nat.lt_succ_self _) (by omega) hTy hFr Fr.rf hW (lv_sub hl [0, 1, 2, 3, 4, 5] rfl)
                  · have c_102 : ¬ (k_55 = 0) := fun hh9 => c_102 ((nI_eq (a := k_55) (b := 0) (by omega) (by omega)).mpr hh9)
                    refine lv_goto (tgt := 210) hx hb dX12_fewest_105 (by decide) ?_
                    refine lv_iinc (v := nI (st + 1)) (lv' := [(4, .int (nI (st + 1))), (3, .int (nI al)), (0, .ref o), (1, .int (nI k_34)), (2, .int (nI k_37))]) hx hb dX12_fewest_210 hl (k := 0) rfl (nI_add (st) 1) (by decide) rfl (fun ls hl => ?_)
                    refine lv_goto (tgt := 82) hx hb dX12_fewest_213 (by decide) ?_
                    exact ih82 (st + 1) _ _ _ ls (by omega) (by omega) hTy hFr hFl82 hW (lv_sub hl [0, 1, 2, 3, 4] rfl)
            exact loop ((257 - 1) + 1) 1 _ _ _ ls (Nat.lt_succ_self _) (by omega) hTy hFr Fr.rf hW (lv_sub hl [0, 1, 2, 3, 4] rfl)
          · have c_43 : ¬ (x_6 ≤ i) := fun hh9 => c_43 ((nI_leI (a := x_6) (b := i) (by omega) (by omega)).mpr hh9)
            refine lv_iload_n hx hb dX12_fewest_46 rfl (lv_at hl 1 rfl) ?_
            refine lv_aload_n hx hb dX12_fewest_47 rfl (lv_at hl 2 rfl) ?_
            refine lv_iload hx hb dX12_fewest_48 (lv_at hl 0 rfl) ?_
            refine vp_callSi (va_Run.run (va_runV (As := [.int (nI i)]) (rest := [.int (nI al)]) ⟨hx, hb, hml, hown, hT⟩ (m_netBy l dC dI cy L kap pr S_39 H.size o i hTy hT_o (by omega)) (cwV 1 hT (gV w1356 w1358 ws81 w14 w1359) rfl rfl rfl (by decide +kernel) ⟨(Nat.le_of_ble_eq_true rfl), (Nat.le_of_ble_eq_true rfl)⟩) ⟨pcN.blind, pl_recv hK hW hT_o.1 hS_o rfl, pcN.pre hW.1 hK hW.2.1 hN (fun q h => absurd h List.not_mem_nil)⟩ rfl rfl hl.1 rfl (lv_room (Nat.le_of_ble_eq_true rfl)) dX12_fewest_50 ⟨(Nat.le_of_ble_eq_true rfl), (Nat.le_of_ble_eq_true rfl)⟩)) (fun r_80 hr_80 => ?_)
            refine lv_if_eq (tgt := 63) hx hb dX12_fewest_53 (by decide) (fun c_53 => ?_) (fun c_53 => ?_)
            · refine lv_iconst (v := 0) hx hb dX12_fewest_63 (by decide) ?_
              refine lv_ior hx hb dX12_fewest_64 ?_
              refine lv_topi (fun z_81 ez_81 => ?_)
              obtain ⟨c_82, hb_c_82, hq_c_82⟩ := or_b (a := al) (b := 0) (by omega) (by omega)
              obtain rfl : z_81 = nI c_82 := ez_81.trans hq_c_82
              refine lv_istore_n (lv' := [(3, .int (nI c_82)), (4, .int (nI i)), (0, .ref o), (1, .int (nI k_34)), (2, .int (nI k_37))]) hx hb dX12_fewest_65 rfl hl (by decide) rfl (fun ls hl => ?_)
              refine lv_iinc (v := nI (i + 1)) (lv' := [(4, .int (nI (i + 1))), (3, .int (nI c_82)), (0, .ref o), (1, .int (nI k_34)), (2, .int (nI k_37))]) hx hb dX12_fewest_66 hl (k := 1) rfl (nI_add (i) 1) (by decide) rfl (fun ls hl => ?_)
              refine lv_goto (tgt := 37) hx hb dX12_fewest_69 (by decide) ?_
              exact ih37 (i + 1) c_82 _ _ _ ls (by omega) (by omega) (by omega) hTy hFr hFl37 hW (lv_sub hl [0, 1, 2, 3, 4] rfl)
            · refine lv_iconst (v := 1) hx hb dX12_fewest_56 (by decide) ?_
              refine lv_iload hx hb dX12_fewest_57 (lv_at hl 0 rfl) ?_
              refine lv_ishl hx hb dX12_fewest_59 ?_
              refine lv_topi (fun z_83 ez_83 => ?_)
              refine lv_goto (tgt := 64) hx hb dX12_fewest_60 (by decide) ?_
              refine lv_ior hx hb dX12_fewest_64 ?_
              refine lv_topi (fun z_84 ez_84 => ?_)
              obtain ⟨c0_, hc0_, hs0_⟩ := sh_b (p := i) (by omega)
              obtain ⟨c_85, hb_c_85, hq_c_85⟩ := or_b (a := al) (b := c0_) (by omega) hc0_
              obtain rfl : z_84 = nI c_85 := ez_84.trans (by rw [ez_83, hs0_]; exact hq_c_85)
              refine lv_istore_n (lv' := [(3, .int (nI c_85)), (4, .int (nI i)), (0, .ref o), (1, .int (nI k_34)), (2, .int (nI k_37))]) hx hb dX12_fewest_65 rfl hl (by decide) rfl (fun ls hl => ?_)
              refine lv_iinc (v := nI (i + 1)) (lv' := [(4, .int (nI (i + 1))), (3, .int (nI c_85)), (0, .ref o), (1, .int (nI k_34)), (2, .int (nI k_37))]) hx hb dX12_fewest_66 hl (k := 1) rfl (nI_add (i) 1) (by decide) rfl (fun ls hl => ?_)
              refine lv_goto (tgt := 37) hx hb dX12_fewest_69 (by decide) ?_
              exact ih37 (i + 1) c_85 _ _ _ ls (by omega) (by omega) (by omega) hTy hFr hFl37 hW (lv_sub hl [0, 1, 2, 3, 4] rfl)
      exact loop ((9 - 0) + 1) 0 0 _ _ _ ls (Nat.lt_succ_self _) (by omega) (by omega) hTy hFr Fr.rf hW (lv_sub hl [0, 1, 2, 3, 4] rfl)
    · obtain ⟨rfl, hin_⟩ := hc_
      refine lv_if_ne (tgt := 26) hx hb dX12_fewest_20 (by decide) (fun h => absurd (by decide) h) (fun _ => ?_)
      refine lv_bipush (v := (-2)) hx hb dX12_fewest_23 (by decide) ?_
      exact W.iret (v := (-2)) hx hb hr (fun t ht h9 => ⟨⟨(-2), S_32, rfl, ⟨hTy, hFr⟩, by rw [ht]; exact hW.1, va_K.moved h9.alike hK, hW.2.1⟩, hW.2.2.F ht⟩) hW.2.2.2.2 dX12_fewest_25

set_option maxHeartbeats 4000000 in
set_option maxRecDepth 100000 in
theorem m_puts (l : Launch) (dC : Nat → ClassId) (dI : Nat → Nat → Nat) (cy : Nat → ClassId) (L : List Nat) (kap : Nat → Nat) (pr : Pr) (S : Nat → va_E) (sz : Nat) (o : Nat) (ch : Int32) (hTy : Ty cy L kap pr S) (hT_o : TK L kap o 12) (bm : Nat) (hbm : inf (S o) 31 = nI bm) (hbl : bm + 1 ≤ 48) : Met l yX12_puts (wT yX12_puts cX12_puts 2 none) ({ frames := 0, cells := 0, slots := 0, locals := 0 }) (pcN dC dI [.ref o, .int ch] sz (va_pl L S) (cyT cy) NLs []) (va_Qv (fun S' => Ty cy L kap pr S' ∧ Fr kap [12, 68] S S' ∧ (inf (S' o) 31 = nI (bm + 1))) (fun S' t => pB dC dI (AL L sz) (va_pl L S') (cyT cy) t) (AL L sz)) 0 0 (AL L sz) := by
  refine Met.ofW (cc := cX12_puts) (maxL := 2) (ret := none) (by decide) rfl ?_
  intro p e s m args below meth c s₁ B hml hv
  obtain ⟨rfl, hsz, hP, hK, hD0, hN, -⟩ := hv
  have hx := B.exec
  have hb := B.bytes
  have hr := B.returns
  have hT : ∀ wd ∈ TB, wd.before [.ref o, .int ch].toArray s = true := fun wd h => atoms_spec (ws := wT yX12_puts cX12_puts 2 none) B.pre wd (List.mem_cons_of_mem _ h)
  have hown : s.vm.findClass RX12 = some m.cls := findClass_of_methodNamed B.named
  have hlocks := B.notSynchronized
  subst hsz
  have hW : PW dC dI L (AL L s.heap.size) s.heap S s.heap [] := ⟨hP, pl_self hD0, va_S.rf⟩
  have hA0 : ∀ q, q ∈ L → AL L s.heap.size q := fun _ h => Or.inl h
  have hA : ∀ q, s.heap.size ≤ q → AL L s.heap.size q := fun _ h => Or.inr h
  have hFr : Fr kap [12, 68] S S := Fr.rf
  have hl := lv_entry ([.ref o, .int ch]) (n := 2) (Nat.le_of_ble_eq_true rfl)
  rw [lg_entry_eq]
  generalize (lg_sl ([.ref o, .int ch]) ++ List.replicate (2 - (lg_sl ([.ref o, .int ch])).length) Slot.unset).toArray = ls at hl ⊢
  have hl : lv_has ls 2 [(0, .ref o), (1, .int ch)] := hl
  obtain ⟨x_1, x_2, x_3, x_4, x_5, x_6, x_7, x_8, x_9, x_10, x_11, x_12, x_13, x_14, x_15, x_16, x_17, x_18, x_19, x_20, x_21, x_22, x_23, x_24, x_25, x_26, x_27, x_28, x_29, x_30, x_31, hS_o, hT_x_1, hT_x_2, hT_x_3, hT_x_4, hT_x_5, hb_x_6, hb_x_7, hb_x_8, hT_x_10, hb_q2, hb_x_11, hb_x_12, hT_x_17, hT_x_18, hb_x_19, hT_x_20, hT_x_21, hT_x_22, hT_x_23, hT_x_24, hT_x_25, hT_x_26, hT_x_27, hT_x_28, hT_x_29, hT_x_30, hb_x_31⟩ := hTy.k12 hT_o
  have hb_q2 : pr.2 ≤ 900 := hb_q2
  have hS_o : S o = .inr (12, [.ref x_1, .ref x_2, .ref x_3, .ref x_4, .ref x_5, .int (nI x_6), .int (nI x_7), .int (nI x_8), .int x_9, .ref x_10, .int (nI (pr.2)), .int (nI x_11), .int (nI x_12), .int x_13, .int x_14, .int x_15, .int x_16, .ref x_17, .ref x_18, .int (nI x_19), .ref x_20, .ref x_21, .ref x_22, .ref x_23, .ref x_24, .ref x_25, .ref x_26, .ref x_27, .ref x_28, .ref x_29, .ref x_30, .int (nI x_31)]) := hS_o
  obtain rfl : bm = x_31 := (nI_eq (by omega) (by omega)).mp (hbm.symm.trans (inf_i hS_o rfl))
  refine lv_aload_n hx hb dX12_puts_0 rfl (lv_at hl 0 rfl) ?_
  refine pl_get (ci := 12) (v := .ref x_30) (C := RX12) (T := TX12) (N := 32) hx hb hT iX12 hown hK hW hT_o.1 hS_o rfl 30 (by decide) w1112 rfl dX12_puts_1 ?_
  refine lv_aload_n hx hb dX12_puts_4 rfl (lv_at hl 0 rfl) ?_
  refine pl_get (ci := 12) (v := .int (nI bm)) (C := RX12) (T := TX12) (N := 32) hx hb hT iX12 hown hK hW hT_o.1 hS_o rfl 31 (by decide) w1113 rfl dX12_puts_5 ?_
  refine lv_iload_n hx hb dX12_puts_8 rfl (lv_at hl 1 rfl) ?_
  obtain ⟨f_32, hS_x_30⟩ := hTy.k68 hT_x_30
  refine pl_iast hx hb hK hW hT_x_30.1 hS_x_30 (vp_in_nI (n := bm) (N := 48) (by omega) (by omega)) dX12_puts_9 (fun H locs f_34 S_33 ef_f_34 e1 hW => ?_)
  have hTy := hTy.u68 e1 hT_x_30 ⟨f_34, rfl⟩
  have hS_o := un e1 hT_o hT_x_30 (by decide) hS_o
  have hFr := uf hFr e1 hT_x_30 (by decide) (by decide)
  have hS_x_30 := us e1
  refine lv_aload_n hx hb dX12_puts_10 rfl (lv_at hl 0 rfl) ?_
  refine lv_dup hx hb dX12_puts_11 rfl ?_
  refine pl_get (ci := 12) (v := .int (nI bm)) (C := RX12) (T := TX12) (N := 32) hx hb hT iX12 hown hK hW hT_o.1 hS_o rfl 31 (by decide) w1113 rfl dX12_puts_12 ?_
  refine lv_iconst (v := 1) hx hb dX12_puts_15 (by decide) ?_
  refine lv_iadd hx hb dX12_puts_16 ?_
  refine lv_topi (fun z_35 ez_35 => ?_)
  obtain rfl : z_35 = nI (bm + 1) := ez_35.trans (nI_add (bm) (1))
  refine pl_put (ci := 12) (v := .int (nI (bm + 1))) (ty := .int) (C := RX12) (T := TX12) (N := 32) (fs' := [.ref x_1, .ref x_2, .ref x_3, .ref x_4, .ref x_5, .int (nI x_6), .int (nI x_7), .int (nI x_8), .int x_9, .ref x_10, .int (nI (pr.2)), .int (nI x_11), .int (nI x_12), .int x_13, .int x_14, .int x_15, .int x_16, .ref x_17, .ref x_18, .int (nI x_19), .ref x_20, .ref x_21, .ref x_22, .ref x_23, .ref x_24, .ref x_25, .ref x_26, .ref x_27, .ref x_28, .ref x_29, .ref x_30, .int (nI (bm + 1))]) hx hb hT iX12 tyX12 tyX12_ok nmX12 hown hK hW hT_o.1 hS_o rfl 31 (by decide) w1113 rfl (by decide +kernel) rfl rfl (Nat.le_of_ble_eq_true rfl) rfl dX12_puts_17 (fun H locs S_36 e1 hW => ?_)
  have hTy := hTy.u12 e1 hT_o ⟨x_1, x_2, x_3, x_4, x_5, x_6, x_7, x_8, x_9, x_10, x_11, x_12, x_13, x_14, x_15, x_16, x_17, x_18, x_19, x_20, x_21, x_22, x_23, x_24, x_25, x_26, x_27, x_28, x_29, x_30, bm + 1, rfl, hT_x_1, hT_x_2, hT_x_3, hT_x_4, hT_x_5, (by omega), (by omega), (by omega), hT_x_10, (by show pr.2 ≤ 900; omega), (by omega), (by omega), hT_x_17, hT_x_18, (by omega), hT_x_20, hT_x_21, hT_x_22, hT_x_23, hT_x_24, hT_x_25, hT_x_26, hT_x_27, hT_x_28, hT_x_29, hT_x_30, (by omega)⟩
  have hS_x_30 := un e1 hT_x_30 hT_o (by decide) hS_x_30
  have hws := (show wrs (.inr (12, [.ref x_1, .ref x_2, .ref x_3, .ref x_4, .ref x_5, .int (nI x_6), .int (nI x_7), .int (nI x_8), .int x_9, .ref x_10, .int (nI (pr.2)), .int (nI x_11), .int (nI x_12), .int x_13, .int x_14, .int x_15, .int x_16, .ref x_17, .ref x_18, .int (nI x_19), .ref x_20, .ref x_21, .ref x_22, .ref x_23, .ref x_24, .ref x_25, .ref x_26, .ref x_27, .ref x_28, .ref x_29, .ref x_30, .int (nI (bm + 1))])) = wrs (S_33 o) from by rw [hS_o]; rfl)
  have hFr := ufs hFr e1 hT_o (by decide) hws
  have hS_o := us e1
  exact W.vret hx hb hr (fun t ht h9 => ⟨⟨S_36, rfl, ⟨hTy, hFr, (inf_i hS_o rfl)⟩, by rw [ht]; exact hW.1, va_K.moved h9.alike hK, hW.2.1⟩, hW.2.2.F ht⟩) hW.2.2.2.2 dX12_puts_20

set_option maxHeartbeats 4000000 in
set_option maxRecDepth 100000 in
theorem m_putsName (l : Launch) (dC : Nat → ClassId) (dI : Nat → Nat → Nat) (cy : Nat → ClassId) (L : List Nat) (kap : Nat → Nat) (pr : Pr) (S : Nat → va_E) (sz : Nat) (o : Nat) (nm : Int64) (hTy : Ty cy L kap pr S) (hT_o : TK L kap o 12) (bm : Nat) (hbm : inf (S o) 31 = nI bm) (hbl : bm + 8 ≤ 48) : Met l yX12_putsName (wT yX12_putsName cX12_putsName 4 none) ({ frames := 1, cells := 0, slots := 0, locals := 21 }) (pcN dC dI [.ref o, .long nm] sz (va_pl L S) (cyT cy) NLs []) (va_Qv (fun S' => Ty cy L kap pr S' ∧ Fr kap [12, 68] S S' ∧ (∃ b, b ≤ bm + 8 ∧ inf (S' o) 31 = nI b)) (fun S' t => pB dC dI (AL L sz) (va_pl L S') (cyT cy) t) (AL L sz)) 0 0 (AL L sz) := by
  refine Met.ofW (cc := cX12_putsName) (maxL := 4) (ret := none) (by decide) rfl ?_
  intro p e s m args below meth c s₁ B hml hv
  obtain ⟨rfl, hsz, hP, hK, hD0, hN, -⟩ := hv
  have hx := B.exec
  have hb := B.bytes
  have hr := B.returns
  have hT : ∀ wd ∈ TB, wd.before [.ref o, .long nm].toArray s = true := fun wd h => atoms_spec (ws := wT yX12_putsName cX12_putsName 4 none) B.pre wd (List.mem_cons_of_mem _ h)
  have hown : s.vm.findClass RX12 = some m.cls := findClass_of_methodNamed B.named
  have hlocks := B.notSynchronized
  subst hsz
  have hW : PW dC dI L (AL L s.heap.size) s.heap S s.heap [] := ⟨hP, pl_self hD0, va_S.rf⟩
  have hA0 : ∀ q, q ∈ L → AL L s.heap.size q := fun _ h => Or.inl h
  have hA : ∀ q, s.heap.size ≤ q → AL L s.heap.size q := fun _ h => Or.inr h
  have hFr : Fr kap [12, 68] S S := Fr.rf
  have hl := lv_entry ([.ref o, .long nm]) (n := 4) (Nat.le_of_ble_eq_true rfl)
  rw [lg_entry_eq]
  generalize (lg_sl ([.ref o, .long nm]) ++ List.replicate (4 - (lg_sl ([.ref o, .long nm])).length) Slot.unset).toArray = ls at hl ⊢
  have hl : lv_has ls 4 [(0, .ref o), (1, .long nm)] := hl
  obtain ⟨x_1, x_2, x_3, x_4, x_5, x_6, x_7, x_8, x_9, x_10, x_11, x_12, x_13, x_14, x_15, x_16, x_17, x_18, x_19, x_20, x_21, x_22, x_23, x_24, x_25, x_26, x_27, x_28, x_29, x_30, x_31, hS_o, hT_x_1, hT_x_2, hT_x_3, hT_x_4, hT_x_5, hb_x_6, hb_x_7, hb_x_8, hT_x_10, hb_q2, hb_x_11, hb_x_12, hT_x_17, hT_x_18, hb_x_19, hT_x_20, hT_x_21, hT_x_22, hT_x_23, hT_x_24, hT_x_25, hT_x_26, hT_x_27, hT_x_28, hT_x_29, hT_x_30, hb_x_31⟩ := hTy.k12 hT_o
  have hb_q2 : pr.2 ≤ 900 := hb_q2
  have hS_o : S o = .inr (12, [.ref x_1, .ref x_2, .ref x_3, .ref x_4, .ref x_5, .int (nI x_6), .int (nI x_7), .int (nI x_8), .int x_9, .ref x_10, .int (nI (pr.2)), .int (nI x_11), .int (nI x_12), .int x_13, .int x_14, .int x_15, .int x_16, .ref x_17, .ref x_18, .int (nI x_19), .ref x_20, .ref x_21, .ref x_22, .ref x_23, .ref x_24, .ref x_25, .ref x_26, .ref x_27, .ref x_28, .ref x_29, .ref x_30, .int (nI x_31)]) := hS_o
  obtain rfl : bm = x_31 := (nI_eq (by omega) (by omega)).mp (hbm.symm.trans (inf_i hS_o rfl))
  refine lv_bipush (v := 56) hx hb dX12_putsName_0 (by decide) ?_
  refine lv_istore_n (lv' := [(3, .int 56), (0, .ref o), (1, .long nm)]) hx hb dX12_putsName_2 rfl hl (by decide) rfl (fun ls hl => ?_)
  have loop : ∀ (fuel : Nat) (kz : Int32) (gb : Nat) (cz : Nat) (SS : Nat → va_E) (H : Heap) (locs : List Loc) (ls : Array Slot), cz < fuel → (inf (SS o) 31 = nI gb) → (gb ≤ 48) → (kz = nI (8 * cz) - 8) → (cz ≤ 8) → (gb + cz ≤ bm + 8) → Ty cy L kap pr SS → Fr kap [12, 68] S SS → Fr kap [12, 68] S SS → PW dC dI L (AL L s.heap.size) s.heap SS H locs → lv_has ls 4 [(3, .int kz), (0, .ref o), (1, .long nm)] → W p l e (headSpec (wT yX12_putsName cX12_putsName 4 none) { frames := 1, cells := 0, slots := 0, locals := 21 }).room s m [.ref o, .long nm].toArray below meth c H locs 0 0 (MQ below (va_Qv (fun S' => Ty cy L kap pr S' ∧ Fr kap [12, 68] S S' ∧ (∃ b, b ≤ bm + 8 ∧ inf (S' o) 31 = nI b)) (fun S' t => pB dC dI (AL L s.heap.size) (va_pl L S') (cyT cy) t) (AL L s.heap.size)) [.ref o, .long nm].toArray s 0 0 (AL L s.heap.size)) (F0 m 3 ls []) := by
    intro fuel
    induction fuel with
    | zero => intro kz gb cz SS H locs ls h; exact absurd h (Nat.not_lt_zero _)
    | succ fu3 ih3 =>
      intro kz gb cz S_32 H locs ls hm3 hgb hgl hkz hc8 hgc hTy hFr hFl3 hW hl
      obtain ⟨x_33, x_34, x_35, x_36, x_37, x_38, x_39, x_40, x_41, x_42, x_43, x_44, x_45, x_46, x_47, x_48, x_49, x_50, x_51, x_52, x_53, x_54, x_55, x_56, x_57, x_58, x_59, x_60, x_61, x_62, x_63, hS_o, hT_x_33, hT_x_34, hT_x_35, hT_x_36, hT_x_37, hb_x_38, hb_x_39, hb_x_40, hT_x_42, hb_q2, hb_x_43, hb_x_44, hT_x_49, hT_x_50, hb_x_51, hT_x_52, hT_x_53, hT_x_54, hT_x_55, hT_x_56, hT_x_57, hT_x_58, hT_x_59, hT_x_60, hT_x_61, hT_x_62, hb_x_63⟩ := hTy.k12 hT_o
      have hb_q2 : pr.2 ≤ 900 := hb_q2
      have hS_o : S_32 o = .inr (12, [.ref x_33, .ref x_34, .ref x_35, .ref x_36, .ref x_37, .int (nI x_38), .int (nI x_39), .int (nI x_40), .int x_41, .ref x_42, .int (nI (pr.2)), .int (nI x_43), .int (nI x_44), .int x_45, .int x_46, .int x_47, .int x_48, .ref x_49, .ref x_50, .int (nI x_51), .ref x_52, .ref x_53, .ref x_54, .ref x_55, .ref x_56, .ref x_57, .ref x_58, .ref x_59, .ref x_60, .ref x_61, .ref x_62, .int (nI x_63)]) := hS_o
      have e31_ : gb = x_63 := (nI_eq (by omega) (by omega)).mp (Eq.trans (Eq.symm hgb) (inf_i hS_o rfl))
      subst e31_
      refine lv_iload_n hx hb dX12_putsName_3 rfl (lv_at hl 0 rfl) ?_
      refine lv_if_lt (tgt := 37) hx hb dX12_putsName_4 (by decide) (fun c_4 => ?_) (fun c_4 => ?_)
      · exact W.vret hx hb hr (fun t ht h9 => ⟨⟨S_32, rfl, ⟨hTy, hFr, ⟨gb, by omega, inf_i hS_o rfl⟩⟩, by rw [ht]; exact hW.1, va_K.moved h9.alike hK, hW.2.1⟩, hW.2.2.F ht⟩) hW.2.2.2.2 dX12_putsName_37
      · have hc1 := kz_c hkz hc8 c_4
        refine lv_lload_n hx hb dX12_putsName_7 rfl (lv_at hl 2 rfl) ?_
        refine lv_iload_n hx hb dX12_putsName_8 rfl (lv_at hl 0 rfl) ?_
        refine lv_lshr hx hb dX12_putsName_9 rfl ?_
        refine lv_topl (fun z_64 ez_64 => ?_)
        refine lv_ldc2 (v := 255) hx hb hown (hT _ w1571) dX12_putsName_10 ?_
        refine lv_land hx hb dX12_putsName_13 ?_
        refine lv_topl (fun z_65 ez_65 => ?_)
        refine lv_lconst (v := 0) hx hb dX12_putsName_14 (by decide) ?_
        refine W.lcmp hx hb dX12_putsName_15 ?_
        refine lv_if_eq (tgt := 31) hx hb dX12_putsName_16 (by decide) (fun c_16 => ?_) (fun c_16 => ?_)
        · obtain ⟨u_66, eu_66⟩ : ∃ y : Int32, y = kz + Int32.ofInt (-8) := ⟨_, rfl⟩
          refine lv_iinc (v := u_66) (lv' := [(3, .int u_66), (0, .ref o), (1, .long nm)]) hx hb dX12_putsName_31 hl (k := 0) rfl eu_66.symm (by decide) rfl (fun ls hl => ?_)
          refine lv_goto (tgt := 3) hx hb dX12_putsName_34 (by decide) ?_
          exact ih3 u_66 gb (cz - 1) _ _ _ ls (by omega) (inf_i hS_o rfl) (by omega) (kz_s hkz hc1 (by omega) eu_66) (by omega) (by omega) hTy hFr hFl3 hW (lv_sub hl [0, 1, 2] rfl)
        · refine lv_aload_n hx hb dX12_putsName_19 rfl (lv_at hl 1 rfl) ?_
          refine lv_lload_n hx hb dX12_putsName_20 rfl (lv_at hl 2 rfl) ?_
          refine lv_iload_n hx hb dX12_putsName_21 rfl (lv_at hl 0 rfl) ?_
          refine lv_lshr hx hb dX12_putsName_22 rfl ?_
          refine lv_topl (fun z_67 ez_67 => ?_)
          refine lv_ldc2 (v := 255) hx hb hown (hT _ w1571) dX12_putsName_23 ?_
          refine lv_land hx hb dX12_putsName_26 ?_
          refine lv_topl (fun z_68 ez_68 => ?_)
          refine lv_l2i hx hb dX12_putsName_27 rfl ?_
          refine lv_topi (fun z_69 ez_69 => ?_)
          refine pl_callv (va_runV (As := [.int z_69]) (rest := []) ⟨hx, hb, hml, hown, hT⟩ (m_puts l dC dI cy L kap pr S_32 H.size o z_69 hTy hT_o gb (inf_i hS_o rfl) (by omega)) (cwV 1 hT (gV w1572 w1574 ws108 w14 w1575) rfl rfl rfl (by decide +kernel) ⟨(Nat.le_of_ble_eq_true rfl), (Nat.le_of_ble_eq_true rfl)⟩) ⟨pcN.blind, pl_recv hK hW hT_o.1 hS_o rfl, pcN.pre hW.1 hK hW.2.1 hN (fun q h => absurd h List.not_mem_nil)⟩ rfl rfl hl.1 rfl (lv_room (Nat.le_of_ble_eq_true rfl)) dX12_putsName_28 ⟨(Nat.le_of_ble_eq_true rfl), (Nat.le_of_ble_eq_true rfl)⟩) hW hA0 hA (fun S_70 H locs hrel hW => ?_)
          obtain ⟨hTy, hF1, hx1⟩ := hrel
          have hFr := hFr.tr hF1 (by decide)
          have hFl3 := hFl3.tr hF1 (by decide)
          obtain ⟨x_71, x_72, x_73, x_74, x_75, x_76, x_77, x_78, x_79, x_80, x_81, x_82, x_83, x_84, x_85, x_86, x_87, x_88, x_89, x_90, x_91, x_92, x_93, x_94, x_95, x_96, x_97, x_98, x_99, x_100, x_101, hS_o, hT_x_71, hT_x_72, hT_x_73, hT_x_74, hT_x_75, hb_x_76, hb_x_77, hb_x_78, hT_x_80, hb_q2, hb_x_81, hb_x_82, hT_x_87, hT_x_88, hb_x_89, hT_x_90, hT_x_91, hT_x_92, hT_x_93, hT_x_94, hT_x_95, hT_x_96, hT_x_97, hT_x_98, hT_x_99, hT_x_100, hb_x_101⟩ := hTy.k12 hT_o
          have hb_q2 : pr.2 ≤ 900 := hb_q2
          have hS_o : S_70 o = .inr (12, [.ref x_71, .ref x_72, .ref x_73, .ref x_74, .ref x_75, .int (nI x_76), .int (nI x_77), .int (nI x_78), .int x_79, .ref x_80, .int (nI (pr.2)), .int (nI x_81), .int (nI x_82), .int x_83, .int x_84, .int x_85, .int x_86, .ref x_87, .ref x_88, .int (nI x_89), .ref x_90, .ref x_91, .ref x_92, .ref x_93, .ref x_94, .ref x_95, .ref x_96, .ref x_97, .ref x_98, .ref x_99, .ref x_100, .int (nI x_101)]) := hS_o
          have e31_ : gb + 1 = x_101 := (nI_eq (by omega) (by omega)).mp (Eq.trans (Eq.symm hx1) (inf_i hS_o rfl))
          subst e31_
          obtain ⟨u_102, eu_102⟩ : ∃ y : Int32, y = kz + Int32.ofInt (-8) := ⟨_, rfl⟩
          refine lv_iinc (v := u_102) (lv' := [(3, .int u_102), (0, .ref o), (1, .long nm)]) hx hb dX12_putsName_31 hl (k := 0) rfl eu_102.symm (by decide) rfl (fun ls hl => ?_)
          refine lv_goto (tgt := 3) hx hb dX12_putsName_34 (by decide) ?_
          exact ih3 u_102 (gb + 1) (cz - 1) _ _ _ ls (by omega) (inf_i hS_o rfl) (by omega) (kz_s hkz hc1 (by omega) eu_102) (by omega) (by omega) hTy hFr hFl3 hW (lv_sub hl [0, 1, 2] rfl)
  exact loop ((8) + 1) 56 bm 8 _ _ _ ls (Nat.lt_succ_self _) (inf_i hS_o rfl) (by omega) (by decide) (by omega) (by omega) hTy hFr Fr.rf hW (lv_sub hl [0, 1, 2] rfl)

set_option maxHeartbeats 4000000 in
set_option maxRecDepth 100000 in
theorem m_putsNumber (l : Launch) (dC : Nat → ClassId) (dI : Nat → Nat → Nat) (cy : Nat → ClassId) (L : List Nat) (kap : Nat → Nat) (pr : Pr) (S : Nat → va_E) (sz : Nat) (o : Nat) (vv : Int32) (hTy : Ty cy L kap pr S) (hT_o : TK L kap o 12) (bm : Nat) (hbm : inf (S o) 31 = nI bm) (hbl : bm + 10 ≤ 48) : Met l yX12_putsNumber (wT yX12_putsNumber cX12_putsNumber 4 none) ({ frames := 1, cells := 0, slots := 0, locals := 21 }) (pcN dC dI [.ref o, .int vv] sz (va_pl L S) (cyT cy) NLs []) (va_Qv (fun S' => Ty cy L kap pr S' ∧ Fr kap [12, 68] S S' ∧ (∃ b, b ≤ bm + 10 ∧ inf (S' o) 31 = nI b)) (fun S' t => pB dC dI (AL L sz) (va_pl L S') (cyT cy) t) (AL L sz)) 0 0 (AL L sz) := by
  refine Met.ofW (cc := cX12_putsNumber) (maxL := 4) (ret := none) (by decide) rfl ?_
  intro p e s m args below meth c s₁ B hml hv
  obtain ⟨rfl, hsz, hP, hK, hD0, hN, -⟩ := hv
  have hx := B.exec
  have hb := B.bytes
  have hr := B.returns
  have hT : ∀ wd ∈ TB, wd.before [.ref o, .int vv].toArray s = true := fun wd h => atoms_spec (ws := wT yX12_putsNumber cX12_putsNumber 4 none) B.pre wd (List.mem_cons_of_mem _ h)
  have hown : s.vm.findClass RX12 = some m.cls := findClass_of_methodNamed B.named
  have hlocks := B.notSynchronized
  subst hsz
  have hW : PW dC dI L (AL L s.heap.size) s.heap S s.heap [] := ⟨hP, pl_self hD0, va_S.rf⟩
  have hA0 : ∀ q, q ∈ L → AL L s.heap.size q := fun _ h => Or.inl h
  have hA : ∀ q, s.heap.size ≤ q → AL L s.heap.size q := fun _ h => Or.inr h
  have hFr : Fr kap [12, 68] S S := Fr.rf
  have hl := lv_entry ([.ref o, .int vv]) (n := 4) (Nat.le_of_ble_eq_true rfl)
  rw [lg_entry_eq]
  generalize (lg_sl ([.ref o, .int vv]) ++ List.replicate (4 - (lg_sl ([.ref o, .int vv])).length) Slot.unset).toArray = ls at hl ⊢
  have hl : lv_has ls 4 [(0, .ref o), (1, .int vv)] := hl
  obtain ⟨x_1, x_2, x_3, x_4, x_5, x_6, x_7, x_8, x_9, x_10, x_11, x_12, x_13, x_14, x_15, x_16, x_17, x_18, x_19, x_20, x_21, x_22, x_23, x_24, x_25, x_26, x_27, x_28, x_29, x_30, x_31, hS_o, hT_x_1, hT_x_2, hT_x_3, hT_x_4, hT_x_5, hb_x_6, hb_x_7, hb_x_8, hT_x_10, hb_q2, hb_x_11, hb_x_12, hT_x_17, hT_x_18, hb_x_19, hT_x_20, hT_x_21, hT_x_22, hT_x_23, hT_x_24, hT_x_25, hT_x_26, hT_x_27, hT_x_28, hT_x_29, hT_x_30, hb_x_31⟩ := hTy.k12 hT_o
  have hb_q2 : pr.2 ≤ 900 := hb_q2
  have hS_o : S o = .inr (12, [.ref x_1, .ref x_2, .ref x_3, .ref x_4, .ref x_5, .int (nI x_6), .int (nI x_7), .int (nI x_8), .int x_9, .ref x_10, .int (nI (pr.2)), .int (nI x_11), .int (nI x_12), .int x_13, .int x_14, .int x_15, .int x_16, .ref x_17, .ref x_18, .int (nI x_19), .ref x_20, .ref x_21, .ref x_22, .ref x_23, .ref x_24, .ref x_25, .ref x_26, .ref x_27, .ref x_28, .ref x_29, .ref x_30, .int (nI x_31)]) := hS_o
  obtain rfl : bm = x_31 := (nI_eq (by omega) (by omega)).mp (hbm.symm.trans (inf_i hS_o rfl))
  refine lv_iconst (v := 1) hx hb dX12_putsNumber_0 (by decide) ?_
  refine lv_istore_n (lv' := [(2, .int 1), (0, .ref o), (1, .int vv)]) hx hb dX12_putsNumber_1 rfl hl (by decide) rfl (fun ls hl => ?_)
  have loop : ∀ (fuel : Nat) (pw : Nat) (e9 : Nat) (SS : Nat → va_E) (H : Heap) (locs : List Loc) (ls : Array Slot), 10 - e9 < fuel → (pw = 10 ^ e9) → (e9 ≤ 9) → Ty cy L kap pr SS → Fr kap [12, 68] S SS → Fr kap [] S SS → PW dC dI L (AL L s.heap.size) s.heap SS H locs → lv_has ls 4 [(2, .int (nI pw)), (0, .ref o), (1, .int vv)] → W p l e (headSpec (wT yX12_putsNumber cX12_putsNumber 4 none) { frames := 1, cells := 0, slots := 0, locals := 21 }).room s m [.ref o, .int vv].toArray below meth c H locs 0 0 (MQ below (va_Qv (fun S' => Ty cy L kap pr S' ∧ Fr kap [12, 68] S S' ∧ (∃ b, b ≤ bm + 10 ∧ inf (S' o) 31 = nI b)) (fun S' t => pB dC dI (AL L s.heap.size) (va_pl L S') (cyT cy) t) (AL L s.heap.size)) [.ref o, .int vv].toArray s 0 0 (AL L s.heap.size)) (F0 m 2 ls []) := by
    intro fuel
    induction fuel with
    | zero => intro pw e9 SS H locs ls h; exact absurd h (Nat.not_lt_zero _)
    | succ fu2 ih2 =>
      intro pw e9 S_32 H locs ls hm2 hpw he9 hTy hFr hFl2 hW hl
      have hS_o := hFl2.at hT_o (by decide) hS_o
      have hpb := p10_b hpw he9
      refine lv_iload_n hx hb dX12_putsNumber_2 rfl (lv_at hl 2 rfl) ?_
      refine lv_iload_n hx hb dX12_putsNumber_3 rfl (lv_at hl 0 rfl) ?_
      refine lv_idiv hx hb dX12_putsNumber_4 (nI_ne0 (n := pw) (by omega) (by omega)) ?_
      refine lv_topi (fun z_33 ez_33 => ?_)
      refine lv_bipush (v := 9) hx hb dX12_putsNumber_5 (by decide) ?_
      refine lv_icmp_le (tgt := 18) hx hb dX12_putsNumber_7 (by decide) (fun c_7 => ?_) (fun c_7 => ?_)
      · refine lv_iload_n hx hb dX12_putsNumber_18 rfl (lv_at hl 0 rfl) ?_
        refine lv_istore_n (lv' := [(3, .int (nI pw)), (2, .int (nI pw)), (0, .ref o), (1, .int vv)]) hx hb dX12_putsNumber_19 rfl hl (by decide) rfl (fun ls hl => ?_)
        have loop : ∀ (fuel : Nat) (kk : Nat) (gb : Nat) (g9 : Nat) (SS : Nat → va_E) (H : Heap) (locs : List Loc) (ls : Array Slot), kk < fuel → (inf (SS o) 31 = nI gb) → (gb ≤ 48) → (kk < 10 ^ g9) → (gb + g9 ≤ bm + 10) → (kk ≤ 1000000000) → Ty cy L kap pr SS → Fr kap [12, 68] S SS → Fr kap [12, 68] S_32 SS → PW dC dI L (AL L s.heap.size) s.heap SS H locs → lv_has ls 4 [(3, .int (nI kk)), (2, .int (nI pw)), (0, .ref o), (1, .int vv)] → W p l e (headSpec (wT yX12_putsNumber cX12_putsNumber 4 none) { frames := 1, cells := 0, slots := 0, locals := 21 }).room s m [.ref o, .int vv].toArray below meth c H locs 0 0 (MQ below (va_Qv (fun S' => Ty cy L kap pr S' ∧ Fr kap [12, 68] S S' ∧ (∃ b, b ≤ bm + 10 ∧ inf (S' o) 31 = nI b)) (fun S' t => pB dC dI (AL L s.heap.size) (va_pl L S') (cyT cy) t) (AL L s.heap.size)) [.ref o, .int vv].toArray s 0 0 (AL L s.heap.size)) (F0 m 20 ls []) := by
          intro fuel
          induction fuel with
          | zero => intro kk gb g9 SS H locs ls h; exact absurd h (Nat.not_lt_zero _)
          | succ fu20 ih20 =>
            intro kk gb g9 S_34 H locs ls hm20 hgb hgl hkg hgg hkb hTy hFr hFl20 hW hl
            obtain ⟨x_35, x_36, x_37, x_38, x_39, x_40, x_41, x_42, x_43, x_44, x_45, x_46, x_47, x_48, x_49, x_50, x_51, x_52, x_53, x_54, x_55, x_56, x_57, x_58, x_59, x_60, x_61, x_62, x_63, x_64, x_65, hS_o, hT_x_35, hT_x_36, hT_x_37, hT_x_38, hT_x_39, hb_x_40, hb_x_41, hb_x_42, hT_x_44, hb_q2, hb_x_45, hb_x_46, hT_x_51, hT_x_52, hb_x_53, hT_x_54, hT_x_55, hT_x_56, hT_x_57, hT_x_58, hT_x_59, hT_x_60, hT_x_61, hT_x_62, hT_x_63, hT_x_64, hb_x_65⟩ := hTy.k12 hT_o
            have hb_q2 : pr.2 ≤ 900 := hb_q2
            have hS_o : S_34 o = .inr (12, [.ref x_35, .ref x_36, .ref x_37, .ref x_38, .ref x_39, .int (nI x_40), .int (nI x_41), .int (nI x_42), .int x_43, .ref x_44, .int (nI (pr.2)), .int (nI x_45), .int (nI x_46), .int x_47, .int x_48, .int x_49, .int x_50, .ref x_51, .ref x_52, .int (nI x_53), .ref x_54, .ref x_55, .ref x_56, .ref x_57, .ref x_58, .ref x_59, .ref x_60, .ref x_61, .ref x_62, .ref x_63, .ref x_64, .int (nI x_65)]) := hS_o
            have e31_ : gb = x_65 := (nI_eq (by omega) (by omega)).mp (Eq.trans (Eq.symm hgb) (inf_i hS_o rfl))
            subst e31_
            refine lv_iload_n hx hb dX12_putsNumber_20 rfl (lv_at hl 0 rfl) ?_
            refine lv_if_le (tgt := 45) hx hb dX12_putsNumber_21 (by decide) (fun c_21 => ?_) (fun c_21 => ?_)
            · have c_21 : kk ≤ 0 := (nI_leI (a := kk) (b := 0) (by omega) (by omega)).mp c_21
              exact W.vret hx hb hr (fun t ht h9 => ⟨⟨S_34, rfl, ⟨hTy, hFr, ⟨gb, by omega, inf_i hS_o rfl⟩⟩, by rw [ht]; exact hW.1, va_K.moved h9.alike hK, hW.2.1⟩, hW.2.2.F ht⟩) hW.2.2.2.2 dX12_putsNumber_45
            · have c_21 : ¬ (kk ≤ 0) := fun hh9 => c_21 ((nI_leI (a := kk) (b := 0) (by omega) (by omega)).mpr hh9)
              have hkd := p10_d hkg (by omega)
              refine lv_aload_n hx hb dX12_putsNumber_24 rfl (lv_at hl 2 rfl) ?_
              refine lv_bipush (v := 48) hx hb dX12_putsNumber_25 (by decide) ?_
              refine lv_iload_n hx hb dX12_putsNumber_27 rfl (lv_at hl 3 rfl) ?_
              refine lv_iload_n hx hb dX12_putsNumber_28 rfl (lv_at hl 0 rfl) ?_
              refine lv_idiv hx hb dX12_putsNumber_29 (nI_ne0 (n := kk) (by omega) (by omega)) ?_
              refine lv_topi (fun z_66 ez_66 => ?_)
              refine lv_bipush (v := 10) hx hb dX12_putsNumber_30 (by decide) ?_
              refine lv_irem hx hb dX12_putsNumber_32 (by decide) ?_
              refine lv_topi (fun z_67 ez_67 => ?_)
              refine lv_iadd hx hb dX12_putsNumber_33 ?_
              refine lv_topi (fun z_68 ez_68 => ?_)
              refine pl_callv (va_runV (As := [.int z_68]) (rest := []) ⟨hx, hb, hml, hown, hT⟩ (m_puts l dC dI cy L kap pr S_34 H.size o z_68 hTy hT_o gb (inf_i hS_o rfl) (by omega)) (cwV 1 hT (gV w1572 w1574 ws108 w14 w1575) rfl rfl rfl (by decide +kernel) ⟨(Nat.le_of_ble_eq_true rfl), (Nat.le_of_ble_eq_true rfl)⟩) ⟨pcN.blind, pl_recv hK hW hT_o.1 hS_o rfl, pcN.pre hW.1 hK hW.2.1 hN (fun q h => absurd h List.not_mem_nil)⟩ rfl rfl hl.1 rfl (lv_room (Nat.le_of_ble_eq_true rfl)) dX12_putsNumber_34 ⟨(Nat.le_of_ble_eq_true rfl), (Nat.le_of_ble_eq_true rfl)⟩) hW hA0 hA (fun S_69 H locs hrel hW => ?_)
              obtain ⟨hTy, hF1, hx1⟩ := hrel
              have hFr := hFr.tr hF1 (by decide)
              have hFl20 := hFl20.tr hF1 (by decide)
              obtain ⟨x_70, x_71, x_72, x_73, x_74, x_75, x_76, x_77, x_78, x_79, x_80, x_81, x_82, x_83, x_84, x_85, x_86, x_87, x_88, x_89, x_90, x_91, x_92, x_93, x_94, x_95, x_96, x_97, x_98, x_99, x_100, hS_o, hT_x_70, hT_x_71, hT_x_72, hT_x_73, hT_x_74, hb_x_75, hb_x_76, hb_x_77, hT_x_79, hb_q2, hb_x_80, hb_x_81, hT_x_86, hT_x_87, hb_x_88, hT_x_89, hT_x_90, hT_x_91, hT_x_92, hT_x_93, hT_x_94, hT_x_95, hT_x_96, hT_x_97, hT_x_98, hT_x_99, hb_x_100⟩ := hTy.k12 hT_o
              have hb_q2 : pr.2 ≤ 900 := hb_q2
              have hS_o : S_69 o = .inr (12, [.ref x_70, .ref x_71, .ref x_72, .ref x_73, .ref x_74, .int (nI x_75), .int (nI x_76), .int (nI x_77), .int x_78, .ref x_79, .int (nI (pr.2)), .int (nI x_80), .int (nI x_81), .int x_82, .int x_83, .int x_84, .int x_85, .ref x_86, .ref x_87, .int (nI x_88), .ref x_89, .ref x_90, .ref x_91, .ref x_92, .ref x_93, .ref x_94, .ref x_95, .ref x_96, .ref x_97, .ref x_98, .ref x_99, .int (nI x_100)]) := hS_o
              have e31_ : gb + 1 = x_100 := (nI_eq (by omega) (by omega)).mp (Eq.trans (Eq.symm hx1) (inf_i hS_o rfl))
              subst e31_
              refine lv_iload_n hx hb dX12_putsNumber_37 rfl (lv_at hl 0 rfl) ?_
              refine lv_bipush (v := 10) hx hb dX12_putsNumber_38 (by decide) ?_
              refine lv_idiv hx hb dX12_putsNumber_40 (nI_ne0 (n := 10) (by omega) (by omega)) ?_
              refine lv_topi (fun z_101 ez_101 => ?_)
              obtain rfl : z_101 = nI (kk / 10) := ez_101.trans (pk_div (a := kk) (d := 10) (by omega) (by omega) (by omega))
              refine lv_istore_n (lv' := [(3, .int (nI (kk / 10))), (2, .int (nI pw)), (0, .ref o), (1, .int vv)]) hx hb dX12_putsNumber_41 rfl hl (by decide) rfl (fun ls hl => ?_)
              refine lv_goto (tgt := 20) hx hb dX12_putsNumber_42 (by decide) ?_
              exact ih20 (kk / 10) (gb + 1) (g9 - 1) _ _ _ ls (by omega) (inf_i hS_o rfl) (by omega) hkd.2 (by omega) (by omega) hTy hFr hFl20 hW (lv_sub hl [0, 1, 2, 3] rfl)
        exact loop ((pw) + 1) pw bm 10 _ _ _ ls (Nat.lt_succ_self _) (inf_i hS_o rfl) (by omega) (by have q : (10 : Nat) ^ 10 = 10000000000 := rfl; omega) (by omega) (by omega) hTy hFr Fr.rf hW (lv_sub hl [0, 1, 2, 3] rfl)
      · have he8 := p10_9 hpw he9 ez_33 c_7
        refine lv_iload_n hx hb dX12_putsNumber_10 rfl (lv_at hl 0 rfl) ?_
        refine lv_bipush (v := 10) hx hb dX12_putsNumber_11 (by decide) ?_
        refine lv_imul hx hb dX12_putsNumber_13 ?_
        refine lv_topi (fun z_102 ez_102 => ?_)
        obtain rfl : z_102 = nI (pw * 10) := ez_102.trans (pk_mul (pw) (10))
        refine lv_istore_n (lv' := [(2, .int (nI (pw * 10))), (0, .ref o), (1, .int vv)]) hx hb dX12_putsNumber_14 rfl hl (by decide) rfl (fun ls hl => ?_)
        refine lv_goto (tgt := 2) hx hb dX12_putsNumber_15 (by decide) ?_
        exact ih2 (pw * 10) (e9 + 1) _ _ _ ls (by omega) (by rw [hpw, Nat.pow_succ]) (by omega) hTy hFr hFl2 hW (lv_sub hl [0, 1, 2] rfl)
  exact loop ((10 - 0) + 1) 1 0 _ _ _ ls (Nat.lt_succ_self _) rfl (by omega) hTy hFr Fr.rf hW (lv_sub hl [0, 1, 2] rfl)

set_option maxHeartbeats 4000000 in
set_option maxRecDepth 100000 in
theorem m_lineOf (l : Launch) (dC : Nat → ClassId) (dI : Nat → Nat → Nat) (cy : Nat → ClassId) (L : List Nat) (kap : Nat → Nat) (pr : Pr) (S : Nat → va_E) (sz : Nat) (o : Nat) (tr : Int32) (ix : Int32) (hTy : Ty cy L kap pr S) (hT_o : TK L kap o 12) : Met l yX12_line (wT yX12_line cX12_line 3 (some .int)) ({ frames := 2, cells := 0, slots := 0, locals := 46 }) (pcN dC dI [.ref o, .int tr, .int ix] sz (va_pl L S) (cyT cy) NLs []) (va_Qi (fun r S' => Ty cy L kap pr S' ∧ Fr kap [12, 68] S S') (fun S' t => pB dC dI (AL L sz) (va_pl L S') (cyT cy) t) (AL L sz)) 0 0 (AL L sz) := by
  refine Met.ofW (cc := cX12_line) (maxL := 3) (ret := (some .int)) (by decide) rfl ?_
  intro p e s m args below meth c s₁ B hml hv
  obtain ⟨rfl, hsz, hP, hK, hD0, hN, -⟩ := hv
  have hx := B.exec
  have hb := B.bytes
  have hr := B.returns
  have hT : ∀ wd ∈ TB, wd.before [.ref o, .int tr, .int ix].toArray s = true := fun wd h => atoms_spec (ws := wT yX12_line cX12_line 3 (some .int)) B.pre wd (List.mem_cons_of_mem _ h)
  have hown : s.vm.findClass RX12 = some m.cls := findClass_of_methodNamed B.named
  have hlocks := B.notSynchronized
  subst hsz
  have hW : PW dC dI L (AL L s.heap.size) s.heap S s.heap [] := ⟨hP, pl_self hD0, va_S.rf⟩
  have hA0 : ∀ q, q ∈ L → AL L s.heap.size q := fun _ h => Or.inl h
  have hA : ∀ q, s.heap.size ≤ q → AL L s.heap.size q := fun _ h => Or.inr h
  have hFr : Fr kap [12, 68] S S := Fr.rf
  have hl := lv_entry ([.ref o, .int tr, .int ix]) (n := 3) (Nat.le_of_ble_eq_true rfl)
  rw [lg_entry_eq]
  generalize (lg_sl ([.ref o, .int tr, .int ix]) ++ List.replicate (3 - (lg_sl ([.ref o, .int tr, .int ix])).length) Slot.unset).toArray = ls at hl ⊢
  have hl : lv_has ls 3 [(0, .ref o), (1, .int tr), (2, .int ix)] := hl
  refine lv_aload_n hx hb dX12_line_0 rfl (lv_at hl 0 rfl) ?_
  refine lv_iconst (v := 0) hx hb dX12_line_1 (by decide) ?_
  obtain ⟨x_1, x_2, x_3, x_4, x_5, x_6, x_7, x_8, x_9, x_10, x_11, x_12, x_13, x_14, x_15, x_16, x_17, x_18, x_19, x_20, x_21, x_22, x_23, x_24, x_25, x_26, x_27, x_28, x_29, x_30, x_31, hS_o, hT_x_1, hT_x_2, hT_x_3, hT_x_4, hT_x_5, hb_x_6, hb_x_7, hb_x_8, hT_x_10, hb_q2, hb_x_11, hb_x_12, hT_x_17, hT_x_18, hb_x_19, hT_x_20, hT_x_21, hT_x_22, hT_x_23, hT_x_24, hT_x_25, hT_x_26, hT_x_27, hT_x_28, hT_x_29, hT_x_30, hb_x_31⟩ := hTy.k12 hT_o
  have hb_q2 : pr.2 ≤ 900 := hb_q2
  have hS_o : S o = .inr (12, [.ref x_1, .ref x_2, .ref x_3, .ref x_4, .ref x_5, .int (nI x_6), .int (nI x_7), .int (nI x_8), .int x_9, .ref x_10, .int (nI (pr.2)), .int (nI x_11), .int (nI x_12), .int x_13, .int x_14, .int x_15, .int x_16, .ref x_17, .ref x_18, .int (nI x_19), .ref x_20, .ref x_21, .ref x_22, .ref x_23, .ref x_24, .ref x_25, .ref x_26, .ref x_27, .ref x_28, .ref x_29, .ref x_30, .int (nI x_31)]) := hS_o
  refine pl_put (ci := 12) (v := .int 0) (ty := .int) (C := RX12) (T := TX12) (N := 32) (fs' := [.ref x_1, .ref x_2, .ref x_3, .ref x_4, .ref x_5, .int (nI x_6), .int (nI x_7), .int (nI x_8), .int 0, .ref x_10, .int (nI (pr.2)), .int (nI x_11), .int (nI x_12), .int x_13, .int x_14, .int x_15, .int x_16, .ref x_17, .ref x_18, .int (nI x_19), .ref x_20, .ref x_21, .ref x_22, .ref x_23, .ref x_24, .ref x_25, .ref x_26, .ref x_27, .ref x_28, .ref x_29, .ref x_30, .int (nI x_31)]) hx hb hT iX12 tyX12 tyX12_ok nmX12 hown hK hW hT_o.1 hS_o rfl 8 (by decide) w1090 rfl (by decide +kernel) rfl rfl (Nat.le_of_ble_eq_true rfl) rfl dX12_line_2 (fun H locs S_32 e1 hW => ?_)
  have hTy := hTy.u12 e1 hT_o ⟨x_1, x_2, x_3, x_4, x_5, x_6, x_7, x_8, 0, x_10, x_11, x_12, x_13, x_14, x_15, x_16, x_17, x_18, x_19, x_20, x_21, x_22, x_23, x_24, x_25, x_26, x_27, x_28, x_29, x_30, x_31, rfl, hT_x_1, hT_x_2, hT_x_3, hT_x_4, hT_x_5, (by omega), (by omega), (by omega), hT_x_10, (by show pr.2 ≤ 900; omega), (by omega), (by omega), hT_x_17, hT_x_18, (by omega), hT_x_20, hT_x_21, hT_x_22, hT_x_23, hT_x_24, hT_x_25, hT_x_26, hT_x_27, hT_x_28, hT_x_29, hT_x_30, (by omega)⟩
  have hws := (show wrs (.inr (12, [.ref x_1, .ref x_2, .ref x_3, .ref x_4, .ref x_5, .int (nI x_6), .int (nI x_7), .int (nI x_8), .int 0, .ref x_10, .int (nI (pr.2)), .int (nI x_11), .int (nI x_12), .int x_13, .int x_14, .int x_15, .int x_16, .ref x_17, .ref x_18, .int (nI x_19), .ref x_20, .ref x_21, .ref x_22, .ref x_23, .ref x_24, .ref x_25, .ref x_26, .ref x_27, .ref x_28, .ref x_29, .ref x_30, .int (nI x_31)])) = wrs (S o) from by rw [hS_o]; rfl)
  have hFr := ufs hFr e1 hT_o (by decide) hws
  have hS_o := us e1
  refine lv_aload_n hx hb dX12_line_5 rfl (lv_at hl 0 rfl) ?_
  refine lv_iload_n hx hb dX12_line_6 rfl (lv_at hl 1 rfl) ?_
  refine vp_callSi (va_Run.run (va_runV (As := [.int tr]) (rest := []) ⟨hx, hb, hml, hown, hT⟩ (m_isTrade l dC dI cy L kap pr S_32 H.size o tr hTy hT_o) (cwV 1 hT (gV w1301 w1303 ws76 w14 w1304) rfl rfl rfl (by decide +kernel) ⟨(Nat.le_of_ble_eq_true rfl), (Nat.le_of_ble_eq_true rfl)⟩) ⟨pcN.blind, pl_recv hK hW hT_o.1 hS_o rfl, pcN.pre hW.1 hK hW.2.1 hN (fun q h => absurd h List.not_mem_nil)⟩ rfl rfl hl.1 rfl (lv_room (Nat.le_of_ble_eq_true rfl)) dX12_line_7 ⟨(Nat.le_of_ble_eq_true rfl), (Nat.le_of_ble_eq_true rfl)⟩)) (fun r_33 hr_33 => ?_)
  rcases hr_33 with hc_ | hc_
  · obtain rfl : r_33 = 0 := hc_
    refine lv_if_ne (tgt := 16) hx hb dX12_line_10 (by decide) (fun h => absurd (by decide) h) (fun _ => ?_)
    refine lv_bipush (v := (-2)) hx hb dX12_line_13 (by decide) ?_
    exact W.iret (v := (-2)) hx hb hr (fun t ht h9 => ⟨⟨(-2), S_32, rfl, ⟨hTy, hFr⟩, by rw [ht]; exact hW.1, va_K.moved h9.alike hK, hW.2.1⟩, hW.2.2.F ht⟩) hW.2.2.2.2 dX12_line_15
  · obtain ⟨rfl, k_34, n_35, hb_k_34, hb_n_35, rfl, hmn_⟩ := hc_
    obtain ⟨f_36, hS_x_1, hi_f_36⟩ := hTy.k50 hT_x_1
    have h0_ : f_36 0 = nI n_35 := mnye hmn_ hS_o rfl hS_x_1
    refine lv_if_ne (tgt := 16) hx hb dX12_line_10 (by decide) (fun _ => ?_) (fun h => absurd h (by decide))
    refine lv_iload_n hx hb dX12_line_16 rfl (lv_at hl 2 rfl) ?_
    refine lv_if_ge (tgt := 23) hx hb dX12_line_17 (by decide) (fun c_17 => ?_) (fun c_17 => ?_)
    · obtain ⟨j_37, hj_j_37, rfl⟩ := nI_of (nnlt c_17)
      refine lv_aload_n hx hb dX12_line_23 rfl (lv_at hl 0 rfl) ?_
      refine lv_iconst (v := 0) hx hb dX12_line_24 (by decide) ?_
      refine pl_put (ci := 12) (v := .int 0) (ty := .int) (C := RX12) (T := TX12) (N := 32) (fs' := [.ref x_1, .ref x_2, .ref x_3, .ref x_4, .ref x_5, .int (nI x_6), .int (nI x_7), .int (nI x_8), .int 0, .ref x_10, .int (nI (pr.2)), .int (nI x_11), .int (nI x_12), .int x_13, .int x_14, .int x_15, .int x_16, .ref x_17, .ref x_18, .int (nI x_19), .ref x_20, .ref x_21, .ref x_22, .ref x_23, .ref x_24, .ref x_25, .ref x_26, .ref x_27, .ref x_28, .ref x_29, .ref x_30, .int 0]) hx hb hT iX12 tyX12 tyX12_ok nmX12 hown hK hW hT_o.1 hS_o rfl 31 (by decide) w1113 rfl (by decide +kernel) rfl rfl (Nat.le_of_ble_eq_true rfl) rfl dX12_line_25 (fun H locs S_38 e1 hW => ?_)
      have hTy := hTy.u12 e1 hT_o ⟨x_1, x_2, x_3, x_4, x_5, x_6, x_7, x_8, 0, x_10, x_11, x_12, x_13, x_14, x_15, x_16, x_17, x_18, x_19, x_20, x_21, x_22, x_23, x_24, x_25, x_26, x_27, x_28, x_29, x_30, 0, rfl, hT_x_1, hT_x_2, hT_x_3, hT_x_4, hT_x_5, (by omega), (by omega), (by omega), hT_x_10, (by show pr.2 ≤ 900; omega), (by omega), (by omega), hT_x_17, hT_x_18, (by omega), hT_x_20, hT_x_21, hT_x_22, hT_x_23, hT_x_24, hT_x_25, hT_x_26, hT_x_27, hT_x_28, hT_x_29, hT_x_30, (by omega)⟩
      have hS_x_1 := un e1 hT_x_1 hT_o (by decide) hS_x_1
      have hws := (show wrs (.inr (12, [.ref x_1, .ref x_2, .ref x_3, .ref x_4, .ref x_5, .int (nI x_6), .int (nI x_7), .int (nI x_8), .int 0, .ref x_10, .int (nI (pr.2)), .int (nI x_11), .int (nI x_12), .int x_13, .int x_14, .int x_15, .int x_16, .ref x_17, .ref x_18, .int (nI x_19), .ref x_20, .ref x_21, .ref x_22, .ref x_23, .ref x_24, .ref x_25, .ref x_26, .ref x_27, .ref x_28, .ref x_29, .ref x_30, .int 0])) = wrs (S_32 o) from by rw [hS_o]; rfl)
      have hFr := ufs hFr e1 hT_o (by decide) hws
      have hS_o := us e1
      refine lv_aload_n hx hb dX12_line_28 rfl (lv_at hl 0 rfl) ?_
      refine lv_aload_n hx hb dX12_line_29 rfl (lv_at hl 0 rfl) ?_
      refine pl_get (ci := 12) (v := .ref x_4) (C := RX12) (T := TX12) (N := 32) hx hb hT iX12 hown hK hW hT_o.1 hS_o rfl 3 (by decide) w1085 rfl dX12_line_30 ?_
      refine lv_aload_n hx hb dX12_line_33 rfl (lv_at hl 0 rfl) ?_
      refine lv_iload_n hx hb dX12_line_34 rfl (lv_at hl 1 rfl) ?_
      refine lv_iconst (v := 0) hx hb dX12_line_35 (by decide) ?_
      refine vp_callSi (va_Run.run (va_runV (As := [.int (nI k_34), .int 0]) (rest := [.ref x_4, .ref o]) ⟨hx, hb, hml, hown, hT⟩ (m_tradeAt l dC dI cy L kap pr S_38 H.size o k_34 0 hTy hT_o (by omega) (by omega)) (cwV 2 hT (gV w1247 w1249 ws66 w14 w1250) rfl rfl rfl (by decide +kernel) ⟨(Nat.le_of_ble_eq_true rfl), (Nat.le_of_ble_eq_true rfl)⟩) ⟨pcN.blind, pl_recv hK hW hT_o.1 hS_o rfl, pcN.pre hW.1 hK hW.2.1 hN (fun q h => absurd h List.not_mem_nil)⟩ rfl rfl hl.1 rfl (lv_room (Nat.le_of_ble_eq_true rfl)) dX12_line_36 ⟨(Nat.le_of_ble_eq_true rfl), (Nat.le_of_ble_eq_true rfl)⟩)) (fun r_39 hr_39 => ?_)
      obtain ⟨k_40, hb_k_40, rfl⟩ := hr_39.1.2.1 (by omega) (by omega) (by omega)
      obtain ⟨f_41, hS_x_4⟩ := hTy.k53 hT_x_4
      refine pl_lald hx hb hK hW hT_x_4.1 hS_x_4 (vp_in_nI (n := k_40) (N := 12) (by omega) (by omega)) dX12_line_39 ?_
      refine lv_topl (fun y_42 ey_42 => ?_)
      refine pl_callv (va_runV (As := [.long y_42]) (rest := []) ⟨hx, hb, hml, hown, hT⟩ (m_putsName l dC dI cy L kap pr S_38 H.size o y_42 hTy hT_o 0 (inf_i hS_o rfl) (by omega)) (cwV 1 hT (gV w1567 w1569 ws107 w14 w1570) rfl rfl rfl (by decide +kernel) ⟨(Nat.le_of_ble_eq_true rfl), (Nat.le_of_ble_eq_true rfl)⟩) ⟨pcN.blind, pl_recv hK hW hT_o.1 hS_o rfl, pcN.pre hW.1 hK hW.2.1 hN (fun q h => absurd h List.not_mem_nil)⟩ rfl rfl hl.1 rfl (lv_room (Nat.le_of_ble_eq_true rfl)) dX12_line_40 ⟨(Nat.le_of_ble_eq_true rfl), (Nat.le_of_ble_eq_true rfl)⟩) hW hA0 hA (fun S_43 H locs hrel hW => ?_)
      obtain ⟨hTy, hF1, hx1⟩ := hrel
      have hFr := hFr.tr hF1 (by decide)
      have hS_x_1 := hF1.at hT_x_1 (by decide) hS_x_1
      have hS_x_4 := hF1.at hT_x_4 (by decide) hS_x_4
      obtain ⟨b_44, hb_b_44, hi_b_44⟩ := hx1
      obtain ⟨x_45, x_46, x_47, x_48, x_49, x_50, x_51, x_52, x_53, x_54, x_55, x_56, x_57, x_58, x_59, x_60, x_61, x_62, x_63, x_64, x_65, x_66, x_67, x_68, x_69, x_70, x_71, x_72, x_73, x_74, x_75, hS_o, hT_x_45, hT_x_46, hT_x_47, hT_x_48, hT_x_49, hb_x_50, hb_x_51, hb_x_52, hT_x_54, hb_q2, hb_x_55, hb_x_56, hT_x_61, hT_x_62, hb_x_63, hT_x_64, hT_x_65, hT_x_66, hT_x_67, hT_x_68, hT_x_69, hT_x_70, hT_x_71, hT_x_72, hT_x_73, hT_x_74, hb_x_75⟩ := hTy.k12 hT_o
      have hb_q2 : pr.2 ≤ 900 := hb_q2
      have hS_o : S_43 o = .inr (12, [.ref x_45, .ref x_46, .ref x_47, .ref x_48, .ref x_49, .int (nI x_50), .int (nI x_51), .int (nI x_52), .int x_53, .ref x_54, .int (nI (pr.2)), .int (nI x_55), .int (nI x_56), .int x_57, .int x_58, .int x_59, .int x_60, .ref x_61, .ref x_62, .int (nI x_63), .ref x_64, .ref x_65, .ref x_66, .ref x_67, .ref x_68, .ref x_69, .ref x_70, .ref x_71, .ref x_72, .ref x_73, .ref x_74, .int (nI x_75)]) := hS_o
      have e31_ : b_44 = x_75 := (nI_eq (by omega) (by omega)).mp (Eq.trans (Eq.symm hi_b_44) (inf_i hS_o rfl))
      subst e31_
      refine lv_aload_n hx hb dX12_line_43 rfl (lv_at hl 0 rfl) ?_
      refine lv_bipush (v := 62) hx hb dX12_line_44 (by decide) ?_
      refine pl_callv (va_runV (As := [.int 62]) (rest := []) ⟨hx, hb, hml, hown, hT⟩ (m_puts l dC dI cy L kap pr S_43 H.size o 62 hTy hT_o b_44 (inf_i hS_o rfl) (by omega)) (cwV 1 hT (gV w1572 w1574 ws108 w14 w1575) rfl rfl rfl (by decide +kernel) ⟨(Nat.le_of_ble_eq_true rfl), (Nat.le_of_ble_eq_true rfl)⟩) ⟨pcN.blind, pl_recv hK hW hT_o.1 hS_o rfl, pcN.pre hW.1 hK hW.2.1 hN (fun q h => absurd h List.not_mem_nil)⟩ rfl rfl hl.1 rfl (lv_room (Nat.le_of_ble_eq_true rfl)) dX12_line_46 ⟨(Nat.le_of_ble_eq_true rfl), (Nat.le_of_ble_eq_true rfl)⟩) hW hA0 hA (fun S_76 H locs hrel hW => ?_)
      obtain ⟨hTy, hF1, hx1⟩ := hrel
      have hFr := hFr.tr hF1 (by decide)
      have hS_x_1 := hF1.at hT_x_1 (by decide) hS_x_1
      have hS_x_4 := hF1.at hT_x_4 (by decide) hS_x_4
      obtain ⟨x_77, x_78, x_79, x_80, x_81, x_82, x_83, x_84, x_85, x_86, x_87, x_88, x_89, x_90, x_91, x_92, x_93, x_94, x_95, x_96, x_97, x_98, x_99, x_100, x_101, x_102, x_103, x_104, x_105, x_106, x_107, hS_o, hT_x_77, hT_x_78, hT_x_79, hT_x_80, hT_x_81, hb_x_82, hb_x_83, hb_x_84, hT_x_86, hb_q2, hb_x_87, hb_x_88, hT_x_93, hT_x_94, hb_x_95, hT_x_96, hT_x_97, hT_x_98, hT_x_99, hT_x_100, hT_x_101, hT_x_102, hT_x_103, hT_x_104, hT_x_105, hT_x_106, hb_x_107⟩ := hTy.k12 hT_o
      have hb_q2 : pr.2 ≤ 900 := hb_q2
      have hS_o : S_76 o = .inr (12, [.ref x_77, .ref x_78, .ref x_79, .ref x_80, .ref x_81, .int (nI x_82), .int (nI x_83), .int (nI x_84), .int x_85, .ref x_86, .int (nI (pr.2)), .int (nI x_87), .int (nI x_88), .int x_89, .int x_90, .int x_91, .int x_92, .ref x_93, .ref x_94, .int (nI x_95), .ref x_96, .ref x_97, .ref x_98, .ref x_99, .ref x_100, .ref x_101, .ref x_102, .ref x_103, .ref x_104, .ref x_105, .ref x_106, .int (nI x_107)]) := hS_o
      have e31_ : b_44 + 1 = x_107 := (nI_eq (by omega) (by omega)).mp (Eq.trans (Eq.symm hx1) (inf_i hS_o rfl))
      subst e31_
      refine lv_aload_n hx hb dX12_line_49 rfl (lv_at hl 0 rfl) ?_
      refine lv_aload_n hx hb dX12_line_50 rfl (lv_at hl 0 rfl) ?_
      refine pl_get (ci := 12) (v := .ref x_80) (C := RX12) (T := TX12) (N := 32) hx hb hT iX12 hown hK hW hT_o.1 hS_o rfl 3 (by decide) w1085 rfl dX12_line_51 ?_
      refine lv_aload_n hx hb dX12_line_54 rfl (lv_at hl 0 rfl) ?_
      refine lv_iload_n hx hb dX12_line_55 rfl (lv_at hl 1 rfl) ?_
      refine lv_iconst (v := 1) hx hb dX12_line_56 (by decide) ?_
      refine vp_callSi (va_Run.run (va_runV (As := [.int (nI k_34), .int 1]) (rest := [.ref x_80, .ref o]) ⟨hx, hb, hml, hown, hT⟩ (m_tradeAt l dC dI cy L kap pr S_76 H.size o k_34 1 hTy hT_o (by omega) (by omega)) (cwV 2 hT (gV w1247 w1249 ws66 w14 w1250) rfl rfl rfl (by decide +kernel) ⟨(Nat.le_of_ble_eq_true rfl), (Nat.le_of_ble_eq_true rfl)⟩) ⟨pcN.blind, pl_recv hK hW hT_o.1 hS_o rfl, pcN.pre hW.1 hK hW.2.1 hN (fun q h => absurd h List.not_mem_nil)⟩ rfl rfl hl.1 rfl (lv_room (Nat.le_of_ble_eq_true rfl)) dX12_line_57 ⟨(Nat.le_of_ble_eq_true rfl), (Nat.le_of_ble_eq_true rfl)⟩)) (fun r_108 hr_108 => ?_)
      obtain ⟨k_109, hb_k_109, rfl⟩ := hr_108.1.2.1 (by omega) (by omega) (by omega)
      obtain ⟨f_110, hS_x_80⟩ := hTy.k53 hT_x_80
      refine pl_lald hx hb hK hW hT_x_80.1 hS_x_80 (vp_in_nI (n := k_109) (N := 12) (by omega) (by omega)) dX12_line_60 ?_
      refine lv_topl (fun y_111 ey_111 => ?_)
      refine pl_callv (va_runV (As := [.long y_111]) (rest := []) ⟨hx, hb, hml, hown, hT⟩ (m_putsName l dC dI cy L kap pr S_76 H.size o y_111 hTy hT_o (b_44 + 1) (inf_i hS_o rfl) (by omega)) (cwV 1 hT (gV w1567 w1569 ws107 w14 w1570) rfl rfl rfl (by decide +kernel) ⟨(Nat.le_of_ble_eq_true rfl), (Nat.le_of_ble_eq_true rfl)⟩) ⟨pcN.blind, pl_recv hK hW hT_o.1 hS_o rfl, pcN.pre hW.1 hK hW.2.1 hN (fun q h => absurd h List.not_mem_nil)⟩ rfl rfl hl.1 rfl (lv_room (Nat.le_of_ble_eq_true rfl)) dX12_line_61 ⟨(Nat.le_of_ble_eq_true rfl), (Nat.le_of_ble_eq_true rfl)⟩) hW hA0 hA (fun S_112 H locs hrel hW => ?_)
      obtain ⟨hTy, hF1, hx1⟩ := hrel
      have hFr := hFr.tr hF1 (by decide)
      have hS_x_1 := hF1.at hT_x_1 (by decide) hS_x_1
      have hS_x_4 := hF1.at hT_x_4 (by decide) hS_x_4
      have hS_x_80 := hF1.at hT_x_80 (by decide) hS_x_80
      obtain ⟨b_113, hb_b_113, hi_b_113⟩ := hx1
      obtain ⟨x_114, x_115, x_116, x_117, x_118, x_119, x_120, x_121, x_122, x_123, x_124, x_125, x_126, x_127, x_128, x_129, x_130, x_131, x_132, x_133, x_134, x_135, x_136, x_137, x_138, x_139, x_140, x_141, x_142, x_143, x_144, hS_o, hT_x_114, hT_x_115, hT_x_116, hT_x_117, hT_x_118, hb_x_119, hb_x_120, hb_x_121, hT_x_123, hb_q2, hb_x_124, hb_x_125, hT_x_130, hT_x_131, hb_x_132, hT_x_133, hT_x_134, hT_x_135, hT_x_136, hT_x_137, hT_x_138, hT_x_139, hT_x_140, hT_x_141, hT_x_142, hT_x_143, hb_x_144⟩ := hTy.k12 hT_o
      have hb_q2 : pr.2 ≤ 900 := hb_q2
      have hS_o : S_112 o = .inr (12, [.ref x_114, .ref x_115, .ref x_116, .ref x_117, .ref x_118, .int (nI x_119), .int (nI x_120), .int (nI x_121), .int x_122, .ref x_123, .int (nI (pr.2)), .int (nI x_124), .int (nI x_125), .int x_126, .int x_127, .int x_128, .int x_129, .ref x_130, .ref x_131, .int (nI x_132), .ref x_133, .ref x_134, .ref x_135, .ref x_136, .ref x_137, .ref x_138, .ref x_139, .ref x_140, .ref x_141, .ref x_142, .ref x_143, .int (nI x_144)]) := hS_o
      have e31_ : b_113 = x_144 := (nI_eq (by omega) (by omega)).mp (Eq.trans (Eq.symm hi_b_113) (inf_i hS_o rfl))
      subst e31_
      refine lv_aload_n hx hb dX12_line_64 rfl (lv_at hl 0 rfl) ?_
      refine lv_bipush (v := 32) hx hb dX12_line_65 (by decide) ?_
      refine pl_callv (va_runV (As := [.int 32]) (rest := []) ⟨hx, hb, hml, hown, hT⟩ (m_puts l dC dI cy L kap pr S_112 H.size o 32 hTy hT_o b_113 (inf_i hS_o rfl) (by omega)) (cwV 1 hT (gV w1572 w1574 ws108 w14 w1575) rfl rfl rfl (by decide +kernel) ⟨(Nat.le_of_ble_eq_true rfl), (Nat.le_of_ble_eq_true rfl)⟩) ⟨pcN.blind, pl_recv hK hW hT_o.1 hS_o rfl, pcN.pre hW.1 hK hW.2.1 hN (fun q h => absurd h List.not_mem_nil)⟩ rfl rfl hl.1 rfl (lv_room (Nat.le_of_ble_eq_true rfl)) dX12_line_67 ⟨(Nat.le_of_ble_eq_true rfl), (Nat.le_of_ble_eq_true rfl)⟩) hW hA0 hA (fun S_145 H locs hrel hW => ?_)
      obtain ⟨hTy, hF1, hx1⟩ := hrel
      have hFr := hFr.tr hF1 (by decide)
      have hS_x_1 := hF1.at hT_x_1 (by decide) hS_x_1
      have hS_x_4 := hF1.at hT_x_4 (by decide) hS_x_4
      have hS_x_80 := hF1.at hT_x_80 (by decide) hS_x_80
      obtain ⟨x_146, x_147, x_148, x_149, x_150, x_151, x_152, x_153, x_154, x_155, x_156, x_157, x_158, x_159, x_160, x_161, x_162, x_163, x_164, x_165, x_166, x_167, x_168, x_169, x_170, x_171, x_172, x_173, x_174, x_175, x_176, hS_o, hT_x_146, hT_x_147, hT_x_148, hT_x_149, hT_x_150, hb_x_151, hb_x_152, hb_x_153, hT_x_155, hb_q2, hb_x_156, hb_x_157, hT_x_162, hT_x_163, hb_x_164, hT_x_165, hT_x_166, hT_x_167, hT_x_168, hT_x_169, hT_x_170, hT_x_171, hT_x_172, hT_x_173, hT_x_174, hT_x_175, hb_x_176⟩ := hTy.k12 hT_o
      have hb_q2 : pr.2 ≤ 900 := hb_q2
      have hS_o : S_145 o = .inr (12, [.ref x_146, .ref x_147, .ref x_148, .ref x_149, .ref x_150, .int (nI x_151), .int (nI x_152), .int (nI x_153), .int x_154, .ref x_155, .int (nI (pr.2)), .int (nI x_156), .int (nI x_157), .int x_158, .int x_159, .int x_160, .int x_161, .ref x_162, .ref x_163, .int (nI x_164), .ref x_165, .ref x_166, .ref x_167, .ref x_168, .ref x_169, .ref x_170, .ref x_171, .ref x_172, .ref x_173, .ref x_174, .ref x_175, .int (nI x_176)]) := hS_o
      have e31_ : b_113 + 1 = x_176 := (nI_eq (by omega) (by omega)).mp (Eq.trans (Eq.symm hx1) (inf_i hS_o rfl))
      subst e31_
      refine lv_aload_n hx hb dX12_line_70 rfl (lv_at hl 0 rfl) ?_
      refine lv_aload_n hx hb dX12_line_71 rfl (lv_at hl 0 rfl) ?_
      refine lv_iload_n hx hb dX12_line_72 rfl (lv_at hl 1 rfl) ?_
      refine lv_iconst (v := 2) hx hb dX12_line_73 (by decide) ?_
      refine vp_callSi (va_Run.run (va_runV (As := [.int (nI k_34), .int 2]) (rest := [.ref o]) ⟨hx, hb, hml, hown, hT⟩ (m_tradeAt l dC dI cy L kap pr S_145 H.size o k_34 2 hTy hT_o (by omega) (by omega)) (cwV 2 hT (gV w1247 w1249 ws66 w14 w1250) rfl rfl rfl (by decide +kernel) ⟨(Nat.le_of_ble_eq_true rfl), (Nat.le_of_ble_eq_true rfl)⟩) ⟨pcN.blind, pl_recv hK hW hT_o.1 hS_o rfl, pcN.pre hW.1 hK hW.2.1 hN (fun q h => absurd h List.not_mem_nil)⟩ rfl rfl hl.1 rfl (lv_room (Nat.le_of_ble_eq_true rfl)) dX12_line_74 ⟨(Nat.le_of_ble_eq_true rfl), (Nat.le_of_ble_eq_true rfl)⟩)) (fun r_177 hr_177 => ?_)
      refine pl_callv (va_runV (As := [.int r_177]) (rest := []) ⟨hx, hb, hml, hown, hT⟩ (m_putsNumber l dC dI cy L kap pr S_145 H.size o r_177 hTy hT_o (b_113 + 1) (inf_i hS_o rfl) (by omega)) (cwV 1 hT (gV w1576 w1578 ws109 w14 w1579) rfl rfl rfl (by decide +kernel) ⟨(Nat.le_of_ble_eq_true rfl), (Nat.le_of_ble_eq_true rfl)⟩) ⟨pcN.blind, pl_recv hK hW hT_o.1 hS_o rfl, pcN.pre hW.1 hK hW.2.1 hN (fun q h => absurd h List.not_mem_nil)⟩ rfl rfl hl.1 rfl (lv_room (Nat.le_of_ble_eq_true rfl)) dX12_line_77 ⟨(Nat.le_of_ble_eq_true rfl), (Nat.le_of_ble_eq_true rfl)⟩) hW hA0 hA (fun S_178 H locs hrel hW => ?_)
      obtain ⟨hTy, hF1, hx1⟩ := hrel
      have hFr := hFr.tr hF1 (by decide)
      have hS_x_1 := hF1.at hT_x_1 (by decide) hS_x_1
      have hS_x_4 := hF1.at hT_x_4 (by decide) hS_x_4
      have hS_x_80 := hF1.at hT_x_80 (by decide) hS_x_80
      obtain ⟨b_179, hb_b_179, hi_b_179⟩ := hx1
      obtain ⟨x_180, x_181, x_182, x_183, x_184, x_185, x_186, x_187, x_188, x_189, x_190, x_191, x_192, x_193, x_194, x_195, x_196, x_197, x_198, x_199, x_200, x_201, x_202, x_203, x_204, x_205, x_206, x_207, x_208, x_209, x_210, hS_o, hT_x_180, hT_x_181, hT_x_182, hT_x_183, hT_x_184, hb_x_185, hb_x_186, hb_x_187, hT_x_189, hb_q2, hb_x_190, hb_x_191, hT_x_196, hT_x_197, hb_x_198, hT_x_199, hT_x_200, hT_x_201, hT_x_202, hT_x_203, hT_x_204, hT_x_205, hT_x_206, hT_x_207, hT_x_208, hT_x_209, hb_x_210⟩ := hTy.k12 hT_o
      have hb_q2 : pr.2 ≤ 900 := hb_q2
      have hS_o : S_178 o = .inr (12, [.ref x_180, .ref x_181, .ref x_182, .ref x_183, .ref x_184, .int (nI x_185), .int (nI x_186), .int (nI x_187), .int x_188, .ref x_189, .int (nI (pr.2)), .int (nI x_190), .int (nI x_191), .int x_192, .int x_193, .int x_194, .int x_195, .ref x_196, .ref x_197, .int (nI x_198), .ref x_199, .ref x_200, .ref x_201, .ref x_202, .ref x_203, .ref x_204, .ref x_205, .ref x_206, .ref x_207, .ref x_208, .ref x_209, .int (nI x_210)]) := hS_o
      have e31_ : b_179 = x_210 := (nI_eq (by omega) (by omega)).mp (Eq.trans (Eq.symm hi_b_179) (inf_i hS_o rfl))
      subst e31_
      refine lv_aload_n hx hb dX12_line_80 rfl (lv_at hl 0 rfl) ?_
      refine lv_bipush (v := 32) hx hb dX12_line_81 (by decide) ?_
      refine pl_callv (va_runV (As := [.int 32]) (rest := []) ⟨hx, hb, hml, hown, hT⟩ (m_puts l dC dI cy L kap pr S_178 H.size o 32 hTy hT_o b_179 (inf_i hS_o rfl) (by omega)) (cwV 1 hT (gV w1572 w1574 ws108 w14 w1575) rfl rfl rfl (by decide +kernel) ⟨(Nat.le_of_ble_eq_true rfl), (Nat.le_of_ble_eq_true rfl)⟩) ⟨pcN.blind, pl_recv hK hW hT_o.1 hS_o rfl, pcN.pre hW.1 hK hW.2.1 hN (fun q h => absurd h List.not_mem_nil)⟩ rfl rfl hl.1 rfl (lv_room (Nat.le_of_ble_eq_true rfl)) dX12_line_83 ⟨(Nat.le_of_ble_eq_true rfl), (Nat.le_of_ble_eq_true rfl)⟩) hW hA0 hA (fun S_211 H locs hrel hW => ?_)
      obtain ⟨hTy, hF1, hx1⟩ := hrel
      have hFr := hFr.tr hF1 (by decide)
      have hS_x_1 := hF1.at hT_x_1 (by decide) hS_x_1
      have hS_x_4 := hF1.at hT_x_4 (by decide) hS_x_4
      have hS_x_80 := hF1.at hT_x_80 (by decide) hS_x_80
      obtain ⟨x_212, x_213, x_214, x_215, x_216, x_217, x_218, x_219, x_220, x_221, x_222, x_223, x_224, x_225, x_226, x_227, x_228, x_229, x_230, x_231, x_232, x_233, x_234, x_235, x_236, x_237, x_238, x_239, x_240, x_241, x_242, hS_o, hT_x_212, hT_x_213, hT_x_214, hT_x_215, hT_x_216, hb_x_217, hb_x_218, hb_x_219, hT_x_221, hb_q2, hb_x_222, hb_x_223, hT_x_228, hT_x_229, hb_x_230, hT_x_231, hT_x_232, hT_x_233, hT_x_234, hT_x_235, hT_x_236, hT_x_237, hT_x_238, hT_x_239, hT_x_240, hT_x_241, hb_x_242⟩ := hTy.k12 hT_o
      have hb_q2 : pr.2 ≤ 900 := hb_q2
      have hS_o : S_211 o = .inr (12, [.ref x_212, .ref x_213, .ref x_214, .ref x_215, .ref x_216, .int (nI x_217), .int (nI x_218), .int (nI x_219), .int x_220, .ref x_221, .int (nI (pr.2)), .int (nI x_222), .int (nI x_223), .int x_224, .int x_225, .int x_226, .int x_227, .ref x_228, .ref x_229, .int (nI x_230), .ref x_231, .ref x_232, .ref x_233, .ref x_234, .ref x_235, .ref x_236, .ref x_237, .ref x_238, .ref x_239, .ref x_240, .ref x_241, .int (nI x_242)]) := hS_o
      have e31_ : b_179 + 1 = x_242 := (nI_eq (by omega) (by omega)).mp (Eq.trans (Eq.symm hx1) (inf_i hS_o rfl))
      subst e31_
      refine lv_aload_n hx hb dX12_line_86 rfl (lv_at hl 0 rfl) ?_
      refine lv_aload_n hx hb dX12_line_87 rfl (lv_at hl 0 rfl) ?_
      refine pl_get (ci := 12) (v := .ref x_215) (C := RX12) (T := TX12) (N := 32) hx hb hT iX12 hown hK hW hT_o.1 hS_o rfl 3 (by decide) w1085 rfl dX12_line_88 ?_
      refine lv_bipush (v := 8) hx hb dX12_line_91 (by decide) ?_
      refine lv_aload_n hx hb dX12_line_93 rfl (lv_at hl 0 rfl) ?_
      refine lv_iload_n hx hb dX12_line_94 rfl (lv_at hl 1 rfl) ?_
      refine lv_iconst (v := 3) hx hb dX12_line_95 (by decide) ?_
      refine vp_callSi (va_Run.run (va_runV (As := [.int (nI k_34), .int 3]) (rest := [.int 8, .ref x_215, .ref o]) ⟨hx, hb, hml, hown, hT⟩ (m_tradeAt l dC dI cy L kap pr S_211 H.size o k_34 3 hTy hT_o (by omega) (by omega)) (cwV 2 hT (gV w1247 w1249 ws66 w14 w1250) rfl rfl rfl (by decide +kernel) ⟨(Nat.le_of_ble_eq_true rfl), (Nat.le_of_ble_eq_true rfl)⟩) ⟨pcN.blind, pl_recv hK hW hT_o.1 hS_o rfl, pcN.pre hW.1 hK hW.2.1 hN (fun q h => absurd h List.not_mem_nil)⟩ rfl rfl hl.1 rfl (lv_room (Nat.le_of_ble_eq_true rfl)) dX12_line_96 ⟨(Nat.le_of_ble_eq_true rfl), (Nat.le_of_ble_eq_true rfl)⟩)) (fun r_243 hr_243 => ?_)
      obtain ⟨k_244, hb_k_244, rfl⟩ := hr_243.1.2.2 (by omega) (by omega) (by omega)
      refine lv_iadd hx hb dX12_line_99 ?_
      refine lv_topi (fun z_245 ez_245 => ?_)
      obtain rfl : z_245 = nI (8 + k_244) := ez_245.trans (nI_add (8) (k_244))
      obtain ⟨f_246, hS_x_215⟩ := hTy.k53 hT_x_215
      refine pl_lald hx hb hK hW hT_x_215.1 hS_x_215 (vp_in_nI (n := 8 + k_244) (N := 12) (by omega) (by omega)) dX12_line_100 ?_
      refine lv_topl (fun y_247 ey_247 => ?_)
      refine pl_callv (va_runV (As := [.long y_247]) (rest := []) ⟨hx, hb, hml, hown, hT⟩ (m_putsName l dC dI cy L kap pr S_211 H.size o y_247 hTy hT_o (b_179 + 1) (inf_i hS_o rfl) (by omega)) (cwV 1 hT (gV w1567 w1569 ws107 w14 w1570) rfl rfl rfl (by decide +kernel) ⟨(Nat.le_of_ble_eq_true rfl), (Nat.le_of_ble_eq_true rfl)⟩) ⟨pcN.blind, pl_recv hK hW hT_o.1 hS_o rfl, pcN.pre hW.1 hK hW.2.1 hN (fun q h => absurd h List.not_mem_nil)⟩ rfl rfl hl.1 rfl (lv_room (Nat.le_of_ble_eq_true rfl)) dX12_line_101 ⟨(Nat.le_of_ble_eq_true rfl), (Nat.le_of_ble_eq_true rfl)⟩) hW hA0 hA (fun S_248 H locs hrel hW => ?_)
      obtain ⟨hTy, hF1, hx1⟩ := hrel
      have hFr := hFr.tr hF1 (by decide)
      have hS_x_1 := hF1.at hT_x_1 (by decide) hS_x_1
      have hS_x_4 := hF1.at hT_x_4 (by decide) hS_x_4
      have hS_x_80 := hF1.at hT_x_80 (by decide) hS_x_80
      have hS_x_215 := hF1.at hT_x_215 (by decide) hS_x_215
      obtain ⟨b_249, hb_b_249, hi_b_249⟩ := hx1
      obtain ⟨x_250, x_251, x_252, x_253, x_254, x_255, x_256, x_257, x_258, x_259, x_260, x_261, x_262, x_263, x_264, x_265, x_266, x_267, x_268, x_269, x_270, x_271, x_272, x_273, x_274, x_275, x_276, x_277, x_278, x_279, x_280, hS_o, hT_x_250, hT_x_251, hT_x_252, hT_x_253, hT_x_254, hb_x_255, hb_x_256, hb_x_257, hT_x_259, hb_q2, hb_x_260, hb_x_261, hT_x_266, hT_x_267, hb_x_268, hT_x_269, hT_x_270, hT_x_271, hT_x_272, hT_x_273, hT_x_274, hT_x_275, hT_x_276, hT_x_277, hT_x_278, hT_x_279, hb_x_280⟩ := hTy.k12 hT_o
      have hb_q2 : pr.2 ≤ 900 := hb_q2
      have hS_o : S_248 o = .inr (12, [.ref x_250, .ref x_251, .ref x_252, .ref x_253, .ref x_254, .int (nI x_255), .int (nI x_256), .int (nI x_257), .int x_258, .ref x_259, .int (nI (pr.2)), .int (nI x_260), .int (nI x_261), .int x_262, .int x_263, .int x_264, .int x_265, .ref x_266, .ref x_267, .int (nI x_268), .ref x_269, .ref x_270, .ref x_271, .ref x_272, .ref x_273, .ref x_274, .ref x_275, .ref x_276, .ref x_277, .ref x_278, .ref x_279, .int (nI x_280)]) := hS_o
      have e31_ : b_249 = x_280 := (nI_eq (by omega) (by omega)).mp (Eq.trans (Eq.symm hi_b_249) (inf_i hS_o rfl))
      subst e31_
      refine lv_aload_n hx hb dX12_line_104 rfl (lv_at hl 0 rfl) ?_
      refine lv_iload_n hx hb dX12_line_105 rfl (lv_at hl 1 rfl) ?_
      refine lv_iconst (v := 4) hx hb dX12_line_106 (by decide) ?_
      refine vp_callSi (va_Run.run (va_runV (As := [.int (nI k_34), .int 4]) (rest := []) ⟨hx, hb, hml, hown, hT⟩ (m_tradeAt l dC dI cy L kap pr S_248 H.size o k_34 4 hTy hT_o (by omega) (by omega)) (cwV 2 hT (gV w1247 w1249 ws66 w14 w1250) rfl rfl rfl (by decide +kernel) ⟨(Nat.le_of_ble_eq_true rfl), (Nat.le_of_ble_eq_true rfl)⟩) ⟨pcN.blind, pl_recv hK hW hT_o.1 hS_o rfl, pcN.pre hW.1 hK hW.2.1 hN (fun q h => absurd h List.not_mem_nil)⟩ rfl rfl hl.1 rfl (lv_room (Nat.le_of_ble_eq_true rfl)) dX12_line_107 ⟨(Nat.le_of_ble_eq_true rfl), (Nat.le_of_ble_eq_true rfl)⟩)) (fun r_281 hr_281 => ?_)
      refine lv_iconst (v := 1) hx hb dX12_line_110 (by decide) ?_
      refine lv_icmp_ne (tgt := 126) hx hb dX12_line_111 (by decide) (fun c_111 => ?_) (fun c_111 => ?_)
      · refine lv_iload_n hx hb dX12_line_126 rfl (lv_at hl 2 rfl) ?_
        refine lv_aload_n hx hb dX12_line_127 rfl (lv_at hl 0 rfl) ?_
        refine pl_get (ci := 12) (v := .int (nI b_249)) (C := RX12) (T := TX12) (N := 32) hx hb hT iX12 hown hK hW hT_o.1 hS_o rfl 31 (by decide) w1113 rfl dX12_line_128 ?_
        refine lv_icmp_ge (tgt := 143) hx hb dX12_line_131 (by decide) (fun c_131 => ?_) (fun c_131 => ?_)
        · have c_131 : b_249 ≤ j_37 := (nI_leI (a := b_249) (b := j_37) (by omega) (by omega)).mp c_131
          refine lv_iconst (v := (-1)) hx hb dX12_line_143 (by decide) ?_
          exact W.iret (v := (-1)) hx hb hr (fun t ht h9 => ⟨⟨(-1), S_248, rfl, ⟨hTy, hFr⟩, by rw [ht]; exact hW.1, va_K.moved h9.alike hK, hW.2.1⟩, hW.2.2.F ht⟩) hW.2.2.2.2 dX12_line_144
        · have c_131 : ¬ (b_249 ≤ j_37) := fun hh9 => c_131 ((nI_leI (a := b_249) (b := j_37) (by omega) (by omega)).mpr hh9)
          refine lv_aload_n hx hb dX12_line_134 rfl (lv_at hl 0 rfl) ?_
          refine pl_get (ci := 12) (v := .ref x_279) (C := RX12) (T := TX12) (N := 32) hx hb hT iX12 hown hK hW hT_o.1 hS_o rfl 30 (by decide) w1112 rfl dX12_line_135 ?_
          refine lv_iload_n hx hb dX12_line_138 rfl (lv_at hl 2 rfl) ?_
          obtain ⟨f_282, hS_x_279⟩ := hTy.k68 hT_x_279
          refine pl_iald hx hb hK hW hT_x_279.1 hS_x_279 (vp_in_nI (n := j_37) (N := 48) (by omega) (by omega)) dX12_line_139 ?_
          refine lv_topi (fun y_283 ey_283 => ?_)
          refine lv_goto (tgt := 144) hx hb dX12_line_140 (by decide) ?_
          exact W.iret (v := y_283) hx hb hr (fun t ht h9 => ⟨⟨y_283, S_248, rfl, ⟨hTy, hFr⟩, by rw [ht]; exact hW.1, va_K.moved h9.alike hK, hW.2.1⟩, hW.2.2.F ht⟩) hW.2.2.2.2 dX12_line_144
      · refine lv_aload_n hx hb dX12_line_114 rfl (lv_at hl 0 rfl) ?_
        refine lv_bipush (v := 32) hx hb dX12_line_115 (by decide) ?_
        refine pl_callv (va_runV (As := [.int 32]) (rest := []) ⟨hx, hb, hml, hown, hT⟩ (m_puts l dC dI cy L kap pr S_248 H.size o 32 hTy hT_o b_249 (inf_i hS_o rfl) (by omega)) (cwV 1 hT (gV w1572 w1574 ws108 w14 w1575) rfl rfl rfl (by decide +kernel) ⟨(Nat.le_of_ble_eq_true rfl), (Nat.le_of_ble_eq_true rfl)⟩) ⟨pcN.blind, pl_recv hK hW hT_o.1 hS_o rfl, pcN.pre hW.1 hK hW.2.1 hN (fun q h => absurd h List.not_mem_nil)⟩ rfl rfl hl.1 rfl (lv_room (Nat.le_of_ble_eq_true rfl)) dX12_line_117 ⟨(Nat.le_of_ble_eq_true rfl), (Nat.le_of_ble_eq_true rfl)⟩) hW hA0 hA (fun S_284 H locs hrel hW => ?_)
        obtain ⟨hTy, hF1, hx1⟩ := hrel
        have hFr := hFr.tr hF1 (by decide)
        have hS_x_1 := hF1.at hT_x_1 (by decide) hS_x_1
        have hS_x_4 := hF1.at hT_x_4 (by decide) hS_x_4
        have hS_x_80 := hF1.at hT_x_80 (by decide) hS_x_80
        have hS_x_215 := hF1.at hT_x_215 (by decide) hS_x_215
        obtain ⟨x_285, x_286, x_287, x_288, x_289, x_290, x_291, x_292, x_293, x_294, x_295, x_296, x_297, x_298, x_299, x_300, x_301, x_302, x_303, x_304, x_305, x_306, x_307, x_308, x_309, x_310, x_311, x_312, x_313, x_314, x_315, hS_o, hT_x_285, hT_x_286, hT_x_287, hT_x_288, hT_x_289, hb_x_290, hb_x_291, hb_x_292, hT_x_294, hb_q2, hb_x_295, hb_x_296, hT_x_301, hT_x_302, hb_x_303, hT_x_304, hT_x_305, hT_x_306, hT_x_307, hT_x_308, hT_x_309, hT_x_310, hT_x_311, hT_x_312, hT_x_313, hT_x_314, hb_x_315⟩ := hTy.k12 hT_o
        have hb_q2 : pr.2 ≤ 900 := hb_q2
        have hS_o : S_284 o = .inr (12, [.ref x_285, .ref x_286, .ref x_287, .ref x_288, .ref x_289, .int (nI x_290), .int (nI x_291), .int (nI x_292), .int x_293, .ref x_294, .int (nI (pr.2)), .int (nI x_295), .int (nI x_296), .int x_297, .int x_298, .int x_299, .int x_300, .ref x_301, .ref x_302, .int (nI x_303), .ref x_304, .ref x_305, .ref x_306, .ref x_307, .ref x_308, .ref x_309, .ref x_310, .ref x_311, .ref x_312, .ref x_313, .ref x_314, .int (nI x_315)]) := hS_o
        have e31_ : b_249 + 1 = x_315 := (nI_eq (by omega) (by omega)).mp (Eq.trans (Eq.symm hx1) (inf_i hS_o rfl))
        subst e31_
        refine lv_aload_n hx hb dX12_line_120 rfl (lv_at hl 0 rfl) ?_
        refine lv_bipush (v := 42) hx hb dX12_line_121 (by decide) ?_
        refine pl_callv (va_runV (As := [.int 42]) (rest := []) ⟨hx, hb, hml, hown, hT⟩ (m_puts l dC dI cy L kap pr S_284 H.size o 42 hTy hT_o (b_249 + 1) (inf_i hS_o rfl) (by omega)) (cwV 1 hT (gV w1572 w1574 ws108 w14 w1575) rfl rfl rfl (by decide +kernel) ⟨(Nat.le_of_ble_eq_true rfl), (Nat.le_of_ble_eq_true rfl)⟩) ⟨pcN.blind, pl_recv hK hW hT_o.1 hS_o rfl, pcN.pre hW.1 hK hW.2.1 hN (fun q h => absurd h List.not_mem_nil)⟩ rfl rfl hl.1 rfl (lv_room (Nat.le_of_ble_eq_true rfl)) dX12_line_123 ⟨(Nat.le_of_ble_eq_true rfl), (Nat.le_of_ble_eq_true rfl)⟩) hW hA0 hA (fun S_316 H locs hrel hW => ?_)
        obtain ⟨hTy, hF1, hx1⟩ := hrel
        have hFr := hFr.tr hF1 (by decide)
        have hS_x_1 := hF1.at hT_x_1 (by decide) hS_x_1
        have hS_x_4 := hF1.at hT_x_4 (by decide) hS_x_4
        have hS_x_80 := hF1.at hT_x_80 (by decide) hS_x_80
        have hS_x_215 := hF1.at hT_x_215 (by decide) hS_x_215
        obtain ⟨x_317, x_318, x_319, x_320, x_321, x_322, x_323, x_324, x_325, x_326, x_327, x_328, x_329, x_330, x_331, x_332, x_333, x_334, x_335, x_336, x_337, x_338, x_339, x_340, x_341, x_342, x_343, x_344, x_345, x_346, x_347, hS_o, hT_x_317, hT_x_318, hT_x_319, hT_x_320, hT_x_321, hb_x_322, hb_x_323, hb_x_324, hT_x_326, hb_q2, hb_x_327, hb_x_328, hT_x_333, hT_x_334, hb_x_335, hT_x_336, hT_x_337, hT_x_338, hT_x_339, hT_x_340, hT_x_341, hT_x_342, hT_x_343, hT_x_344, hT_x_345, hT_x_346, hb_x_347⟩ := hTy.k12 hT_o
        have hb_q2 : pr.2 ≤ 900 := hb_q2
        have hS_o : S_316 o = .inr (12, [.ref x_317, .ref x_318, .ref x_319, .ref x_320, .ref x_321, .int (nI x_322), .int (nI x_323), .int (nI x_324), .int x_325, .ref x_326, .int (nI (pr.2)), .int (nI x_327), .int (nI x_328), .int x_329, .int x_330, .int x_331, .int x_332, .ref x_333, .ref x_334, .int (nI x_335), .ref x_336, .ref x_337, .ref x_338, .ref x_339, .ref x_340, .ref x_341, .ref x_342, .ref x_343, .ref x_344, .ref x_345, .ref x_346, .int (nI x_347)]) := hS_o
        have e31_ : (b_249 + 1) + 1 = x_347 := (nI_eq (by omega) (by omega)).mp (Eq.trans (Eq.symm hx1) (inf_i hS_o rfl))
        subst e31_
        refine lv_iload_n hx hb dX12_line_126 rfl (lv_at hl 2 rfl) ?_
        refine lv_aload_n hx hb dX12_line_127 rfl (lv_at hl 0 rfl) ?_
        refine pl_get (ci := 12) (v := .int (nI ((b_249 + 1) + 1))) (C := RX12) (T := TX12) (N := 32) hx hb hT iX12 hown hK hW hT_o.1 hS_o rfl 31 (by decide) w1113 rfl dX12_line_128 ?_
        refine lv_icmp_ge (tgt := 143) hx hb dX12_line_131 (by decide) (fun c_131 => ?_) (fun c_131 => ?_)
        · have c_131 : ((b_249 + 1) + 1) ≤ j_37 := (nI_leI (a := (b_249 + 1) + 1) (b := j_37) (by omega) (by omega)).mp c_131
          refine lv_iconst (v := (-1)) hx hb dX12_line_143 (by decide) ?_
          exact W.iret (v := (-1)) hx hb hr (fun t ht h9 => ⟨⟨(-1), S_316, rfl, ⟨hTy, hFr⟩, by rw [ht]; exact hW.1, va_K.moved h9.alike hK, hW.2.1⟩, hW.2.2.F ht⟩) hW.2.2.2.2 dX12_line_144
        · have c_131 : ¬ (((b_249 + 1) + 1) ≤ j_37) := fun hh9 => c_131 ((nI_leI (a := (b_249 + 1) + 1) (b := j_37) (by omega) (by omega)).mpr hh9)
          refine lv_aload_n hx hb dX12_line_134 rfl (lv_at hl 0 rfl) ?_
          refine pl_get (ci := 12) (v := .ref x_346) (C := RX12) (T := TX12) (N := 32) hx hb hT iX12 hown hK hW hT_o.1 hS_o rfl 30 (by decide) w1112 rfl dX12_line_135 ?_
          refine lv_iload_n hx hb dX12_line_138 rfl (lv_at hl 2 rfl) ?_
          obtain ⟨f_348, hS_x_346⟩ := hTy.k68 hT_x_346
          refine pl_iald hx hb hK hW hT_x_346.1 hS_x_346 (vp_in_nI (n := j_37) (N := 48) (by omega) (by omega)) dX12_line_139 ?_
          refine lv_topi (fun y_349 ey_349 => ?_)
          refine lv_goto (tgt := 144) hx hb dX12_line_140 (by decide) ?_
          exact W.iret (v := y_349) hx hb hr (fun t ht h9 => ⟨⟨y_349, S_316, rfl, ⟨hTy, hFr⟩, by rw [ht]; exact hW.1, va_K.moved h9.alike hK, hW.2.1⟩, hW.2.2.F ht⟩) hW.2.2.2.2 dX12_line_144
    · skip
      refine lv_bipush (v := (-3)) hx hb dX12_line_20 (by decide) ?_
      exact W.iret (v := (-3)) hx hb hr (fun t ht h9 => ⟨⟨(-3), S_32, rfl, ⟨hTy, hFr⟩, by rw [ht]; exact hW.1, va_K.moved h9.alike hK, hW.2.1⟩, hW.2.2.F ht⟩) hW.2.2.2.2 dX12_line_22

