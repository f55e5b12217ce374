theorem w1107 : (.fieldLink RX12 58 "SwapPressModel" "needs" "[I" : Cond) ∈ TB := mTB (List.mem_of_getElem? (i := 1107) (by decide +kernel)) (by decide +kernel)
theorem w1447 : (.methodLink RX12 316 yX12_laysBounds : Cond) ∈ TB := mTB (List.mem_of_getElem? (i := 1447) (by decide +kernel)) (by decide +kernel)
theorem w1449 : (.instanceMethod yX12_laysBounds : Cond) ∈ TB := mTB (List.mem_of_getElem? (i := 1449) (by decide +kernel)) (by decide +kernel)
theorem w1450 : (.code yX12_laysBounds cX12_laysBounds 6 none : Cond) ∈ TB := mTB (List.mem_of_getElem? (i := 1450) (by decide +kernel)) (by decide +kernel)
theorem w1455 : (.methodLink RX12 319 yX12_presses : Cond) ∈ TB := mTB (List.mem_of_getElem? (i := 1455) (by decide +kernel)) (by decide +kernel)
theorem w1457 : (.instanceMethod yX12_presses : Cond) ∈ TB := mTB (List.mem_of_getElem? (i := 1457) (by decide +kernel)) (by decide +kernel)
theorem w1458 : (.code yX12_presses cX12_presses 5 (some .boolean) : Cond) ∈ TB := mTB (List.mem_of_getElem? (i := 1458) (by decide +kernel)) (by decide +kernel)
theorem w1471 : (.methodLink RX12 303 yX12_firstOf : Cond) ∈ TB := mTB (List.mem_of_getElem? (i := 1471) (by decide +kernel)) (by decide +kernel)
theorem w1473 : (.instanceMethod yX12_firstOf : Cond) ∈ TB := mTB (List.mem_of_getElem? (i := 1473) (by decide +kernel)) (by decide +kernel)
theorem w1474 : (.code yX12_firstOf cX12_firstOf 3 (some .int) : Cond) ∈ TB := mTB (List.mem_of_getElem? (i := 1474) (by decide +kernel)) (by decide +kernel)
theorem w1495 : (.methodLink RX12 323 yX12_turns : Cond) ∈ TB := mTB (List.mem_of_getElem? (i := 1495) (by decide +kernel)) (by decide +kernel)
theorem w1497 : (.instanceMethod yX12_turns : Cond) ∈ TB := mTB (List.mem_of_getElem? (i := 1497) (by decide +kernel)) (by decide +kernel)
theorem w1498 : (.code yX12_turns cX12_turns 5 none : Cond) ∈ TB := mTB (List.mem_of_getElem? (i := 1498) (by decide +kernel)) (by decide +kernel)
theorem ws93 : (.selects RX12 yX12_laysBounds yX12_laysBounds : Cond) ∈ TB := mSel (y := yX12_laysBounds) (n := 32) (List.mem_of_getElem? (i := 93) (by decide +kernel)) (by decide +kernel)
theorem ws94 : (.selects RX12 yX12_presses yX12_presses : Cond) ∈ TB := mSel (y := yX12_presses) (n := 32) (List.mem_of_getElem? (i := 94) (by decide +kernel)) (by decide +kernel)
theorem ws97 : (.selects RX12 yX12_firstOf yX12_firstOf : Cond) ∈ TB := mSel (y := yX12_firstOf) (n := 32) (List.mem_of_getElem? (i := 97) (by decide +kernel)) (by decide +kernel)
theorem ws102 : (.selects RX12 yX12_turns yX12_turns : Cond) ∈ TB := mSel (y := yX12_turns) (n := 32) (List.mem_of_getElem? (i := 102) (by decide +kernel)) (by decide +kernel)
theorem dX12_presses_0 : decode cX12_presses 0 = .ok (.iconst 0, 1) := by decide +kernel
theorem dX12_presses_1 : decode cX12_presses 1 = .ok (.istore_n 1, 1) := by decide +kernel
theorem dX12_presses_2 : decode cX12_presses 2 = .ok (.iload_n 1, 1) := by decide +kernel
theorem dX12_presses_3 : decode cX12_presses 3 = .ok (.bipush 64, 2) := by decide +kernel
theorem dX12_presses_5 : decode cX12_presses 5 = .ok (.if_icmp .ge 16, 3) := by decide +kernel
theorem dX12_presses_8 : decode cX12_presses 8 = .ok (.aload_n 0, 1) := by decide +kernel
theorem dX12_presses_9 : decode cX12_presses 9 = .ok (.getfield 49, 3) := by decide +kernel
theorem dX12_presses_12 : decode cX12_presses 12 = .ok (.iload_n 1, 1) := by decide +kernel
theorem dX12_presses_13 : decode cX12_presses 13 = .ok (.iconst 0, 1) := by decide +kernel
theorem dX12_presses_14 : decode cX12_presses 14 = .ok (.iastore, 1) := by decide +kernel
theorem dX12_presses_15 : decode cX12_presses 15 = .ok (.iinc 1 1, 3) := by decide +kernel
theorem dX12_presses_18 : decode cX12_presses 18 = .ok (.goto (-16), 3) := by decide +kernel
theorem dX12_presses_21 : decode cX12_presses 21 = .ok (.iconst 0, 1) := by decide +kernel
theorem dX12_presses_22 : decode cX12_presses 22 = .ok (.istore_n 1, 1) := by decide +kernel
theorem dX12_presses_23 : decode cX12_presses 23 = .ok (.iload_n 1, 1) := by decide +kernel
theorem dX12_presses_24 : decode cX12_presses 24 = .ok (.bipush 8, 2) := by decide +kernel
theorem dX12_presses_26 : decode cX12_presses 26 = .ok (.if_icmp .ge 39, 3) := by decide +kernel
theorem dX12_presses_29 : decode cX12_presses 29 = .ok (.aload_n 0, 1) := by decide +kernel
theorem dX12_presses_30 : decode cX12_presses 30 = .ok (.getfield 55, 3) := by decide +kernel
theorem dX12_presses_33 : decode cX12_presses 33 = .ok (.iload_n 1, 1) := by decide +kernel
theorem dX12_presses_34 : decode cX12_presses 34 = .ok (.iconst 0, 1) := by decide +kernel
theorem dX12_presses_35 : decode cX12_presses 35 = .ok (.iastore, 1) := by decide +kernel
theorem dX12_presses_36 : decode cX12_presses 36 = .ok (.aload_n 0, 1) := by decide +kernel
theorem dX12_presses_37 : decode cX12_presses 37 = .ok (.getfield 58, 3) := by decide +kernel
theorem dX12_presses_40 : decode cX12_presses 40 = .ok (.iload_n 1, 1) := by decide +kernel
theorem dX12_presses_41 : decode cX12_presses 41 = .ok (.iload_n 1, 1) := by decide +kernel
theorem dX12_presses_42 : decode cX12_presses 42 = .ok (.aload_n 0, 1) := by decide +kernel
theorem dX12_presses_43 : decode cX12_presses 43 = .ok (.getfield 80, 3) := by decide +kernel
theorem dX12_presses_46 : decode cX12_presses 46 = .ok (.if_icmp .ge 11, 3) := by decide +kernel
theorem dX12_presses_49 : decode cX12_presses 49 = .ok (.aload_n 0, 1) := by decide +kernel
theorem dX12_presses_50 : decode cX12_presses 50 = .ok (.iload_n 1, 1) := by decide +kernel
theorem dX12_presses_51 : decode cX12_presses 51 = .ok (.invokevirtual 238, 3) := by decide +kernel
theorem dX12_presses_54 : decode cX12_presses 54 = .ok (.goto 4, 3) := by decide +kernel
theorem dX12_presses_57 : decode cX12_presses 57 = .ok (.iconst 0, 1) := by decide +kernel
theorem dX12_presses_58 : decode cX12_presses 58 = .ok (.iastore, 1) := by decide +kernel
theorem dX12_presses_59 : decode cX12_presses 59 = .ok (.iinc 1 1, 3) := by decide +kernel
theorem dX12_presses_62 : decode cX12_presses 62 = .ok (.goto (-39), 3) := by decide +kernel
theorem dX12_presses_65 : decode cX12_presses 65 = .ok (.iconst 0, 1) := by decide +kernel
theorem dX12_presses_66 : decode cX12_presses 66 = .ok (.istore_n 1, 1) := by decide +kernel
theorem dX12_presses_67 : decode cX12_presses 67 = .ok (.iconst 0, 1) := by decide +kernel
theorem dX12_presses_68 : decode cX12_presses 68 = .ok (.istore_n 2, 1) := by decide +kernel
theorem dX12_presses_69 : decode cX12_presses 69 = .ok (.iload_n 2, 1) := by decide +kernel
theorem dX12_presses_70 : decode cX12_presses 70 = .ok (.bipush 8, 2) := by decide +kernel
theorem dX12_presses_72 : decode cX12_presses 72 = .ok (.if_icmp .ge 79, 3) := by decide +kernel
theorem dX12_presses_75 : decode cX12_presses 75 = .ok (.aload_n 0, 1) := by decide +kernel
theorem dX12_presses_76 : decode cX12_presses 76 = .ok (.getfield 65, 3) := by decide +kernel
theorem dX12_presses_79 : decode cX12_presses 79 = .ok (.iload_n 2, 1) := by decide +kernel
theorem dX12_presses_80 : decode cX12_presses 80 = .ok (.aload_n 0, 1) := by decide +kernel
theorem dX12_presses_81 : decode cX12_presses 81 = .ok (.getfield 58, 3) := by decide +kernel
theorem dX12_presses_84 : decode cX12_presses 84 = .ok (.iload_n 2, 1) := by decide +kernel
theorem dX12_presses_85 : decode cX12_presses 85 = .ok (.iaload, 1) := by decide +kernel
theorem dX12_presses_86 : decode cX12_presses 86 = .ok (.ifCond .le 7, 3) := by decide +kernel
theorem dX12_presses_89 : decode cX12_presses 89 = .ok (.iconst 0, 1) := by decide +kernel
theorem dX12_presses_90 : decode cX12_presses 90 = .ok (.goto 6, 3) := by decide +kernel
theorem dX12_presses_93 : decode cX12_presses 93 = .ok (.ldc_w 293, 3) := by decide +kernel
theorem dX12_presses_96 : decode cX12_presses 96 = .ok (.iastore, 1) := by decide +kernel
theorem dX12_presses_97 : decode cX12_presses 97 = .ok (.aload_n 0, 1) := by decide +kernel
theorem dX12_presses_98 : decode cX12_presses 98 = .ok (.getfield 65, 3) := by decide +kernel
theorem dX12_presses_101 : decode cX12_presses 101 = .ok (.iload_n 2, 1) := by decide +kernel
theorem dX12_presses_102 : decode cX12_presses 102 = .ok (.bipush 8, 2) := by decide +kernel
theorem dX12_presses_104 : decode cX12_presses 104 = .ok (.iadd, 1) := by decide +kernel
theorem dX12_presses_105 : decode cX12_presses 105 = .ok (.ldc_w 293, 3) := by decide +kernel
theorem dX12_presses_108 : decode cX12_presses 108 = .ok (.iastore, 1) := by decide +kernel
theorem dX12_presses_109 : decode cX12_presses 109 = .ok (.aload_n 0, 1) := by decide +kernel
theorem dX12_presses_110 : decode cX12_presses 110 = .ok (.getfield 68, 3) := by decide +kernel
theorem dX12_presses_113 : decode cX12_presses 113 = .ok (.iload_n 2, 1) := by decide +kernel
theorem dX12_presses_114 : decode cX12_presses 114 = .ok (.iconst (-1), 1) := by decide +kernel
theorem dX12_presses_115 : decode cX12_presses 115 = .ok (.iastore, 1) := by decide +kernel
theorem dX12_presses_116 : decode cX12_presses 116 = .ok (.aload_n 0, 1) := by decide +kernel
theorem dX12_presses_117 : decode cX12_presses 117 = .ok (.getfield 68, 3) := by decide +kernel
theorem dX12_presses_120 : decode cX12_presses 120 = .ok (.iload_n 2, 1) := by decide +kernel
theorem dX12_presses_121 : decode cX12_presses 121 = .ok (.bipush 8, 2) := by decide +kernel
theorem dX12_presses_123 : decode cX12_presses 123 = .ok (.iadd, 1) := by decide +kernel
theorem dX12_presses_124 : decode cX12_presses 124 = .ok (.iconst (-1), 1) := by decide +kernel
theorem dX12_presses_125 : decode cX12_presses 125 = .ok (.iastore, 1) := by decide +kernel
theorem dX12_presses_126 : decode cX12_presses 126 = .ok (.iload_n 1, 1) := by decide +kernel
theorem dX12_presses_127 : decode cX12_presses 127 = .ok (.ifCond .ne 12, 3) := by decide +kernel
theorem dX12_presses_130 : decode cX12_presses 130 = .ok (.aload_n 0, 1) := by decide +kernel
theorem dX12_presses_131 : decode cX12_presses 131 = .ok (.getfield 58, 3) := by decide +kernel
theorem dX12_presses_134 : decode cX12_presses 134 = .ok (.iload_n 2, 1) := by decide +kernel
theorem dX12_presses_135 : decode cX12_presses 135 = .ok (.iaload, 1) := by decide +kernel
theorem dX12_presses_136 : decode cX12_presses 136 = .ok (.ifCond .le 7, 3) := by decide +kernel
theorem dX12_presses_139 : decode cX12_presses 139 = .ok (.iconst 1, 1) := by decide +kernel
theorem dX12_presses_140 : decode cX12_presses 140 = .ok (.goto 4, 3) := by decide +kernel
theorem dX12_presses_143 : decode cX12_presses 143 = .ok (.iconst 0, 1) := by decide +kernel
theorem dX12_presses_144 : decode cX12_presses 144 = .ok (.istore_n 1, 1) := by decide +kernel
theorem dX12_presses_145 : decode cX12_presses 145 = .ok (.iinc 2 1, 3) := by decide +kernel
theorem dX12_presses_148 : decode cX12_presses 148 = .ok (.goto (-79), 3) := by decide +kernel
theorem dX12_presses_151 : decode cX12_presses 151 = .ok (.iload_n 1, 1) := by decide +kernel
theorem dX12_presses_152 : decode cX12_presses 152 = .ok (.ifCond .ne 5, 3) := by decide +kernel
theorem dX12_presses_155 : decode cX12_presses 155 = .ok (.iconst 1, 1) := by decide +kernel
theorem dX12_presses_156 : decode cX12_presses 156 = .ok (.ireturn, 1) := by decide +kernel
theorem dX12_presses_157 : decode cX12_presses 157 = .ok (.aload_n 0, 1) := by decide +kernel
theorem dX12_presses_158 : decode cX12_presses 158 = .ok (.invokevirtual 300, 3) := by decide +kernel
theorem dX12_presses_161 : decode cX12_presses 161 = .ok (.iconst (-1), 1) := by decide +kernel
theorem dX12_presses_162 : decode cX12_presses 162 = .ok (.istore_n 2, 1) := by decide +kernel
theorem dX12_presses_163 : decode cX12_presses 163 = .ok (.iconst 0, 1) := by decide +kernel
theorem dX12_presses_164 : decode cX12_presses 164 = .ok (.istore_n 3, 1) := by decide +kernel
theorem dX12_presses_165 : decode cX12_presses 165 = .ok (.iload_n 3, 1) := by decide +kernel
theorem dX12_presses_166 : decode cX12_presses 166 = .ok (.bipush 8, 2) := by decide +kernel
theorem dX12_presses_168 : decode cX12_presses 168 = .ok (.if_icmp .ge 61, 3) := by decide +kernel
theorem dX12_presses_171 : decode cX12_presses 171 = .ok (.aload_n 0, 1) := by decide +kernel
theorem dX12_presses_172 : decode cX12_presses 172 = .ok (.getfield 58, 3) := by decide +kernel
theorem dX12_presses_175 : decode cX12_presses 175 = .ok (.iload_n 3, 1) := by decide +kernel
theorem dX12_presses_176 : decode cX12_presses 176 = .ok (.iaload, 1) := by decide +kernel
theorem dX12_presses_177 : decode cX12_presses 177 = .ok (.ifCond .ge 46, 3) := by decide +kernel
theorem dX12_presses_180 : decode cX12_presses 180 = .ok (.aload_n 0, 1) := by decide +kernel
theorem dX12_presses_181 : decode cX12_presses 181 = .ok (.getfield 65, 3) := by decide +kernel
theorem dX12_presses_184 : decode cX12_presses 184 = .ok (.iload_n 3, 1) := by decide +kernel
theorem dX12_presses_185 : decode cX12_presses 185 = .ok (.bipush 8, 2) := by decide +kernel
theorem dX12_presses_187 : decode cX12_presses 187 = .ok (.iadd, 1) := by decide +kernel
theorem dX12_presses_188 : decode cX12_presses 188 = .ok (.iaload, 1) := by decide +kernel
theorem dX12_presses_189 : decode cX12_presses 189 = .ok (.ldc_w 293, 3) := by decide +kernel
theorem dX12_presses_192 : decode cX12_presses 192 = .ok (.if_icmp .ge 31, 3) := by decide +kernel
theorem dX12_presses_195 : decode cX12_presses 195 = .ok (.iload_n 2, 1) := by decide +kernel
theorem dX12_presses_196 : decode cX12_presses 196 = .ok (.iconst (-1), 1) := by decide +kernel
theorem dX12_presses_197 : decode cX12_presses 197 = .ok (.if_icmp .eq 24, 3) := by decide +kernel
theorem dX12_presses_200 : decode cX12_presses 200 = .ok (.aload_n 0, 1) := by decide +kernel
theorem dX12_presses_201 : decode cX12_presses 201 = .ok (.getfield 65, 3) := by decide +kernel
theorem dX12_presses_204 : decode cX12_presses 204 = .ok (.iload_n 3, 1) := by decide +kernel
theorem dX12_presses_205 : decode cX12_presses 205 = .ok (.bipush 8, 2) := by decide +kernel
theorem dX12_presses_207 : decode cX12_presses 207 = .ok (.iadd, 1) := by decide +kernel
theorem dX12_presses_208 : decode cX12_presses 208 = .ok (.iaload, 1) := by decide +kernel
theorem dX12_presses_209 : decode cX12_presses 209 = .ok (.aload_n 0, 1) := by decide +kernel
theorem dX12_presses_210 : decode cX12_presses 210 = .ok (.getfield 65, 3) := by decide +kernel
theorem dX12_presses_213 : decode cX12_presses 213 = .ok (.iload_n 2, 1) := by decide +kernel
theorem dX12_presses_214 : decode cX12_presses 214 = .ok (.bipush 8, 2) := by decide +kernel
theorem dX12_presses_216 : decode cX12_presses 216 = .ok (.iadd, 1) := by decide +kernel
theorem dX12_presses_217 : decode cX12_presses 217 = .ok (.iaload, 1) := by decide +kernel
theorem dX12_presses_218 : decode cX12_presses 218 = .ok (.if_icmp .ge 5, 3) := by decide +kernel
theorem dX12_presses_221 : decode cX12_presses 221 = .ok (.iload_n 3, 1) := by decide +kernel
theorem dX12_presses_222 : decode cX12_presses 222 = .ok (.istore_n 2, 1) := by decide +kernel
theorem dX12_presses_223 : decode cX12_presses 223 = .ok (.iinc 3 1, 3) := by decide +kernel
theorem dX12_presses_226 : decode cX12_presses 226 = .ok (.goto (-61), 3) := by decide +kernel
theorem dX12_presses_229 : decode cX12_presses 229 = .ok (.iload_n 2, 1) := by decide +kernel
theorem dX12_presses_230 : decode cX12_presses 230 = .ok (.iconst (-1), 1) := by decide +kernel
theorem dX12_presses_231 : decode cX12_presses 231 = .ok (.if_icmp .ne 5, 3) := by decide +kernel
theorem dX12_presses_234 : decode cX12_presses 234 = .ok (.iconst 0, 1) := by decide +kernel
theorem dX12_presses_235 : decode cX12_presses 235 = .ok (.ireturn, 1) := by decide +kernel
theorem dX12_presses_236 : decode cX12_presses 236 = .ok (.aload_n 0, 1) := by decide +kernel
theorem dX12_presses_237 : decode cX12_presses 237 = .ok (.iload_n 2, 1) := by decide +kernel
theorem dX12_presses_238 : decode cX12_presses 238 = .ok (.bipush 8, 2) := by decide +kernel
theorem dX12_presses_240 : decode cX12_presses 240 = .ok (.iadd, 1) := by decide +kernel
theorem dX12_presses_241 : decode cX12_presses 241 = .ok (.invokevirtual 303, 3) := by decide +kernel
theorem dX12_presses_244 : decode cX12_presses 244 = .ok (.istore_n 3, 1) := by decide +kernel
theorem dX12_presses_245 : decode cX12_presses 245 = .ok (.aload_n 0, 1) := by decide +kernel
theorem dX12_presses_246 : decode cX12_presses 246 = .ok (.iload_n 2, 1) := by decide +kernel
theorem dX12_presses_247 : decode cX12_presses 247 = .ok (.bipush 8, 2) := by decide +kernel
theorem dX12_presses_249 : decode cX12_presses 249 = .ok (.iadd, 1) := by decide +kernel
theorem dX12_presses_250 : decode cX12_presses 250 = .ok (.aload_n 0, 1) := by decide +kernel
theorem dX12_presses_251 : decode cX12_presses 251 = .ok (.getfield 58, 3) := by decide +kernel
theorem dX12_presses_254 : decode cX12_presses 254 = .ok (.iload_n 3, 1) := by decide +kernel
theorem dX12_presses_255 : decode cX12_presses 255 = .ok (.iaload, 1) := by decide +kernel
theorem dX12_presses_256 : decode cX12_presses 256 = .ok (.aload_n 0, 1) := by decide +kernel
theorem dX12_presses_257 : decode cX12_presses 257 = .ok (.getfield 58, 3) := by decide +kernel
theorem dX12_presses_260 : decode cX12_presses 260 = .ok (.iload_n 2, 1) := by decide +kernel
theorem dX12_presses_261 : decode cX12_presses 261 = .ok (.iaload, 1) := by decide +kernel
theorem dX12_presses_262 : decode cX12_presses 262 = .ok (.ineg, 1) := by decide +kernel
theorem dX12_presses_263 : decode cX12_presses 263 = .ok (.if_icmp .ge 12, 3) := by decide +kernel
theorem dX12_presses_266 : decode cX12_presses 266 = .ok (.aload_n 0, 1) := by decide +kernel
theorem dX12_presses_267 : decode cX12_presses 267 = .ok (.getfield 58, 3) := by decide +kernel
theorem dX12_presses_270 : decode cX12_presses 270 = .ok (.iload_n 3, 1) := by decide +kernel
theorem dX12_presses_271 : decode cX12_presses 271 = .ok (.iaload, 1) := by decide +kernel
theorem dX12_presses_272 : decode cX12_presses 272 = .ok (.goto 10, 3) := by decide +kernel
theorem dX12_presses_275 : decode cX12_presses 275 = .ok (.aload_n 0, 1) := by decide +kernel
theorem dX12_presses_276 : decode cX12_presses 276 = .ok (.getfield 58, 3) := by decide +kernel
theorem dX12_presses_279 : decode cX12_presses 279 = .ok (.iload_n 2, 1) := by decide +kernel
theorem dX12_presses_280 : decode cX12_presses 280 = .ok (.iaload, 1) := by decide +kernel
theorem dX12_presses_281 : decode cX12_presses 281 = .ok (.ineg, 1) := by decide +kernel
theorem dX12_presses_282 : decode cX12_presses 282 = .ok (.invokevirtual 306, 3) := by decide +kernel
theorem dX12_presses_285 : decode cX12_presses 285 = .ok (.istore 4, 2) := by decide +kernel
theorem dX12_presses_287 : decode cX12_presses 287 = .ok (.aload_n 0, 1) := by decide +kernel
theorem dX12_presses_288 : decode cX12_presses 288 = .ok (.iload_n 2, 1) := by decide +kernel
theorem dX12_presses_289 : decode cX12_presses 289 = .ok (.bipush 8, 2) := by decide +kernel
theorem dX12_presses_291 : decode cX12_presses 291 = .ok (.iadd, 1) := by decide +kernel
theorem dX12_presses_292 : decode cX12_presses 292 = .ok (.iload 4, 2) := by decide +kernel
theorem dX12_presses_294 : decode cX12_presses 294 = .ok (.invokevirtual 309, 3) := by decide +kernel
theorem dX12_presses_297 : decode cX12_presses 297 = .ok (.aload_n 0, 1) := by decide +kernel
theorem dX12_presses_298 : decode cX12_presses 298 = .ok (.getfield 58, 3) := by decide +kernel
theorem dX12_presses_301 : decode cX12_presses 301 = .ok (.iload_n 3, 1) := by decide +kernel
theorem dX12_presses_302 : decode cX12_presses 302 = .ok (.dup2, 1) := by decide +kernel
theorem dX12_presses_303 : decode cX12_presses 303 = .ok (.iaload, 1) := by decide +kernel
theorem dX12_presses_304 : decode cX12_presses 304 = .ok (.iload 4, 2) := by decide +kernel
theorem dX12_presses_306 : decode cX12_presses 306 = .ok (.isub, 1) := by decide +kernel
theorem dX12_presses_307 : decode cX12_presses 307 = .ok (.iastore, 1) := by decide +kernel
theorem dX12_presses_308 : decode cX12_presses 308 = .ok (.aload_n 0, 1) := by decide +kernel
theorem dX12_presses_309 : decode cX12_presses 309 = .ok (.getfield 58, 3) := by decide +kernel
theorem dX12_presses_312 : decode cX12_presses 312 = .ok (.iload_n 2, 1) := by decide +kernel
theorem dX12_presses_313 : decode cX12_presses 313 = .ok (.dup2, 1) := by decide +kernel
theorem dX12_presses_314 : decode cX12_presses 314 = .ok (.iaload, 1) := by decide +kernel
theorem dX12_presses_315 : decode cX12_presses 315 = .ok (.iload 4, 2) := by decide +kernel
theorem dX12_presses_317 : decode cX12_presses 317 = .ok (.iadd, 1) := by decide +kernel
theorem dX12_presses_318 : decode cX12_presses 318 = .ok (.iastore, 1) := by decide +kernel
theorem dX12_presses_319 : decode cX12_presses 319 = .ok (.goto (-254), 3) := by decide +kernel
theorem dX12_pressesFirst_0 : decode cX12_pressesFirst 0 = .ok (.aload_n 0, 1) := by decide +kernel
theorem dX12_pressesFirst_1 : decode cX12_pressesFirst 1 = .ok (.iload_n 1, 1) := by decide +kernel
theorem dX12_pressesFirst_2 : decode cX12_pressesFirst 2 = .ok (.iconst (-1), 1) := by decide +kernel
theorem dX12_pressesFirst_3 : decode cX12_pressesFirst 3 = .ok (.invokevirtual 316, 3) := by decide +kernel
theorem dX12_pressesFirst_6 : decode cX12_pressesFirst 6 = .ok (.aload_n 0, 1) := by decide +kernel
theorem dX12_pressesFirst_7 : decode cX12_pressesFirst 7 = .ok (.invokevirtual 319, 3) := by decide +kernel
theorem dX12_pressesFirst_10 : decode cX12_pressesFirst 10 = .ok (.ifCond .ne 5, 3) := by decide +kernel
theorem dX12_pressesFirst_13 : decode cX12_pressesFirst 13 = .ok (.iconst 0, 1) := by decide +kernel
theorem dX12_pressesFirst_14 : decode cX12_pressesFirst 14 = .ok (.ireturn, 1) := by decide +kernel
theorem dX12_pressesFirst_15 : decode cX12_pressesFirst 15 = .ok (.iconst 0, 1) := by decide +kernel
theorem dX12_pressesFirst_16 : decode cX12_pressesFirst 16 = .ok (.istore_n 2, 1) := by decide +kernel
theorem dX12_pressesFirst_17 : decode cX12_pressesFirst 17 = .ok (.iload_n 2, 1) := by decide +kernel
theorem dX12_pressesFirst_18 : decode cX12_pressesFirst 18 = .ok (.aload_n 0, 1) := by decide +kernel
theorem dX12_pressesFirst_19 : decode cX12_pressesFirst 19 = .ok (.getfield 80, 3) := by decide +kernel
theorem dX12_pressesFirst_22 : decode cX12_pressesFirst 22 = .ok (.if_icmp .ge 37, 3) := by decide +kernel
theorem dX12_pressesFirst_25 : decode cX12_pressesFirst 25 = .ok (.iconst 0, 1) := by decide +kernel
theorem dX12_pressesFirst_26 : decode cX12_pressesFirst 26 = .ok (.istore_n 3, 1) := by decide +kernel
theorem dX12_pressesFirst_27 : decode cX12_pressesFirst 27 = .ok (.iload_n 3, 1) := by decide +kernel
theorem dX12_pressesFirst_28 : decode cX12_pressesFirst 28 = .ok (.aload_n 0, 1) := by decide +kernel
theorem dX12_pressesFirst_29 : decode cX12_pressesFirst 29 = .ok (.getfield 80, 3) := by decide +kernel
theorem dX12_pressesFirst_32 : decode cX12_pressesFirst 32 = .ok (.if_icmp .ge 21, 3) := by decide +kernel
theorem dX12_pressesFirst_35 : decode cX12_pressesFirst 35 = .ok (.iload_n 2, 1) := by decide +kernel
theorem dX12_pressesFirst_36 : decode cX12_pressesFirst 36 = .ok (.iload_n 3, 1) := by decide +kernel
theorem dX12_pressesFirst_37 : decode cX12_pressesFirst 37 = .ok (.if_icmp .eq 10, 3) := by decide +kernel
theorem dX12_pressesFirst_40 : decode cX12_pressesFirst 40 = .ok (.aload_n 0, 1) := by decide +kernel
theorem dX12_pressesFirst_41 : decode cX12_pressesFirst 41 = .ok (.iload_n 2, 1) := by decide +kernel
theorem dX12_pressesFirst_42 : decode cX12_pressesFirst 42 = .ok (.iload_n 3, 1) := by decide +kernel
theorem dX12_pressesFirst_43 : decode cX12_pressesFirst 43 = .ok (.iconst 0, 1) := by decide +kernel
theorem dX12_pressesFirst_44 : decode cX12_pressesFirst 44 = .ok (.invokevirtual 323, 3) := by decide +kernel
theorem dX12_pressesFirst_47 : decode cX12_pressesFirst 47 = .ok (.iinc 3 1, 3) := by decide +kernel
theorem dX12_pressesFirst_50 : decode cX12_pressesFirst 50 = .ok (.goto (-23), 3) := by decide +kernel
theorem dX12_pressesFirst_53 : decode cX12_pressesFirst 53 = .ok (.iinc 2 1, 3) := by decide +kernel
theorem dX12_pressesFirst_56 : decode cX12_pressesFirst 56 = .ok (.goto (-39), 3) := by decide +kernel
theorem dX12_pressesFirst_59 : decode cX12_pressesFirst 59 = .ok (.iconst 1, 1) := by decide +kernel
theorem dX12_pressesFirst_60 : decode cX12_pressesFirst 60 = .ok (.ireturn, 1) := by decide +kernel
theorem POT_init {fx bn my gi gt : Nat → Int32} (hi : ∀ j, j < 64 → gi j = 0) (ht : ∀ j, j < 8 → gt j = 0) : POT (fun p q => 0 < stpF fx gi bn my gt p q) (fun _ => 0) := fun p q hp hq h => by
  have h : 0 < stpF fx gi bn my gt p q := h
  rcases stp_side h with ⟨h1, h2⟩ | ⟨h1, h2⟩
  · by_cases h3 : p = q - 8
    · rw [stp_a h1 h2 h3, ht p h1] at h
      exact absurd h (by decide)
    · show (0 : Int) ≤ 0 + mst p q
      unfold mst
      rw [if_neg (by omega), if_pos h1]
      decide
  · by_cases h3 : q = p - 8
    · show (0 : Int) ≤ 0 + mst p q
      unfold mst
      rw [if_pos (by omega)]
      decide
    · by_cases h4 : fx (8 * q + (p - 8)) = 0
      · rw [stp_f h1 h2 h3 h4, hi _ (by omega)] at h
        exact absurd h (by decide)
      · rw [stp_e h1 h2 h3 h4] at h
        exact absurd h (by decide)
def pn (g : Nat → Int32) : Nat → Nat
  | 0 => 0
  | n + 1 => pn g n + (g n).toInt.toNat
theorem pn_le {g g' : Nat → Int32} : ∀ n, (∀ v, v < n → (g' v).toInt.toNat ≤ (g v).toInt.toNat) → pn g' n ≤ pn g n
  | 0, _ => Nat.le_refl 0
  | n + 1, h => by
    have ih := pn_le n (fun v hv => h v (by omega))
    have h1 := h n (by omega)
    show pn g' n + (g' n).toInt.toNat ≤ pn g n + (g n).toInt.toNat
    omega
theorem pn_lt {g g' : Nat → Int32} {w : Nat} : ∀ n, w < n → (∀ v, v < n → (g' v).toInt.toNat ≤ (g v).toInt.toNat) → (g' w).toInt.toNat < (g w).toInt.toNat → pn g' n < pn g n
  | 0, hw, _, _ => absurd hw (Nat.not_lt_zero _)
  | n + 1, hw, h, h1 => by
    show pn g' n + (g' n).toInt.toNat < pn g n + (g n).toInt.toNat
    by_cases e : w = n
    · subst e
      have := pn_le w (fun v hv => h v (by omega))
      omega
    · have := pn_lt n (by omega) (fun v hv => h v (by omega)) h1
      have := h n (by omega)
      omega
theorem need_a {a b r mo : Int32} (ha : 0 < a) (hb : b < 0) (hr : (0 < mo → 0 < r) ∧ r ≤ mo ∧ (mo < 0 → r = mo)) (hm : (mo = a ∧ a < -b) ∨ (mo = -b ∧ -b ≤ a)) : (a - r).toInt < a.toInt ∧ (b + r).toInt ≤ 0 := by
  have e0 : (0 : Int32).toInt = 0 := by decide
  rw [Int32.lt_iff_toInt_lt] at ha hb
  have ha2 := Int32.toInt_lt a
  have hb2 := Int32.le_toInt b
  by_cases hc : b = -2147483648
  · subst hc
    have en : -(-2147483648 : Int32) = -2147483648 := by decide
    have em : (-2147483648 : Int32).toInt = -2147483648 := by decide
    rw [en] at hm
    rcases hm with ⟨rfl, h2⟩ | ⟨rfl, h2⟩
    · rw [Int32.lt_iff_toInt_lt, em] at h2
      omega
    · have h3 := hr.2.2 (by decide)
      subst h3
      refine ⟨?_, by decide⟩
      rw [Int32.toInt_sub, em, Int.bmod_def]
      split <;> omega
  · have hb3 : b.toInt ≠ -2147483648 := fun q => hc (Int32.toInt_inj.mp (q.trans (by decide)))
    have en : (-b).toInt = -(b.toInt) := by
      rw [Int32.toInt_neg]
      exact Int.bmod_eq_of_le (by omega) (by omega)
    have hmp : 0 < mo.toInt ∧ mo.toInt ≤ a.toInt ∧ mo.toInt ≤ -(b.toInt) := by
      rcases hm with ⟨rfl, h2⟩ | ⟨rfl, h2⟩
      · rw [Int32.lt_iff_toInt_lt, en] at h2
        omega
      · rw [Int32.le_iff_toInt_le, en] at h2
        omega
    have h1 := hr.1 (Int32.lt_iff_toInt_lt.mpr (by omega))
    have h2 := hr.2.1
    rw [Int32.lt_iff_toInt_lt] at h1
    rw [Int32.le_iff_toInt_le] at h2
    refine ⟨?_, ?_⟩
    · have e : (a - r).toInt = a.toInt - r.toInt := by
        rw [Int32.toInt_sub]
        exact Int.bmod_eq_of_le (by omega) (by omega)
      omega
    · have e : (b + r).toInt = b.toInt + r.toInt := by
        rw [Int32.toInt_add]
        exact Int.bmod_eq_of_le (by omega) (by omega)
      omega
theorem pn_fall {gn g1 g2 : Nat → Int32} {kf kt : Nat} {r mo y1 y2 x1 x2 : Int32} (hf : 0 < gn kf) (ht : gn kt < 0) (hr : (0 < mo → 0 < r) ∧ r ≤ mo ∧ (mo < 0 → r = mo)) (hm : (mo = gn kf ∧ gn kf < -(gn kt)) ∨ (mo = -(gn kt) ∧ -(gn kt) ≤ gn kf)) (e1 : g1 = upd gn (nI kf).toNatClampNeg x1) (ex1 : x1 = y1 - r) (ey1 : y1 = gn (nI kf).toNatClampNeg) (e2 : g2 = upd g1 (nI kt).toNatClampNeg x2) (ex2 : x2 = y2 + r) (ey2 : y2 = g1 (nI kt).toNatClampNeg) (hkf : kf < 8) (hkt : kt < 8) : pn g2 8 < pn gn 8 := by
  rw [nI_clamp (by omega)] at e1 ey1 e2 ey2
  have hne : kt ≠ kf := fun q => by
    subst q
    rw [Int32.lt_iff_toInt_lt] at hf ht
    omega
  have e3 : y2 = gn kt := by rw [ey2, e1, pk_un hne]
  have hq := need_a hf ht hr hm
  have e0 : (0 : Int32).toInt = 0 := by decide
  have hf2 := Int32.lt_iff_toInt_lt.mp hf
  have ht2 := Int32.lt_iff_toInt_lt.mp ht
  have k1 : g2 kf = gn kf - r := by rw [e2, pk_un (fun q => hne q.symm), e1, pk_us, ex1, ey1]
  have k2 : g2 kt = gn kt + r := by rw [e2, pk_us, ex2, e3]
  refine pn_lt (w := kf) 8 hkf (fun v hv => ?_) (by rw [k1]; omega)
  by_cases c1 : v = kf
  · rw [c1, k1]; omega
  · by_cases c2 : v = kt
    · rw [c2, k2]; omega
    · rw [e2, pk_un c2, e1, pk_un c1]
      exact Nat.le_refl _
def INI (gn gd gb : Nat → Int32) (i : Nat) : Prop := ∀ v, v < i → (gd v = 0 ∧ 0 < gn v ∨ gd v = 1000000) ∧ gd (v + 8) = 1000000 ∧ gb v = -1 ∧ gb (v + 8) = -1
theorem INI_up {gn gd gd1 gd2 gb gb1 gb2 : Nat → Int32} {i i8 j8 : Nat} {x : Int32} (e1 : gd1 = upd gd (nI i).toNatClampNeg x) (e2 : gd2 = upd gd1 (nI i8).toNatClampNeg 1000000) (e3 : gb1 = upd gb (nI i).toNatClampNeg (-1)) (e4 : gb2 = upd gb1 (nI j8).toNatClampNeg (-1)) (h8 : i8 = i + 8) (g8 : j8 = i + 8) (hi : i < 8) (hx : x = 0 ∧ 0 < gn i ∨ x = 1000000) (h : INI gn gd gb i) : INI gn gd2 gb2 (i + 1) := fun v hv => by
  subst h8 g8
  rw [nI_clamp (by omega)] at e1 e2 e3 e4
  subst e1 e2 e3 e4
  by_cases q : v = i
  · subst q
    rw [pk_un (by omega), pk_us, pk_us, pk_un (by omega), pk_us, pk_us]
    exact ⟨hx, rfl, rfl, rfl⟩
  · rw [pk_un (by omega), pk_un (by omega), pk_un (by omega), pk_un (by omega), pk_un (by omega), pk_un (by omega), pk_un (by omega), pk_un (by omega)]
    exact h v (by omega)
theorem INI_D0 {gn gd gb : Nat → Int32} (h : INI gn gd gb 8) : D0 gd := fun v hv => by
  by_cases q : v < 8
  · rcases (h v q).1 with g | g
    · exact Or.inl g.1
    · exact Or.inr g
  · have g := (h (v - 8) (by omega)).2.1
    rw [show v - 8 + 8 = v from by omega] at g
    exact Or.inr g
theorem INI_b {gn gd gb : Nat → Int32} (h : INI gn gd gb 8) : ∀ v, v < 16 → gb v = -1 := fun v hv => by
  by_cases q : v < 8
  · exact (h v q).2.2.1
  · have g := (h (v - 8) (by omega)).2.2.2
    rw [show v - 8 + 8 = v from by omega] at g
    exact g
theorem INI_root {gn gd gb d : Nat → Int32} {k : Nat} (h : INI gn gd gb 8) (hk : k < 16) (hd : d k = gd k) (hP : (d k).toInt < 1000000) : k < 8 ∧ 0 < gn k := by
  have e : (1000000 : Int32).toInt = 1000000 := by decide
  by_cases q : k < 8
  · rcases (h k q).1 with g | g
    · exact ⟨q, g.2⟩
    · rw [hd, g, e] at hP
      omega
  · have g := (h (k - 8) (by omega)).2.1
    rw [show k - 8 + 8 = k from by omega] at g
    rw [hd, g, e] at hP
    omega
theorem ineg {x : Int32} (h : ¬ 0 ≤ x) : x < 0 := by
  rw [Int32.le_iff_toInt_le] at h
  rw [Int32.lt_iff_toInt_lt]
  omega
theorem far_q {y : Int32} {d : Nat → Int32} {i k : Nat} (h : ¬ (1000000 : Int32) ≤ y) (e : y = d (nI k).toNatClampNeg) (hk : k = i + 8) (hi : i < 8) : (d (i + 8)).toInt < 1000000 := by
  subst hk
  exact far_p h e (by omega)
set_option maxHeartbeats 4000000 in
set_option maxRecDepth 100000 in
theorem m_presses (l : Launch) (dC : Nat → ClassId) (dI : Nat → Nat → Nat) (cy : Nat → ClassId) (L : List Nat) (kap : Nat → Nat) (pr : Pr) (S : Nat → va_E) (sz : Nat) (o : Nat) (hTy : Ty cy L kap pr S) (hT_o : TK L kap o 12) : Met l yX12_presses (wT yX12_presses cX12_presses 5 (some .boolean)) ({ frames := 3, cells := 0, slots := 0, locals := 71 }) (pcN dC dI [.ref o] sz (va_pl L S) (cyT cy) NLs []) (va_Qi (fun r S' => Ty cy L kap pr S' ∧ Fr kap [60, 62, 63, 65, 66] S S' ∧ ((∃ K : Nat → Int, POT (fun p q => 0 < STP S' o p q) K) ∧ ∀ a, a < 8 → fld S' o 22 (8 * a + a) = 0)) (fun S' t => pB dC dI (AL L sz) (va_pl L S') (cyT cy) t) (AL L sz)) 0 0 (AL L sz) := by
  refine Met.ofW (cc := cX12_presses) (maxL := 5) (ret := (some .boolean)) (by decide) rfl ?_
  intro p e s m args below meth c s₁ B hml hv
  obtain ⟨rfl, hsz, hP, hK, hD0, hN, -⟩ := hv
  have hx := B.exec
  have hb := B.bytes
  have hr := B.returns
  have hT : ∀ wd ∈ TB, wd.before [.ref o].toArray s = true := fun wd h => atoms_spec (ws := wT yX12_presses cX12_presses 5 (some .boolean)) B.pre wd (List.mem_cons_of_mem _ h)
  have hown : s.vm.findClass RX12 = some m.cls := findClass_of_methodNamed B.named
  have hlocks := B.notSynchronized
  subst hsz
  have hW : PW dC dI L (AL L s.heap.size) s.heap S s.heap [] := ⟨hP, pl_self hD0, va_S.rf⟩
  have hA0 : ∀ q, q ∈ L → AL L s.heap.size q := fun _ h => Or.inl h
  have hA : ∀ q, s.heap.size ≤ q → AL L s.heap.size q := fun _ h => Or.inr h
  have hFr : Fr kap [60, 62, 63, 65, 66] S S := Fr.rf
  have hl := lv_entry ([.ref o]) (n := 5) (Nat.le_of_ble_eq_true rfl)
  rw [lg_entry_eq]
  generalize (lg_sl ([.ref o]) ++ List.replicate (5 - (lg_sl ([.ref o])).length) Slot.unset).toArray = ls at hl ⊢
  have hl : lv_has ls 5 [(0, .ref o)] := hl
  obtain ⟨x_1, x_2, x_3, x_4, x_5, x_6, x_7, x_8, x_9, x_10, x_11, x_12, x_13, x_14, x_15, x_16, x_17, x_18, x_19, x_20, x_21, x_22, x_23, x_24, x_25, x_26, x_27, x_28, x_29, x_30, x_31, hS_o, hT_x_1, hT_x_2, hT_x_3, hT_x_4, hT_x_5, hb_x_6, hb_x_7, hb_x_8, hT_x_10, hb_q2, hb_x_11, hb_x_12, hT_x_17, hT_x_18, hb_x_19, hT_x_20, hT_x_21, hT_x_22, hT_x_23, hT_x_24, hT_x_25, hT_x_26, hT_x_27, hT_x_28, hT_x_29, hT_x_30, hb_x_31⟩ := hTy.k12 hT_o
  have hb_q2 : pr.2 ≤ 900 := hb_q2
  have hS_o : S o = .inr (12, [.ref x_1, .ref x_2, .ref x_3, .ref x_4, .ref x_5, .int (nI x_6), .int (nI x_7), .int (nI x_8), .int x_9, .ref x_10, .int (nI (pr.2)), .int (nI x_11), .int (nI x_12), .int x_13, .int x_14, .int x_15, .int x_16, .ref x_17, .ref x_18, .int (nI x_19), .ref x_20, .ref x_21, .ref x_22, .ref x_23, .ref x_24, .ref x_25, .ref x_26, .ref x_27, .ref x_28, .ref x_29, .ref x_30, .int (nI x_31)]) := hS_o
  obtain ⟨f_32, hS_x_26⟩ := hTy.k64 hT_x_26
  obtain ⟨f_33, hS_x_22⟩ := hTy.k60 hT_x_22
  obtain ⟨f_34, hS_x_21⟩ := hTy.k59 hT_x_21
  obtain ⟨f_35, hS_x_23⟩ := hTy.k61 hT_x_23
  obtain ⟨f_36, hS_x_24⟩ := hTy.k62 hT_x_24
  obtain ⟨f_37, hS_x_25⟩ := hTy.k63 hT_x_25
  obtain ⟨f_38, hS_x_27⟩ := hTy.k65 hT_x_27
  obtain ⟨f_39, hS_x_28, hi_f_39⟩ := hTy.k66 hT_x_28
  refine lv_iconst (v := 0) hx hb dX12_presses_0 (by decide) ?_
  refine lv_istore_n (lv' := [(1, .int 0), (0, .ref o)]) hx hb dX12_presses_1 rfl hl (by decide) rfl (fun ls hl => ?_)
  have loop : ∀ (fuel : Nat) (i : Nat) (gi : Nat → Int32) (SS : Nat → va_E) (H : Heap) (locs : List Loc) (ls : Array Slot), 65 - i < fuel → (i ≤ 64) → (SS x_22 = .inl (cy 0, 64, .inl gi)) → (∀ v, v < i → gi v = 0) → Ty cy L kap pr SS → Fr kap [60, 62, 63, 65, 66] S SS → Fr kap [60] S SS → PW dC dI L (AL L s.heap.size) s.heap SS H locs → lv_has ls 5 [(1, .int (nI i)), (0, .ref o)] → W p l e (headSpec (wT yX12_presses cX12_presses 5 (some .boolean)) { frames := 3, cells := 0, slots := 0, locals := 71 }).room s m [.ref o].toArray below meth c H locs 0 0 (MQ below (va_Qi (fun r S' => Ty cy L kap pr S' ∧ Fr kap [60, 62, 63, 65, 66] S S' ∧ ((∃ K : Nat → Int, POT (fun p q => 0 < STP S' o p q) K) ∧ ∀ a, a < 8 → fld S' o 22 (8 * a + a) = 0)) (fun S' t => pB dC dI (AL L s.heap.size) (va_pl L S') (cyT cy) t) (AL L s.heap.size)) [.ref o].toArray s 0 0 (AL L s.heap.size)) (F0 m 2 ls []) := by
    intro fuel
    induction fuel with
    | zero => intro i gi SS H locs ls h; exact absurd h (Nat.not_lt_zero _)
    | succ fu2 ih2 =>
      intro i gi S_40 H locs ls hm2 hb_i hIs hiz hTy hFr hFl2 hW hl
      have hS_o := hFl2.at hT_o (by decide) hS_o
      have hS_x_26 := hFl2.at hT_x_26 (by decide) hS_x_26
      have hS_x_21 := hFl2.at hT_x_21 (by decide) hS_x_21
      have hS_x_23 := hFl2.at hT_x_23 (by decide) hS_x_23
      have hS_x_24 := hFl2.at hT_x_24 (by decide) hS_x_24
      have hS_x_25 := hFl2.at hT_x_25 (by decide) hS_x_25
      have hS_x_27 := hFl2.at hT_x_27 (by decide) hS_x_27
      have hS_x_28 := hFl2.at hT_x_28 (by decide) hS_x_28
      refine lv_iload_n hx hb dX12_presses_2 rfl (lv_at hl 0 rfl) ?_
      refine lv_bipush (v := 64) hx hb dX12_presses_3 (by decide) ?_
      refine lv_icmp_ge (tgt := 21) hx hb dX12_presses_5 (by decide) (fun c_5 => ?_) (fun c_5 => ?_)
      · have c_5 : 64 ≤ i := (nI_leI (a := 64) (b := i) (by omega) (by omega)).mp c_5
        refine lv_iconst (v := 0) hx hb dX12_presses_21 (by decide) ?_
        refine lv_istore_n (lv' := [(1, .int 0), (0, .ref o)]) hx hb dX12_presses_22 rfl hl (by decide) rfl (fun ls hl => ?_)
        have hiz64 : ∀ v, v < 64 → gi v = 0 := fun v hv => hiz v (by omega)
        have loop : ∀ (fuel : Nat) (i2 : Nat) (gt : Nat → Int32) (SS : Nat → va_E) (H : Heap) (locs : List Loc) (ls : Array Slot), 9 - i2 < fuel → (i2 ≤ 8) → (SS x_24 = .inl (cy 0, 8, .inl gt)) → (∀ v, v < i2 → gt v = 0) → Ty cy L kap pr SS → Fr kap [60, 62, 63, 65, 66] S SS → Fr kap [62, 63] S_40 SS → PW dC dI L (AL L s.heap.size) s.heap SS H locs → lv_has ls 5 [(1, .int (nI i2)), (0, .ref o)] → W p l e (headSpec (wT yX12_presses cX12_presses 5 (some .boolean)) { frames := 3, cells := 0, slots := 0, locals := 71 }).room s m [.ref o].toArray below meth c H locs 0 0 (MQ below (va_Qi (fun r S' => Ty cy L kap pr S' ∧ Fr kap [60, 62, 63, 65, 66] S S' ∧ ((∃ K : Nat → Int, POT (fun p q => 0 < STP S' o p q) K) ∧ ∀ a, a < 8 → fld S' o 22 (8 * a + a) = 0)) (fun S' t => pB dC dI (AL L s.heap.size) (va_pl L S') (cyT cy) t) (AL L s.heap.size)) [.ref o].toArray s 0 0 (AL L s.heap.size)) (F0 m 23 ls []) := by
          intro fuel
          induction fuel with
          | zero => intro i2 gt SS H locs ls h; exact absurd h (Nat.not_lt_zero _)
          | succ fu23 ih23 =>
            intro i2 gt S_41 H locs ls hm23 hb_i2 hTs htz hTy hFr hFl23 hW hl
            have hS_o := hFl23.at hT_o (by decide) hS_o
            have hS_x_26 := hFl23.at hT_x_26 (by decide) hS_x_26
            have hS_x_21 := hFl23.at hT_x_21 (by decide) hS_x_21
            have hS_x_23 := hFl23.at hT_x_23 (by decide) hS_x_23
            have hS_x_27 := hFl23.at hT_x_27 (by decide) hS_x_27
            have hS_x_28 := hFl23.at hT_x_28 (by decide) hS_x_28
            have hIs := hFl23.at hT_x_22 (by decide) hIs
            refine lv_iload_n hx hb dX12_presses_23 rfl (lv_at hl 0 rfl) ?_
            refine lv_bipush (v := 8) hx hb dX12_presses_24 (by decide) ?_
            refine lv_icmp_ge (tgt := 65) hx hb dX12_presses_26 (by decide) (fun c_26 => ?_) (fun c_26 => ?_)
            · have c_26 : 8 ≤ i2 := (nI_leI (a := 8) (b := i2) (by omega) (by omega)).mp c_26
              have hl := lv_sub hl [1] rfl
              obtain ⟨f_42, hS_x_25⟩ := hTy.k63 hT_x_25
              have hpot0 : ∃ K : Nat → Int, POT (fun p q => 0 < stpF f_32 gi f_34 f_35 gt p q) K := ⟨_, POT_init hiz64 (fun v hv => htz v (by omega))⟩
              have loop : ∀ (fuel : Nat) (gi2 : Nat → Int32) (gt2 : Nat → Int32) (gn : Nat → Int32) (SS : Nat → va_E) (H : Heap) (locs : List Loc) (ls : Array Slot), pn gn 8 < fuel → (SS x_22 = .inl (cy 0, 64, .inl gi2)) → (SS x_24 = .inl (cy 0, 8, .inl gt2)) → (SS x_25 = .inl (cy 0, 8, .inl gn)) → (∃ K : Nat → Int, POT (fun p q => 0 < stpF f_32 gi2 f_34 f_35 gt2 p q) K) → (∀ a, a < 8 → gi2 (8 * a + a) = 0) → Ty cy L kap pr SS → Fr kap [60, 62, 63, 65, 66] S SS → Fr kap [60, 62, 63, 65, 66] S_41 SS → PW dC dI L (AL L s.heap.size) s.heap SS H locs → lv_has ls 5 [(0, .ref o)] → W p l e (headSpec (wT yX12_presses cX12_presses 5 (some .boolean)) { frames := 3, cells := 0, slots := 0, locals := 71 }).room s m [.ref o].toArray below meth c H locs 0 0 (MQ below (va_Qi (fun r S' => Ty cy L kap pr S' ∧ Fr kap [60, 62, 63, 65, 66] S S' ∧ ((∃ K : Nat → Int, POT (fun p q => 0 < STP S' o p q) K) ∧ ∀ a, a < 8 → fld S' o 22 (8 * a + a) = 0)) (fun S' t => pB dC dI (AL L s.heap.size) (va_pl L S') (cyT cy) t) (AL L s.heap.size)) [.ref o].toArray s 0 0 (AL L s.heap.size)) (F0 m 65 ls []) := by
                intro fuel
                induction fuel with
                | zero => intro gi2 gt2 gn SS H locs ls h; exact absurd h (Nat.not_lt_zero _)
                | succ fu65 ih65 =>
                  intro gi2 gt2 gn S_43 H locs ls hm65 hIs2 hTs2 hNs hpot hdz hTy hFr hFl65 hW hl
                  have hS_o := hFl65.at hT_o (by decide) hS_o
                  have hS_x_26 := hFl65.at hT_x_26 (by decide) hS_x_26
                  have hS_x_21 := hFl65.at hT_x_21 (by decide) hS_x_21
                  have hS_x_23 := hFl65.at hT_x_23 (by decide) hS_x_23
                  refine lv_iconst (v := 0) hx hb dX12_presses_65 (by decide) ?_
                  refine lv_istore_n (lv' := [(1, .int 0), (0, .ref o)]) hx hb dX12_presses_66 rfl hl (by decide) rfl (fun ls hl => ?_)
                  refine lv_iconst (v := 0) hx hb dX12_presses_67 (by decide) ?_
                  refine lv_istore_n (lv' := [(2, .int 0), (1, .int 0), (0, .ref o)]) hx hb dX12_presses_68 rfl hl (by decide) rfl (fun ls hl => ?_)
                  obtain ⟨f_44, hS_x_27⟩ := hTy.k65 hT_x_27
                  obtain ⟨f_45, hS_x_28, hi_f_45⟩ := hTy.k66 hT_x_28
                  have loop : ∀ (fuel : Nat) (i4 : Nat) (mo : Int32) (gd : Nat → Int32) (gb : Nat → Int32) (SS : Nat → va_E) (H : Heap) (locs : List Loc) (ls : Array Slot), 9 - i4 < fuel → (i4 ≤ 8) → (SS x_27 = .inl (cy 0, 16, .inl gd)) → (SS x_28 = .inl (cy 0, 16, .inl gb)) → (INI gn gd gb i4) → Ty cy L kap pr SS → Fr kap [60, 62, 63, 65, 66] S SS → Fr kap [65, 66] S_43 SS → PW dC dI L (AL L s.heap.size) s.heap SS H locs → lv_has ls 5 [(2, .int (nI i4)), (1, .int mo), (0, .ref o)] → W p l e (headSpec (wT yX12_presses cX12_presses 5 (some .boolean)) { frames := 3, cells := 0, slots := 0, locals := 71 }).room s m [.ref o].toArray below meth c H locs 0 0 (MQ below (va_Qi (fun r S' => Ty cy L kap pr S' ∧ Fr kap [60, 62, 63, 65, 66] S S' ∧ ((∃ K : Nat → Int, POT (fun p q => 0 < STP S' o p q) K) ∧ ∀ a, a < 8 → fld S' o 22 (8 * a + a) = 0)) (fun S' t => pB dC dI (AL L s.heap.size) (va_pl L S') (cyT cy) t) (AL L s.heap.size)) [.ref o].toArray s 0 0 (AL L s.heap.size)) (F0 m 69 ls []) := by
                    intro fuel
                    induction fuel with
                    | zero => intro i4 mo gd gb SS H locs ls h; exact absurd h (Nat.not_lt_zero _)
                    | succ fu69 ih69 =>
                      intro i4 mo gd gb S_46 H locs ls hm69 hb_i4 hDs hBs hini hTy hFr hFl69 hW hl
                      have hS_o := hFl69.at hT_o (by decide) hS_o
                      have hS_x_26 := hFl69.at hT_x_26 (by decide) hS_x_26
                      have hS_x_21 := hFl69.at hT_x_21 (by decide) hS_x_21
                      have hS_x_23 := hFl69.at hT_x_23 (by decide) hS_x_23
                      have hIs2 := hFl69.at hT_x_22 (by decide) hIs2
                      have hTs2 := hFl69.at hT_x_24 (by decide) hTs2
                      have hNs := hFl69.at hT_x_25 (by decide) hNs
                      have hFl65 := hFl65.tr hFl69 (by decide)
                      have hi_gb := k66i hTy hT_x_28 hBs
                      refine lv_iload_n hx hb dX12_presses_69 rfl (lv_at hl 0 rfl) ?_
                      refine lv_bipush (v := 8) hx hb dX12_presses_70 (by decide) ?_
                      refine lv_icmp_ge (tgt := 151) hx hb dX12_presses_72 (by decide) (fun c_72 => ?_) (fun c_72 => ?_)
                      · have c_72 : 8 ≤ i4 := (nI_leI (a := 8) (b := i4) (by omega) (by omega)).mp c_72
                        refine lv_iload_n hx hb dX12_presses_151 rfl (lv_at hl 1 rfl) ?_
                        refine lv_if_ne (tgt := 157) hx hb dX12_presses_152 (by decide) (fun c_152 => ?_) (fun c_152 => ?_)
                        · have hi48 : i4 = 8 := by omega
                          rw [hi48] at hini
                          obtain ⟨kq, hkq0⟩ := hpot
                          have hopS : (fun p q => 0 < STP S_46 o p q) = (fun p q => 0 < stpF f_32 gi2 f_34 f_35 gt2 p q) := by funext p q; rw [(STPe hS_o rfl rfl rfl rfl rfl hS_x_26 hIs2 hS_x_21 hS_x_23 hTs2)]
                          have hD0 : D0 (fld S_46 o 27) := by rw [fld_i hS_o rfl hDs]; exact INI_D0 hini
                          have hd27 : fld S_46 o 27 = gd := fld_i hS_o rfl hDs
                          refine lv_aload_n hx hb dX12_presses_157 rfl (lv_at hl 2 rfl) ?_
                          refine pl_callv (va_runV (As := []) (rest := []) ⟨hx, hb, hml, hown, hT⟩ (m_ways l dC dI cy L kap pr S_46 H.size o hTy hT_o kq (by rw [hopS]; exact hkq0) hD0 (by rw [fld_i hS_o rfl hBs]; exact INI_b hini)) (cwV 0 hT (gV w1460 w1462 ws95 w14 w1463) rfl rfl rfl (by decide +kernel) ⟨(Nat.le_of_ble_eq_true rfl), (Nat.le_of_ble_eq_true rfl)⟩) ⟨pcN.blind, pl_recv hK hW hT_o.1 hS_o rfl, pcN.pre hW.1 hK hW.2.1 hN (fun q h => absurd h List.not_mem_nil)⟩ rfl rfl hl.1 rfl (lv_room (Nat.le_of_ble_eq_true rfl)) dX12_presses_158 ⟨(Nat.le_of_ble_eq_true rfl), (Nat.le_of_ble_eq_true rfl)⟩) hW hA0 hA (fun S_47 H locs hrel hW => ?_)
                          obtain ⟨hTy, hF1, hx1⟩ := hrel
                          have hFr := hFr.tr hF1 (by decide)
                          have hFl65 := hFl65.tr hF1 (by decide)
                          have hFl69 := hFl69.tr hF1 (by decide)
                          have hS_o := hF1.at hT_o (by decide) hS_o
                          have hS_x_26 := hF1.at hT_x_26 (by decide) hS_x_26
                          have hS_x_21 := hF1.at hT_x_21 (by decide) hS_x_21
                          have hS_x_23 := hF1.at hT_x_23 (by decide) hS_x_23
                          have hIs2 := hF1.at hT_x_22 (by decide) hIs2
                          have hTs2 := hF1.at hT_x_24 (by decide) hTs2
                          have hNs := hF1.at hT_x_25 (by decide) hNs
                          obtain ⟨hWI, hBY, hOPT⟩ := hx1
                          obtain ⟨f_48, hS_x_27⟩ := hTy.k65 hT_x_27
                          obtain ⟨f_49, hS_x_28, hi_f_49⟩ := hTy.k66 hT_x_28
                          rw [hopS, hd27, fld_i (S := S_47) hS_o rfl hS_x_27, fld_i (S := S_47) hS_o rfl hS_x_28] at hWI
                          rw [fld_i (S := S_47) hS_o rfl hS_x_28] at hBY
                          rw [hopS, fld_i (S := S_47) hS_o rfl hS_x_27] at hOPT
                          rw [hd27] at hD0
                          refine lv_iconst (v := (-1)) hx hb dX12_presses_161 (by decide) ?_
                          refine lv_istore_n (lv' := [(2, .int (-1)), (1, .int mo), (0, .ref o)]) hx hb dX12_presses_162 rfl hl (by decide) rfl (fun ls hl => ?_)
                          refine lv_iconst (v := 0) hx hb dX12_presses_163 (by decide) ?_
                          refine lv_istore_n (lv' := [(3, .int 0), (2, .int (-1)), (1, .int mo), (0, .ref o)]) hx hb dX12_presses_164 rfl hl (by decide) rfl (fun ls hl => ?_)
                          have loop : ∀ (fuel : Nat) (i5 : Nat) (to : Int32) (SS : Nat → va_E) (H : Heap) (locs : List Loc) (ls : Array Slot), 9 - i5 < fuel → (i5 ≤ 8) → (to = -1 ∨ ∃ k, k < 8 ∧ to = nI k ∧ gn k < 0 ∧ (f_48 (k + 8)).toInt < 1000000) → Ty cy L kap pr SS → Fr kap [60, 62, 63, 65, 66] S SS → Fr kap [] S_47 SS → PW dC dI L (AL L s.heap.size) s.heap SS H locs → lv_has ls 5 [(3, .int (nI i5)), (2, .int to), (1, .int mo), (0, .ref o)] → W p l e (headSpec (wT yX12_presses cX12_presses 5 (some .boolean)) { frames := 3, cells := 0, slots := 0, locals := 71 }).room s m [.ref o].toArray below meth c H locs 0 0 (MQ below (va_Qi (fun r S' => Ty cy L kap pr S' ∧ Fr kap [60, 62, 63, 65, 66] S S' ∧ ((∃ K : Nat → Int, POT (fun p q => 0 < STP S' o p q) K) ∧ ∀ a, a < 8 → fld S' o 22 (8 * a + a) = 0)) (fun S' t => pB dC dI (AL L s.heap.size) (va_pl L S') (cyT cy) t) (AL L s.heap.size)) [.ref o].toArray s 0 0 (AL L s.heap.size)) (F0 m 165 ls []) := by
                            intro fuel
                            induction fuel with
                            | zero => intro i5 to SS H locs ls h; exact absurd h (Nat.not_lt_zero _)
                            | succ fu165 ih165 =>
                              intro i5 to S_50 H locs ls hm165 hb_i5 hto hTy hFr hFl165 hW hl
                              have hS_o := hFl165.at hT_o (by decide) hS_o
                              have hS_x_26 := hFl165.at hT_x_26 (by decide) hS_x_26
                              have hS_x_21 := hFl165.at hT_x_21 (by decide) hS_x_21
                              have hS_x_23 := hFl165.at hT_x_23 (by decide) hS_x_23
                              have hIs2 := hFl165.at hT_x_22 (by decide) hIs2
                              have hTs2 := hFl165.at hT_x_24 (by decide) hTs2
                              have hNs := hFl165.at hT_x_25 (by decide) hNs
                              have hS_x_27 := hFl165.at hT_x_27 (by decide) hS_x_27
                              have hS_x_28 := hFl165.at hT_x_28 (by decide) hS_x_28
                              have hFl65 := hFl65.tr hFl165 (by decide)
                              have hFl69 := hFl69.tr hFl165 (by decide)
                              refine lv_iload_n hx hb dX12_presses_165 rfl (lv_at hl 0 rfl) ?_
                              refine lv_bipush (v := 8) hx hb dX12_presses_166 (by decide) ?_
                              refine lv_icmp_ge (tgt := 229) hx hb dX12_presses_168 (by decide) (fun c_168 => ?_) (fun c_168 => ?_)
                              · have c_168 : 8 ≤ i5 := (nI_leI (a := 8) (b := i5) (by omega) (by omega)).mp c_168
                                refine lv_iload_n hx hb dX12_presses_229 rfl (lv_at hl 1 rfl) ?_
                                refine lv_iconst (v := (-1)) hx hb dX12_presses_230 (by decide) ?_
                                refine lv_icmp_ne (tgt := 236) hx hb dX12_presses_231 (by decide) (fun c_231 => ?_) (fun c_231 => ?_)
                                · obtain ⟨kt, hkt, rfl, hkn, hkd⟩ := hto.resolve_left c_231
                                  refine lv_aload_n hx hb dX12_presses_236 rfl (lv_at hl 3 rfl) ?_
                                  refine lv_iload_n hx hb dX12_presses_237 rfl (lv_at hl 1 rfl) ?_
                                  refine lv_bipush (v := 8) hx hb dX12_presses_238 (by decide) ?_
                                  refine lv_iadd hx hb dX12_presses_240 ?_
                                  refine lv_topi (fun z_51 ez_51 => ?_)
                                  obtain rfl : z_51 = nI (kt + 8) := ez_51.trans (nI_add (kt) (8))
                                  refine vp_callSi (va_Run.run (va_runV (As := [.int (nI (kt + 8))]) (rest := []) ⟨hx, hb, hml, hown, hT⟩ (m_firstOf l dC dI cy L kap pr S_50 H.size o (kt + 8) hTy hT_o (by omega) (rank f_48 kq) (fun v p hv hp h => rk_lt hWI hkq0 hv hp (by rw [fld_i hS_o rfl hS_x_28] at h; exact h)) (fun v => (f_48 v).toInt < 1000000) (fun v p hv hp h _ => (hWI.2.2 v p hv hp (by rw [fld_i hS_o rfl hS_x_28] at h; exact h)).2.1) hkd) (cwV 1 hT (gV w1471 w1473 ws97 w14 w1474) rfl rfl rfl (by decide +kernel) ⟨(Nat.le_of_ble_eq_true rfl), (Nat.le_of_ble_eq_true rfl)⟩) ⟨pcN.blind, pl_recv hK hW hT_o.1 hS_o rfl, pcN.pre hW.1 hK hW.2.1 hN (fun q h => absurd h List.not_mem_nil)⟩ rfl rfl hl.1 rfl (lv_room (Nat.le_of_ble_eq_true rfl)) dX12_presses_241 ⟨(Nat.le_of_ble_eq_true rfl), (Nat.le_of_ble_eq_true rfl)⟩)) (fun r_52 hr_52 => ?_)
                                  obtain ⟨kf, hkf, rfl, hfb, hfP⟩ := hr_52
                                  rw [fld_i hS_o rfl hS_x_28] at hfb
                                  obtain ⟨hkf8, hkfn⟩ := INI_root hini hkf (hWI.2.1 kf hkf hfb) hfP
                                  refine lv_istore_n (lv' := [(3, .int (nI kf)), (2, .int (nI kt)), (1, .int mo), (0, .ref o)]) hx hb dX12_presses_244 rfl hl (by decide) rfl (fun ls hl => ?_)
                                  refine lv_aload_n hx hb dX12_presses_245 rfl (lv_at hl 3 rfl) ?_
                                  refine lv_iload_n hx hb dX12_presses_246 rfl (lv_at hl 1 rfl) ?_
                                  refine lv_bipush (v := 8) hx hb dX12_presses_247 (by decide) ?_
                                  refine lv_iadd hx hb dX12_presses_249 ?_
                                  refine lv_topi (fun z_53 ez_53 => ?_)
                                  obtain rfl : z_53 = nI (kt + 8) := ez_53.trans (nI_add (kt) (8))
                                  refine lv_aload_n hx hb dX12_presses_250 rfl (lv_at hl 3 rfl) ?_
                                  refine pl_get (ci := 12) (v := .ref x_25) (C := RX12) (T := TX12) (N := 32) hx hb hT iX12 hown hK hW hT_o.1 hS_o rfl 25 (by decide) w1107 rfl dX12_presses_251 ?_
                                  refine lv_iload_n hx hb dX12_presses_254 rfl (lv_at hl 0 rfl) ?_
                                  refine pl_iald hx hb hK hW hT_x_25.1 hNs (vp_in_nI (n := kf) (N := 8) (by omega) (by omega)) dX12_presses_255 ?_
                                  refine lv_topi (fun y_54 ey_54 => ?_)
                                  refine lv_aload_n hx hb dX12_presses_256 rfl (lv_at hl 3 rfl) ?_
                                  refine pl_get (ci := 12) (v := .ref x_25) (C := RX12) (T := TX12) (N := 32) hx hb hT iX12 hown hK hW hT_o.1 hS_o rfl 25 (by decide) w1107 rfl dX12_presses_257 ?_
                                  refine lv_iload_n hx hb dX12_presses_260 rfl (lv_at hl 1 rfl) ?_
                                  refine pl_iald hx hb hK hW hT_x_25.1 hNs (vp_in_nI (n := kt) (N := 8) (by omega) (by omega)) dX12_presses_261 ?_
                                  refine lv_topi (fun y_55 ey_55 => ?_)
                                  refine lv_ineg hx hb dX12_presses_262 ?_
                                  refine lv_topi (fun z_56 ez_56 => ?_)
                                  refine lv_icmp_ge (tgt := 275) hx hb dX12_presses_263 (by decide) (fun c_263 => ?_) (fun c_263 => ?_)
                                  · refine lv_aload_n hx hb dX12_presses_275 rfl (lv_at hl 3 rfl) ?_
                                    refine pl_get (ci := 12) (v := .ref x_25) (C := RX12) (T := TX12) (N := 32) hx hb hT iX12 hown hK hW hT_o.1 hS_o rfl 25 (by decide) w1107 rfl dX12_presses_276 ?_
                                    refine lv_iload_n hx hb dX12_presses_279 rfl (lv_at hl 1 rfl) ?_
                                    refine pl_iald hx hb hK hW hT_x_25.1 hNs (vp_in_nI (n := kt) (N := 8) (by omega) (by omega)) dX12_presses_280 ?_
                                    refine lv_topi (fun y_57 ey_57 => ?_)
                                    refine lv_ineg hx hb dX12_presses_281 ?_
                                    refine lv_topi (fun z_58 ez_58 => ?_)
                                    have hmo : (z_58 = gn kf ∧ gn kf < -(gn kt)) ∨ (z_58 = -(gn kt) ∧ -(gn kt) ≤ gn kf) := Or.inr ⟨by rw [ez_58, ey_57, nI_clamp (by omega)], by have q := c_263; rw [ey_54, nI_clamp (by omega), ez_56, ey_55, nI_clamp (by omega)] at q; exact q⟩
                                    refine vp_callSi (va_Run.run (va_runV (As := [.int (nI (kt + 8)), .int z_58]) (rest := []) ⟨hx, hb, hml, hown, hT⟩ (m_wayMay l dC dI cy L kap pr S_50 H.size o (kt + 8) z_58 hTy hT_o (by omega) (rank f_48 kq) (fun v p hv hp h => rk_lt hWI hkq0 hv hp (by rw [fld_i hS_o rfl hS_x_28] at h; exact h)) (fun v p hv hp h => by rw [(STPe hS_o rfl rfl rfl rfl rfl hS_x_26 hIs2 hS_x_21 hS_x_23 hTs2)]; exact (hWI.2.2 v p hv hp (by rw [fld_i hS_o rfl hS_x_28] at h; exact h)).1)) (cwV 2 hT (gV w1475 w1477 ws98 w14 w1478) rfl rfl rfl (by decide +kernel) ⟨(Nat.le_of_ble_eq_true rfl), (Nat.le_of_ble_eq_true rfl)⟩) ⟨pcN.blind, pl_recv hK hW hT_o.1 hS_o rfl, pcN.pre hW.1 hK hW.2.1 hN (fun q h => absurd h List.not_mem_nil)⟩ rfl rfl hl.1 rfl (lv_room (Nat.le_of_ble_eq_true rfl)) dX12_presses_282 ⟨(Nat.le_of_ble_eq_true rfl), (Nat.le_of_ble_eq_true rfl)⟩)) (fun r_59 hr_59 => ?_)
                                    have hmu := hr_59
                                    refine lv_istore (lv' := [(4, .int r_59), (3, .int (nI kf)), (2, .int (nI kt)), (1, .int mo), (0, .ref o)]) hx hb dX12_presses_285 hl (by decide) rfl (fun ls hl => ?_)
                                    have hSTPb : ∀ p q, STP S_50 o p q = stpF f_32 gi2 f_34 f_35 gt2 p q := fun p q => (STPe hS_o rfl rfl rfl rfl rfl hS_x_26 hIs2 hS_x_21 hS_x_23 hTs2)
                                    have hb28b : fld S_50 o 28 = f_49 := fld_i hS_o rfl hS_x_28
                                    have h22b : fld S_50 o 22 = gi2 := fld_i hS_o rfl hIs2
                                    refine lv_aload_n hx hb dX12_presses_287 rfl (lv_at hl 4 rfl) ?_
                                    refine lv_iload_n hx hb dX12_presses_288 rfl (lv_at hl 2 rfl) ?_
                                    refine lv_bipush (v := 8) hx hb dX12_presses_289 (by decide) ?_
                                    refine lv_iadd hx hb dX12_presses_291 ?_
                                    refine lv_topi (fun z_60 ez_60 => ?_)
                                    obtain rfl : z_60 = nI (kt + 8) := ez_60.trans (nI_add (kt) (8))
                                    refine lv_iload hx hb dX12_presses_292 (lv_at hl 0 rfl) ?_
                                    refine pl_callv (va_runV (As := [.int (nI (kt + 8)), .int r_59]) (rest := []) ⟨hx, hb, hml, hown, hT⟩ (m_sends l dC dI cy L kap pr S_50 H.size o (kt + 8) r_59 hTy hT_o (by omega) (rank f_48 kq) (fun v p hv hp h => rk_lt hWI hkq0 hv hp (by rw [fld_i hS_o rfl hS_x_28] at h; exact h)) (fun v p hv hp h => by rw [(STPe hS_o rfl rfl rfl rfl rfl hS_x_26 hIs2 hS_x_21 hS_x_23 hTs2)]; exact (hWI.2.2 v p hv hp (by rw [fld_i hS_o rfl hS_x_28] at h; exact h)).1)) (cwV 2 hT (gV w1479 w1481 ws99 w14 w1482) rfl rfl rfl (by decide +kernel) ⟨(Nat.le_of_ble_eq_true rfl), (Nat.le_of_ble_eq_true rfl)⟩) ⟨pcN.blind, pl_recv hK hW hT_o.1 hS_o rfl, pcN.pre hW.1 hK hW.2.1 hN (fun q h => absurd h List.not_mem_nil)⟩ rfl rfl hl.1 rfl (lv_room (Nat.le_of_ble_eq_true rfl)) dX12_presses_294 ⟨(Nat.le_of_ble_eq_true rfl), (Nat.le_of_ble_eq_true rfl)⟩) hW hA0 hA (fun S_61 H locs hrel hW => ?_)
                                    obtain ⟨hTy, hF1, hx1⟩ := hrel
                                    have hFr := hFr.tr hF1 (by decide)
                                    have hFl65 := hFl65.tr hF1 (by decide)
                                    have hS_o := hF1.at hT_o (by decide) hS_o
                                    have hS_x_26 := hF1.at hT_x_26 (by decide) hS_x_26
                                    have hS_x_21 := hF1.at hT_x_21 (by decide) hS_x_21
                                    have hS_x_23 := hF1.at hT_x_23 (by decide) hS_x_23
                                    have hNs := hF1.at hT_x_25 (by decide) hNs
                                    have hS_x_27 := hF1.at hT_x_27 (by decide) hS_x_27
                                    have hS_x_28 := hF1.at hT_x_28 (by decide) hS_x_28
                                    obtain ⟨hsnd, hdzn⟩ := hx1
                                    obtain ⟨f_62, hS_x_22⟩ := hTy.k60 hT_x_22
                                    obtain ⟨f_63, hS_x_24⟩ := hTy.k62 hT_x_24
                                    have hpot2 : ∃ K : Nat → Int, POT (fun p q => 0 < stpF f_32 f_62 f_34 f_35 f_63 p q) K := POT_send (op := fun p q => 0 < stpF f_32 gi2 f_34 f_35 gt2 p q) (fun p q h => stp_side h) hWI hkq0 hBY hD0 hOPT (fun p q hp hq h => by have g := hsnd p q hp hq (by rw [(STPe hS_o rfl rfl rfl rfl rfl hS_x_26 hS_x_22 hS_x_21 hS_x_23 hS_x_24)]; exact h); rw [hSTPb, hb28b] at g; exact g)
                                    have hdz2 : ∀ a, a < 8 → f_62 (8 * a + a) = 0 := fun a ha => by have q := hdzn a ha; rw [fld_i hS_o rfl hS_x_22, h22b] at q; exact q.trans (hdz a ha)
                                    refine lv_aload_n hx hb dX12_presses_297 rfl (lv_at hl 4 rfl) ?_
                                    refine pl_get (ci := 12) (v := .ref x_25) (C := RX12) (T := TX12) (N := 32) hx hb hT iX12 hown hK hW hT_o.1 hS_o rfl 25 (by decide) w1107 rfl dX12_presses_298 ?_
                                    refine lv_iload_n hx hb dX12_presses_301 rfl (lv_at hl 1 rfl) ?_
                                    refine lv_dup2_11 hx hb dX12_presses_302 rfl rfl ?_
                                    refine pl_iald hx hb hK hW hT_x_25.1 hNs (vp_in_nI (n := kf) (N := 8) (by omega) (by omega)) dX12_presses_303 ?_
                                    refine lv_topi (fun y_64 ey_64 => ?_)
                                    refine lv_iload hx hb dX12_presses_304 (lv_at hl 0 rfl) ?_
                                    refine lv_isub hx hb dX12_presses_306 ?_
                                    refine lv_topi (fun z_65 ez_65 => ?_)
                                    refine pl_iast hx hb hK hW hT_x_25.1 hNs (vp_in_nI (n := kf) (N := 8) (by omega) (by omega)) dX12_presses_307 (fun H locs f_67 S_66 ef_f_67 e1 hW => ?_)
                                    have hTy := hTy.u63 e1 hT_x_25 ⟨f_67, rfl⟩
                                    have hS_o := un e1 hT_o hT_x_25 (by decide) hS_o
                                    have hS_x_26 := un e1 hT_x_26 hT_x_25 (by decide) hS_x_26
                                    have hS_x_21 := un e1 hT_x_21 hT_x_25 (by decide) hS_x_21
                                    have hS_x_23 := un e1 hT_x_23 hT_x_25 (by decide) hS_x_23
                                    have hS_x_27 := un e1 hT_x_27 hT_x_25 (by decide) hS_x_27
                                    have hS_x_28 := un e1 hT_x_28 hT_x_25 (by decide) hS_x_28
                                    have hS_x_22 := un e1 hT_x_22 hT_x_25 (by decide) hS_x_22
                                    have hS_x_24 := un e1 hT_x_24 hT_x_25 (by decide) hS_x_24
                                    have hFr := uf hFr e1 hT_x_25 (by decide) (by decide)
                                    have hFl65 := uf hFl65 e1 hT_x_25 (by decide) (by decide)
                                    have hNs := us e1
                                    refine lv_aload_n hx hb dX12_presses_308 rfl (lv_at hl 4 rfl) ?_
                                    refine pl_get (ci := 12) (v := .ref x_25) (C := RX12) (T := TX12) (N := 32) hx hb hT iX12 hown hK hW hT_o.1 hS_o rfl 25 (by decide) w1107 rfl dX12_presses_309 ?_
                                    refine lv_iload_n hx hb dX12_presses_312 rfl (lv_at hl 2 rfl) ?_
                                    refine lv_dup2_11 hx hb dX12_presses_313 rfl rfl ?_
                                    refine pl_iald hx hb hK hW hT_x_25.1 hNs (vp_in_nI (n := kt) (N := 8) (by omega) (by omega)) dX12_presses_314 ?_
                                    refine lv_topi (fun y_68 ey_68 => ?_)
                                    refine lv_iload hx hb dX12_presses_315 (lv_at hl 0 rfl) ?_
                                    refine lv_iadd hx hb dX12_presses_317 ?_
                                    refine lv_topi (fun z_69 ez_69 => ?_)
                                    refine pl_iast hx hb hK hW hT_x_25.1 hNs (vp_in_nI (n := kt) (N := 8) (by omega) (by omega)) dX12_presses_318 (fun H locs f_71 S_70 ef_f_71 e1 hW => ?_)
                                    have hTy := hTy.u63 e1 hT_x_25 ⟨f_71, rfl⟩
                                    have hS_o := un e1 hT_o hT_x_25 (by decide) hS_o
                                    have hS_x_26 := un e1 hT_x_26 hT_x_25 (by decide) hS_x_26
                                    have hS_x_21 := un e1 hT_x_21 hT_x_25 (by decide) hS_x_21
                                    have hS_x_23 := un e1 hT_x_23 hT_x_25 (by decide) hS_x_23
                                    have hS_x_27 := un e1 hT_x_27 hT_x_25 (by decide) hS_x_27
                                    have hS_x_28 := un e1 hT_x_28 hT_x_25 (by decide) hS_x_28
                                    have hS_x_22 := un e1 hT_x_22 hT_x_25 (by decide) hS_x_22
                                    have hS_x_24 := un e1 hT_x_24 hT_x_25 (by decide) hS_x_24
                                    have hFr := uf hFr e1 hT_x_25 (by decide) (by decide)
                                    have hFl65 := uf hFl65 e1 hT_x_25 (by decide) (by decide)
                                    have hNs := us e1
                                    have hpnf := pn_fall hkfn hkn hmu hmo ef_f_67 ez_65 ey_64 ef_f_71 ez_69 ey_68 hkf8 hkt
                                    refine lv_goto (tgt := 65) hx hb dX12_presses_319 (by decide) ?_
                                    exact ih65 f_62 f_63 f_71 _ _ _ ls (by omega) hS_x_22 hS_x_24 hNs hpot2 hdz2 hTy hFr hFl65 hW (lv_sub hl [4] rfl)
                                  · refine lv_aload_n hx hb dX12_presses_266 rfl (lv_at hl 3 rfl) ?_
                                    refine pl_get (ci := 12) (v := .ref x_25) (C := RX12) (T := TX12) (N := 32) hx hb hT iX12 hown hK hW hT_o.1 hS_o rfl 25 (by decide) w1107 rfl dX12_presses_267 ?_
                                    refine lv_iload_n hx hb dX12_presses_270 rfl (lv_at hl 0 rfl) ?_
                                    refine pl_iald hx hb hK hW hT_x_25.1 hNs (vp_in_nI (n := kf) (N := 8) (by omega) (by omega)) dX12_presses_271 ?_
                                    refine lv_topi (fun y_72 ey_72 => ?_)
                                    refine lv_goto (tgt := 282) hx hb dX12_presses_272 (by decide) ?_
                                    have hmo : (y_72 = gn kf ∧ gn kf < -(gn kt)) ∨ (y_72 = -(gn kt) ∧ -(gn kt) ≤ gn kf) := Or.inl ⟨by rw [ey_72, nI_clamp (by omega)], by have q := nle_lt c_263; rw [ey_54, nI_clamp (by omega), ez_56, ey_55, nI_clamp (by omega)] at q; exact q⟩
                                    refine vp_callSi (va_Run.run (va_runV (As := [.int (nI (kt + 8)), .int y_72]) (rest := []) ⟨hx, hb, hml, hown, hT⟩ (m_wayMay l dC dI cy L kap pr S_50 H.size o (kt + 8) y_72 hTy hT_o (by omega) (rank f_48 kq) (fun v p hv hp h => rk_lt hWI hkq0 hv hp (by rw [fld_i hS_o rfl hS_x_28] at h; exact h)) (fun v p hv hp h => by rw [(STPe hS_o rfl rfl rfl rfl rfl hS_x_26 hIs2 hS_x_21 hS_x_23 hTs2)]; exact (hWI.2.2 v p hv hp (by rw [fld_i hS_o rfl hS_x_28] at h; exact h)).1)) (cwV 2 hT (gV w1475 w1477 ws98 w14 w1478) rfl rfl rfl (by decide +kernel) ⟨(Nat.le_of_ble_eq_true rfl), (Nat.le_of_ble_eq_true rfl)⟩) ⟨pcN.blind, pl_recv hK hW hT_o.1 hS_o rfl, pcN.pre hW.1 hK hW.2.1 hN (fun q h => absurd h List.not_mem_nil)⟩ rfl rfl hl.1 rfl (lv_room (Nat.le_of_ble_eq_true rfl)) dX12_presses_282 ⟨(Nat.le_of_ble_eq_true rfl), (Nat.le_of_ble_eq_true rfl)⟩)) (fun r_73 hr_73 => ?_)
                                    have hmu := hr_73
                                    refine lv_istore (lv' := [(4, .int r_73), (3, .int (nI kf)), (2, .int (nI kt)), (1, .int mo), (0, .ref o)]) hx hb dX12_presses_285 hl (by decide) rfl (fun ls hl => ?_)
                                    have hSTPb : ∀ p q, STP S_50 o p q = stpF f_32 gi2 f_34 f_35 gt2 p q := fun p q => (STPe hS_o rfl rfl rfl rfl rfl hS_x_26 hIs2 hS_x_21 hS_x_23 hTs2)
                                    have hb28b : fld S_50 o 28 = f_49 := fld_i hS_o rfl hS_x_28
                                    have h22b : fld S_50 o 22 = gi2 := fld_i hS_o rfl hIs2
                                    refine lv_aload_n hx hb dX12_presses_287 rfl (lv_at hl 4 rfl) ?_
                                    refine lv_iload_n hx hb dX12_presses_288 rfl (lv_at hl 2 rfl) ?_
                                    refine lv_bipush (v := 8) hx hb dX12_presses_289 (by decide) ?_
                                    refine lv_iadd hx hb dX12_presses_291 ?_
                                    refine lv_topi (fun z_74 ez_74 => ?_)
                                    obtain rfl : z_74 = nI (kt + 8) := ez_74.trans (nI_add (kt) (8))
                                    refine lv_iload hx hb dX12_presses_292 (lv_at hl 0 rfl) ?_
                                    refine pl_callv (va_runV (As := [.int (nI (kt + 8)), .int r_73]) (rest := []) ⟨hx, hb, hml, hown, hT⟩ (m_sends l dC dI cy L kap pr S_50 H.size o (kt + 8) r_73 hTy hT_o (by omega) (rank f_48 kq) (fun v p hv hp h => rk_lt hWI hkq0 hv hp (by rw [fld_i hS_o rfl hS_x_28] at h; exact h)) (fun v p hv hp h => by rw [(STPe hS_o rfl rfl rfl rfl rfl hS_x_26 hIs2 hS_x_21 hS_x_23 hTs2)]; exact (hWI.2.2 v p hv hp (by rw [fld_i hS_o rfl hS_x_28] at h; exact h)).1)) (cwV 2 hT (gV w1479 w1481 ws99 w14 w1482) rfl rfl rfl (by decide +kernel) ⟨(Nat.le_of_ble_eq_true rfl), (Nat.le_of_ble_eq_true rfl)⟩) ⟨pcN.blind, pl_recv hK hW hT_o.1 hS_o rfl, pcN.pre hW.1 hK hW.2.1 hN (fun q h => absurd h List.not_mem_nil)⟩ rfl rfl hl.1 rfl (lv_room (Nat.le_of_ble_eq_true rfl)) dX12_presses_294 ⟨(Nat.le_of_ble_eq_true rfl), (Nat.le_of_ble_eq_true rfl)⟩) hW hA0 hA (fun S_75 H locs hrel hW => ?_)
                                    obtain ⟨hTy, hF1, hx1⟩ := hrel
                                    have hFr := hFr.tr hF1 (by decide)
                                    have hFl65 := hFl65.tr hF1 (by decide)
                                    have hS_o := hF1.at hT_o (by decide) hS_o
                                    have hS_x_26 := hF1.at hT_x_26 (by decide) hS_x_26
                                    have hS_x_21 := hF1.at hT_x_21 (by decide) hS_x_21
                                    have hS_x_23 := hF1.at hT_x_23 (by decide) hS_x_23
                                    have hNs := hF1.at hT_x_25 (by decide) hNs
                                    have hS_x_27 := hF1.at hT_x_27 (by decide) hS_x_27
                                    have hS_x_28 := hF1.at hT_x_28 (by decide) hS_x_28
                                    obtain ⟨hsnd, hdzn⟩ := hx1
                                    obtain ⟨f_76, hS_x_22⟩ := hTy.k60 hT_x_22
                                    obtain ⟨f_77, hS_x_24⟩ := hTy.k62 hT_x_24
                                    have hpot2 : ∃ K : Nat → Int, POT (fun p q => 0 < stpF f_32 f_76 f_34 f_35 f_77 p q) K := POT_send (op := fun p q => 0 < stpF f_32 gi2 f_34 f_35 gt2 p q) (fun p q h => stp_side h) hWI hkq0 hBY hD0 hOPT (fun p q hp hq h => by have g := hsnd p q hp hq (by rw [(STPe hS_o rfl rfl rfl rfl rfl hS_x_26 hS_x_22 hS_x_21 hS_x_23 hS_x_24)]; exact h); rw [hSTPb, hb28b] at g; exact g)
                                    have hdz2 : ∀ a, a < 8 → f_76 (8 * a + a) = 0 := fun a ha => by have q := hdzn a ha; rw [fld_i hS_o rfl hS_x_22, h22b] at q; exact q.trans (hdz a ha)
                                    refine lv_aload_n hx hb dX12_presses_297 rfl (lv_at hl 4 rfl) ?_
                                    refine pl_get (ci := 12) (v := .ref x_25) (C := RX12) (T := TX12) (N := 32) hx hb hT iX12 hown hK hW hT_o.1 hS_o rfl 25 (by decide) w1107 rfl dX12_presses_298 ?_
                                    refine lv_iload_n hx hb dX12_presses_301 rfl (lv_at hl 1 rfl) ?_
                                    refine lv_dup2_11 hx hb dX12_presses_302 rfl rfl ?_
                                    refine pl_iald hx hb hK hW hT_x_25.1 hNs (vp_in_nI (n := kf) (N := 8) (by omega) (by omega)) dX12_presses_303 ?_
                                    refine lv_topi (fun y_78 ey_78 => ?_)
                                    refine lv_iload hx hb dX12_presses_304 (lv_at hl 0 rfl) ?_
                                    refine lv_isub hx hb dX12_presses_306 ?_
                                    refine lv_topi (fun z_79 ez_79 => ?_)
                                    refine pl_iast hx hb hK hW hT_x_25.1 hNs (vp_in_nI (n := kf) (N := 8) (by omega) (by omega)) dX12_presses_307 (fun H locs f_81 S_80 ef_f_81 e1 hW => ?_)
                                    have hTy := hTy.u63 e1 hT_x_25 ⟨f_81, rfl⟩
                                    have hS_o := un e1 hT_o hT_x_25 (by decide) hS_o
                                    have hS_x_26 := un e1 hT_x_26 hT_x_25 (by decide) hS_x_26
                                    have hS_x_21 := un e1 hT_x_21 hT_x_25 (by decide) hS_x_21
                                    have hS_x_23 := un e1 hT_x_23 hT_x_25 (by decide) hS_x_23
                                    have hS_x_27 := un e1 hT_x_27 hT_x_25 (by decide) hS_x_27
                                    have hS_x_28 := un e1 hT_x_28 hT_x_25 (by decide) hS_x_28
                                    have hS_x_22 := un e1 hT_x_22 hT_x_25 (by decide) hS_x_22
                                    have hS_x_24 := un e1 hT_x_24 hT_x_25 (by decide) hS_x_24
                                    have hFr := uf hFr e1 hT_x_25 (by decide) (by decide)
                                    have hFl65 := uf hFl65 e1 hT_x_25 (by decide) (by decide)
                                    have hNs := us e1
                                    refine lv_aload_n hx hb dX12_presses_308 rfl (lv_at hl 4 rfl) ?_
                                    refine pl_get (ci := 12) (v := .ref x_25) (C := RX12) (T := TX12) (N := 32) hx hb hT iX12 hown hK hW hT_o.1 hS_o rfl 25 (by decide) w1107 rfl dX12_presses_309 ?_
                                    refine lv_iload_n hx hb dX12_presses_312 rfl (lv_at hl 2 rfl) ?_
                                    refine lv_dup2_11 hx hb dX12_presses_313 rfl rfl ?_
                                    refine pl_iald hx hb hK hW hT_x_25.1 hNs (vp_in_nI (n := kt) (N := 8) (by omega) (by omega)) dX12_presses_314 ?_
                                    refine lv_topi (fun y_82 ey_82 => ?_)
                                    refine lv_iload hx hb dX12_presses_315 (lv_at hl 0 rfl) ?_
                                    refine lv_iadd hx hb dX12_presses_317 ?_
                                    refine lv_topi (fun z_83 ez_83 => ?_)
                                    refine pl_iast hx hb hK hW hT_x_25.1 hNs (vp_in_nI (n := kt) (N := 8) (by omega) (by omega)) dX12_presses_318 (fun H locs f_85 S_84 ef_f_85 e1 hW => ?_)
                                    have hTy := hTy.u63 e1 hT_x_25 ⟨f_85, rfl⟩
                                    have hS_o := un e1 hT_o hT_x_25 (by decide) hS_o
                                    have hS_x_26 := un e1 hT_x_26 hT_x_25 (by decide) hS_x_26
                                    have hS_x_21 := un e1 hT_x_21 hT_x_25 (by decide) hS_x_21
                                    have hS_x_23 := un e1 hT_x_23 hT_x_25 (by decide) hS_x_23
                                    have hS_x_27 := un e1 hT_x_27 hT_x_25 (by decide) hS_x_27
                                    have hS_x_28 := un e1 hT_x_28 hT_x_25 (by decide) hS_x_28
                                    have hS_x_22 := un e1 hT_x_22 hT_x_25 (by decide) hS_x_22
                                    have hS_x_24 := un e1 hT_x_24 hT_x_25 (by decide) hS_x_24
                                    have hFr := uf hFr e1 hT_x_25 (by decide) (by decide)
                                    have hFl65 := uf hFl65 e1 hT_x_25 (by decide) (by decide)
                                    have hNs := us e1
                                    have hpnf := pn_fall hkfn hkn hmu hmo ef_f_81 ez_79 ey_78 ef_f_85 ez_83 ey_82 hkf8 hkt
                                    refine lv_goto (tgt := 65) hx hb dX12_presses_319 (by decide) ?_
                                    exact ih65 f_76 f_77 f_85 _ _ _ ls (by omega) hS_x_22 hS_x_24 hNs hpot2 hdz2 hTy hFr hFl65 hW (lv_sub hl [4] rfl)
                                · refine lv_iconst (v := 0) hx hb dX12_presses_234 (by decide) ?_
                                  exact W.zret (ty := .boolean) (v := 0) hx hb hr (by decide) (fun t ht h9 => ⟨⟨0, S_50, rfl, ⟨hTy, hFr, ⟨by refine ⟨kq, ?_⟩; rw [show (fun p q => 0 < STP S_50 o p q) = (fun p q => 0 < stpF f_32 gi2 f_34 f_35 gt2 p q) from by funext p q; rw [(STPe hS_o rfl rfl rfl rfl rfl hS_x_26 hIs2 hS_x_21 hS_x_23 hTs2)]]; exact hkq0, fun a ha => by rw [fld_i hS_o rfl hIs2]; exact hdz a ha⟩⟩, by rw [ht]; exact hW.1, va_K.moved h9.alike hK, hW.2.1⟩, hW.2.2.F ht⟩) hW.2.2.2.2 dX12_presses_235
                              · have c_168 : ¬ (8 ≤ i5) := fun hh9 => c_168 ((nI_leI (a := 8) (b := i5) (by omega) (by omega)).mpr hh9)
                                refine lv_aload_n hx hb dX12_presses_171 rfl (lv_at hl 3 rfl) ?_
                                refine pl_get (ci := 12) (v := .ref x_25) (C := RX12) (T := TX12) (N := 32) hx hb hT iX12 hown hK hW hT_o.1 hS_o rfl 25 (by decide) w1107 rfl dX12_presses_172 ?_
                                refine lv_iload_n hx hb dX12_presses_175 rfl (lv_at hl 0 rfl) ?_
                                refine pl_iald hx hb hK hW hT_x_25.1 hNs (vp_in_nI (n := i5) (N := 8) (by omega) (by omega)) dX12_presses_176 ?_
                                refine lv_topi (fun y_86 ey_86 => ?_)
                                refine lv_if_ge (tgt := 223) hx hb dX12_presses_177 (by decide) (fun c_177 => ?_) (fun c_177 => ?_)
                                · refine lv_iinc (v := nI (i5 + 1)) (lv' := [(3, .int (nI (i5 + 1))), (2, .int to), (1, .int mo), (0, .ref o)]) hx hb dX12_presses_223 hl (k := 0) rfl (nI_add (i5) 1) (by decide) rfl (fun ls hl => ?_)
                                  refine lv_goto (tgt := 165) hx hb dX12_presses_226 (by decide) ?_
                                  exact ih165 (i5 + 1) to _ _ _ ls (by omega) (by omega) hto hTy hFr hFl165 hW (lv_sub hl [0, 1, 2, 3] rfl)
                                · refine lv_aload_n hx hb dX12_presses_180 rfl (lv_at hl 3 rfl) ?_
                                  refine pl_get (ci := 12) (v := .ref x_27) (C := RX12) (T := TX12) (N := 32) hx hb hT iX12 hown hK hW hT_o.1 hS_o rfl 27 (by decide) w1109 rfl dX12_presses_181 ?_
                                  refine lv_iload_n hx hb dX12_presses_184 rfl (lv_at hl 0 rfl) ?_
                                  refine lv_bipush (v := 8) hx hb dX12_presses_185 (by decide) ?_
                                  refine lv_iadd hx hb dX12_presses_187 ?_
                                  refine lv_topi (fun z_87 ez_87 => ?_)
                                  obtain rfl : z_87 = nI (i5 + 8) := ez_87.trans (nI_add (i5) (8))
                                  refine pl_iald hx hb hK hW hT_x_27.1 hS_x_27 (vp_in_nI (n := i5 + 8) (N := 16) (by omega) (by omega)) dX12_presses_188 ?_
                                  refine lv_topi (fun y_88 ey_88 => ?_)
                                  refine lv_ldcw (v := 1000000) hx hb hown (hT _ w1459) dX12_presses_189 ?_
                                  refine lv_icmp_ge (tgt := 223) hx hb dX12_presses_192 (by decide) (fun c_192 => ?_) (fun c_192 => ?_)
                                  · refine lv_iinc (v := nI (i5 + 1)) (lv' := [(3, .int (nI (i5 + 1))), (2, .int to), (1, .int mo), (0, .ref o)]) hx hb dX12_presses_223 hl (k := 0) rfl (nI_add (i5) 1) (by decide) rfl (fun ls hl => ?_)
                                    refine lv_goto (tgt := 165) hx hb dX12_presses_226 (by decide) ?_
                                    exact ih165 (i5 + 1) to _ _ _ ls (by omega) (by omega) hto hTy hFr hFl165 hW (lv_sub hl [0, 1, 2, 3] rfl)
                                  · refine lv_iload_n hx hb dX12_presses_195 rfl (lv_at hl 1 rfl) ?_
                                    refine lv_iconst (v := (-1)) hx hb dX12_presses_196 (by decide) ?_
                                    refine lv_icmp_eq (tgt := 221) hx hb dX12_presses_197 (by decide) (fun c_197 => ?_) (fun c_197 => ?_)
                                    · refine lv_iload_n hx hb dX12_presses_221 rfl (lv_at hl 0 rfl) ?_
                                      refine lv_istore_n (lv' := [(2, .int (nI i5)), (3, .int (nI i5)), (1, .int mo), (0, .ref o)]) hx hb dX12_presses_222 rfl hl (by decide) rfl (fun ls hl => ?_)
                                      refine lv_iinc (v := nI (i5 + 1)) (lv' := [(3, .int (nI (i5 + 1))), (2, .int (nI i5)), (1, .int mo), (0, .ref o)]) hx hb dX12_presses_223 hl (k := 1) rfl (nI_add (i5) 1) (by decide) rfl (fun ls hl => ?_)
                                      refine lv_goto (tgt := 165) hx hb dX12_presses_226 (by decide) ?_
                                      exact ih165 (i5 + 1) (nI i5) _ _ _ ls (by omega) (by omega) (Or.inr ⟨i5, by omega, rfl, by have q := ineg c_177; rw [ey_86, nI_clamp (by omega)] at q; exact q, far_q c_192 ey_88 (by omega) (by omega)⟩) hTy hFr hFl165 hW (lv_sub hl [0, 1, 2, 3] rfl)
                                    · obtain ⟨kt, hkt, rfl, hkn, hkd⟩ := hto.resolve_left c_197
                                      refine lv_aload_n hx hb dX12_presses_200 rfl (lv_at hl 3 rfl) ?_
                                      refine pl_get (ci := 12) (v := .ref x_27) (C := RX12) (T := TX12) (N := 32) hx hb hT iX12 hown hK hW hT_o.1 hS_o rfl 27 (by decide) w1109 rfl dX12_presses_201 ?_
                                      refine lv_iload_n hx hb dX12_presses_204 rfl (lv_at hl 0 rfl) ?_
                                      refine lv_bipush (v := 8) hx hb dX12_presses_205 (by decide) ?_
                                      refine lv_iadd hx hb dX12_presses_207 ?_
                                      refine lv_topi (fun z_89 ez_89 => ?_)
                                      obtain rfl : z_89 = nI (i5 + 8) := ez_89.trans (nI_add (i5) (8))
                                      refine pl_iald hx hb hK hW hT_x_27.1 hS_x_27 (vp_in_nI (n := i5 + 8) (N := 16) (by omega) (by omega)) dX12_presses_208 ?_
                                      refine lv_topi (fun y_90 ey_90 => ?_)
                                      refine lv_aload_n hx hb dX12_presses_209 rfl (lv_at hl 3 rfl) ?_
                                      refine pl_get (ci := 12) (v := .ref x_27) (C := RX12) (T := TX12) (N := 32) hx hb hT iX12 hown hK hW hT_o.1 hS_o rfl 27 (by decide) w1109 rfl dX12_presses_210 ?_
                                      refine lv_iload_n hx hb dX12_presses_213 rfl (lv_at hl 1 rfl) ?_
                                      refine lv_bipush (v := 8) hx hb dX12_presses_214 (by decide) ?_
                                      refine lv_iadd hx hb dX12_presses_216 ?_
                                      refine lv_topi (fun z_91 ez_91 => ?_)
                                      obtain rfl : z_91 = nI (kt + 8) := ez_91.trans (nI_add (kt) (8))
                                      refine pl_iald hx hb hK hW hT_x_27.1 hS_x_27 (vp_in_nI (n := kt + 8) (N := 16) (by omega) (by omega)) dX12_presses_217 ?_
                                      refine lv_topi (fun y_92 ey_92 => ?_)
                                      refine lv_icmp_ge (tgt := 223) hx hb dX12_presses_218 (by decide) (fun c_218 => ?_) (fun c_218 => ?_)
                                      · refine lv_iinc (v := nI (i5 + 1)) (lv' := [(3, .int (nI (i5 + 1))), (2, .int (nI kt)), (1, .int mo), (0, .ref o)]) hx hb dX12_presses_223 hl (k := 0) rfl (nI_add (i5) 1) (by decide) rfl (fun ls hl => ?_)
                                        refine lv_goto (tgt := 165) hx hb dX12_presses_226 (by decide) ?_
                                        exact ih165 (i5 + 1) (nI kt) _ _ _ ls (by omega) (by omega) (Or.inr ⟨kt, hkt, rfl, hkn, hkd⟩) hTy hFr hFl165 hW (lv_sub hl [0, 1, 2, 3] rfl)
                                      · refine lv_iload_n hx hb dX12_presses_221 rfl (lv_at hl 0 rfl) ?_
                                        refine lv_istore_n (lv' := [(2, .int (nI i5)), (3, .int (nI i5)), (1, .int mo), (0, .ref o)]) hx hb dX12_presses_222 rfl hl (by decide) rfl (fun ls hl => ?_)
                                        refine lv_iinc (v := nI (i5 + 1)) (lv' := [(3, .int (nI (i5 + 1))), (2, .int (nI i5)), (1, .int mo), (0, .ref o)]) hx hb dX12_presses_223 hl (k := 1) rfl (nI_add (i5) 1) (by decide) rfl (fun ls hl => ?_)
                                        refine lv_goto (tgt := 165) hx hb dX12_presses_226 (by decide) ?_
                                        exact ih165 (i5 + 1) (nI i5) _ _ _ ls (by omega) (by omega) (Or.inr ⟨i5, by omega, rfl, by have q := ineg c_177; rw [ey_86, nI_clamp (by omega)] at q; exact q, far_q c_192 ey_88 (by omega) (by omega)⟩) hTy hFr hFl165 hW (lv_sub hl [0, 1, 2, 3] rfl)
                          exact loop ((9 - 0) + 1) 0 (-1) _ _ _ ls (Nat.lt_succ_self _) (by omega) (Or.inl rfl) hTy hFr Fr.rf hW (lv_sub hl [0, 1, 2, 3] rfl)
                        · refine lv_iconst (v := 1) hx hb dX12_presses_155 (by decide) ?_
                          exact W.zret (ty := .boolean) (v := 1) hx hb hr (by decide) (fun t ht h9 => ⟨⟨1, S_46, rfl, ⟨hTy, hFr, ⟨by obtain ⟨K, h⟩ := hpot; refine ⟨K, ?_⟩; rw [show (fun p q => 0 < STP S_46 o p q) = (fun p q => 0 < stpF f_32 gi2 f_34 f_35 gt2 p q) from by funext p q; rw [(STPe hS_o rfl rfl rfl rfl rfl hS_x_26 hIs2 hS_x_21 hS_x_23 hTs2)]]; exact h, fun a ha => by rw [fld_i hS_o rfl hIs2]; exact hdz a ha⟩⟩, by rw [ht]; exact hW.1, va_K.moved h9.alike hK, hW.2.1⟩, hW.2.2.F ht⟩) hW.2.2.2.2 dX12_presses_156
                      · have c_72 : ¬ (8 ≤ i4) := fun hh9 => c_72 ((nI_leI (a := 8) (b := i4) (by omega) (by omega)).mpr hh9)
                        refine lv_aload_n hx hb dX12_presses_75 rfl (lv_at hl 2 rfl) ?_
                        refine pl_get (ci := 12) (v := .ref x_27) (C := RX12) (T := TX12) (N := 32) hx hb hT iX12 hown hK hW hT_o.1 hS_o rfl 27 (by decide) w1109 rfl dX12_presses_76 ?_
                        refine lv_iload_n hx hb dX12_presses_79 rfl (lv_at hl 0 rfl) ?_
                        refine lv_aload_n hx hb dX12_presses_80 rfl (lv_at hl 2 rfl) ?_
                        refine pl_get (ci := 12) (v := .ref x_25) (C := RX12) (T := TX12) (N := 32) hx hb hT iX12 hown hK hW hT_o.1 hS_o rfl 25 (by decide) w1107 rfl dX12_presses_81 ?_
                        refine lv_iload_n hx hb dX12_presses_84 rfl (lv_at hl 0 rfl) ?_
                        refine pl_iald hx hb hK hW hT_x_25.1 hNs (vp_in_nI (n := i4) (N := 8) (by omega) (by omega)) dX12_presses_85 ?_
                        refine lv_topi (fun y_93 ey_93 => ?_)
                        refine lv_if_le (tgt := 93) hx hb dX12_presses_86 (by decide) (fun c_86 => ?_) (fun c_86 => ?_)
                        · refine lv_ldcw (v := 1000000) hx hb hown (hT _ w1459) dX12_presses_93 ?_
                          refine pl_iast hx hb hK hW hT_x_27.1 hDs (vp_in_nI (n := i4) (N := 16) (by omega) (by omega)) dX12_presses_96 (fun H locs f_95 S_94 ef_f_95 e1 hW => ?_)
                          have hTy := hTy.u65 e1 hT_x_27 ⟨f_95, rfl⟩
                          have hS_o := un e1 hT_o hT_x_27 (by decide) hS_o
                          have hS_x_26 := un e1 hT_x_26 hT_x_27 (by decide) hS_x_26
                          have hS_x_21 := un e1 hT_x_21 hT_x_27 (by decide) hS_x_21
                          have hS_x_23 := un e1 hT_x_23 hT_x_27 (by decide) hS_x_23
                          have hIs2 := un e1 hT_x_22 hT_x_27 (by decide) hIs2
                          have hTs2 := un e1 hT_x_24 hT_x_27 (by decide) hTs2
                          have hNs := un e1 hT_x_25 hT_x_27 (by decide) hNs
                          have hBs := un e1 hT_x_28 hT_x_27 (by decide) hBs
                          have hFr := uf hFr e1 hT_x_27 (by decide) (by decide)
                          have hFl65 := uf hFl65 e1 hT_x_27 (by decide) (by decide)
                          have hFl69 := uf hFl69 e1 hT_x_27 (by decide) (by decide)
                          have hDs := us e1
                          refine lv_aload_n hx hb dX12_presses_97 rfl (lv_at hl 2 rfl) ?_
                          refine pl_get (ci := 12) (v := .ref x_27) (C := RX12) (T := TX12) (N := 32) hx hb hT iX12 hown hK hW hT_o.1 hS_o rfl 27 (by decide) w1109 rfl dX12_presses_98 ?_
                          refine lv_iload_n hx hb dX12_presses_101 rfl (lv_at hl 0 rfl) ?_
                          refine lv_bipush (v := 8) hx hb dX12_presses_102 (by decide) ?_
                          refine lv_iadd hx hb dX12_presses_104 ?_
                          refine lv_topi (fun z_96 ez_96 => ?_)
                          obtain rfl : z_96 = nI (i4 + 8) := ez_96.trans (nI_add (i4) (8))
                          refine lv_ldcw (v := 1000000) hx hb hown (hT _ w1459) dX12_presses_105 ?_
                          refine pl_iast hx hb hK hW hT_x_27.1 hDs (vp_in_nI (n := i4 + 8) (N := 16) (by omega) (by omega)) dX12_presses_108 (fun H locs f_98 S_97 ef_f_98 e1 hW => ?_)
                          have hTy := hTy.u65 e1 hT_x_27 ⟨f_98, rfl⟩
                          have hS_o := un e1 hT_o hT_x_27 (by decide) hS_o
                          have hS_x_26 := un e1 hT_x_26 hT_x_27 (by decide) hS_x_26
                          have hS_x_21 := un e1 hT_x_21 hT_x_27 (by decide) hS_x_21
                          have hS_x_23 := un e1 hT_x_23 hT_x_27 (by decide) hS_x_23
                          have hIs2 := un e1 hT_x_22 hT_x_27 (by decide) hIs2
                          have hTs2 := un e1 hT_x_24 hT_x_27 (by decide) hTs2
                          have hNs := un e1 hT_x_25 hT_x_27 (by decide) hNs
                          have hBs := un e1 hT_x_28 hT_x_27 (by decide) hBs
                          have hFr := uf hFr e1 hT_x_27 (by decide) (by decide)
                          have hFl65 := uf hFl65 e1 hT_x_27 (by decide) (by decide)
                          have hFl69 := uf hFl69 e1 hT_x_27 (by decide) (by decide)
                          have hDs := us e1
                          refine lv_aload_n hx hb dX12_presses_109 rfl (lv_at hl 2 rfl) ?_
                          refine pl_get (ci := 12) (v := .ref x_28) (C := RX12) (T := TX12) (N := 32) hx hb hT iX12 hown hK hW hT_o.1 hS_o rfl 28 (by decide) w1110 rfl dX12_presses_110 ?_
                          refine lv_iload_n hx hb dX12_presses_113 rfl (lv_at hl 0 rfl) ?_
                          refine lv_iconst (v := (-1)) hx hb dX12_presses_114 (by decide) ?_
                          refine pl_iast hx hb hK hW hT_x_28.1 hBs (vp_in_nI (n := i4) (N := 16) (by omega) (by omega)) dX12_presses_115 (fun H locs f_100 S_99 ef_f_100 e1 hW => ?_)
                          have hi_f_100 := inv66 hi_gb ef_f_100 (Or.inl rfl)
                          have hTy := hTy.u66 e1 hT_x_28 ⟨f_100, rfl, hi_f_100⟩
                          have hS_o := un e1 hT_o hT_x_28 (by decide) hS_o
                          have hS_x_26 := un e1 hT_x_26 hT_x_28 (by decide) hS_x_26
                          have hS_x_21 := un e1 hT_x_21 hT_x_28 (by decide) hS_x_21
                          have hS_x_23 := un e1 hT_x_23 hT_x_28 (by decide) hS_x_23
                          have hIs2 := un e1 hT_x_22 hT_x_28 (by decide) hIs2
                          have hTs2 := un e1 hT_x_24 hT_x_28 (by decide) hTs2
                          have hNs := un e1 hT_x_25 hT_x_28 (by decide) hNs
                          have hDs := un e1 hT_x_27 hT_x_28 (by decide) hDs
                          have hFr := uf hFr e1 hT_x_28 (by decide) (by decide)
                          have hFl65 := uf hFl65 e1 hT_x_28 (by decide) (by decide)
                          have hFl69 := uf hFl69 e1 hT_x_28 (by decide) (by decide)
                          have hBs := us e1
                          refine lv_aload_n hx hb dX12_presses_116 rfl (lv_at hl 2 rfl) ?_
                          refine pl_get (ci := 12) (v := .ref x_28) (C := RX12) (T := TX12) (N := 32) hx hb hT iX12 hown hK hW hT_o.1 hS_o rfl 28 (by decide) w1110 rfl dX12_presses_117 ?_
                          refine lv_iload_n hx hb dX12_presses_120 rfl (lv_at hl 0 rfl) ?_
                          refine lv_bipush (v := 8) hx hb dX12_presses_121 (by decide) ?_
                          refine lv_iadd hx hb dX12_presses_123 ?_
                          refine lv_topi (fun z_101 ez_101 => ?_)
                          obtain rfl : z_101 = nI (i4 + 8) := ez_101.trans (nI_add (i4) (8))
                          refine lv_iconst (v := (-1)) hx hb dX12_presses_124 (by decide) ?_
                          refine pl_iast hx hb hK hW hT_x_28.1 hBs (vp_in_nI (n := i4 + 8) (N := 16) (by omega) (by omega)) dX12_presses_125 (fun H locs f_103 S_102 ef_f_103 e1 hW => ?_)
                          have hi_f_103 := inv66 hi_f_100 ef_f_103 (Or.inl rfl)
                          have hTy := hTy.u66 e1 hT_x_28 ⟨f_103, rfl, hi_f_103⟩
                          have hS_o := un e1 hT_o hT_x_28 (by decide) hS_o
                          have hS_x_26 := un e1 hT_x_26 hT_x_28 (by decide) hS_x_26
                          have hS_x_21 := un e1 hT_x_21 hT_x_28 (by decide) hS_x_21
                          have hS_x_23 := un e1 hT_x_23 hT_x_28 (by decide) hS_x_23
                          have hIs2 := un e1 hT_x_22 hT_x_28 (by decide) hIs2
                          have hTs2 := un e1 hT_x_24 hT_x_28 (by decide) hTs2
                          have hNs := un e1 hT_x_25 hT_x_28 (by decide) hNs
                          have hDs := un e1 hT_x_27 hT_x_28 (by decide) hDs
                          have hFr := uf hFr e1 hT_x_28 (by decide) (by decide)
                          have hFl65 := uf hFl65 e1 hT_x_28 (by decide) (by decide)
                          have hFl69 := uf hFl69 e1 hT_x_28 (by decide) (by decide)
                          have hBs := us e1
                          have hini1 := INI_up ef_f_95 ef_f_98 ef_f_100 ef_f_103 (by omega) (by omega) (by omega) (Or.inr rfl) hini
                          refine lv_iload_n hx hb dX12_presses_126 rfl (lv_at hl 1 rfl) ?_
                          refine lv_if_ne (tgt := 139) hx hb dX12_presses_127 (by decide) (fun c_127 => ?_) (fun c_127 => ?_)
                          · refine lv_iconst (v := 1) hx hb dX12_presses_139 (by decide) ?_
                            refine lv_goto (tgt := 144) hx hb dX12_presses_140 (by decide) ?_
                            refine lv_istore_n (lv' := [(1, .int 1), (2, .int (nI i4)), (0, .ref o)]) hx hb dX12_presses_144 rfl hl (by decide) rfl (fun ls hl => ?_)
                            refine lv_iinc (v := nI (i4 + 1)) (lv' := [(2, .int (nI (i4 + 1))), (1, .int 1), (0, .ref o)]) hx hb dX12_presses_145 hl (k := 1) rfl (nI_add (i4) 1) (by decide) rfl (fun ls hl => ?_)
                            refine lv_goto (tgt := 69) hx hb dX12_presses_148 (by decide) ?_
                            exact ih69 (i4 + 1) 1 f_98 f_103 _ _ _ ls (by omega) (by omega) hDs hBs hini1 hTy hFr hFl69 hW (lv_sub hl [0, 1, 2] rfl)
                          · refine lv_aload_n hx hb dX12_presses_130 rfl (lv_at hl 2 rfl) ?_
                            refine pl_get (ci := 12) (v := .ref x_25) (C := RX12) (T := TX12) (N := 32) hx hb hT iX12 hown hK hW hT_o.1 hS_o rfl 25 (by decide) w1107 rfl dX12_presses_131 ?_
                            refine lv_iload_n hx hb dX12_presses_134 rfl (lv_at hl 0 rfl) ?_
                            refine pl_iald hx hb hK hW hT_x_25.1 hNs (vp_in_nI (n := i4) (N := 8) (by omega) (by omega)) dX12_presses_135 ?_
                            refine lv_topi (fun y_104 ey_104 => ?_)
                            refine lv_if_le (tgt := 143) hx hb dX12_presses_136 (by decide) (fun c_136 => ?_) (fun c_136 => ?_)
                            · refine lv_iconst (v := 0) hx hb dX12_presses_143 (by decide) ?_
                              refine lv_istore_n (lv' := [(1, .int 0), (2, .int (nI i4)), (0, .ref o)]) hx hb dX12_presses_144 rfl hl (by decide) rfl (fun ls hl => ?_)
                              refine lv_iinc (v := nI (i4 + 1)) (lv' := [(2, .int (nI (i4 + 1))), (1, .int 0), (0, .ref o)]) hx hb dX12_presses_145 hl (k := 1) rfl (nI_add (i4) 1) (by decide) rfl (fun ls hl => ?_)
                              refine lv_goto (tgt := 69) hx hb dX12_presses_148 (by decide) ?_
                              exact ih69 (i4 + 1) 0 f_98 f_103 _ _ _ ls (by omega) (by omega) hDs hBs hini1 hTy hFr hFl69 hW (lv_sub hl [0, 1, 2] rfl)
                            · refine lv_iconst (v := 1) hx hb dX12_presses_139 (by decide) ?_
                              refine lv_goto (tgt := 144) hx hb dX12_presses_140 (by decide) ?_
                              refine lv_istore_n (lv' := [(1, .int 1), (2, .int (nI i4)), (0, .ref o)]) hx hb dX12_presses_144 rfl hl (by decide) rfl (fun ls hl => ?_)
                              refine lv_iinc (v := nI (i4 + 1)) (lv' := [(2, .int (nI (i4 + 1))), (1, .int 1), (0, .ref o)]) hx hb dX12_presses_145 hl (k := 1) rfl (nI_add (i4) 1) (by decide) rfl (fun ls hl => ?_)
                              refine lv_goto (tgt := 69) hx hb dX12_presses_148 (by decide) ?_
                              exact ih69 (i4 + 1) 1 f_98 f_103 _ _ _ ls (by omega) (by omega) hDs hBs hini1 hTy hFr hFl69 hW (lv_sub hl [0, 1, 2] rfl)
                        · refine lv_iconst (v := 0) hx hb dX12_presses_89 (by decide) ?_
                          refine lv_goto (tgt := 96) hx hb dX12_presses_90 (by decide) ?_
                          refine pl_iast hx hb hK hW hT_x_27.1 hDs (vp_in_nI (n := i4) (N := 16) (by omega) (by omega)) dX12_presses_96 (fun H locs f_106 S_105 ef_f_106 e1 hW => ?_)
                          have hTy := hTy.u65 e1 hT_x_27 ⟨f_106, rfl⟩
                          have hS_o := un e1 hT_o hT_x_27 (by decide) hS_o
                          have hS_x_26 := un e1 hT_x_26 hT_x_27 (by decide) hS_x_26
                          have hS_x_21 := un e1 hT_x_21 hT_x_27 (by decide) hS_x_21
                          have hS_x_23 := un e1 hT_x_23 hT_x_27 (by decide) hS_x_23
                          have hIs2 := un e1 hT_x_22 hT_x_27 (by decide) hIs2
                          have hTs2 := un e1 hT_x_24 hT_x_27 (by decide) hTs2
                          have hNs := un e1 hT_x_25 hT_x_27 (by decide) hNs
                          have hBs := un e1 hT_x_28 hT_x_27 (by decide) hBs
                          have hFr := uf hFr e1 hT_x_27 (by decide) (by decide)
                          have hFl65 := uf hFl65 e1 hT_x_27 (by decide) (by decide)
                          have hFl69 := uf hFl69 e1 hT_x_27 (by decide) (by decide)
                          have hDs := us e1
                          refine lv_aload_n hx hb dX12_presses_97 rfl (lv_at hl 2 rfl) ?_
                          refine pl_get (ci := 12) (v := .ref x_27) (C := RX12) (T := TX12) (N := 32) hx hb hT iX12 hown hK hW hT_o.1 hS_o rfl 27 (by decide) w1109 rfl dX12_presses_98 ?_
                          refine lv_iload_n hx hb dX12_presses_101 rfl (lv_at hl 0 rfl) ?_
                          refine lv_bipush (v := 8) hx hb dX12_presses_102 (by decide) ?_
                          refine lv_iadd hx hb dX12_presses_104 ?_
                          refine lv_topi (fun z_107 ez_107 => ?_)
                          obtain rfl : z_107 = nI (i4 + 8) := ez_107.trans (nI_add (i4) (8))
                          refine lv_ldcw (v := 1000000) hx hb hown (hT _ w1459) dX12_presses_105 ?_
                          refine pl_iast hx hb hK hW hT_x_27.1 hDs (vp_in_nI (n := i4 + 8) (N := 16) (by omega) (by omega)) dX12_presses_108 (fun H locs f_109 S_108 ef_f_109 e1 hW => ?_)
                          have hTy := hTy.u65 e1 hT_x_27 ⟨f_109, rfl⟩
                          have hS_o := un e1 hT_o hT_x_27 (by decide) hS_o
                          have hS_x_26 := un e1 hT_x_26 hT_x_27 (by decide) hS_x_26
                          have hS_x_21 := un e1 hT_x_21 hT_x_27 (by decide) hS_x_21
                          have hS_x_23 := un e1 hT_x_23 hT_x_27 (by decide) hS_x_23
                          have hIs2 := un e1 hT_x_22 hT_x_27 (by decide) hIs2
                          have hTs2 := un e1 hT_x_24 hT_x_27 (by decide) hTs2
                          have hNs := un e1 hT_x_25 hT_x_27 (by decide) hNs
                          have hBs := un e1 hT_x_28 hT_x_27 (by decide) hBs
                          have hFr := uf hFr e1 hT_x_27 (by decide) (by decide)
                          have hFl65 := uf hFl65 e1 hT_x_27 (by decide) (by decide)
                          have hFl69 := uf hFl69 e1 hT_x_27 (by decide) (by decide)
                          have hDs := us e1
                          refine lv_aload_n hx hb dX12_presses_109 rfl (lv_at hl 2 rfl) ?_
                          refine pl_get (ci := 12) (v := .ref x_28) (C := RX12) (T := TX12) (N := 32) hx hb hT iX12 hown hK hW hT_o.1 hS_o rfl 28 (by decide) w1110 rfl dX12_presses_110 ?_
                          refine lv_iload_n hx hb dX12_presses_113 rfl (lv_at hl 0 rfl) ?_
                          refine lv_iconst (v := (-1)) hx hb dX12_presses_114 (by decide) ?_
                          refine pl_iast hx hb hK hW hT_x_28.1 hBs (vp_in_nI (n := i4) (N := 16) (by omega) (by omega)) dX12_presses_115 (fun H locs f_111 S_110 ef_f_111 e1 hW => ?_)
                          have hi_f_111 := inv66 hi_gb ef_f_111 (Or.inl rfl)
                          have hTy := hTy.u66 e1 hT_x_28 ⟨f_111, rfl, hi_f_111⟩
                          have hS_o := un e1 hT_o hT_x_28 (by decide) hS_o
                          have hS_x_26 := un e1 hT_x_26 hT_x_28 (by decide) hS_x_26
                          have hS_x_21 := un e1 hT_x_21 hT_x_28 (by decide) hS_x_21
                          have hS_x_23 := un e1 hT_x_23 hT_x_28 (by decide) hS_x_23
                          have hIs2 := un e1 hT_x_22 hT_x_28 (by decide) hIs2
                          have hTs2 := un e1 hT_x_24 hT_x_28 (by decide) hTs2
                          have hNs := un e1 hT_x_25 hT_x_28 (by decide) hNs
                          have hDs := un e1 hT_x_27 hT_x_28 (by decide) hDs
                          have hFr := uf hFr e1 hT_x_28 (by decide) (by decide)
                          have hFl65 := uf hFl65 e1 hT_x_28 (by decide) (by decide)
                          have hFl69 := uf hFl69 e1 hT_x_28 (by decide) (by decide)
                          have hBs := us e1
                          refine lv_aload_n hx hb dX12_presses_116 rfl (lv_at hl 2 rfl) ?_
                          refine pl_get (ci := 12) (v := .ref x_28) (C := RX12) (T := TX12) (N := 32) hx hb hT iX12 hown hK hW hT_o.1 hS_o rfl 28 (by decide) w1110 rfl dX12_presses_117 ?_
                          refine lv_iload_n hx hb dX12_presses_120 rfl (lv_at hl 0 rfl) ?_
                          refine lv_bipush (v := 8) hx hb dX12_presses_121 (by decide) ?_
                          refine lv_iadd hx hb dX12_presses_123 ?_
                          refine lv_topi (fun z_112 ez_112 => ?_)
                          obtain rfl : z_112 = nI (i4 + 8) := ez_112.trans (nI_add (i4) (8))
                          refine lv_iconst (v := (-1)) hx hb dX12_presses_124 (by decide) ?_
                          refine pl_iast hx hb hK hW hT_x_28.1 hBs (vp_in_nI (n := i4 + 8) (N := 16) (by omega) (by omega)) dX12_presses_125 (fun H locs f_114 S_113 ef_f_114 e1 hW => ?_)
                          have hi_f_114 := inv66 hi_f_111 ef_f_114 (Or.inl rfl)
                          have hTy := hTy.u66 e1 hT_x_28 ⟨f_114, rfl, hi_f_114⟩
                          have hS_o := un e1 hT_o hT_x_28 (by decide) hS_o
                          have hS_x_26 := un e1 hT_x_26 hT_x_28 (by decide) hS_x_26
                          have hS_x_21 := un e1 hT_x_21 hT_x_28 (by decide) hS_x_21
                          have hS_x_23 := un e1 hT_x_23 hT_x_28 (by decide) hS_x_23
                          have hIs2 := un e1 hT_x_22 hT_x_28 (by decide) hIs2
                          have hTs2 := un e1 hT_x_24 hT_x_28 (by decide) hTs2
                          have hNs := un e1 hT_x_25 hT_x_28 (by decide) hNs
                          have hDs := un e1 hT_x_27 hT_x_28 (by decide) hDs
                          have hFr := uf hFr e1 hT_x_28 (by decide) (by decide)
                          have hFl65 := uf hFl65 e1 hT_x_28 (by decide) (by decide)
                          have hFl69 := uf hFl69 e1 hT_x_28 (by decide) (by decide)
                          have hBs := us e1
                          have hini1 := INI_up ef_f_106 ef_f_109 ef_f_111 ef_f_114 (by omega) (by omega) (by omega) (Or.inl ⟨rfl, by have q := ipos c_86; rw [ey_93, nI_clamp (by omega)] at q; exact q⟩) hini
                          refine lv_iload_n hx hb dX12_presses_126 rfl (lv_at hl 1 rfl) ?_
                          refine lv_if_ne (tgt := 139) hx hb dX12_presses_127 (by decide) (fun c_127 => ?_) (fun c_127 => ?_)
                          · refine lv_iconst (v := 1) hx hb dX12_presses_139 (by decide) ?_
                            refine lv_goto (tgt := 144) hx hb dX12_presses_140 (by decide) ?_
                            refine lv_istore_n (lv' := [(1, .int 1), (2, .int (nI i4)), (0, .ref o)]) hx hb dX12_presses_144 rfl hl (by decide) rfl (fun ls hl => ?_)
                            refine lv_iinc (v := nI (i4 + 1)) (lv' := [(2, .int (nI (i4 + 1))), (1, .int 1), (0, .ref o)]) hx hb dX12_presses_145 hl (k := 1) rfl (nI_add (i4) 1) (by decide) rfl (fun ls hl => ?_)
                            refine lv_goto (tgt := 69) hx hb dX12_presses_148 (by decide) ?_
                            exact ih69 (i4 + 1) 1 f_109 f_114 _ _ _ ls (by omega) (by omega) hDs hBs hini1 hTy hFr hFl69 hW (lv_sub hl [0, 1, 2] rfl)
                          · refine lv_aload_n hx hb dX12_presses_130 rfl (lv_at hl 2 rfl) ?_
                            refine pl_get (ci := 12) (v := .ref x_25) (C := RX12) (T := TX12) (N := 32) hx hb hT iX12 hown hK hW hT_o.1 hS_o rfl 25 (by decide) w1107 rfl dX12_presses_131 ?_
                            refine lv_iload_n hx hb dX12_presses_134 rfl (lv_at hl 0 rfl) ?_
                            refine pl_iald hx hb hK hW hT_x_25.1 hNs (vp_in_nI (n := i4) (N := 8) (by omega) (by omega)) dX12_presses_135 ?_
                            refine lv_topi (fun y_115 ey_115 => ?_)
                            refine lv_if_le (tgt := 143) hx hb dX12_presses_136 (by decide) (fun c_136 => ?_) (fun c_136 => ?_)
                            · refine lv_iconst (v := 0) hx hb dX12_presses_143 (by decide) ?_
                              refine lv_istore_n (lv' := [(1, .int 0), (2, .int (nI i4)), (0, .ref o)]) hx hb dX12_presses_144 rfl hl (by decide) rfl (fun ls hl => ?_)
                              refine lv_iinc (v := nI (i4 + 1)) (lv' := [(2, .int (nI (i4 + 1))), (1, .int 0), (0, .ref o)]) hx hb dX12_presses_145 hl (k := 1) rfl (nI_add (i4) 1) (by decide) rfl (fun ls hl => ?_)
                              refine lv_goto (tgt := 69) hx hb dX12_presses_148 (by decide) ?_
                              exact ih69 (i4 + 1) 0 f_109 f_114 _ _ _ ls (by omega) (by omega) hDs hBs hini1 hTy hFr hFl69 hW (lv_sub hl [0, 1, 2] rfl)
                            · refine lv_iconst (v := 1) hx hb dX12_presses_139 (by decide) ?_
                              refine lv_goto (tgt := 144) hx hb dX12_presses_140 (by decide) ?_
                              refine lv_istore_n (lv' := [(1, .int 1), (2, .int (nI i4)), (0, .ref o)]) hx hb dX12_presses_144 rfl hl (by decide) rfl (fun ls hl => ?_)
                              refine lv_iinc (v := nI (i4 + 1)) (lv' := [(2, .int (nI (i4 + 1))), (1, .int 1), (0, .ref o)]) hx hb dX12_presses_145 hl (k := 1) rfl (nI_add (i4) 1) (by decide) rfl (fun ls hl => ?_)
                              refine lv_goto (tgt := 69) hx hb dX12_presses_148 (by decide) ?_
                              exact ih69 (i4 + 1) 1 f_109 f_114 _ _ _ ls (by omega) (by omega) hDs hBs hini1 hTy hFr hFl69 hW (lv_sub hl [0, 1, 2] rfl)
                  exact loop ((9 - 0) + 1) 0 0 f_44 f_45 _ _ _ ls (Nat.lt_succ_self _) (by omega) hS_x_27 hS_x_28 (fun v h => absurd h (Nat.not_lt_zero _)) hTy hFr Fr.rf hW (lv_sub hl [0, 1, 2] rfl)
              exact loop ((pn f_42 8) + 1) gi gt f_42 _ _ _ ls (Nat.lt_succ_self _) hIs hTs hS_x_25 hpot0 (fun a h => hiz64 _ (by omega)) hTy hFr Fr.rf hW (lv_sub hl [0] rfl)
            · have c_26 : ¬ (8 ≤ i2) := fun hh9 => c_26 ((nI_leI (a := 8) (b := i2) (by omega) (by omega)).mpr hh9)
              refine lv_aload_n hx hb dX12_presses_29 rfl (lv_at hl 1 rfl) ?_
              refine pl_get (ci := 12) (v := .ref x_24) (C := RX12) (T := TX12) (N := 32) hx hb hT iX12 hown hK hW hT_o.1 hS_o rfl 24 (by decide) w1106 rfl dX12_presses_30 ?_
              refine lv_iload_n hx hb dX12_presses_33 rfl (lv_at hl 0 rfl) ?_
              refine lv_iconst (v := 0) hx hb dX12_presses_34 (by decide) ?_
              refine pl_iast hx hb hK hW hT_x_24.1 hTs (vp_in_nI (n := i2) (N := 8) (by omega) (by omega)) dX12_presses_35 (fun H locs f_117 S_116 ef_f_117 e1 hW => ?_)
              have hTy := hTy.u62 e1 hT_x_24 ⟨f_117, rfl⟩
              have hS_o := un e1 hT_o hT_x_24 (by decide) hS_o
              have hS_x_26 := un e1 hT_x_26 hT_x_24 (by decide) hS_x_26
              have hS_x_21 := un e1 hT_x_21 hT_x_24 (by decide) hS_x_21
              have hS_x_23 := un e1 hT_x_23 hT_x_24 (by decide) hS_x_23
              have hS_x_27 := un e1 hT_x_27 hT_x_24 (by decide) hS_x_27
              have hS_x_28 := un e1 hT_x_28 hT_x_24 (by decide) hS_x_28
              have hIs := un e1 hT_x_22 hT_x_24 (by decide) hIs
              have hFr := uf hFr e1 hT_x_24 (by decide) (by decide)
              have hFl23 := uf hFl23 e1 hT_x_24 (by decide) (by decide)
              have hTs := us e1
              have htz1 := cpy_up (P := fun _ x => x = 0) ef_f_117 (by omega) htz rfl
              refine lv_aload_n hx hb dX12_presses_36 rfl (lv_at hl 1 rfl) ?_
              refine pl_get (ci := 12) (v := .ref x_25) (C := RX12) (T := TX12) (N := 32) hx hb hT iX12 hown hK hW hT_o.1 hS_o rfl 25 (by decide) w1107 rfl dX12_presses_37 ?_
              refine lv_iload_n hx hb dX12_presses_40 rfl (lv_at hl 0 rfl) ?_
              refine lv_iload_n hx hb dX12_presses_41 rfl (lv_at hl 0 rfl) ?_
              refine lv_aload_n hx hb dX12_presses_42 rfl (lv_at hl 1 rfl) ?_
              refine pl_get (ci := 12) (v := .int (nI x_6)) (C := RX12) (T := TX12) (N := 32) hx hb hT iX12 hown hK hW hT_o.1 hS_o rfl 5 (by decide) w1087 rfl dX12_presses_43 ?_
              refine lv_icmp_ge (tgt := 57) hx hb dX12_presses_46 (by decide) (fun c_46 => ?_) (fun c_46 => ?_)
              · have c_46 : x_6 ≤ i2 := (nI_leI (a := x_6) (b := i2) (by omega) (by omega)).mp c_46
                refine lv_iconst (v := 0) hx hb dX12_presses_57 (by decide) ?_
                obtain ⟨f_118, hS_x_25⟩ := hTy.k63 hT_x_25
                refine pl_iast hx hb hK hW hT_x_25.1 hS_x_25 (vp_in_nI (n := i2) (N := 8) (by omega) (by omega)) dX12_presses_58 (fun H locs f_120 S_119 ef_f_120 e1 hW => ?_)
                have hTy := hTy.u63 e1 hT_x_25 ⟨f_120, rfl⟩
                have hS_o := un e1 hT_o hT_x_25 (by decide) hS_o
                have hS_x_26 := un e1 hT_x_26 hT_x_25 (by decide) hS_x_26
                have hS_x_21 := un e1 hT_x_21 hT_x_25 (by decide) hS_x_21
                have hS_x_23 := un e1 hT_x_23 hT_x_25 (by decide) hS_x_23
                have hS_x_27 := un e1 hT_x_27 hT_x_25 (by decide) hS_x_27
                have hS_x_28 := un e1 hT_x_28 hT_x_25 (by decide) hS_x_28
                have hIs := un e1 hT_x_22 hT_x_25 (by decide) hIs
                have hTs := un e1 hT_x_24 hT_x_25 (by decide) hTs
                have hFr := uf hFr e1 hT_x_25 (by decide) (by decide)
                have hFl23 := uf hFl23 e1 hT_x_25 (by decide) (by decide)
                have hS_x_25 := us e1
                refine lv_iinc (v := nI (i2 + 1)) (lv' := [(1, .int (nI (i2 + 1))), (0, .ref o)]) hx hb dX12_presses_59 hl (k := 0) rfl (nI_add (i2) 1) (by decide) rfl (fun ls hl => ?_)
                refine lv_goto (tgt := 23) hx hb dX12_presses_62 (by decide) ?_
                exact ih23 (i2 + 1) f_117 _ _ _ ls (by omega) (by omega) hTs htz1 hTy hFr hFl23 hW (lv_sub hl [0, 1] rfl)
              · have c_46 : ¬ (x_6 ≤ i2) := fun hh9 => c_46 ((nI_leI (a := x_6) (b := i2) (by omega) (by omega)).mpr hh9)
                refine lv_aload_n hx hb dX12_presses_49 rfl (lv_at hl 1 rfl) ?_
                refine lv_iload_n hx hb dX12_presses_50 rfl (lv_at hl 0 rfl) ?_
                refine vp_callSi (va_Run.run (va_runV (As := [.int (nI i2)]) (rest := [.int (nI i2), .ref x_25]) ⟨hx, hb, hml, hown, hT⟩ (m_netBy l dC dI cy L kap pr S_116 H.size o i2 hTy hT_o (by omega)) (cwV 1 hT (gV w1356 w1358 ws81 w14 w1359) rfl rfl rfl (by decide +kernel) ⟨(Nat.le_of_ble_eq_true rfl), (Nat.le_of_ble_eq_true rfl)⟩) ⟨pcN.blind, pl_recv hK hW hT_o.1 hS_o rfl, pcN.pre hW.1 hK hW.2.1 hN (fun q h => absurd h List.not_mem_nil)⟩ rfl rfl hl.1 rfl (lv_room (Nat.le_of_ble_eq_true rfl)) dX12_presses_51 ⟨(Nat.le_of_ble_eq_true rfl), (Nat.le_of_ble_eq_true rfl)⟩)) (fun r_121 hr_121 => ?_)
                refine lv_goto (tgt := 58) hx hb dX12_presses_54 (by decide) ?_
                obtain ⟨f_122, hS_x_25⟩ := hTy.k63 hT_x_25
                refine pl_iast hx hb hK hW hT_x_25.1 hS_x_25 (vp_in_nI (n := i2) (N := 8) (by omega) (by omega)) dX12_presses_58 (fun H locs f_124 S_123 ef_f_124 e1 hW => ?_)
                have hTy := hTy.u63 e1 hT_x_25 ⟨f_124, rfl⟩
                have hS_o := un e1 hT_o hT_x_25 (by decide) hS_o
                have hS_x_26 := un e1 hT_x_26 hT_x_25 (by decide) hS_x_26
                have hS_x_21 := un e1 hT_x_21 hT_x_25 (by decide) hS_x_21
                have hS_x_23 := un e1 hT_x_23 hT_x_25 (by decide) hS_x_23
                have hS_x_27 := un e1 hT_x_27 hT_x_25 (by decide) hS_x_27
                have hS_x_28 := un e1 hT_x_28 hT_x_25 (by decide) hS_x_28
                have hIs := un e1 hT_x_22 hT_x_25 (by decide) hIs
                have hTs := un e1 hT_x_24 hT_x_25 (by decide) hTs
                have hFr := uf hFr e1 hT_x_25 (by decide) (by decide)
                have hFl23 := uf hFl23 e1 hT_x_25 (by decide) (by decide)
                have hS_x_25 := us e1
                refine lv_iinc (v := nI (i2 + 1)) (lv' := [(1, .int (nI (i2 + 1))), (0, .ref o)]) hx hb dX12_presses_59 hl (k := 0) rfl (nI_add (i2) 1) (by decide) rfl (fun ls hl => ?_)
                refine lv_goto (tgt := 23) hx hb dX12_presses_62 (by decide) ?_
                exact ih23 (i2 + 1) f_117 _ _ _ ls (by omega) (by omega) hTs htz1 hTy hFr hFl23 hW (lv_sub hl [0, 1] rfl)
        exact loop ((9 - 0) + 1) 0 f_36 _ _ _ ls (Nat.lt_succ_self _) (by omega) hS_x_24 (fun v h => absurd h (Nat.not_lt_zero _)) hTy hFr Fr.rf hW (lv_sub hl [0, 1] rfl)
      · have c_5 : ¬ (64 ≤ i) := fun hh9 => c_5 ((nI_leI (a := 64) (b := i) (by omega) (by omega)).mpr hh9)
        refine lv_aload_n hx hb dX12_presses_8 rfl (lv_at hl 1 rfl) ?_
        refine pl_get (ci := 12) (v := .ref x_22) (C := RX12) (T := TX12) (N := 32) hx hb hT iX12 hown hK hW hT_o.1 hS_o rfl 22 (by decide) w1104 rfl dX12_presses_9 ?_
        refine lv_iload_n hx hb dX12_presses_12 rfl (lv_at hl 0 rfl) ?_
        refine lv_iconst (v := 0) hx hb dX12_presses_13 (by decide) ?_
        refine pl_iast hx hb hK hW hT_x_22.1 hIs (vp_in_nI (n := i) (N := 64) (by omega) (by omega)) dX12_presses_14 (fun H locs f_126 S_125 ef_f_126 e1 hW => ?_)
        have hTy := hTy.u60 e1 hT_x_22 ⟨f_126, rfl⟩
        have hS_o := un e1 hT_o hT_x_22 (by decide) hS_o
        have hS_x_26 := un e1 hT_x_26 hT_x_22 (by decide) hS_x_26
        have hS_x_21 := un e1 hT_x_21 hT_x_22 (by decide) hS_x_21
        have hS_x_23 := un e1 hT_x_23 hT_x_22 (by decide) hS_x_23
        have hS_x_24 := un e1 hT_x_24 hT_x_22 (by decide) hS_x_24
        have hS_x_25 := un e1 hT_x_25 hT_x_22 (by decide) hS_x_25
        have hS_x_27 := un e1 hT_x_27 hT_x_22 (by decide) hS_x_27
        have hS_x_28 := un e1 hT_x_28 hT_x_22 (by decide) hS_x_28
        have hFr := uf hFr e1 hT_x_22 (by decide) (by decide)
        have hFl2 := uf hFl2 e1 hT_x_22 (by decide) (by decide)
        have hIs := us e1
        have hiz1 := cpy_up (P := fun _ x => x = 0) ef_f_126 (by omega) hiz rfl
        refine lv_iinc (v := nI (i + 1)) (lv' := [(1, .int (nI (i + 1))), (0, .ref o)]) hx hb dX12_presses_15 hl (k := 0) rfl (nI_add (i) 1) (by decide) rfl (fun ls hl => ?_)
        refine lv_goto (tgt := 2) hx hb dX12_presses_18 (by decide) ?_
        exact ih2 (i + 1) f_126 _ _ _ ls (by omega) (by omega) hIs hiz1 hTy hFr hFl2 hW (lv_sub hl [0, 1] rfl)
  exact loop ((65 - 0) + 1) 0 f_33 _ _ _ ls (Nat.lt_succ_self _) (by omega) hS_x_22 (fun v h => absurd h (Nat.not_lt_zero _)) hTy hFr Fr.rf hW (lv_sub hl [0, 1] rfl)

set_option maxHeartbeats 4000000 in
set_option maxRecDepth 100000 in
theorem m_pressesFirst (l : Launch) (dC : Nat → ClassId) (dI : Nat → Nat → Nat) (cy : Nat → ClassId) (L : List Nat) (kap : Nat → Nat) (pr : Pr) (S : Nat → va_E) (sz : Nat) (o : Nat) (kd : Int32) (hTy : Ty cy L kap pr S) (hT_o : TK L kap o 12) : Met l yX12_pressesFirst (wT yX12_pressesFirst cX12_pressesFirst 4 (some .boolean)) ({ frames := 5, cells := 0, slots := 0, locals := 122 }) (pcN dC dI [.ref o, .int kd] sz (va_pl L S) (cyT cy) NLs []) (va_Qi (fun r S' => Ty cy L kap pr S' ∧ Fr kap [56, 59, 60, 61, 62, 63, 64, 65, 66] S S' ∧ (∀ a, a < 8 → fld S' o 22 (8 * a + a) = 0)) (fun S' t => pB dC dI (AL L sz) (va_pl L S') (cyT cy) t) (AL L sz)) 0 0 (AL L sz) := by
  refine Met.ofW (cc := cX12_pressesFirst) (maxL := 4) (ret := (some .boolean)) (by decide) rfl ?_
  intro p e s m args below meth c s₁ B hml hv
  obtain ⟨rfl, hsz, hP, hK, hD0, hN, -⟩ := hv
  have hx := B.exec
  have hb := B.bytes
  have hr := B.returns
  have hT : ∀ wd ∈ TB, wd.before [.ref o, .int kd].toArray s = true := fun wd h => atoms_spec (ws := wT yX12_pressesFirst cX12_pressesFirst 4 (some .boolean)) B.pre wd (List.mem_cons_of_mem _ h)
  have hown : s.vm.findClass RX12 = some m.cls := findClass_of_methodNamed B.named
  have hlocks := B.notSynchronized
  subst hsz
  have hW : PW dC dI L (AL L s.heap.size) s.heap S s.heap [] := ⟨hP, pl_self hD0, va_S.rf⟩
  have hA0 : ∀ q, q ∈ L → AL L s.heap.size q := fun _ h => Or.inl h
  have hA : ∀ q, s.heap.size ≤ q → AL L s.heap.size q := fun _ h => Or.inr h
  have hFr : Fr kap [56, 59, 60, 61, 62, 63, 64, 65, 66] S S := Fr.rf
  have hl := lv_entry ([.ref o, .int kd]) (n := 4) (Nat.le_of_ble_eq_true rfl)
  rw [lg_entry_eq]
  generalize (lg_sl ([.ref o, .int kd]) ++ List.replicate (4 - (lg_sl ([.ref o, .int kd])).length) Slot.unset).toArray = ls at hl ⊢
  have hl : lv_has ls 4 [(0, .ref o), (1, .int kd)] := hl
  refine lv_aload_n hx hb dX12_pressesFirst_0 rfl (lv_at hl 0 rfl) ?_
  refine lv_iload_n hx hb dX12_pressesFirst_1 rfl (lv_at hl 1 rfl) ?_
  refine lv_iconst (v := (-1)) hx hb dX12_pressesFirst_2 (by decide) ?_
  obtain ⟨x_1, x_2, x_3, x_4, x_5, x_6, x_7, x_8, x_9, x_10, x_11, x_12, x_13, x_14, x_15, x_16, x_17, x_18, x_19, x_20, x_21, x_22, x_23, x_24, x_25, x_26, x_27, x_28, x_29, x_30, x_31, hS_o, hT_x_1, hT_x_2, hT_x_3, hT_x_4, hT_x_5, hb_x_6, hb_x_7, hb_x_8, hT_x_10, hb_q2, hb_x_11, hb_x_12, hT_x_17, hT_x_18, hb_x_19, hT_x_20, hT_x_21, hT_x_22, hT_x_23, hT_x_24, hT_x_25, hT_x_26, hT_x_27, hT_x_28, hT_x_29, hT_x_30, hb_x_31⟩ := hTy.k12 hT_o
  have hb_q2 : pr.2 ≤ 900 := hb_q2
  have hS_o : S o = .inr (12, [.ref x_1, .ref x_2, .ref x_3, .ref x_4, .ref x_5, .int (nI x_6), .int (nI x_7), .int (nI x_8), .int x_9, .ref x_10, .int (nI (pr.2)), .int (nI x_11), .int (nI x_12), .int x_13, .int x_14, .int x_15, .int x_16, .ref x_17, .ref x_18, .int (nI x_19), .ref x_20, .ref x_21, .ref x_22, .ref x_23, .ref x_24, .ref x_25, .ref x_26, .ref x_27, .ref x_28, .ref x_29, .ref x_30, .int (nI x_31)]) := hS_o
  refine pl_callv (va_runV (As := [.int kd, .int (-1)]) (rest := []) ⟨hx, hb, hml, hown, hT⟩ (m_laysBounds l dC dI cy L kap pr S s.heap.size o kd (-1) hTy hT_o) (cwV 2 hT (gV w1447 w1449 ws93 w14 w1450) rfl rfl rfl (by decide +kernel) ⟨(Nat.le_of_ble_eq_true rfl), (Nat.le_of_ble_eq_true rfl)⟩) ⟨pcN.blind, pl_recv hK hW hT_o.1 hS_o rfl, pcN.pre hW.1 hK hW.2.1 hN (fun q h => absurd h List.not_mem_nil)⟩ rfl rfl hl.1 rfl (lv_room (Nat.le_of_ble_eq_true rfl)) dX12_pressesFirst_3 ⟨(Nat.le_of_ble_eq_true rfl), (Nat.le_of_ble_eq_true rfl)⟩) hW hA0 hA (fun S_32 H locs hrel hW => ?_)
  obtain ⟨hTy, hF1⟩ := hrel
  have hFr := hFr.tr hF1 (by decide)
  have hS_o := hF1.at hT_o (by decide) hS_o
  refine lv_aload_n hx hb dX12_pressesFirst_6 rfl (lv_at hl 0 rfl) ?_
  refine pl_calli (va_runV (As := []) (rest := []) ⟨hx, hb, hml, hown, hT⟩ (m_presses l dC dI cy L kap pr S_32 H.size o hTy hT_o) (cwV 0 hT (gV w1455 w1457 ws94 w14 w1458) rfl rfl rfl (by decide +kernel) ⟨(Nat.le_of_ble_eq_true rfl), (Nat.le_of_ble_eq_true rfl)⟩) ⟨pcN.blind, pl_recv hK hW hT_o.1 hS_o rfl, pcN.pre hW.1 hK hW.2.1 hN (fun q h => absurd h List.not_mem_nil)⟩ rfl rfl hl.1 rfl (lv_room (Nat.le_of_ble_eq_true rfl)) dX12_pressesFirst_7 ⟨(Nat.le_of_ble_eq_true rfl), (Nat.le_of_ble_eq_true rfl)⟩) hW hA0 hA (fun r_34 S_33 H locs hrel hW => ?_)
  obtain ⟨hTy, hF1, hx1⟩ := hrel
  have hFr := hFr.tr hF1 (by decide)
  have hS_o := hF1.at hT_o (by decide) hS_o
  obtain ⟨hpk9, hdz9⟩ := hx1
  refine lv_if_ne (tgt := 15) hx hb dX12_pressesFirst_10 (by decide) (fun c_10 => ?_) (fun c_10 => ?_)
  · refine lv_iconst (v := 0) hx hb dX12_pressesFirst_15 (by decide) ?_
    refine lv_istore_n (lv' := [(2, .int 0), (0, .ref o), (1, .int kd)]) hx hb dX12_pressesFirst_16 rfl hl (by decide) rfl (fun ls hl => ?_)
    have loop : ∀ (fuel : Nat) (a9 : Nat) (SS : Nat → va_E) (H : Heap) (locs : List Loc) (ls : Array Slot), 9 - a9 < fuel → (a9 ≤ 8) → (∃ K : Nat → Int, POT (fun p q => 0 < STP SS o p q) K) → (∀ a, a < 8 → fld SS o 22 (8 * a + a) = 0) → Ty cy L kap pr SS → Fr kap [56, 59, 60, 61, 62, 63, 64, 65, 66] S SS → Fr kap [60, 62, 64, 65, 66] S_33 SS → PW dC dI L (AL L s.heap.size) s.heap SS H locs → lv_has ls 4 [(2, .int (nI a9)), (0, .ref o), (1, .int kd)] → W p l e (headSpec (wT yX12_pressesFirst cX12_pressesFirst 4 (some .boolean)) { frames := 5, cells := 0, slots := 0, locals := 122 }).room s m [.ref o, .int kd].toArray below meth c H locs 0 0 (MQ below (va_Qi (fun r S' => Ty cy L kap pr S' ∧ Fr kap [56, 59, 60, 61, 62, 63, 64, 65, 66] S S' ∧ (∀ a, a < 8 → fld S' o 22 (8 * a + a) = 0)) (fun S' t => pB dC dI (AL L s.heap.size) (va_pl L S') (cyT cy) t) (AL L s.heap.size)) [.ref o, .int kd].toArray s 0 0 (AL L s.heap.size)) (F0 m 17 ls []) := by
      intro fuel
      induction fuel with
      | zero => intro a9 SS H locs ls h; exact absurd h (Nat.not_lt_zero _)
      | succ fu17 ih17 =>
        intro a9 S_35 H locs ls hm17 hb_a9 hpk1 hdz1 hTy hFr hFl17 hW hl
        have hS_o := hFl17.at hT_o (by decide) hS_o
        refine lv_iload_n hx hb dX12_pressesFirst_17 rfl (lv_at hl 0 rfl) ?_
        refine lv_aload_n hx hb dX12_pressesFirst_18 rfl (lv_at hl 1 rfl) ?_
        refine pl_get (ci := 12) (v := .int (nI x_6)) (C := RX12) (T := TX12) (N := 32) hx hb hT iX12 hown hK hW hT_o.1 hS_o rfl 5 (by decide) w1087 rfl dX12_pressesFirst_19 ?_
        refine lv_icmp_ge (tgt := 59) hx hb dX12_pressesFirst_22 (by decide) (fun c_22 => ?_) (fun c_22 => ?_)
        · have c_22 : x_6 ≤ a9 := (nI_leI (a := x_6) (b := a9) (by omega) (by omega)).mp c_22
          refine lv_iconst (v := 1) hx hb dX12_pressesFirst_59 (by decide) ?_
          exact W.zret (ty := .boolean) (v := 1) hx hb hr (by decide) (fun t ht h9 => ⟨⟨1, S_35, rfl, ⟨hTy, hFr, hdz1⟩, by rw [ht]; exact hW.1, va_K.moved h9.alike hK, hW.2.1⟩, hW.2.2.F ht⟩) hW.2.2.2.2 dX12_pressesFirst_60
        · have c_22 : ¬ (x_6 ≤ a9) := fun hh9 => c_22 ((nI_leI (a := x_6) (b := a9) (by omega) (by omega)).mpr hh9)
          refine lv_iconst (v := 0) hx hb dX12_pressesFirst_25 (by decide) ?_
          refine lv_istore_n (lv' := [(3, .int 0), (2, .int (nI a9)), (0, .ref o), (1, .int kd)]) hx hb dX12_pressesFirst_26 rfl hl (by decide) rfl (fun ls hl => ?_)
          have loop : ∀ (fuel : Nat) (b9 : Nat) (SS : Nat → va_E) (H : Heap) (locs : List Loc) (ls : Array Slot), 9 - b9 < fuel → (b9 ≤ 8) → (∃ K : Nat → Int, POT (fun p q => 0 < STP SS o p q) K) → (∀ a, a < 8 → fld SS o 22 (8 * a + a) = 0) → Ty cy L kap pr SS → Fr kap [56, 59, 60, 61, 62, 63, 64, 65, 66] S SS → Fr kap [60, 62, 64, 65, 66] S_35 SS → PW dC dI L (AL L s.heap.size) s.heap SS H locs → lv_has ls 4 [(3, .int (nI b9)), (2, .int (nI a9)), (0, .ref o), (1, .int kd)] → W p l e (headSpec (wT yX12_pressesFirst cX12_pressesFirst 4 (some .boolean)) { frames := 5, cells := 0, slots := 0, locals := 122 }).room s m [.ref o, .int kd].toArray below meth c H locs 0 0 (MQ below (va_Qi (fun r S' => Ty cy L kap pr S' ∧ Fr kap [56, 59, 60, 61, 62, 63, 64, 65, 66] S S' ∧ (∀ a, a < 8 → fld S' o 22 (8 * a + a) = 0)) (fun S' t => pB dC dI (AL L s.heap.size) (va_pl L S') (cyT cy) t) (AL L s.heap.size)) [.ref o, .int kd].toArray s 0 0 (AL L s.heap.size)) (F0 m 27 ls []) := by
            intro fuel
            induction fuel with
            | zero => intro b9 SS H locs ls h; exact absurd h (Nat.not_lt_zero _)
            | succ fu27 ih27 =>
              intro b9 S_36 H locs ls hm27 hb_b9 hpk2 hdz2 hTy hFr hFl27 hW hl
              have hS_o := hFl27.at hT_o (by decide) hS_o
              have hFl17 := hFl17.tr hFl27 (by decide)
              refine lv_iload_n hx hb dX12_pressesFirst_27 rfl (lv_at hl 0 rfl) ?_
              refine lv_aload_n hx hb dX12_pressesFirst_28 rfl (lv_at hl 2 rfl) ?_
              refine pl_get (ci := 12) (v := .int (nI x_6)) (C := RX12) (T := TX12) (N := 32) hx hb hT iX12 hown hK hW hT_o.1 hS_o rfl 5 (by decide) w1087 rfl dX12_pressesFirst_29 ?_
              refine lv_icmp_ge (tgt := 53) hx hb dX12_pressesFirst_32 (by decide) (fun c_32 => ?_) (fun c_32 => ?_)
              · have c_32 : x_6 ≤ b9 := (nI_leI (a := x_6) (b := b9) (by omega) (by omega)).mp c_32
                refine lv_iinc (v := nI (a9 + 1)) (lv' := [(2, .int (nI (a9 + 1))), (3, .int (nI b9)), (0, .ref o), (1, .int kd)]) hx hb dX12_pressesFirst_53 hl (k := 1) rfl (nI_add (a9) 1) (by decide) rfl (fun ls hl => ?_)
                refine lv_goto (tgt := 17) hx hb dX12_pressesFirst_56 (by decide) ?_
                exact ih17 (a9 + 1) _ _ _ ls (by omega) (by omega) hpk2 hdz2 hTy hFr hFl17 hW (lv_sub hl [0, 2, 3] rfl)
              · have c_32 : ¬ (x_6 ≤ b9) := fun hh9 => c_32 ((nI_leI (a := x_6) (b := b9) (by omega) (by omega)).mpr hh9)
                refine lv_iload_n hx hb dX12_pressesFirst_35 rfl (lv_at hl 1 rfl) ?_
                refine lv_iload_n hx hb dX12_pressesFirst_36 rfl (lv_at hl 0 rfl) ?_
                refine lv_icmp_eq (tgt := 47) hx hb dX12_pressesFirst_37 (by decide) (fun c_37 => ?_) (fun c_37 => ?_)
                · have c_37 : a9 = b9 := (nI_eq (a := a9) (b := b9) (by omega) (by omega)).mp c_37
                  refine lv_iinc (v := nI (b9 + 1)) (lv' := [(3, .int (nI (b9 + 1))), (2, .int (nI a9)), (0, .ref o), (1, .int kd)]) hx hb dX12_pressesFirst_47 hl (k := 0) rfl (nI_add (b9) 1) (by decide) rfl (fun ls hl => ?_)
                  refine lv_goto (tgt := 27) hx hb dX12_pressesFirst_50 (by decide) ?_
                  exact ih27 (b9 + 1) _ _ _ ls (by omega) (by omega) hpk2 hdz2 hTy hFr hFl27 hW (lv_sub hl [0, 1, 2, 3] rfl)
                · have c_37 : ¬ (a9 = b9) := fun hh9 => c_37 ((nI_eq (a := a9) (b := b9) (by omega) (by omega)).mpr hh9)
                  refine lv_aload_n hx hb dX12_pressesFirst_40 rfl (lv_at hl 2 rfl) ?_
                  refine lv_iload_n hx hb dX12_pressesFirst_41 rfl (lv_at hl 1 rfl) ?_
                  refine lv_iload_n hx hb dX12_pressesFirst_42 rfl (lv_at hl 0 rfl) ?_
                  refine lv_iconst (v := 0) hx hb dX12_pressesFirst_43 (by decide) ?_
                  refine pl_callv (va_runV (As := [.int (nI a9), .int (nI b9), .int 0]) (rest := []) ⟨hx, hb, hml, hown, hT⟩ (m_turns l dC dI cy L kap pr S_36 H.size o a9 b9 0 hTy hT_o (by omega) (by omega) (by omega) hpk2) (cwV 3 hT (gV w1495 w1497 ws102 w14 w1498) rfl rfl rfl (by decide +kernel) ⟨(Nat.le_of_ble_eq_true rfl), (Nat.le_of_ble_eq_true rfl)⟩) ⟨pcN.blind, pl_recv hK hW hT_o.1 hS_o rfl, pcN.pre hW.1 hK hW.2.1 hN (fun q h => absurd h List.not_mem_nil)⟩ rfl rfl hl.1 rfl (lv_room (Nat.le_of_ble_eq_true rfl)) dX12_pressesFirst_44 ⟨(Nat.le_of_ble_eq_true rfl), (Nat.le_of_ble_eq_true rfl)⟩) hW hA0 hA (fun S_37 H locs hrel hW => ?_)
                  obtain ⟨hTy, hF1, hx1⟩ := hrel
                  have hFr := hFr.tr hF1 (by decide)
                  have hFl17 := hFl17.tr hF1 (by decide)
                  have hFl27 := hFl27.tr hF1 (by decide)
                  have hS_o := hF1.at hT_o (by decide) hS_o
                  obtain ⟨hpkn, hdzn⟩ := hx1
                  have hdzn : ∀ a, a < 8 → fld S_37 o 22 (8 * a + a) = 0 := fun a ha => (hdzn a ha).trans (hdz2 a ha)
                  refine lv_iinc (v := nI (b9 + 1)) (lv' := [(3, .int (nI (b9 + 1))), (2, .int (nI a9)), (0, .ref o), (1, .int kd)]) hx hb dX12_pressesFirst_47 hl (k := 0) rfl (nI_add (b9) 1) (by decide) rfl (fun ls hl => ?_)
                  refine lv_goto (tgt := 27) hx hb dX12_pressesFirst_50 (by decide) ?_
                  exact ih27 (b9 + 1) _ _ _ ls (by omega) (by omega) hpkn hdzn hTy hFr hFl27 hW (lv_sub hl [0, 1, 2, 3] rfl)
          exact loop ((9 - 0) + 1) 0 _ _ _ ls (Nat.lt_succ_self _) (by omega) hpk1 hdz1 hTy hFr Fr.rf hW (lv_sub hl [0, 1, 2, 3] rfl)
    exact loop ((9 - 0) + 1) 0 _ _ _ ls (Nat.lt_succ_self _) (by omega) hpk9 hdz9 hTy hFr Fr.rf hW (lv_sub hl [0, 1, 2] rfl)
  · refine lv_iconst (v := 0) hx hb dX12_pressesFirst_13 (by decide) ?_
    exact W.zret (ty := .boolean) (v := 0) hx hb hr (by decide) (fun t ht h9 => ⟨⟨0, S_33, rfl, ⟨hTy, hFr, hdz9⟩, by rw [ht]; exact hW.1, va_K.moved h9.alike hK, hW.2.1⟩, hW.2.2.F ht⟩) hW.2.2.2.2 dX12_pressesFirst_14

