theorem w27 : (.methodLink RX11 3 objectInit : Cond) ∈ TB := mTB (List.mem_of_getElem? (i := 27) (by decide +kernel)) (by decide +kernel)
theorem w30 : (.classLink RX11 9 RX10 : Cond) ∈ TB := mTB (List.mem_of_getElem? (i := 30) (by decide +kernel)) (by decide +kernel)
theorem w31 : (.instantiable RX10 2 : Cond) ∈ TB := mTB (List.mem_of_getElem? (i := 31) (by decide +kernel)) (by decide +kernel)
theorem w33 : (.instanceMethod yX10_init : Cond) ∈ TB := mTB (List.mem_of_getElem? (i := 33) (by decide +kernel)) (by decide +kernel)
theorem w34 : (.code yX10_init cX10_init 1 none : Cond) ∈ TB := mTB (List.mem_of_getElem? (i := 34) (by decide +kernel)) (by decide +kernel)
theorem w37 : (.fieldLink RX6 29 "SwapPress$Tape" "bytes" "[B" : Cond) ∈ TB := mTB (List.mem_of_getElem? (i := 37) (by decide +kernel)) (by decide +kernel)
theorem w46 : (.classLink RX11 16 RX6 : Cond) ∈ TB := mTB (List.mem_of_getElem? (i := 46) (by decide +kernel)) (by decide +kernel)
theorem w47 : (.instantiable RX6 10 : Cond) ∈ TB := mTB (List.mem_of_getElem? (i := 47) (by decide +kernel)) (by decide +kernel)
theorem w48 : (.methodLink RX11 18 yX6_init : Cond) ∈ TB := mTB (List.mem_of_getElem? (i := 48) (by decide +kernel)) (by decide +kernel)
theorem w49 : (.instanceMethod yX6_init : Cond) ∈ TB := mTB (List.mem_of_getElem? (i := 49) (by decide +kernel)) (by decide +kernel)
theorem w50 : (.code yX6_init cX6_init 2 none : Cond) ∈ TB := mTB (List.mem_of_getElem? (i := 50) (by decide +kernel)) (by decide +kernel)
theorem w51 : (.methodLink RX6 3 objectInit : Cond) ∈ TB := mTB (List.mem_of_getElem? (i := 51) (by decide +kernel)) (by decide +kernel)
theorem w52 : (.classLink RX6 15 RX3 : Cond) ∈ TB := mTB (List.mem_of_getElem? (i := 52) (by decide +kernel)) (by decide +kernel)
theorem w53 : (.instantiable RX3 4 : Cond) ∈ TB := mTB (List.mem_of_getElem? (i := 53) (by decide +kernel)) (by decide +kernel)
theorem w55 : (.instanceMethod yX3_init : Cond) ∈ TB := mTB (List.mem_of_getElem? (i := 55) (by decide +kernel)) (by decide +kernel)
theorem w56 : (.code yX3_init cX3_init 1 none : Cond) ∈ TB := mTB (List.mem_of_getElem? (i := 56) (by decide +kernel)) (by decide +kernel)
theorem w78 : (.classLink RX6 22 RX0 : Cond) ∈ TB := mTB (List.mem_of_getElem? (i := 78) (by decide +kernel)) (by decide +kernel)
theorem w79 : (.instantiable RX0 8 : Cond) ∈ TB := mTB (List.mem_of_getElem? (i := 79) (by decide +kernel)) (by decide +kernel)
theorem w80 : (.methodLink RX6 24 yX0_init : Cond) ∈ TB := mTB (List.mem_of_getElem? (i := 80) (by decide +kernel)) (by decide +kernel)
theorem w81 : (.instanceMethod yX0_init : Cond) ∈ TB := mTB (List.mem_of_getElem? (i := 81) (by decide +kernel)) (by decide +kernel)
theorem w82 : (.code yX0_init cX0_init 1 none : Cond) ∈ TB := mTB (List.mem_of_getElem? (i := 82) (by decide +kernel)) (by decide +kernel)
theorem w174 : (.classLink RX11 25 RX5 : Cond) ∈ TB := mTB (List.mem_of_getElem? (i := 174) (by decide +kernel)) (by decide +kernel)
theorem w175 : (.instantiable RX5 2 : Cond) ∈ TB := mTB (List.mem_of_getElem? (i := 175) (by decide +kernel)) (by decide +kernel)
theorem w176 : (.methodLink RX11 27 yX5_init : Cond) ∈ TB := mTB (List.mem_of_getElem? (i := 176) (by decide +kernel)) (by decide +kernel)
theorem w177 : (.instanceMethod yX5_init : Cond) ∈ TB := mTB (List.mem_of_getElem? (i := 177) (by decide +kernel)) (by decide +kernel)
theorem w178 : (.code yX5_init cX5_init 2 none : Cond) ∈ TB := mTB (List.mem_of_getElem? (i := 178) (by decide +kernel)) (by decide +kernel)
theorem w179 : (.methodLink RX5 3 objectInit : Cond) ∈ TB := mTB (List.mem_of_getElem? (i := 179) (by decide +kernel)) (by decide +kernel)
theorem w180 : (.classLink RX5 9 RX0 : Cond) ∈ TB := mTB (List.mem_of_getElem? (i := 180) (by decide +kernel)) (by decide +kernel)
theorem w182 : (.methodLink RX5 17 yX0_init : Cond) ∈ TB := mTB (List.mem_of_getElem? (i := 182) (by decide +kernel)) (by decide +kernel)
theorem w191 : (.classLink RX11 32 RX1 : Cond) ∈ TB := mTB (List.mem_of_getElem? (i := 191) (by decide +kernel)) (by decide +kernel)
theorem w192 : (.instantiable RX1 2 : Cond) ∈ TB := mTB (List.mem_of_getElem? (i := 192) (by decide +kernel)) (by decide +kernel)
theorem w194 : (.instanceMethod yX1_init : Cond) ∈ TB := mTB (List.mem_of_getElem? (i := 194) (by decide +kernel)) (by decide +kernel)
theorem w195 : (.code yX1_init cX1_init 1 none : Cond) ∈ TB := mTB (List.mem_of_getElem? (i := 195) (by decide +kernel)) (by decide +kernel)
theorem w210 : (.classLink RX11 39 RX7 : Cond) ∈ TB := mTB (List.mem_of_getElem? (i := 210) (by decide +kernel)) (by decide +kernel)
theorem w211 : (.instantiable RX7 6 : Cond) ∈ TB := mTB (List.mem_of_getElem? (i := 211) (by decide +kernel)) (by decide +kernel)
theorem w213 : (.instanceMethod yX7_init : Cond) ∈ TB := mTB (List.mem_of_getElem? (i := 213) (by decide +kernel)) (by decide +kernel)
theorem w214 : (.code yX7_init cX7_init 1 none : Cond) ∈ TB := mTB (List.mem_of_getElem? (i := 214) (by decide +kernel)) (by decide +kernel)
theorem w239 : (.classLink RX11 46 RX8 : Cond) ∈ TB := mTB (List.mem_of_getElem? (i := 239) (by decide +kernel)) (by decide +kernel)
theorem w240 : (.instantiable RX8 3 : Cond) ∈ TB := mTB (List.mem_of_getElem? (i := 240) (by decide +kernel)) (by decide +kernel)
theorem w242 : (.instanceMethod yX8_init : Cond) ∈ TB := mTB (List.mem_of_getElem? (i := 242) (by decide +kernel)) (by decide +kernel)
theorem w243 : (.code yX8_init cX8_init 1 none : Cond) ∈ TB := mTB (List.mem_of_getElem? (i := 243) (by decide +kernel)) (by decide +kernel)
theorem w257 : (.classLink RX11 53 RX9 : Cond) ∈ TB := mTB (List.mem_of_getElem? (i := 257) (by decide +kernel)) (by decide +kernel)
theorem w258 : (.instantiable RX9 13 : Cond) ∈ TB := mTB (List.mem_of_getElem? (i := 258) (by decide +kernel)) (by decide +kernel)
theorem w260 : (.instanceMethod yX9_init : Cond) ∈ TB := mTB (List.mem_of_getElem? (i := 260) (by decide +kernel)) (by decide +kernel)
theorem w261 : (.code yX9_init cX9_init 1 none : Cond) ∈ TB := mTB (List.mem_of_getElem? (i := 261) (by decide +kernel)) (by decide +kernel)
theorem w307 : (.classLink RX11 63 RX2 : Cond) ∈ TB := mTB (List.mem_of_getElem? (i := 307) (by decide +kernel)) (by decide +kernel)
theorem w308 : (.instantiable RX2 5 : Cond) ∈ TB := mTB (List.mem_of_getElem? (i := 308) (by decide +kernel)) (by decide +kernel)
theorem w310 : (.instanceMethod yX2_init : Cond) ∈ TB := mTB (List.mem_of_getElem? (i := 310) (by decide +kernel)) (by decide +kernel)
theorem w311 : (.code yX2_init cX2_init 1 none : Cond) ∈ TB := mTB (List.mem_of_getElem? (i := 311) (by decide +kernel)) (by decide +kernel)
theorem w331 : (.classLink RX11 70 RX4 : Cond) ∈ TB := mTB (List.mem_of_getElem? (i := 331) (by decide +kernel)) (by decide +kernel)
theorem w332 : (.instantiable RX4 3 : Cond) ∈ TB := mTB (List.mem_of_getElem? (i := 332) (by decide +kernel)) (by decide +kernel)
theorem w334 : (.instanceMethod yX4_init : Cond) ∈ TB := mTB (List.mem_of_getElem? (i := 334) (by decide +kernel)) (by decide +kernel)
theorem w335 : (.code yX4_init cX4_init 1 none : Cond) ∈ TB := mTB (List.mem_of_getElem? (i := 335) (by decide +kernel)) (by decide +kernel)
theorem w349 : (.classLink RX11 77 RX3 : Cond) ∈ TB := mTB (List.mem_of_getElem? (i := 349) (by decide +kernel)) (by decide +kernel)
theorem w351 : (.classLink RX11 84 RX0 : Cond) ∈ TB := mTB (List.mem_of_getElem? (i := 351) (by decide +kernel)) (by decide +kernel)
theorem w352 : (.methodLink RX11 86 yX0_init : Cond) ∈ TB := mTB (List.mem_of_getElem? (i := 352) (by decide +kernel)) (by decide +kernel)
theorem w1076 : (.methodLink RX12 7 objectInit : Cond) ∈ TB := mTB (List.mem_of_getElem? (i := 1076) (by decide +kernel)) (by decide +kernel)
theorem dX11_init_0 : decode cX11_init 0 = .ok (.aload_n 0, 1) := by decide +kernel
theorem dX11_init_1 : decode cX11_init 1 = .ok (.invokespecial 3, 3) := by decide +kernel
theorem dX11_init_4 : decode cX11_init 4 = .ok (.aload_n 0, 1) := by decide +kernel
theorem dX11_init_5 : decode cX11_init 5 = .ok (.new 9, 3) := by decide +kernel
theorem dX11_init_8 : decode cX11_init 8 = .ok (.dup, 1) := by decide +kernel
theorem dX11_init_9 : decode cX11_init 9 = .ok (.invokespecial 11, 3) := by decide +kernel
theorem dX11_init_12 : decode cX11_init 12 = .ok (.putfield 12, 3) := by decide +kernel
theorem dX11_init_15 : decode cX11_init 15 = .ok (.aload_n 0, 1) := by decide +kernel
theorem dX11_init_16 : decode cX11_init 16 = .ok (.new 16, 3) := by decide +kernel
theorem dX11_init_19 : decode cX11_init 19 = .ok (.dup, 1) := by decide +kernel
theorem dX11_init_20 : decode cX11_init 20 = .ok (.aload_n 0, 1) := by decide +kernel
theorem dX11_init_21 : decode cX11_init 21 = .ok (.getfield 12, 3) := by decide +kernel
theorem dX11_init_24 : decode cX11_init 24 = .ok (.invokespecial 18, 3) := by decide +kernel
theorem dX11_init_27 : decode cX11_init 27 = .ok (.putfield 21, 3) := by decide +kernel
theorem dX11_init_30 : decode cX11_init 30 = .ok (.aload_n 0, 1) := by decide +kernel
theorem dX11_init_31 : decode cX11_init 31 = .ok (.new 25, 3) := by decide +kernel
theorem dX11_init_34 : decode cX11_init 34 = .ok (.dup, 1) := by decide +kernel
theorem dX11_init_35 : decode cX11_init 35 = .ok (.invokespecial 27, 3) := by decide +kernel
theorem dX11_init_38 : decode cX11_init 38 = .ok (.putfield 28, 3) := by decide +kernel
theorem dX11_init_41 : decode cX11_init 41 = .ok (.aload_n 0, 1) := by decide +kernel
theorem dX11_init_42 : decode cX11_init 42 = .ok (.new 32, 3) := by decide +kernel
theorem dX11_init_45 : decode cX11_init 45 = .ok (.dup, 1) := by decide +kernel
theorem dX11_init_46 : decode cX11_init 46 = .ok (.invokespecial 34, 3) := by decide +kernel
theorem dX11_init_49 : decode cX11_init 49 = .ok (.putfield 35, 3) := by decide +kernel
theorem dX11_init_52 : decode cX11_init 52 = .ok (.aload_n 0, 1) := by decide +kernel
theorem dX11_init_53 : decode cX11_init 53 = .ok (.new 39, 3) := by decide +kernel
theorem dX11_init_56 : decode cX11_init 56 = .ok (.dup, 1) := by decide +kernel
theorem dX11_init_57 : decode cX11_init 57 = .ok (.invokespecial 41, 3) := by decide +kernel
theorem dX11_init_60 : decode cX11_init 60 = .ok (.putfield 42, 3) := by decide +kernel
theorem dX11_init_63 : decode cX11_init 63 = .ok (.aload_n 0, 1) := by decide +kernel
theorem dX11_init_64 : decode cX11_init 64 = .ok (.new 46, 3) := by decide +kernel
theorem dX11_init_67 : decode cX11_init 67 = .ok (.dup, 1) := by decide +kernel
theorem dX11_init_68 : decode cX11_init 68 = .ok (.invokespecial 48, 3) := by decide +kernel
theorem dX11_init_71 : decode cX11_init 71 = .ok (.putfield 49, 3) := by decide +kernel
theorem dX11_init_74 : decode cX11_init 74 = .ok (.aload_n 0, 1) := by decide +kernel
theorem dX11_init_75 : decode cX11_init 75 = .ok (.new 53, 3) := by decide +kernel
theorem dX11_init_78 : decode cX11_init 78 = .ok (.dup, 1) := by decide +kernel
theorem dX11_init_79 : decode cX11_init 79 = .ok (.invokespecial 55, 3) := by decide +kernel
theorem dX11_init_82 : decode cX11_init 82 = .ok (.putfield 56, 3) := by decide +kernel
theorem dX11_init_85 : decode cX11_init 85 = .ok (.aload_n 0, 1) := by decide +kernel
theorem dX11_init_86 : decode cX11_init 86 = .ok (.new 53, 3) := by decide +kernel
theorem dX11_init_89 : decode cX11_init 89 = .ok (.dup, 1) := by decide +kernel
theorem dX11_init_90 : decode cX11_init 90 = .ok (.invokespecial 55, 3) := by decide +kernel
theorem dX11_init_93 : decode cX11_init 93 = .ok (.putfield 60, 3) := by decide +kernel
theorem dX11_init_96 : decode cX11_init 96 = .ok (.aload_n 0, 1) := by decide +kernel
theorem dX11_init_97 : decode cX11_init 97 = .ok (.new 63, 3) := by decide +kernel
theorem dX11_init_100 : decode cX11_init 100 = .ok (.dup, 1) := by decide +kernel
theorem dX11_init_101 : decode cX11_init 101 = .ok (.invokespecial 65, 3) := by decide +kernel
theorem dX11_init_104 : decode cX11_init 104 = .ok (.putfield 66, 3) := by decide +kernel
theorem dX11_init_107 : decode cX11_init 107 = .ok (.aload_n 0, 1) := by decide +kernel
theorem dX11_init_108 : decode cX11_init 108 = .ok (.new 70, 3) := by decide +kernel
theorem dX11_init_111 : decode cX11_init 111 = .ok (.dup, 1) := by decide +kernel
theorem dX11_init_112 : decode cX11_init 112 = .ok (.invokespecial 72, 3) := by decide +kernel
theorem dX11_init_115 : decode cX11_init 115 = .ok (.putfield 73, 3) := by decide +kernel
theorem dX11_init_118 : decode cX11_init 118 = .ok (.aload_n 0, 1) := by decide +kernel
theorem dX11_init_119 : decode cX11_init 119 = .ok (.new 77, 3) := by decide +kernel
theorem dX11_init_122 : decode cX11_init 122 = .ok (.dup, 1) := by decide +kernel
theorem dX11_init_123 : decode cX11_init 123 = .ok (.invokespecial 79, 3) := by decide +kernel
theorem dX11_init_126 : decode cX11_init 126 = .ok (.putfield 80, 3) := by decide +kernel
theorem dX11_init_129 : decode cX11_init 129 = .ok (.aload_n 0, 1) := by decide +kernel
theorem dX11_init_130 : decode cX11_init 130 = .ok (.new 84, 3) := by decide +kernel
theorem dX11_init_133 : decode cX11_init 133 = .ok (.dup, 1) := by decide +kernel
theorem dX11_init_134 : decode cX11_init 134 = .ok (.invokespecial 86, 3) := by decide +kernel
theorem dX11_init_137 : decode cX11_init 137 = .ok (.putfield 87, 3) := by decide +kernel
theorem dX11_init_140 : decode cX11_init 140 = .ok (.aload_n 0, 1) := by decide +kernel
theorem dX11_init_141 : decode cX11_init 141 = .ok (.iconst (-1), 1) := by decide +kernel
theorem dX11_init_142 : decode cX11_init 142 = .ok (.putfield 91, 3) := by decide +kernel
theorem dX11_init_145 : decode cX11_init 145 = .ok (.return_, 1) := by decide +kernel
theorem dX12_init_0 : decode cX12_init 0 = .ok (.aload_n 0, 1) := by decide +kernel
theorem dX12_init_1 : decode cX12_init 1 = .ok (.invokespecial 7, 3) := by decide +kernel
theorem dX12_init_4 : decode cX12_init 4 = .ok (.aload_n 0, 1) := by decide +kernel
theorem dX12_init_5 : decode cX12_init 5 = .ok (.sipush 266, 3) := by decide +kernel
theorem dX12_init_8 : decode cX12_init 8 = .ok (.newarray .int, 2) := by decide +kernel
theorem dX12_init_10 : decode cX12_init 10 = .ok (.putfield 13, 3) := by decide +kernel
theorem dX12_init_13 : decode cX12_init 13 = .ok (.aload_n 0, 1) := by decide +kernel
theorem dX12_init_14 : decode cX12_init 14 = .ok (.sipush 266, 3) := by decide +kernel
theorem dX12_init_17 : decode cX12_init 17 = .ok (.newarray .int, 2) := by decide +kernel
theorem dX12_init_19 : decode cX12_init 19 = .ok (.putfield 17, 3) := by decide +kernel
theorem dX12_init_22 : decode cX12_init 22 = .ok (.aload_n 0, 1) := by decide +kernel
theorem dX12_init_23 : decode cX12_init 23 = .ok (.sipush 2660, 3) := by decide +kernel
theorem dX12_init_26 : decode cX12_init 26 = .ok (.newarray .int, 2) := by decide +kernel
theorem dX12_init_28 : decode cX12_init 28 = .ok (.putfield 20, 3) := by decide +kernel
theorem dX12_init_31 : decode cX12_init 31 = .ok (.aload_n 0, 1) := by decide +kernel
theorem dX12_init_32 : decode cX12_init 32 = .ok (.bipush 12, 2) := by decide +kernel
theorem dX12_init_34 : decode cX12_init 34 = .ok (.newarray .long, 2) := by decide +kernel
theorem dX12_init_36 : decode cX12_init 36 = .ok (.putfield 23, 3) := by decide +kernel
theorem dX12_init_39 : decode cX12_init 39 = .ok (.aload_n 0, 1) := by decide +kernel
theorem dX12_init_40 : decode cX12_init 40 = .ok (.bipush 12, 2) := by decide +kernel
theorem dX12_init_42 : decode cX12_init 42 = .ok (.newarray .long, 2) := by decide +kernel
theorem dX12_init_44 : decode cX12_init 44 = .ok (.putfield 27, 3) := by decide +kernel
theorem dX12_init_47 : decode cX12_init 47 = .ok (.aload_n 0, 1) := by decide +kernel
theorem dX12_init_48 : decode cX12_init 48 = .ok (.sipush 900, 3) := by decide +kernel
theorem dX12_init_51 : decode cX12_init 51 = .ok (.newarray .byte, 2) := by decide +kernel
theorem dX12_init_53 : decode cX12_init 53 = .ok (.putfield 30, 3) := by decide +kernel
theorem dX12_init_56 : decode cX12_init 56 = .ok (.aload_n 0, 1) := by decide +kernel
theorem dX12_init_57 : decode cX12_init 57 = .ok (.iconst (-1), 1) := by decide +kernel
theorem dX12_init_58 : decode cX12_init 58 = .ok (.putfield 34, 3) := by decide +kernel
theorem dX12_init_61 : decode cX12_init 61 = .ok (.aload_n 0, 1) := by decide +kernel
theorem dX12_init_62 : decode cX12_init 62 = .ok (.bipush 64, 2) := by decide +kernel
theorem dX12_init_64 : decode cX12_init 64 = .ok (.newarray .int, 2) := by decide +kernel
theorem dX12_init_66 : decode cX12_init 66 = .ok (.putfield 37, 3) := by decide +kernel
theorem dX12_init_69 : decode cX12_init 69 = .ok (.aload_n 0, 1) := by decide +kernel
theorem dX12_init_70 : decode cX12_init 70 = .ok (.bipush 8, 2) := by decide +kernel
theorem dX12_init_72 : decode cX12_init 72 = .ok (.newarray .int, 2) := by decide +kernel
theorem dX12_init_74 : decode cX12_init 74 = .ok (.putfield 40, 3) := by decide +kernel
theorem dX12_init_77 : decode cX12_init 77 = .ok (.aload_n 0, 1) := by decide +kernel
theorem dX12_init_78 : decode cX12_init 78 = .ok (.bipush 8, 2) := by decide +kernel
theorem dX12_init_80 : decode cX12_init 80 = .ok (.newarray .int, 2) := by decide +kernel
theorem dX12_init_82 : decode cX12_init 82 = .ok (.putfield 43, 3) := by decide +kernel
theorem dX12_init_85 : decode cX12_init 85 = .ok (.aload_n 0, 1) := by decide +kernel
theorem dX12_init_86 : decode cX12_init 86 = .ok (.bipush 64, 2) := by decide +kernel
theorem dX12_init_88 : decode cX12_init 88 = .ok (.newarray .int, 2) := by decide +kernel
theorem dX12_init_90 : decode cX12_init 90 = .ok (.putfield 46, 3) := by decide +kernel
theorem dX12_init_93 : decode cX12_init 93 = .ok (.aload_n 0, 1) := by decide +kernel
theorem dX12_init_94 : decode cX12_init 94 = .ok (.bipush 64, 2) := by decide +kernel
theorem dX12_init_96 : decode cX12_init 96 = .ok (.newarray .int, 2) := by decide +kernel
theorem dX12_init_98 : decode cX12_init 98 = .ok (.putfield 49, 3) := by decide +kernel
theorem dX12_init_101 : decode cX12_init 101 = .ok (.aload_n 0, 1) := by decide +kernel
theorem dX12_init_102 : decode cX12_init 102 = .ok (.bipush 8, 2) := by decide +kernel
theorem dX12_init_104 : decode cX12_init 104 = .ok (.newarray .int, 2) := by decide +kernel
theorem dX12_init_106 : decode cX12_init 106 = .ok (.putfield 52, 3) := by decide +kernel
theorem dX12_init_109 : decode cX12_init 109 = .ok (.aload_n 0, 1) := by decide +kernel
theorem dX12_init_110 : decode cX12_init 110 = .ok (.bipush 8, 2) := by decide +kernel
theorem dX12_init_112 : decode cX12_init 112 = .ok (.newarray .int, 2) := by decide +kernel
theorem dX12_init_114 : decode cX12_init 114 = .ok (.putfield 55, 3) := by decide +kernel
theorem dX12_init_117 : decode cX12_init 117 = .ok (.aload_n 0, 1) := by decide +kernel
theorem dX12_init_118 : decode cX12_init 118 = .ok (.bipush 8, 2) := by decide +kernel
theorem dX12_init_120 : decode cX12_init 120 = .ok (.newarray .int, 2) := by decide +kernel
theorem dX12_init_122 : decode cX12_init 122 = .ok (.putfield 58, 3) := by decide +kernel
theorem dX12_init_125 : decode cX12_init 125 = .ok (.aload_n 0, 1) := by decide +kernel
theorem dX12_init_126 : decode cX12_init 126 = .ok (.bipush 64, 2) := by decide +kernel
theorem dX12_init_128 : decode cX12_init 128 = .ok (.newarray .boolean, 2) := by decide +kernel
theorem dX12_init_130 : decode cX12_init 130 = .ok (.putfield 61, 3) := by decide +kernel
theorem dX12_init_133 : decode cX12_init 133 = .ok (.aload_n 0, 1) := by decide +kernel
theorem dX12_init_134 : decode cX12_init 134 = .ok (.bipush 16, 2) := by decide +kernel
theorem dX12_init_136 : decode cX12_init 136 = .ok (.newarray .int, 2) := by decide +kernel
theorem dX12_init_138 : decode cX12_init 138 = .ok (.putfield 65, 3) := by decide +kernel
theorem dX12_init_141 : decode cX12_init 141 = .ok (.aload_n 0, 1) := by decide +kernel
theorem dX12_init_142 : decode cX12_init 142 = .ok (.bipush 16, 2) := by decide +kernel
theorem dX12_init_144 : decode cX12_init 144 = .ok (.newarray .int, 2) := by decide +kernel
theorem dX12_init_146 : decode cX12_init 146 = .ok (.putfield 68, 3) := by decide +kernel
theorem dX12_init_149 : decode cX12_init 149 = .ok (.aload_n 0, 1) := by decide +kernel
theorem dX12_init_150 : decode cX12_init 150 = .ok (.sipush 256, 3) := by decide +kernel
theorem dX12_init_153 : decode cX12_init 153 = .ok (.newarray .int, 2) := by decide +kernel
theorem dX12_init_155 : decode cX12_init 155 = .ok (.putfield 71, 3) := by decide +kernel
theorem dX12_init_158 : decode cX12_init 158 = .ok (.aload_n 0, 1) := by decide +kernel
theorem dX12_init_159 : decode cX12_init 159 = .ok (.bipush 48, 2) := by decide +kernel
theorem dX12_init_161 : decode cX12_init 161 = .ok (.newarray .int, 2) := by decide +kernel
theorem dX12_init_163 : decode cX12_init 163 = .ok (.putfield 74, 3) := by decide +kernel
theorem dX12_init_166 : decode cX12_init 166 = .ok (.aload_n 0, 1) := by decide +kernel
theorem dX12_init_167 : decode cX12_init 167 = .ok (.invokevirtual 77, 3) := by decide +kernel
theorem dX12_init_170 : decode cX12_init 170 = .ok (.return_, 1) := by decide +kernel
theorem dX5_init_0 : decode cX5_init 0 = .ok (.aload_n 0, 1) := by decide +kernel
theorem dX5_init_1 : decode cX5_init 1 = .ok (.invokespecial 3, 3) := by decide +kernel
theorem dX5_init_4 : decode cX5_init 4 = .ok (.aload_n 0, 1) := by decide +kernel
theorem dX5_init_5 : decode cX5_init 5 = .ok (.bipush 10, 2) := by decide +kernel
theorem dX5_init_7 : decode cX5_init 7 = .ok (.anewarray 9, 3) := by decide +kernel
theorem dX5_init_10 : decode cX5_init 10 = .ok (.putfield 11, 3) := by decide +kernel
theorem dX5_init_13 : decode cX5_init 13 = .ok (.iconst 0, 1) := by decide +kernel
theorem dX5_init_14 : decode cX5_init 14 = .ok (.istore_n 1, 1) := by decide +kernel
theorem dX5_init_15 : decode cX5_init 15 = .ok (.iload_n 1, 1) := by decide +kernel
theorem dX5_init_16 : decode cX5_init 16 = .ok (.bipush 10, 2) := by decide +kernel
theorem dX5_init_18 : decode cX5_init 18 = .ok (.if_icmp .ge 22, 3) := by decide +kernel
theorem dX5_init_21 : decode cX5_init 21 = .ok (.aload_n 0, 1) := by decide +kernel
theorem dX5_init_22 : decode cX5_init 22 = .ok (.getfield 11, 3) := by decide +kernel
theorem dX5_init_25 : decode cX5_init 25 = .ok (.iload_n 1, 1) := by decide +kernel
theorem dX5_init_26 : decode cX5_init 26 = .ok (.new 9, 3) := by decide +kernel
theorem dX5_init_29 : decode cX5_init 29 = .ok (.dup, 1) := by decide +kernel
theorem dX5_init_30 : decode cX5_init 30 = .ok (.invokespecial 17, 3) := by decide +kernel
theorem dX5_init_33 : decode cX5_init 33 = .ok (.aastore, 1) := by decide +kernel
theorem dX5_init_34 : decode cX5_init 34 = .ok (.iinc 1 1, 3) := by decide +kernel
theorem dX5_init_37 : decode cX5_init 37 = .ok (.goto (-22), 3) := by decide +kernel
theorem dX5_init_40 : decode cX5_init 40 = .ok (.return_, 1) := by decide +kernel
theorem dX6_init_0 : decode cX6_init 0 = .ok (.aload_n 0, 1) := by decide +kernel
theorem dX6_init_1 : decode cX6_init 1 = .ok (.invokespecial 3, 3) := by decide +kernel
theorem dX6_init_4 : decode cX6_init 4 = .ok (.aload_n 0, 1) := by decide +kernel
theorem dX6_init_5 : decode cX6_init 5 = .ok (.iconst (-1), 1) := by decide +kernel
theorem dX6_init_6 : decode cX6_init 6 = .ok (.putfield 9, 3) := by decide +kernel
theorem dX6_init_9 : decode cX6_init 9 = .ok (.aload_n 0, 1) := by decide +kernel
theorem dX6_init_10 : decode cX6_init 10 = .ok (.new 15, 3) := by decide +kernel
theorem dX6_init_13 : decode cX6_init 13 = .ok (.dup, 1) := by decide +kernel
theorem dX6_init_14 : decode cX6_init 14 = .ok (.invokespecial 17, 3) := by decide +kernel
theorem dX6_init_17 : decode cX6_init 17 = .ok (.putfield 18, 3) := by decide +kernel
theorem dX6_init_20 : decode cX6_init 20 = .ok (.aload_n 0, 1) := by decide +kernel
theorem dX6_init_21 : decode cX6_init 21 = .ok (.new 22, 3) := by decide +kernel
theorem dX6_init_24 : decode cX6_init 24 = .ok (.dup, 1) := by decide +kernel
theorem dX6_init_25 : decode cX6_init 25 = .ok (.invokespecial 24, 3) := by decide +kernel
theorem dX6_init_28 : decode cX6_init 28 = .ok (.putfield 25, 3) := by decide +kernel
theorem dX6_init_31 : decode cX6_init 31 = .ok (.aload_n 0, 1) := by decide +kernel
theorem dX6_init_32 : decode cX6_init 32 = .ok (.aload_n 1, 1) := by decide +kernel
theorem dX6_init_33 : decode cX6_init 33 = .ok (.getfield 29, 3) := by decide +kernel
theorem dX6_init_36 : decode cX6_init 36 = .ok (.putfield 35, 3) := by decide +kernel
theorem dX6_init_39 : decode cX6_init 39 = .ok (.return_, 1) := by decide +kernel
theorem un9 {S S1 : Nat → va_E} {a b : Nat} {e eb : va_E} (h : S1 = va_up S a e) (hn : b ≠ a) (hb : S b = eb) : S1 b = eb := by rw [h, va_up_ne _ _ hn]; exact hb
set_option maxHeartbeats 4000000 in
set_option maxRecDepth 100000 in
theorem n_Past (l : Launch) (dC : Nat → ClassId) (dI : Nat → Nat → Nat) (cy : Nat → ClassId) (L : List Nat) (kap : Nat → Nat) (S : Nat → va_E) (sz : Nat) (h0 : Nat) (hTy : Ty cy L kap (0, 0) S) (hSP : SPI L kap S) (hT_h0 : TK L kap h0 99) (hS_h0 : S h0 = .inr (5, [.null, .int 0])) : Met l yX5_init (wT yX5_init cX5_init 2 none) ({ frames := 2, cells := 71, slots := 2730, locals := 43 }) (pcN dC dI [.ref h0] sz (va_pl L S) (cyT cy) NLk [RX0]) (va_Qv (fun (u : KU) => Ty cy u.1 u.2.1 (0, 0) u.2.2 ∧ SPI u.1 u.2.1 u.2.2 ∧ EXT L kap S h0 u ∧ TK u.1 u.2.1 h0 5 ∧ (∀ a k, USP k → TK u.1 u.2.1 a k → TK L kap a k ∨ (fun (a k : Nat) => False) a k)) (fun u t => pB dC dI (AL L sz) (va_pl u.1 u.2.2) (cyT cy) t) (AL L sz)) 71 2730 (AL L sz) := by
  refine Met.ofW (cc := cX5_init) (maxL := 2) (ret := none) (by decide) rfl ?_
  intro p e s m args below meth c s₁ B hml hv
  obtain ⟨rfl, hsz, hP, hK, hD0, hN, hO⟩ := hv
  have hx := B.exec
  have hb := B.bytes
  have hr := B.returns
  have hT : ∀ wd ∈ TB, wd.before [.ref h0].toArray s = true := fun wd h => atoms_spec (ws := wT yX5_init cX5_init 2 none) B.pre wd (List.mem_cons_of_mem _ h)
  have hown : s.vm.findClass RX5 = some m.cls := findClass_of_methodNamed B.named
  have hlocks := B.notSynchronized
  have hin : meth.name = "<init>" := (name_of_methodNamed B.named B.method).1
  subst hsz
  have hW : PW dC dI L (AL L s.heap.size) s.heap S s.heap [] := ⟨hP, pl_self hD0, va_S.rf⟩
  have hA : ∀ q, s.heap.size ≤ q → AL L s.heap.size q := fun _ h => Or.inr h
  have hEX : EXT L kap S h0 (L, kap, S) := EX_0 hT_h0.1
  have hU : ∀ a k, USP k → TK L kap a k → TK L kap a k ∨ (fun (a k : Nat) => False) a k := fun a k _ h => Or.inl h
  have hl := lv_entry ([.ref h0]) (n := 2) (Nat.le_of_ble_eq_true rfl)
  rw [lg_entry_eq]
  generalize (lg_sl ([.ref h0]) ++ List.replicate (2 - (lg_sl ([.ref h0])).length) Slot.unset).toArray = ls at hl ⊢
  have hl : lv_has ls 2 [(0, .ref h0)] := hl
  refine lv_aload_n hx hb dX5_init_0 rfl (lv_at hl 0 rfl) ?_
  refine W.objInit hx hb hown (hT _ w179) (hT _ w28) (hT _ w29) rfl (by rw [hml]; exact hl.1) rfl dX5_init_1 (Nat.le_of_ble_eq_true rfl) (Nat.le_of_ble_eq_true rfl) ?_
  refine W.eq (g2 := F0 m 4 ls []) rfl ?_
  refine lv_aload_n hx hb dX5_init_4 rfl (lv_at hl 0 rfl) ?_
  refine lv_bipush (v := 10) hx hb dX5_init_5 (by decide) ?_
  refine pl_newq (kap := kap) (k := 99) (C := RX0) (n := 10) (N' := 10) hx hb hown (hT _ w180) (hO RX0 (by decide)) hK hW hA 4 rfl (by decide) (by decide) (Nat.le_of_ble_eq_true rfl) (Nat.le_of_ble_eq_true rfl) (Nat.le_of_ble_eq_true rfl) dX5_init_7 (fun q_1 H L_2 kap_3 S_4 hG hW => ?_)
  have hne_q_1 : h0 ≠ q_1 := hG.ne hT_h0.1
  have hTy := hG.ty hTy okc_99
  have hS_h0 := hG.at hT_h0.1 hS_h0
  have hT_h0 := hG.tk hT_h0
  have hnq_q_1 := fun (a : Nat) (h : a ∈ L) => EX_nq hEX hG.1 h
  have hSP := SP_gr hSP hG (STPQ_n (by decide))
  have hEX := EX_gr hEX hG
  have hT_q_1 := hG.new
  have hS_q_1 := hG.self
  have hU : ∀ a k, USP k → TK L_2 kap_3 a k → TK L kap a k ∨ (fun (a k : Nat) => False) a k := U_gr hU hG (fun _ _ h => False.elim h) (fun h => absurd h (by decide))
  refine W.widen (k := 1) (n := 10) (Nat.le_of_ble_eq_true rfl) (Nat.le_of_ble_eq_true rfl) ?_
  refine pl_putF (ci := 5) (v := .ref q_1) (ty := .array (.object "SwapPress$Book")) (C := RX5) (T := TX5) (N := 2) (fs' := [.ref q_1, .int 0]) hx hb hT iX5 tyX5 tyX5_ok nmX5 hown hK hW hT_h0.1 hS_h0 rfl 0 (by decide) w183 rfl hin rfl (by decide +kernel) rfl rfl (Nat.le_of_ble_eq_true rfl) rfl dX5_init_10 (fun H locs S_5 e1 hW => ?_)
  have hTy := hTy.up e1 hT_h0 okc_99
  have hSP := SP_up hSP e1 hT_h0 (STPQ_n (by decide))
  have hS_q_1 := un9 e1 (fun z => hne_q_1 z.symm) hS_q_1
  have hS_h0 := us e1
  have hEX := EX_put hEX e1 (fun _ _ h => h)
  refine lv_iconst (v := 0) hx hb dX5_init_13 (by decide) ?_
  refine lv_istore_n (lv' := [(1, .int 0), (0, .ref h0)]) hx hb dX5_init_14 rfl hl (by decide) rfl (fun ls hl => ?_)
  refine lv_iload_n hx hb dX5_init_15 rfl (lv_at hl 0 rfl) ?_
  refine lv_bipush (v := 10) hx hb dX5_init_16 (by decide) ?_
  refine lv_icmp_ge (tgt := 40) hx hb dX5_init_18 (by decide) (fun h => absurd h (by decide)) (fun _ => ?_)
  refine lv_aload_n hx hb dX5_init_21 rfl (lv_at hl 1 rfl) ?_
  refine pl_get (ci := 5) (v := .ref q_1) (C := RX5) (T := TX5) (N := 2) hx hb hT iX5 hown hK hW hT_h0.1 hS_h0 rfl 0 (by decide) w183 rfl dX5_init_22 ?_
  refine lv_iload_n hx hb dX5_init_25 rfl (lv_at hl 0 rfl) ?_
  refine pl_new (kap := kap_3) (k := 99) (ci := 0) (fs := [.null, .null, .null, .null, .null, .null, .int 0, .int 0]) (C := RX0) (T := TX0) (N := 8) hx hb hT iX0 tyX0 tyX0_ok hown (hT _ w180) (hT _ w79) (hT _ w5) hK hW hA rfl (fun j hj => by rcases (show j = 0 ∨ j = 1 ∨ j = 2 ∨ j = 3 ∨ j = 4 ∨ j = 5 ∨ j = 6 ∨ j = 7 by omega) with rfl | rfl | rfl | rfl | rfl | rfl | rfl | rfl <;> rfl) (Nat.le_of_ble_eq_true rfl) (Nat.le_of_ble_eq_true rfl) dX5_init_26 (fun q_6 H L_7 kap_8 S_9 hG hW => ?_)
  have hne_q_6 : h0 ≠ q_6 := hG.ne hT_h0.1
  have hne2_q_6 : q_1 ≠ q_6 := hG.ne hT_q_1.1
  have hTy := hG.ty hTy okc_99
  have hS_h0 := hG.at hT_h0.1 hS_h0
  have hS_q_1 := hG.at hT_q_1.1 hS_q_1
  have hT_h0 := hG.tk hT_h0
  have hT_q_1 := hG.tk hT_q_1
  have hnq_q_6 := fun (a : Nat) (h : a ∈ L) => EX_nq hEX hG.1 h
  have hSP := SP_gr hSP hG (STPQ_n (by decide))
  have hEX := EX_gr hEX hG
  have hT_q_6 := hG.new
  have hS_q_6 := hG.self
  have hU : ∀ a k, USP k → TK L_7 kap_8 a k → TK L kap a k ∨ (fun (a k : Nat) => False) a k := U_gr hU hG (fun _ _ h => False.elim h) (fun h => absurd h (by decide))
  refine W.widen (k := 2) (n := 18) (Nat.le_of_ble_eq_true rfl) (Nat.le_of_ble_eq_true rfl) ?_
  refine lv_dup hx hb dX5_init_29 rfl ?_
  refine pl_callk (va_runI (As := []) (rest := [.ref q_6, .int 0, .ref q_1]) ⟨hx, hb, hml, hown, hT⟩ (n_Book46 l dC dI cy L_7 kap_8 S_9 H.size q_6 hTy hSP hT_q_6 hS_q_6) (cwI 0 hT (gT w82) rfl rfl rfl (hT _ w5) (hT _ w182) (hT _ w81) rfl (by decide +kernel) ⟨(Nat.le_of_ble_eq_true rfl), (Nat.le_of_ble_eq_true rfl)⟩) ⟨pcN.blind, pcN.pre hW.1 hK hW.2.1 hN hO⟩ rfl rfl hl.1 rfl (lv_room (Nat.le_of_ble_eq_true rfl)) dX5_init_30 ⟨(Nat.le_of_ble_eq_true rfl), (Nat.le_of_ble_eq_true rfl)⟩) hW hA (fun L_10 kap_11 S_12 H locs hrel hW => ?_)
  obtain ⟨hTy, hSP, hEX1, hTq_, hU1⟩ := hrel
  have hS_h0 := ((hEX1.2 _ _ hT_h0 hne_q_6).2 rfl).trans hS_h0
  have hS_q_1 := ((hEX1.2 _ _ hT_q_1 hne2_q_6).2 rfl).trans hS_q_1
  have hT_h0 := (hEX1.2 _ _ hT_h0 hne_q_6).1
  have hT_q_1 := (hEX1.2 _ _ hT_q_1 hne2_q_6).1
  have hEX := EX_tr hEX hEX1 hnq_q_6 hne_q_6
  have hU : ∀ a k, USP k → TK L_10 kap_11 a k → TK L kap a k ∨ (fun (a k : Nat) => False) a k := U_tr hU hU1 (fun _ _ h => False.elim h) (fun a k h => False.elim h)
  have hT_q_6 := hTq_
  refine W.widen (k := 8) (n := 282) (Nat.le_of_ble_eq_true rfl) (Nat.le_of_ble_eq_true rfl) ?_
  obtain ⟨x0_w_15, x1_w_15, x2_w_15, x3_w_15, x4_w_15, x5_w_15, x6_w_15, x7_w_15, hB_w_15, _, _, _, _, _, _, _⟩ := hTy.k46 hT_q_6
  refine pl_aast hx hb hK hW hT_q_1.1 hS_q_1 hT_q_6.1 hB_w_15 (by unfold vp_in; decide) dX5_init_33 (fun H locs f_14 S_13 ef_f_14 e1 hW => ?_)
  have hTy := hTy.up e1 hT_q_1 okc_99
  have hSP := SP_up hSP e1 hT_q_1 (STPQ_n (by decide))
  have hS_h0 := un9 e1 hne_q_1 hS_h0
  have hS_q_1 := us e1
  have hEX := EX_put hEX e1 (fun a h _ => hnq_q_1 a h)
  have hbk_0 : f_14 0 = some q_6 := by rw [ef_f_14]; rfl
  refine lv_iinc (v := 1) (lv' := [(1, .int 1), (0, .ref h0)]) hx hb dX5_init_34 hl (k := 0) rfl (by decide) (by decide) rfl (fun ls hl => ?_)
  refine lv_goto (tgt := 15) hx hb dX5_init_37 (by decide) ?_
  refine lv_iload_n hx hb dX5_init_15 rfl (lv_at hl 0 rfl) ?_
  refine lv_bipush (v := 10) hx hb dX5_init_16 (by decide) ?_
  refine lv_icmp_ge (tgt := 40) hx hb dX5_init_18 (by decide) (fun h => absurd h (by decide)) (fun _ => ?_)
  refine lv_aload_n hx hb dX5_init_21 rfl (lv_at hl 1 rfl) ?_
  refine pl_get (ci := 5) (v := .ref q_1) (C := RX5) (T := TX5) (N := 2) hx hb hT iX5 hown hK hW hT_h0.1 hS_h0 rfl 0 (by decide) w183 rfl dX5_init_22 ?_
  refine lv_iload_n hx hb dX5_init_25 rfl (lv_at hl 0 rfl) ?_
  refine pl_new (kap := kap_11) (k := 99) (ci := 0) (fs := [.null, .null, .null, .null, .null, .null, .int 0, .int 0]) (C := RX0) (T := TX0) (N := 8) hx hb hT iX0 tyX0 tyX0_ok hown (hT _ w180) (hT _ w79) (hT _ w5) hK hW hA rfl (fun j hj => by rcases (show j = 0 ∨ j = 1 ∨ j = 2 ∨ j = 3 ∨ j = 4 ∨ j = 5 ∨ j = 6 ∨ j = 7 by omega) with rfl | rfl | rfl | rfl | rfl | rfl | rfl | rfl <;> rfl) (Nat.le_of_ble_eq_true rfl) (Nat.le_of_ble_eq_true rfl) dX5_init_26 (fun q_16 H L_17 kap_18 S_19 hG hW => ?_)
  have hne_q_16 : h0 ≠ q_16 := hG.ne hT_h0.1
  have hne2_q_16 : q_1 ≠ q_16 := hG.ne hT_q_1.1
  have hTy := hG.ty hTy okc_99
  have hS_h0 := hG.at hT_h0.1 hS_h0
  have hS_q_1 := hG.at hT_q_1.1 hS_q_1
  have hT_h0 := hG.tk hT_h0
  have hT_q_1 := hG.tk hT_q_1
  have hT_q_6 := hG.tk hT_q_6
  have hnq_q_16 := fun (a : Nat) (h : a ∈ L) => EX_nq hEX hG.1 h
  have hSP := SP_gr hSP hG (STPQ_n (by decide))
  have hEX := EX_gr hEX hG
  have hT_q_16 := hG.new
  have hS_q_16 := hG.self
  have hU : ∀ a k, USP k → TK L_17 kap_18 a k → TK L kap a k ∨ (fun (a k : Nat) => False) a k := U_gr hU hG (fun _ _ h => False.elim h) (fun h => absurd h (by decide))
  refine W.widen (k := 9) (n := 290) (Nat.le_of_ble_eq_true rfl) (Nat.le_of_ble_eq_true rfl) ?_
  refine lv_dup hx hb dX5_init_29 rfl ?_
  refine pl_callk (va_runI (As := []) (rest := [.ref q_16, .int 1, .ref q_1]) ⟨hx, hb, hml, hown, hT⟩ (n_Book46 l dC dI cy L_17 kap_18 S_19 H.size q_16 hTy hSP hT_q_16 hS_q_16) (cwI 0 hT (gT w82) rfl rfl rfl (hT _ w5) (hT _ w182) (hT _ w81) rfl (by decide +kernel) ⟨(Nat.le_of_ble_eq_true rfl), (Nat.le_of_ble_eq_true rfl)⟩) ⟨pcN.blind, pcN.pre hW.1 hK hW.2.1 hN hO⟩ rfl rfl hl.1 rfl (lv_room (Nat.le_of_ble_eq_true rfl)) dX5_init_30 ⟨(Nat.le_of_ble_eq_true rfl), (Nat.le_of_ble_eq_true rfl)⟩) hW hA (fun L_20 kap_21 S_22 H locs hrel hW => ?_)
  obtain ⟨hTy, hSP, hEX1, hTq_, hU1⟩ := hrel
  have hS_h0 := ((hEX1.2 _ _ hT_h0 hne_q_16).2 rfl).trans hS_h0
  have hS_q_1 := ((hEX1.2 _ _ hT_q_1 hne2_q_16).2 rfl).trans hS_q_1
  have hT_h0 := (hEX1.2 _ _ hT_h0 hne_q_16).1
  have hT_q_1 := (hEX1.2 _ _ hT_q_1 hne2_q_16).1
  have hT_q_6 := (hEX1.2 _ _ hT_q_6 (fun z => absurd (hT_q_6.2.symm.trans ((congrArg kap_18 z).trans hT_q_16.2)) (by decide))).1
  have hEX := EX_tr hEX hEX1 hnq_q_16 hne_q_16
  have hU : ∀ a k, USP k → TK L_20 kap_21 a k → TK L kap a k ∨ (fun (a k : Nat) => False) a k := U_tr hU hU1 (fun _ _ h => False.elim h) (fun a k h => False.elim h)
  have hT_q_16 := hTq_
  refine W.widen (k := 15) (n := 554) (Nat.le_of_ble_eq_true rfl) (Nat.le_of_ble_eq_true rfl) ?_
  obtain ⟨x0_w_25, x1_w_25, x2_w_25, x3_w_25, x4_w_25, x5_w_25, x6_w_25, x7_w_25, hB_w_25, _, _, _, _, _, _, _⟩ := hTy.k46 hT_q_16
  refine pl_aast hx hb hK hW hT_q_1.1 hS_q_1 hT_q_16.1 hB_w_25 (by unfold vp_in; decide) dX5_init_33 (fun H locs f_24 S_23 ef_f_24 e1 hW => ?_)
  have hTy := hTy.up e1 hT_q_1 okc_99
  have hSP := SP_up hSP e1 hT_q_1 (STPQ_n (by decide))
  have hS_h0 := un9 e1 hne_q_1 hS_h0
  have hS_q_1 := us e1
  have hEX := EX_put hEX e1 (fun a h _ => hnq_q_1 a h)
  have hbk_0 : f_24 0 = some q_6 := by rw [ef_f_24]; exact hbk_0
  have hbk_1 : f_24 1 = some q_16 := by rw [ef_f_24]; rfl
  refine lv_iinc (v := 2) (lv' := [(1, .int 2), (0, .ref h0)]) hx hb dX5_init_34 hl (k := 0) rfl (by decide) (by decide) rfl (fun ls hl => ?_)
  refine lv_goto (tgt := 15) hx hb dX5_init_37 (by decide) ?_
  refine lv_iload_n hx hb dX5_init_15 rfl (lv_at hl 0 rfl) ?_
  refine lv_bipush (v := 10) hx hb dX5_init_16 (by decide) ?_
  refine lv_icmp_ge (tgt := 40) hx hb dX5_init_18 (by decide) (fun h => absurd h (by decide)) (fun _ => ?_)
  refine lv_aload_n hx hb dX5_init_21 rfl (lv_at hl 1 rfl) ?_
  refine pl_get (ci := 5) (v := .ref q_1) (C := RX5) (T := TX5) (N := 2) hx hb hT iX5 hown hK hW hT_h0.1 hS_h0 rfl 0 (by decide) w183 rfl dX5_init_22 ?_
  refine lv_iload_n hx hb dX5_init_25 rfl (lv_at hl 0 rfl) ?_
  refine pl_new (kap := kap_21) (k := 99) (ci := 0) (fs := [.null, .null, .null, .null, .null, .null, .int 0, .int 0]) (C := RX0) (T := TX0) (N := 8) hx hb hT iX0 tyX0 tyX0_ok hown (hT _ w180) (hT _ w79) (hT _ w5) hK hW hA rfl (fun j hj => by rcases (show j = 0 ∨ j = 1 ∨ j = 2 ∨ j = 3 ∨ j = 4 ∨ j = 5 ∨ j = 6 ∨ j = 7 by omega) with rfl | rfl | rfl | rfl | rfl | rfl | rfl | rfl <;> rfl) (Nat.le_of_ble_eq_true rfl) (Nat.le_of_ble_eq_true rfl) dX5_init_26 (fun q_26 H L_27 kap_28 S_29 hG hW => ?_)
  have hne_q_26 : h0 ≠ q_26 := hG.ne hT_h0.1
  have hne2_q_26 : q_1 ≠ q_26 := hG.ne hT_q_1.1
  have hTy := hG.ty hTy okc_99
  have hS_h0 := hG.at hT_h0.1 hS_h0
  have hS_q_1 := hG.at hT_q_1.1 hS_q_1
  have hT_h0 := hG.tk hT_h0
  have hT_q_1 := hG.tk hT_q_1
  have hT_q_6 := hG.tk hT_q_6
  have hT_q_16 := hG.tk hT_q_16
  have hnq_q_26 := fun (a : Nat) (h : a ∈ L) => EX_nq hEX hG.1 h
  have hSP := SP_gr hSP hG (STPQ_n (by decide))
  have hEX := EX_gr hEX hG
  have hT_q_26 := hG.new
  have hS_q_26 := hG.self
  have hU : ∀ a k, USP k → TK L_27 kap_28 a k → TK L kap a k ∨ (fun (a k : Nat) => False) a k := U_gr hU hG (fun _ _ h => False.elim h) (fun h => absurd h (by decide))
  refine W.widen (k := 16) (n := 562) (Nat.le_of_ble_eq_true rfl) (Nat.le_of_ble_eq_true rfl) ?_
  refine lv_dup hx hb dX5_init_29 rfl ?_
  refine pl_callk (va_runI (As := []) (rest := [.ref q_26, .int 2, .ref q_1]) ⟨hx, hb, hml, hown, hT⟩ (n_Book46 l dC dI cy L_27 kap_28 S_29 H.size q_26 hTy hSP hT_q_26 hS_q_26) (cwI 0 hT (gT w82) rfl rfl rfl (hT _ w5) (hT _ w182) (hT _ w81) rfl (by decide +kernel) ⟨(Nat.le_of_ble_eq_true rfl), (Nat.le_of_ble_eq_true rfl)⟩) ⟨pcN.blind, pcN.pre hW.1 hK hW.2.1 hN hO⟩ rfl rfl hl.1 rfl (lv_room (Nat.le_of_ble_eq_true rfl)) dX5_init_30 ⟨(Nat.le_of_ble_eq_true rfl), (Nat.le_of_ble_eq_true rfl)⟩) hW hA (fun L_30 kap_31 S_32 H locs hrel hW => ?_)
  obtain ⟨hTy, hSP, hEX1, hTq_, hU1⟩ := hrel
  have hS_h0 := ((hEX1.2 _ _ hT_h0 hne_q_26).2 rfl).trans hS_h0
  have hS_q_1 := ((hEX1.2 _ _ hT_q_1 hne2_q_26).2 rfl).trans hS_q_1
  have hT_h0 := (hEX1.2 _ _ hT_h0 hne_q_26).1
  have hT_q_1 := (hEX1.2 _ _ hT_q_1 hne2_q_26).1
  have hT_q_6 := (hEX1.2 _ _ hT_q_6 (fun z => absurd (hT_q_6.2.symm.trans ((congrArg kap_28 z).trans hT_q_26.2)) (by decide))).1
  have hT_q_16 := (hEX1.2 _ _ hT_q_16 (fun z => absurd (hT_q_16.2.symm.trans ((congrArg kap_28 z).trans hT_q_26.2)) (by decide))).1
  have hEX := EX_tr hEX hEX1 hnq_q_26 hne_q_26
  have hU : ∀ a k, USP k → TK L_30 kap_31 a k → TK L kap a k ∨ (fun (a k : Nat) => False) a k := U_tr hU hU1 (fun _ _ h => False.elim h) (fun a k h => False.elim h)
  have hT_q_26 := hTq_
  refine W.widen (k := 22) (n := 826) (Nat.le_of_ble_eq_true rfl) (Nat.le_of_ble_eq_true rfl) ?_
  obtain ⟨x0_w_35, x1_w_35, x2_w_35, x3_w_35, x4_w_35, x5_w_35, x6_w_35, x7_w_35, hB_w_35, _, _, _, _, _, _, _⟩ := hTy.k46 hT_q_26
  refine pl_aast hx hb hK hW hT_q_1.1 hS_q_1 hT_q_26.1 hB_w_35 (by unfold vp_in; decide) dX5_init_33 (fun H locs f_34 S_33 ef_f_34 e1 hW => ?_)
  have hTy := hTy.up e1 hT_q_1 okc_99
  have hSP := SP_up hSP e1 hT_q_1 (STPQ_n (by decide))
  have hS_h0 := un9 e1 hne_q_1 hS_h0
  have hS_q_1 := us e1
  have hEX := EX_put hEX e1 (fun a h _ => hnq_q_1 a h)
  have hbk_0 : f_34 0 = some q_6 := by rw [ef_f_34]; exact hbk_0
  have hbk_1 : f_34 1 = some q_16 := by rw [ef_f_34]; exact hbk_1
  have hbk_2 : f_34 2 = some q_26 := by rw [ef_f_34]; rfl
  refine lv_iinc (v := 3) (lv' := [(1, .int 3), (0, .ref h0)]) hx hb dX5_init_34 hl (k := 0) rfl (by decide) (by decide) rfl (fun ls hl => ?_)
  refine lv_goto (tgt := 15) hx hb dX5_init_37 (by decide) ?_
  refine lv_iload_n hx hb dX5_init_15 rfl (lv_at hl 0 rfl) ?_
  refine lv_bipush (v := 10) hx hb dX5_init_16 (by decide) ?_
  refine lv_icmp_ge (tgt := 40) hx hb dX5_init_18 (by decide) (fun h => absurd h (by decide)) (fun _ => ?_)
  refine lv_aload_n hx hb dX5_init_21 rfl (lv_at hl 1 rfl) ?_
  refine pl_get (ci := 5) (v := .ref q_1) (C := RX5) (T := TX5) (N := 2) hx hb hT iX5 hown hK hW hT_h0.1 hS_h0 rfl 0 (by decide) w183 rfl dX5_init_22 ?_
  refine lv_iload_n hx hb dX5_init_25 rfl (lv_at hl 0 rfl) ?_
  refine pl_new (kap := kap_31) (k := 99) (ci := 0) (fs := [.null, .null, .null, .null, .null, .null, .int 0, .int 0]) (C := RX0) (T := TX0) (N := 8) hx hb hT iX0 tyX0 tyX0_ok hown (hT _ w180) (hT _ w79) (hT _ w5) hK hW hA rfl (fun j hj => by rcases (show j = 0 ∨ j = 1 ∨ j = 2 ∨ j = 3 ∨ j = 4 ∨ j = 5 ∨ j = 6 ∨ j = 7 by omega) with rfl | rfl | rfl | rfl | rfl | rfl | rfl | rfl <;> rfl) (Nat.le_of_ble_eq_true rfl) (Nat.le_of_ble_eq_true rfl) dX5_init_26 (fun q_36 H L_37 kap_38 S_39 hG hW => ?_)
  have hne_q_36 : h0 ≠ q_36 := hG.ne hT_h0.1
  have hne2_q_36 : q_1 ≠ q_36 := hG.ne hT_q_1.1
  have hTy := hG.ty hTy okc_99
  have hS_h0 := hG.at hT_h0.1 hS_h0
  have hS_q_1 := hG.at hT_q_1.1 hS_q_1
  have hT_h0 := hG.tk hT_h0
  have hT_q_1 := hG.tk hT_q_1
  have hT_q_6 := hG.tk hT_q_6
  have hT_q_16 := hG.tk hT_q_16
  have hT_q_26 := hG.tk hT_q_26
  have hnq_q_36 := fun (a : Nat) (h : a ∈ L) => EX_nq hEX hG.1 h
  have hSP := SP_gr hSP hG (STPQ_n (by decide))
  have hEX := EX_gr hEX hG
  have hT_q_36 := hG.new
  have hS_q_36 := hG.self
  have hU : ∀ a k, USP k → TK L_37 kap_38 a k → TK L kap a k ∨ (fun (a k : Nat) => False) a k := U_gr hU hG (fun _ _ h => False.elim h) (fun h => absurd h (by decide))
  refine W.widen (k := 23) (n := 834) (Nat.le_of_ble_eq_true rfl) (Nat.le_of_ble_eq_true rfl) ?_
  refine lv_dup hx hb dX5_init_29 rfl ?_
  refine pl_callk (va_runI (As := []) (rest := [.ref q_36, .int 3, .ref q_1]) ⟨hx, hb, hml, hown, hT⟩ (n_Book46 l dC dI cy L_37 kap_38 S_39 H.size q_36 hTy hSP hT_q_36 hS_q_36) (cwI 0 hT (gT w82) rfl rfl rfl (hT _ w5) (hT _ w182) (hT _ w81) rfl (by decide +kernel) ⟨(Nat.le_of_ble_eq_true rfl), (Nat.le_of_ble_eq_true rfl)⟩) ⟨pcN.blind, pcN.pre hW.1 hK hW.2.1 hN hO⟩ rfl rfl hl.1 rfl (lv_room (Nat.le_of_ble_eq_true rfl)) dX5_init_30 ⟨(Nat.le_of_ble_eq_true rfl), (Nat.le_of_ble_eq_true rfl)⟩) hW hA (fun L_40 kap_41 S_42 H locs hrel hW => ?_)
  obtain ⟨hTy, hSP, hEX1, hTq_, hU1⟩ := hrel
  have hS_h0 := ((hEX1.2 _ _ hT_h0 hne_q_36).2 rfl).trans hS_h0
  have hS_q_1 := ((hEX1.2 _ _ hT_q_1 hne2_q_36).2 rfl).trans hS_q_1
  have hT_h0 := (hEX1.2 _ _ hT_h0 hne_q_36).1
  have hT_q_1 := (hEX1.2 _ _ hT_q_1 hne2_q_36).1
  have hT_q_6 := (hEX1.2 _ _ hT_q_6 (fun z => absurd (hT_q_6.2.symm.trans ((congrArg kap_38 z).trans hT_q_36.2)) (by decide))).1
  have hT_q_16 := (hEX1.2 _ _ hT_q_16 (fun z => absurd (hT_q_16.2.symm.trans ((congrArg kap_38 z).trans hT_q_36.2)) (by decide))).1
  have hT_q_26 := (hEX1.2 _ _ hT_q_26 (fun z => absurd (hT_q_26.2.symm.trans ((congrArg kap_38 z).trans hT_q_36.2)) (by decide))).1
  have hEX := EX_tr hEX hEX1 hnq_q_36 hne_q_36
  have hU : ∀ a k, USP k → TK L_40 kap_41 a k → TK L kap a k ∨ (fun (a k : Nat) => False) a k := U_tr hU hU1 (fun _ _ h => False.elim h) (fun a k h => False.elim h)
  have hT_q_36 := hTq_
  refine W.widen (k := 29) (n := 1098) (Nat.le_of_ble_eq_true rfl) (Nat.le_of_ble_eq_true rfl) ?_
  obtain ⟨x0_w_45, x1_w_45, x2_w_45, x3_w_45, x4_w_45, x5_w_45, x6_w_45, x7_w_45, hB_w_45, _, _, _, _, _, _, _⟩ := hTy.k46 hT_q_36
  refine pl_aast hx hb hK hW hT_q_1.1 hS_q_1 hT_q_36.1 hB_w_45 (by unfold vp_in; decide) dX5_init_33 (fun H locs f_44 S_43 ef_f_44 e1 hW => ?_)
  have hTy := hTy.up e1 hT_q_1 okc_99
  have hSP := SP_up hSP e1 hT_q_1 (STPQ_n (by decide))
  have hS_h0 := un9 e1 hne_q_1 hS_h0
  have hS_q_1 := us e1
  have hEX := EX_put hEX e1 (fun a h _ => hnq_q_1 a h)
  have hbk_0 : f_44 0 = some q_6 := by rw [ef_f_44]; exact hbk_0
  have hbk_1 : f_44 1 = some q_16 := by rw [ef_f_44]; exact hbk_1
  have hbk_2 : f_44 2 = some q_26 := by rw [ef_f_44]; exact hbk_2
  have hbk_3 : f_44 3 = some q_36 := by rw [ef_f_44]; rfl
  refine lv_iinc (v := 4) (lv' := [(1, .int 4), (0, .ref h0)]) hx hb dX5_init_34 hl (k := 0) rfl (by decide) (by decide) rfl (fun ls hl => ?_)
  refine lv_goto (tgt := 15) hx hb dX5_init_37 (by decide) ?_
  refine lv_iload_n hx hb dX5_init_15 rfl (lv_at hl 0 rfl) ?_
  refine lv_bipush (v := 10) hx hb dX5_init_16 (by decide) ?_
  refine lv_icmp_ge (tgt := 40) hx hb dX5_init_18 (by decide) (fun h => absurd h (by decide)) (fun _ => ?_)
  refine lv_aload_n hx hb dX5_init_21 rfl (lv_at hl 1 rfl) ?_
  refine pl_get (ci := 5) (v := .ref q_1) (C := RX5) (T := TX5) (N := 2) hx hb hT iX5 hown hK hW hT_h0.1 hS_h0 rfl 0 (by decide) w183 rfl dX5_init_22 ?_
  refine lv_iload_n hx hb dX5_init_25 rfl (lv_at hl 0 rfl) ?_
  refine pl_new (kap := kap_41) (k := 99) (ci := 0) (fs := [.null, .null, .null, .null, .null, .null, .int 0, .int 0]) (C := RX0) (T := TX0) (N := 8) hx hb hT iX0 tyX0 tyX0_ok hown (hT _ w180) (hT _ w79) (hT _ w5) hK hW hA rfl (fun j hj => by rcases (show j = 0 ∨ j = 1 ∨ j = 2 ∨ j = 3 ∨ j = 4 ∨ j = 5 ∨ j = 6 ∨ j = 7 by omega) with rfl | rfl | rfl | rfl | rfl | rfl | rfl | rfl <;> rfl) (Nat.le_of_ble_eq_true rfl) (Nat.le_of_ble_eq_true rfl) dX5_init_26 (fun q_46 H L_47 kap_48 S_49 hG hW => ?_)
  have hne_q_46 : h0 ≠ q_46 := hG.ne hT_h0.1
  have hne2_q_46 : q_1 ≠ q_46 := hG.ne hT_q_1.1
  have hTy := hG.ty hTy okc_99
  have hS_h0 := hG.at hT_h0.1 hS_h0
  have hS_q_1 := hG.at hT_q_1.1 hS_q_1
  have hT_h0 := hG.tk hT_h0
  have hT_q_1 := hG.tk hT_q_1
  have hT_q_6 := hG.tk hT_q_6
  have hT_q_16 := hG.tk hT_q_16
  have hT_q_26 := hG.tk hT_q_26
  have hT_q_36 := hG.tk hT_q_36
  have hnq_q_46 := fun (a : Nat) (h : a ∈ L) => EX_nq hEX hG.1 h
  have hSP := SP_gr hSP hG (STPQ_n (by decide))
  have hEX := EX_gr hEX hG
  have hT_q_46 := hG.new
  have hS_q_46 := hG.self
  have hU : ∀ a k, USP k → TK L_47 kap_48 a k → TK L kap a k ∨ (fun (a k : Nat) => False) a k := U_gr hU hG (fun _ _ h => False.elim h) (fun h => absurd h (by decide))
  refine W.widen (k := 30) (n := 1106) (Nat.le_of_ble_eq_true rfl) (Nat.le_of_ble_eq_true rfl) ?_
  refine lv_dup hx hb dX5_init_29 rfl ?_
  refine pl_callk (va_runI (As := []) (rest := [.ref q_46, .int 4, .ref q_1]) ⟨hx, hb, hml, hown, hT⟩ (n_Book46 l dC dI cy L_47 kap_48 S_49 H.size q_46 hTy hSP hT_q_46 hS_q_46) (cwI 0 hT (gT w82) rfl rfl rfl (hT _ w5) (hT _ w182) (hT _ w81) rfl (by decide +kernel) ⟨(Nat.le_of_ble_eq_true rfl), (Nat.le_of_ble_eq_true rfl)⟩) ⟨pcN.blind, pcN.pre hW.1 hK hW.2.1 hN hO⟩ rfl rfl hl.1 rfl (lv_room (Nat.le_of_ble_eq_true rfl)) dX5_init_30 ⟨(Nat.le_of_ble_eq_true rfl), (Nat.le_of_ble_eq_true rfl)⟩) hW hA (fun L_50 kap_51 S_52 H locs hrel hW => ?_)
  obtain ⟨hTy, hSP, hEX1, hTq_, hU1⟩ := hrel
  have hS_h0 := ((hEX1.2 _ _ hT_h0 hne_q_46).2 rfl).trans hS_h0
  have hS_q_1 := ((hEX1.2 _ _ hT_q_1 hne2_q_46).2 rfl).trans hS_q_1
  have hT_h0 := (hEX1.2 _ _ hT_h0 hne_q_46).1
  have hT_q_1 := (hEX1.2 _ _ hT_q_1 hne2_q_46).1
  have hT_q_6 := (hEX1.2 _ _ hT_q_6 (fun z => absurd (hT_q_6.2.symm.trans ((congrArg kap_48 z).trans hT_q_46.2)) (by decide))).1
  have hT_q_16 := (hEX1.2 _ _ hT_q_16 (fun z => absurd (hT_q_16.2.symm.trans ((congrArg kap_48 z).trans hT_q_46.2)) (by decide))).1
  have hT_q_26 := (hEX1.2 _ _ hT_q_26 (fun z => absurd (hT_q_26.2.symm.trans ((congrArg kap_48 z).trans hT_q_46.2)) (by decide))).1
  have hT_q_36 := (hEX1.2 _ _ hT_q_36 (fun z => absurd (hT_q_36.2.symm.trans ((congrArg kap_48 z).trans hT_q_46.2)) (by decide))).1
  have hEX := EX_tr hEX hEX1 hnq_q_46 hne_q_46
  have hU : ∀ a k, USP k → TK L_50 kap_51 a k → TK L kap a k ∨ (fun (a k : Nat) => False) a k := U_tr hU hU1 (fun _ _ h => False.elim h) (fun a k h => False.elim h)
  have hT_q_46 := hTq_
  refine W.widen (k := 36) (n := 1370) (Nat.le_of_ble_eq_true rfl) (Nat.le_of_ble_eq_true rfl) ?_
  obtain ⟨x0_w_55, x1_w_55, x2_w_55, x3_w_55, x4_w_55, x5_w_55, x6_w_55, x7_w_55, hB_w_55, _, _, _, _, _, _, _⟩ := hTy.k46 hT_q_46
  refine pl_aast hx hb hK hW hT_q_1.1 hS_q_1 hT_q_46.1 hB_w_55 (by unfold vp_in; decide) dX5_init_33 (fun H locs f_54 S_53 ef_f_54 e1 hW => ?_)
  have hTy := hTy.up e1 hT_q_1 okc_99
  have hSP := SP_up hSP e1 hT_q_1 (STPQ_n (by decide))
  have hS_h0 := un9 e1 hne_q_1 hS_h0
  have hS_q_1 := us e1
  have hEX := EX_put hEX e1 (fun a h _ => hnq_q_1 a h)
  have hbk_0 : f_54 0 = some q_6 := by rw [ef_f_54]; exact hbk_0
  have hbk_1 : f_54 1 = some q_16 := by rw [ef_f_54]; exact hbk_1
  have hbk_2 : f_54 2 = some q_26 := by rw [ef_f_54]; exact hbk_2
  have hbk_3 : f_54 3 = some q_36 := by rw [ef_f_54]; exact hbk_3
  have hbk_4 : f_54 4 = some q_46 := by rw [ef_f_54]; rfl
  refine lv_iinc (v := 5) (lv' := [(1, .int 5), (0, .ref h0)]) hx hb dX5_init_34 hl (k := 0) rfl (by decide) (by decide) rfl (fun ls hl => ?_)
  refine lv_goto (tgt := 15) hx hb dX5_init_37 (by decide) ?_
  refine lv_iload_n hx hb dX5_init_15 rfl (lv_at hl 0 rfl) ?_
  refine lv_bipush (v := 10) hx hb dX5_init_16 (by decide) ?_
  refine lv_icmp_ge (tgt := 40) hx hb dX5_init_18 (by decide) (fun h => absurd h (by decide)) (fun _ => ?_)
  refine lv_aload_n hx hb dX5_init_21 rfl (lv_at hl 1 rfl) ?_
  refine pl_get (ci := 5) (v := .ref q_1) (C := RX5) (T := TX5) (N := 2) hx hb hT iX5 hown hK hW hT_h0.1 hS_h0 rfl 0 (by decide) w183 rfl dX5_init_22 ?_
  refine lv_iload_n hx hb dX5_init_25 rfl (lv_at hl 0 rfl) ?_
  refine pl_new (kap := kap_51) (k := 99) (ci := 0) (fs := [.null, .null, .null, .null, .null, .null, .int 0, .int 0]) (C := RX0) (T := TX0) (N := 8) hx hb hT iX0 tyX0 tyX0_ok hown (hT _ w180) (hT _ w79) (hT _ w5) hK hW hA rfl (fun j hj => by rcases (show j = 0 ∨ j = 1 ∨ j = 2 ∨ j = 3 ∨ j = 4 ∨ j = 5 ∨ j = 6 ∨ j = 7 by omega) with rfl | rfl | rfl | rfl | rfl | rfl | rfl | rfl <;> rfl) (Nat.le_of_ble_eq_true rfl) (Nat.le_of_ble_eq_true rfl) dX5_init_26 (fun q_56 H L_57 kap_58 S_59 hG hW => ?_)
  have hne_q_56 : h0 ≠ q_56 := hG.ne hT_h0.1
  have hne2_q_56 : q_1 ≠ q_56 := hG.ne hT_q_1.1
  have hTy := hG.ty hTy okc_99
  have hS_h0 := hG.at hT_h0.1 hS_h0
  have hS_q_1 := hG.at hT_q_1.1 hS_q_1
  have hT_h0 := hG.tk hT_h0
  have hT_q_1 := hG.tk hT_q_1
  have hT_q_6 := hG.tk hT_q_6
  have hT_q_16 := hG.tk hT_q_16
  have hT_q_26 := hG.tk hT_q_26
  have hT_q_36 := hG.tk hT_q_36
  have hT_q_46 := hG.tk hT_q_46
  have hnq_q_56 := fun (a : Nat) (h : a ∈ L) => EX_nq hEX hG.1 h
  have hSP := SP_gr hSP hG (STPQ_n (by decide))
  have hEX := EX_gr hEX hG
  have hT_q_56 := hG.new
  have hS_q_56 := hG.self
  have hU : ∀ a k, USP k → TK L_57 kap_58 a k → TK L kap a k ∨ (fun (a k : Nat) => False) a k := U_gr hU hG (fun _ _ h => False.elim h) (fun h => absurd h (by decide))
  refine W.widen (k := 37) (n := 1378) (Nat.le_of_ble_eq_true rfl) (Nat.le_of_ble_eq_true rfl) ?_
  refine lv_dup hx hb dX5_init_29 rfl ?_
  refine pl_callk (va_runI (As := []) (rest := [.ref q_56, .int 5, .ref q_1]) ⟨hx, hb, hml, hown, hT⟩ (n_Book46 l dC dI cy L_57 kap_58 S_59 H.size q_56 hTy hSP hT_q_56 hS_q_56) (cwI 0 hT (gT w82) rfl rfl rfl (hT _ w5) (hT _ w182) (hT _ w81) rfl (by decide +kernel) ⟨(Nat.le_of_ble_eq_true rfl), (Nat.le_of_ble_eq_true rfl)⟩) ⟨pcN.blind, pcN.pre hW.1 hK hW.2.1 hN hO⟩ rfl rfl hl.1 rfl (lv_room (Nat.le_of_ble_eq_true rfl)) dX5_init_30 ⟨(Nat.le_of_ble_eq_true rfl), (Nat.le_of_ble_eq_true rfl)⟩) hW hA (fun L_60 kap_61 S_62 H locs hrel hW => ?_)
  obtain ⟨hTy, hSP, hEX1, hTq_, hU1⟩ := hrel
  have hS_h0 := ((hEX1.2 _ _ hT_h0 hne_q_56).2 rfl).trans hS_h0
  have hS_q_1 := ((hEX1.2 _ _ hT_q_1 hne2_q_56).2 rfl).trans hS_q_1
  have hT_h0 := (hEX1.2 _ _ hT_h0 hne_q_56).1
  have hT_q_1 := (hEX1.2 _ _ hT_q_1 hne2_q_56).1
  have hT_q_6 := (hEX1.2 _ _ hT_q_6 (fun z => absurd (hT_q_6.2.symm.trans ((congrArg kap_58 z).trans hT_q_56.2)) (by decide))).1
  have hT_q_16 := (hEX1.2 _ _ hT_q_16 (fun z => absurd (hT_q_16.2.symm.trans ((congrArg kap_58 z).trans hT_q_56.2)) (by decide))).1
  have hT_q_26 := (hEX1.2 _ _ hT_q_26 (fun z => absurd (hT_q_26.2.symm.trans ((congrArg kap_58 z).trans hT_q_56.2)) (by decide))).1
  have hT_q_36 := (hEX1.2 _ _ hT_q_36 (fun z => absurd (hT_q_36.2.symm.trans ((congrArg kap_58 z).trans hT_q_56.2)) (by decide))).1
  have hT_q_46 := (hEX1.2 _ _ hT_q_46 (fun z => absurd (hT_q_46.2.symm.trans ((congrArg kap_58 z).trans hT_q_56.2)) (by decide))).1
  have hEX := EX_tr hEX hEX1 hnq_q_56 hne_q_56
  have hU : ∀ a k, USP k → TK L_60 kap_61 a k → TK L kap a k ∨ (fun (a k : Nat) => False) a k := U_tr hU hU1 (fun _ _ h => False.elim h) (fun a k h => False.elim h)
  have hT_q_56 := hTq_
  refine W.widen (k := 43) (n := 1642) (Nat.le_of_ble_eq_true rfl) (Nat.le_of_ble_eq_true rfl) ?_
  obtain ⟨x0_w_65, x1_w_65, x2_w_65, x3_w_65, x4_w_65, x5_w_65, x6_w_65, x7_w_65, hB_w_65, _, _, _, _, _, _, _⟩ := hTy.k46 hT_q_56
  refine pl_aast hx hb hK hW hT_q_1.1 hS_q_1 hT_q_56.1 hB_w_65 (by unfold vp_in; decide) dX5_init_33 (fun H locs f_64 S_63 ef_f_64 e1 hW => ?_)
  have hTy := hTy.up e1 hT_q_1 okc_99
  have hSP := SP_up hSP e1 hT_q_1 (STPQ_n (by decide))
  have hS_h0 := un9 e1 hne_q_1 hS_h0
  have hS_q_1 := us e1
  have hEX := EX_put hEX e1 (fun a h _ => hnq_q_1 a h)
  have hbk_0 : f_64 0 = some q_6 := by rw [ef_f_64]; exact hbk_0
  have hbk_1 : f_64 1 = some q_16 := by rw [ef_f_64]; exact hbk_1
  have hbk_2 : f_64 2 = some q_26 := by rw [ef_f_64]; exact hbk_2
  have hbk_3 : f_64 3 = some q_36 := by rw [ef_f_64]; exact hbk_3
  have hbk_4 : f_64 4 = some q_46 := by rw [ef_f_64]; exact hbk_4
  have hbk_5 : f_64 5 = some q_56 := by rw [ef_f_64]; rfl
  refine lv_iinc (v := 6) (lv' := [(1, .int 6), (0, .ref h0)]) hx hb dX5_init_34 hl (k := 0) rfl (by decide) (by decide) rfl (fun ls hl => ?_)
  refine lv_goto (tgt := 15) hx hb dX5_init_37 (by decide) ?_
  refine lv_iload_n hx hb dX5_init_15 rfl (lv_at hl 0 rfl) ?_
  refine lv_bipush (v := 10) hx hb dX5_init_16 (by decide) ?_
  refine lv_icmp_ge (tgt := 40) hx hb dX5_init_18 (by decide) (fun h => absurd h (by decide)) (fun _ => ?_)
  refine lv_aload_n hx hb dX5_init_21 rfl (lv_at hl 1 rfl) ?_
  refine pl_get (ci := 5) (v := .ref q_1) (C := RX5) (T := TX5) (N := 2) hx hb hT iX5 hown hK hW hT_h0.1 hS_h0 rfl 0 (by decide) w183 rfl dX5_init_22 ?_
  refine lv_iload_n hx hb dX5_init_25 rfl (lv_at hl 0 rfl) ?_
  refine pl_new (kap := kap_61) (k := 99) (ci := 0) (fs := [.null, .null, .null, .null, .null, .null, .int 0, .int 0]) (C := RX0) (T := TX0) (N := 8) hx hb hT iX0 tyX0 tyX0_ok hown (hT _ w180) (hT _ w79) (hT _ w5) hK hW hA rfl (fun j hj => by rcases (show j = 0 ∨ j = 1 ∨ j = 2 ∨ j = 3 ∨ j = 4 ∨ j = 5 ∨ j = 6 ∨ j = 7 by omega) with rfl | rfl | rfl | rfl | rfl | rfl | rfl | rfl <;> rfl) (Nat.le_of_ble_eq_true rfl) (Nat.le_of_ble_eq_true rfl) dX5_init_26 (fun q_66 H L_67 kap_68 S_69 hG hW => ?_)
  have hne_q_66 : h0 ≠ q_66 := hG.ne hT_h0.1
  have hne2_q_66 : q_1 ≠ q_66 := hG.ne hT_q_1.1
  have hTy := hG.ty hTy okc_99
  have hS_h0 := hG.at hT_h0.1 hS_h0
  have hS_q_1 := hG.at hT_q_1.1 hS_q_1
  have hT_h0 := hG.tk hT_h0
  have hT_q_1 := hG.tk hT_q_1
  have hT_q_6 := hG.tk hT_q_6
  have hT_q_16 := hG.tk hT_q_16
  have hT_q_26 := hG.tk hT_q_26
  have hT_q_36 := hG.tk hT_q_36
  have hT_q_46 := hG.tk hT_q_46
  have hT_q_56 := hG.tk hT_q_56
  have hnq_q_66 := fun (a : Nat) (h : a ∈ L) => EX_nq hEX hG.1 h
  have hSP := SP_gr hSP hG (STPQ_n (by decide))
  have hEX := EX_gr hEX hG
  have hT_q_66 := hG.new
  have hS_q_66 := hG.self
  have hU : ∀ a k, USP k → TK L_67 kap_68 a k → TK L kap a k ∨ (fun (a k : Nat) => False) a k := U_gr hU hG (fun _ _ h => False.elim h) (fun h => absurd h (by decide))
  refine W.widen (k := 44) (n := 1650) (Nat.le_of_ble_eq_true rfl) (Nat.le_of_ble_eq_true rfl) ?_
  refine lv_dup hx hb dX5_init_29 rfl ?_
  refine pl_callk (va_runI (As := []) (rest := [.ref q_66, .int 6, .ref q_1]) ⟨hx, hb, hml, hown, hT⟩ (n_Book46 l dC dI cy L_67 kap_68 S_69 H.size q_66 hTy hSP hT_q_66 hS_q_66) (cwI 0 hT (gT w82) rfl rfl rfl (hT _ w5) (hT _ w182) (hT _ w81) rfl (by decide +kernel) ⟨(Nat.le_of_ble_eq_true rfl), (Nat.le_of_ble_eq_true rfl)⟩) ⟨pcN.blind, pcN.pre hW.1 hK hW.2.1 hN hO⟩ rfl rfl hl.1 rfl (lv_room (Nat.le_of_ble_eq_true rfl)) dX5_init_30 ⟨(Nat.le_of_ble_eq_true rfl), (Nat.le_of_ble_eq_true rfl)⟩) hW hA (fun L_70 kap_71 S_72 H locs hrel hW => ?_)
  obtain ⟨hTy, hSP, hEX1, hTq_, hU1⟩ := hrel
  have hS_h0 := ((hEX1.2 _ _ hT_h0 hne_q_66).2 rfl).trans hS_h0
  have hS_q_1 := ((hEX1.2 _ _ hT_q_1 hne2_q_66).2 rfl).trans hS_q_1
  have hT_h0 := (hEX1.2 _ _ hT_h0 hne_q_66).1
  have hT_q_1 := (hEX1.2 _ _ hT_q_1 hne2_q_66).1
  have hT_q_6 := (hEX1.2 _ _ hT_q_6 (fun z => absurd (hT_q_6.2.symm.trans ((congrArg kap_68 z).trans hT_q_66.2)) (by decide))).1
  have hT_q_16 := (hEX1.2 _ _ hT_q_16 (fun z => absurd (hT_q_16.2.symm.trans ((congrArg kap_68 z).trans hT_q_66.2)) (by decide))).1
  have hT_q_26 := (hEX1.2 _ _ hT_q_26 (fun z => absurd (hT_q_26.2.symm.trans ((congrArg kap_68 z).trans hT_q_66.2)) (by decide))).1
  have hT_q_36 := (hEX1.2 _ _ hT_q_36 (fun z => absurd (hT_q_36.2.symm.trans ((congrArg kap_68 z).trans hT_q_66.2)) (by decide))).1
  have hT_q_46 := (hEX1.2 _ _ hT_q_46 (fun z => absurd (hT_q_46.2.symm.trans ((congrArg kap_68 z).trans hT_q_66.2)) (by decide))).1
  have hT_q_56 := (hEX1.2 _ _ hT_q_56 (fun z => absurd (hT_q_56.2.symm.trans ((congrArg kap_68 z).trans hT_q_66.2)) (by decide))).1
  have hEX := EX_tr hEX hEX1 hnq_q_66 hne_q_66
  have hU : ∀ a k, USP k → TK L_70 kap_71 a k → TK L kap a k ∨ (fun (a k : Nat) => False) a k := U_tr hU hU1 (fun _ _ h => False.elim h) (fun a k h => False.elim h)
  have hT_q_66 := hTq_
  refine W.widen (k := 50) (n := 1914) (Nat.le_of_ble_eq_true rfl) (Nat.le_of_ble_eq_true rfl) ?_
  obtain ⟨x0_w_75, x1_w_75, x2_w_75, x3_w_75, x4_w_75, x5_w_75, x6_w_75, x7_w_75, hB_w_75, _, _, _, _, _, _, _⟩ := hTy.k46 hT_q_66
  refine pl_aast hx hb hK hW hT_q_1.1 hS_q_1 hT_q_66.1 hB_w_75 (by unfold vp_in; decide) dX5_init_33 (fun H locs f_74 S_73 ef_f_74 e1 hW => ?_)
  have hTy := hTy.up e1 hT_q_1 okc_99
  have hSP := SP_up hSP e1 hT_q_1 (STPQ_n (by decide))
  have hS_h0 := un9 e1 hne_q_1 hS_h0
  have hS_q_1 := us e1
  have hEX := EX_put hEX e1 (fun a h _ => hnq_q_1 a h)
  have hbk_0 : f_74 0 = some q_6 := by rw [ef_f_74]; exact hbk_0
  have hbk_1 : f_74 1 = some q_16 := by rw [ef_f_74]; exact hbk_1
  have hbk_2 : f_74 2 = some q_26 := by rw [ef_f_74]; exact hbk_2
  have hbk_3 : f_74 3 = some q_36 := by rw [ef_f_74]; exact hbk_3
  have hbk_4 : f_74 4 = some q_46 := by rw [ef_f_74]; exact hbk_4
  have hbk_5 : f_74 5 = some q_56 := by rw [ef_f_74]; exact hbk_5
  have hbk_6 : f_74 6 = some q_66 := by rw [ef_f_74]; rfl
  refine lv_iinc (v := 7) (lv' := [(1, .int 7), (0, .ref h0)]) hx hb dX5_init_34 hl (k := 0) rfl (by decide) (by decide) rfl (fun ls hl => ?_)
  refine lv_goto (tgt := 15) hx hb dX5_init_37 (by decide) ?_
  refine lv_iload_n hx hb dX5_init_15 rfl (lv_at hl 0 rfl) ?_
  refine lv_bipush (v := 10) hx hb dX5_init_16 (by decide) ?_
  refine lv_icmp_ge (tgt := 40) hx hb dX5_init_18 (by decide) (fun h => absurd h (by decide)) (fun _ => ?_)
  refine lv_aload_n hx hb dX5_init_21 rfl (lv_at hl 1 rfl) ?_
  refine pl_get (ci := 5) (v := .ref q_1) (C := RX5) (T := TX5) (N := 2) hx hb hT iX5 hown hK hW hT_h0.1 hS_h0 rfl 0 (by decide) w183 rfl dX5_init_22 ?_
  refine lv_iload_n hx hb dX5_init_25 rfl (lv_at hl 0 rfl) ?_
  refine pl_new (kap := kap_71) (k := 99) (ci := 0) (fs := [.null, .null, .null, .null, .null, .null, .int 0, .int 0]) (C := RX0) (T := TX0) (N := 8) hx hb hT iX0 tyX0 tyX0_ok hown (hT _ w180) (hT _ w79) (hT _ w5) hK hW hA rfl (fun j hj => by rcases (show j = 0 ∨ j = 1 ∨ j = 2 ∨ j = 3 ∨ j = 4 ∨ j = 5 ∨ j = 6 ∨ j = 7 by omega) with rfl | rfl | rfl | rfl | rfl | rfl | rfl | rfl <;> rfl) (Nat.le_of_ble_eq_true rfl) (Nat.le_of_ble_eq_true rfl) dX5_init_26 (fun q_76 H L_77 kap_78 S_79 hG hW => ?_)
  have hne_q_76 : h0 ≠ q_76 := hG.ne hT_h0.1
  have hne2_q_76 : q_1 ≠ q_76 := hG.ne hT_q_1.1
  have hTy := hG.ty hTy okc_99
  have hS_h0 := hG.at hT_h0.1 hS_h0
  have hS_q_1 := hG.at hT_q_1.1 hS_q_1
  have hT_h0 := hG.tk hT_h0
  have hT_q_1 := hG.tk hT_q_1
  have hT_q_6 := hG.tk hT_q_6
  have hT_q_16 := hG.tk hT_q_16
  have hT_q_26 := hG.tk hT_q_26
  have hT_q_36 := hG.tk hT_q_36
  have hT_q_46 := hG.tk hT_q_46
  have hT_q_56 := hG.tk hT_q_56
  have hT_q_66 := hG.tk hT_q_66
  have hnq_q_76 := fun (a : Nat) (h : a ∈ L) => EX_nq hEX hG.1 h
  have hSP := SP_gr hSP hG (STPQ_n (by decide))
  have hEX := EX_gr hEX hG
  have hT_q_76 := hG.new
  have hS_q_76 := hG.self
  have hU : ∀ a k, USP k → TK L_77 kap_78 a k → TK L kap a k ∨ (fun (a k : Nat) => False) a k := U_gr hU hG (fun _ _ h => False.elim h) (fun h => absurd h (by decide))
  refine W.widen (k := 51) (n := 1922) (Nat.le_of_ble_eq_true rfl) (Nat.le_of_ble_eq_true rfl) ?_
  refine lv_dup hx hb dX5_init_29 rfl ?_
  refine pl_callk (va_runI (As := []) (rest := [.ref q_76, .int 7, .ref q_1]) ⟨hx, hb, hml, hown, hT⟩ (n_Book46 l dC dI cy L_77 kap_78 S_79 H.size q_76 hTy hSP hT_q_76 hS_q_76) (cwI 0 hT (gT w82) rfl rfl rfl (hT _ w5) (hT _ w182) (hT _ w81) rfl (by decide +kernel) ⟨(Nat.le_of_ble_eq_true rfl), (Nat.le_of_ble_eq_true rfl)⟩) ⟨pcN.blind, pcN.pre hW.1 hK hW.2.1 hN hO⟩ rfl rfl hl.1 rfl (lv_room (Nat.le_of_ble_eq_true rfl)) dX5_init_30 ⟨(Nat.le_of_ble_eq_true rfl), (Nat.le_of_ble_eq_true rfl)⟩) hW hA (fun L_80 kap_81 S_82 H locs hrel hW => ?_)
  obtain ⟨hTy, hSP, hEX1, hTq_, hU1⟩ := hrel
  have hS_h0 := ((hEX1.2 _ _ hT_h0 hne_q_76).2 rfl).trans hS_h0
  have hS_q_1 := ((hEX1.2 _ _ hT_q_1 hne2_q_76).2 rfl).trans hS_q_1
  have hT_h0 := (hEX1.2 _ _ hT_h0 hne_q_76).1
  have hT_q_1 := (hEX1.2 _ _ hT_q_1 hne2_q_76).1
  have hT_q_6 := (hEX1.2 _ _ hT_q_6 (fun z => absurd (hT_q_6.2.symm.trans ((congrArg kap_78 z).trans hT_q_76.2)) (by decide))).1
  have hT_q_16 := (hEX1.2 _ _ hT_q_16 (fun z => absurd (hT_q_16.2.symm.trans ((congrArg kap_78 z).trans hT_q_76.2)) (by decide))).1
  have hT_q_26 := (hEX1.2 _ _ hT_q_26 (fun z => absurd (hT_q_26.2.symm.trans ((congrArg kap_78 z).trans hT_q_76.2)) (by decide))).1
  have hT_q_36 := (hEX1.2 _ _ hT_q_36 (fun z => absurd (hT_q_36.2.symm.trans ((congrArg kap_78 z).trans hT_q_76.2)) (by decide))).1
  have hT_q_46 := (hEX1.2 _ _ hT_q_46 (fun z => absurd (hT_q_46.2.symm.trans ((congrArg kap_78 z).trans hT_q_76.2)) (by decide))).1
  have hT_q_56 := (hEX1.2 _ _ hT_q_56 (fun z => absurd (hT_q_56.2.symm.trans ((congrArg kap_78 z).trans hT_q_76.2)) (by decide))).1
  have hT_q_66 := (hEX1.2 _ _ hT_q_66 (fun z => absurd (hT_q_66.2.symm.trans ((congrArg kap_78 z).trans hT_q_76.2)) (by decide))).1
  have hEX := EX_tr hEX hEX1 hnq_q_76 hne_q_76
  have hU : ∀ a k, USP k → TK L_80 kap_81 a k → TK L kap a k ∨ (fun (a k : Nat) => False) a k := U_tr hU hU1 (fun _ _ h => False.elim h) (fun a k h => False.elim h)
  have hT_q_76 := hTq_
  refine W.widen (k := 57) (n := 2186) (Nat.le_of_ble_eq_true rfl) (Nat.le_of_ble_eq_true rfl) ?_
  obtain ⟨x0_w_85, x1_w_85, x2_w_85, x3_w_85, x4_w_85, x5_w_85, x6_w_85, x7_w_85, hB_w_85, _, _, _, _, _, _, _⟩ := hTy.k46 hT_q_76
  refine pl_aast hx hb hK hW hT_q_1.1 hS_q_1 hT_q_76.1 hB_w_85 (by unfold vp_in; decide) dX5_init_33 (fun H locs f_84 S_83 ef_f_84 e1 hW => ?_)
  have hTy := hTy.up e1 hT_q_1 okc_99
  have hSP := SP_up hSP e1 hT_q_1 (STPQ_n (by decide))
  have hS_h0 := un9 e1 hne_q_1 hS_h0
  have hS_q_1 := us e1
  have hEX := EX_put hEX e1 (fun a h _ => hnq_q_1 a h)
  have hbk_0 : f_84 0 = some q_6 := by rw [ef_f_84]; exact hbk_0
  have hbk_1 : f_84 1 = some q_16 := by rw [ef_f_84]; exact hbk_1
  have hbk_2 : f_84 2 = some q_26 := by rw [ef_f_84]; exact hbk_2
  have hbk_3 : f_84 3 = some q_36 := by rw [ef_f_84]; exact hbk_3
  have hbk_4 : f_84 4 = some q_46 := by rw [ef_f_84]; exact hbk_4
  have hbk_5 : f_84 5 = some q_56 := by rw [ef_f_84]; exact hbk_5
  have hbk_6 : f_84 6 = some q_66 := by rw [ef_f_84]; exact hbk_6
  have hbk_7 : f_84 7 = some q_76 := by rw [ef_f_84]; rfl
  refine lv_iinc (v := 8) (lv' := [(1, .int 8), (0, .ref h0)]) hx hb dX5_init_34 hl (k := 0) rfl (by decide) (by decide) rfl (fun ls hl => ?_)
  refine lv_goto (tgt := 15) hx hb dX5_init_37 (by decide) ?_
  refine lv_iload_n hx hb dX5_init_15 rfl (lv_at hl 0 rfl) ?_
  refine lv_bipush (v := 10) hx hb dX5_init_16 (by decide) ?_
  refine lv_icmp_ge (tgt := 40) hx hb dX5_init_18 (by decide) (fun h => absurd h (by decide)) (fun _ => ?_)
  refine lv_aload_n hx hb dX5_init_21 rfl (lv_at hl 1 rfl) ?_
  refine pl_get (ci := 5) (v := .ref q_1) (C := RX5) (T := TX5) (N := 2) hx hb hT iX5 hown hK hW hT_h0.1 hS_h0 rfl 0 (by decide) w183 rfl dX5_init_22 ?_
  refine lv_iload_n hx hb dX5_init_25 rfl (lv_at hl 0 rfl) ?_
  refine pl_new (kap := kap_81) (k := 99) (ci := 0) (fs := [.null, .null, .null, .null, .null, .null, .int 0, .int 0]) (C := RX0) (T := TX0) (N := 8) hx hb hT iX0 tyX0 tyX0_ok hown (hT _ w180) (hT _ w79) (hT _ w5) hK hW hA rfl (fun j hj => by rcases (show j = 0 ∨ j = 1 ∨ j = 2 ∨ j = 3 ∨ j = 4 ∨ j = 5 ∨ j = 6 ∨ j = 7 by omega) with rfl | rfl | rfl | rfl | rfl | rfl | rfl | rfl <;> rfl) (Nat.le_of_ble_eq_true rfl) (Nat.le_of_ble_eq_true rfl) dX5_init_26 (fun q_86 H L_87 kap_88 S_89 hG hW => ?_)
  have hne_q_86 : h0 ≠ q_86 := hG.ne hT_h0.1
  have hne2_q_86 : q_1 ≠ q_86 := hG.ne hT_q_1.1
  have hTy := hG.ty hTy okc_99
  have hS_h0 := hG.at hT_h0.1 hS_h0
  have hS_q_1 := hG.at hT_q_1.1 hS_q_1
  have hT_h0 := hG.tk hT_h0
  have hT_q_1 := hG.tk hT_q_1
  have hT_q_6 := hG.tk hT_q_6
  have hT_q_16 := hG.tk hT_q_16
  have hT_q_26 := hG.tk hT_q_26
  have hT_q_36 := hG.tk hT_q_36
  have hT_q_46 := hG.tk hT_q_46
  have hT_q_56 := hG.tk hT_q_56
  have hT_q_66 := hG.tk hT_q_66
  have hT_q_76 := hG.tk hT_q_76
  have hnq_q_86 := fun (a : Nat) (h : a ∈ L) => EX_nq hEX hG.1 h
  have hSP := SP_gr hSP hG (STPQ_n (by decide))
  have hEX := EX_gr hEX hG
  have hT_q_86 := hG.new
  have hS_q_86 := hG.self
  have hU : ∀ a k, USP k → TK L_87 kap_88 a k → TK L kap a k ∨ (fun (a k : Nat) => False) a k := U_gr hU hG (fun _ _ h => False.elim h) (fun h => absurd h (by decide))
  refine W.widen (k := 58) (n := 2194) (Nat.le_of_ble_eq_true rfl) (Nat.le_of_ble_eq_true rfl) ?_
  refine lv_dup hx hb dX5_init_29 rfl ?_
  refine pl_callk (va_runI (As := []) (rest := [.ref q_86, .int 8, .ref q_1]) ⟨hx, hb, hml, hown, hT⟩ (n_Book46 l dC dI cy L_87 kap_88 S_89 H.size q_86 hTy hSP hT_q_86 hS_q_86) (cwI 0 hT (gT w82) rfl rfl rfl (hT _ w5) (hT _ w182) (hT _ w81) rfl (by decide +kernel) ⟨(Nat.le_of_ble_eq_true rfl), (Nat.le_of_ble_eq_true rfl)⟩) ⟨pcN.blind, pcN.pre hW.1 hK hW.2.1 hN hO⟩ rfl rfl hl.1 rfl (lv_room (Nat.le_of_ble_eq_true rfl)) dX5_init_30 ⟨(Nat.le_of_ble_eq_true rfl), (Nat.le_of_ble_eq_true rfl)⟩) hW hA (fun L_90 kap_91 S_92 H locs hrel hW => ?_)
  obtain ⟨hTy, hSP, hEX1, hTq_, hU1⟩ := hrel
  have hS_h0 := ((hEX1.2 _ _ hT_h0 hne_q_86).2 rfl).trans hS_h0
  have hS_q_1 := ((hEX1.2 _ _ hT_q_1 hne2_q_86).2 rfl).trans hS_q_1
  have hT_h0 := (hEX1.2 _ _ hT_h0 hne_q_86).1
  have hT_q_1 := (hEX1.2 _ _ hT_q_1 hne2_q_86).1
  have hT_q_6 := (hEX1.2 _ _ hT_q_6 (fun z => absurd (hT_q_6.2.symm.trans ((congrArg kap_88 z).trans hT_q_86.2)) (by decide))).1
  have hT_q_16 := (hEX1.2 _ _ hT_q_16 (fun z => absurd (hT_q_16.2.symm.trans ((congrArg kap_88 z).trans hT_q_86.2)) (by decide))).1
  have hT_q_26 := (hEX1.2 _ _ hT_q_26 (fun z => absurd (hT_q_26.2.symm.trans ((congrArg kap_88 z).trans hT_q_86.2)) (by decide))).1
  have hT_q_36 := (hEX1.2 _ _ hT_q_36 (fun z => absurd (hT_q_36.2.symm.trans ((congrArg kap_88 z).trans hT_q_86.2)) (by decide))).1
  have hT_q_46 := (hEX1.2 _ _ hT_q_46 (fun z => absurd (hT_q_46.2.symm.trans ((congrArg kap_88 z).trans hT_q_86.2)) (by decide))).1
  have hT_q_56 := (hEX1.2 _ _ hT_q_56 (fun z => absurd (hT_q_56.2.symm.trans ((congrArg kap_88 z).trans hT_q_86.2)) (by decide))).1
  have hT_q_66 := (hEX1.2 _ _ hT_q_66 (fun z => absurd (hT_q_66.2.symm.trans ((congrArg kap_88 z).trans hT_q_86.2)) (by decide))).1
  have hT_q_76 := (hEX1.2 _ _ hT_q_76 (fun z => absurd (hT_q_76.2.symm.trans ((congrArg kap_88 z).trans hT_q_86.2)) (by decide))).1
  have hEX := EX_tr hEX hEX1 hnq_q_86 hne_q_86
  have hU : ∀ a k, USP k → TK L_90 kap_91 a k → TK L kap a k ∨ (fun (a k : Nat) => False) a k := U_tr hU hU1 (fun _ _ h => False.elim h) (fun a k h => False.elim h)
  have hT_q_86 := hTq_
  refine W.widen (k := 64) (n := 2458) (Nat.le_of_ble_eq_true rfl) (Nat.le_of_ble_eq_true rfl) ?_
  obtain ⟨x0_w_95, x1_w_95, x2_w_95, x3_w_95, x4_w_95, x5_w_95, x6_w_95, x7_w_95, hB_w_95, _, _, _, _, _, _, _⟩ := hTy.k46 hT_q_86
  refine pl_aast hx hb hK hW hT_q_1.1 hS_q_1 hT_q_86.1 hB_w_95 (by unfold vp_in; decide) dX5_init_33 (fun H locs f_94 S_93 ef_f_94 e1 hW => ?_)
  have hTy := hTy.up e1 hT_q_1 okc_99
  have hSP := SP_up hSP e1 hT_q_1 (STPQ_n (by decide))
  have hS_h0 := un9 e1 hne_q_1 hS_h0
  have hS_q_1 := us e1
  have hEX := EX_put hEX e1 (fun a h _ => hnq_q_1 a h)
  have hbk_0 : f_94 0 = some q_6 := by rw [ef_f_94]; exact hbk_0
  have hbk_1 : f_94 1 = some q_16 := by rw [ef_f_94]; exact hbk_1
  have hbk_2 : f_94 2 = some q_26 := by rw [ef_f_94]; exact hbk_2
  have hbk_3 : f_94 3 = some q_36 := by rw [ef_f_94]; exact hbk_3
  have hbk_4 : f_94 4 = some q_46 := by rw [ef_f_94]; exact hbk_4
  have hbk_5 : f_94 5 = some q_56 := by rw [ef_f_94]; exact hbk_5
  have hbk_6 : f_94 6 = some q_66 := by rw [ef_f_94]; exact hbk_6
  have hbk_7 : f_94 7 = some q_76 := by rw [ef_f_94]; exact hbk_7
  have hbk_8 : f_94 8 = some q_86 := by rw [ef_f_94]; rfl
  refine lv_iinc (v := 9) (lv' := [(1, .int 9), (0, .ref h0)]) hx hb dX5_init_34 hl (k := 0) rfl (by decide) (by decide) rfl (fun ls hl => ?_)
  refine lv_goto (tgt := 15) hx hb dX5_init_37 (by decide) ?_
  refine lv_iload_n hx hb dX5_init_15 rfl (lv_at hl 0 rfl) ?_
  refine lv_bipush (v := 10) hx hb dX5_init_16 (by decide) ?_
  refine lv_icmp_ge (tgt := 40) hx hb dX5_init_18 (by decide) (fun h => absurd h (by decide)) (fun _ => ?_)
  refine lv_aload_n hx hb dX5_init_21 rfl (lv_at hl 1 rfl) ?_
  refine pl_get (ci := 5) (v := .ref q_1) (C := RX5) (T := TX5) (N := 2) hx hb hT iX5 hown hK hW hT_h0.1 hS_h0 rfl 0 (by decide) w183 rfl dX5_init_22 ?_
  refine lv_iload_n hx hb dX5_init_25 rfl (lv_at hl 0 rfl) ?_
  refine pl_new (kap := kap_91) (k := 99) (ci := 0) (fs := [.null, .null, .null, .null, .null, .null, .int 0, .int 0]) (C := RX0) (T := TX0) (N := 8) hx hb hT iX0 tyX0 tyX0_ok hown (hT _ w180) (hT _ w79) (hT _ w5) hK hW hA rfl (fun j hj => by rcases (show j = 0 ∨ j = 1 ∨ j = 2 ∨ j = 3 ∨ j = 4 ∨ j = 5 ∨ j = 6 ∨ j = 7 by omega) with rfl | rfl | rfl | rfl | rfl | rfl | rfl | rfl <;> rfl) (Nat.le_of_ble_eq_true rfl) (Nat.le_of_ble_eq_true rfl) dX5_init_26 (fun q_96 H L_97 kap_98 S_99 hG hW => ?_)
  have hne_q_96 : h0 ≠ q_96 := hG.ne hT_h0.1
  have hne2_q_96 : q_1 ≠ q_96 := hG.ne hT_q_1.1
  have hTy := hG.ty hTy okc_99
  have hS_h0 := hG.at hT_h0.1 hS_h0
  have hS_q_1 := hG.at hT_q_1.1 hS_q_1
  have hT_h0 := hG.tk hT_h0
  have hT_q_1 := hG.tk hT_q_1
  have hT_q_6 := hG.tk hT_q_6
  have hT_q_16 := hG.tk hT_q_16
  have hT_q_26 := hG.tk hT_q_26
  have hT_q_36 := hG.tk hT_q_36
  have hT_q_46 := hG.tk hT_q_46
  have hT_q_56 := hG.tk hT_q_56
  have hT_q_66 := hG.tk hT_q_66
  have hT_q_76 := hG.tk hT_q_76
  have hT_q_86 := hG.tk hT_q_86
  have hnq_q_96 := fun (a : Nat) (h : a ∈ L) => EX_nq hEX hG.1 h
  have hSP := SP_gr hSP hG (STPQ_n (by decide))
  have hEX := EX_gr hEX hG
  have hT_q_96 := hG.new
  have hS_q_96 := hG.self
  have hU : ∀ a k, USP k → TK L_97 kap_98 a k → TK L kap a k ∨ (fun (a k : Nat) => False) a k := U_gr hU hG (fun _ _ h => False.elim h) (fun h => absurd h (by decide))
  refine W.widen (k := 65) (n := 2466) (Nat.le_of_ble_eq_true rfl) (Nat.le_of_ble_eq_true rfl) ?_
  refine lv_dup hx hb dX5_init_29 rfl ?_
  refine pl_callk (va_runI (As := []) (rest := [.ref q_96, .int 9, .ref q_1]) ⟨hx, hb, hml, hown, hT⟩ (n_Book46 l dC dI cy L_97 kap_98 S_99 H.size q_96 hTy hSP hT_q_96 hS_q_96) (cwI 0 hT (gT w82) rfl rfl rfl (hT _ w5) (hT _ w182) (hT _ w81) rfl (by decide +kernel) ⟨(Nat.le_of_ble_eq_true rfl), (Nat.le_of_ble_eq_true rfl)⟩) ⟨pcN.blind, pcN.pre hW.1 hK hW.2.1 hN hO⟩ rfl rfl hl.1 rfl (lv_room (Nat.le_of_ble_eq_true rfl)) dX5_init_30 ⟨(Nat.le_of_ble_eq_true rfl), (Nat.le_of_ble_eq_true rfl)⟩) hW hA (fun L_100 kap_101 S_102 H locs hrel hW => ?_)
  obtain ⟨hTy, hSP, hEX1, hTq_, hU1⟩ := hrel
  have hS_h0 := ((hEX1.2 _ _ hT_h0 hne_q_96).2 rfl).trans hS_h0
  have hS_q_1 := ((hEX1.2 _ _ hT_q_1 hne2_q_96).2 rfl).trans hS_q_1
  have hT_h0 := (hEX1.2 _ _ hT_h0 hne_q_96).1
  have hT_q_1 := (hEX1.2 _ _ hT_q_1 hne2_q_96).1
  have hT_q_6 := (hEX1.2 _ _ hT_q_6 (fun z => absurd (hT_q_6.2.symm.trans ((congrArg kap_98 z).trans hT_q_96.2)) (by decide))).1
  have hT_q_16 := (hEX1.2 _ _ hT_q_16 (fun z => absurd (hT_q_16.2.symm.trans ((congrArg kap_98 z).trans hT_q_96.2)) (by decide))).1
  have hT_q_26 := (hEX1.2 _ _ hT_q_26 (fun z => absurd (hT_q_26.2.symm.trans ((congrArg kap_98 z).trans hT_q_96.2)) (by decide))).1
  have hT_q_36 := (hEX1.2 _ _ hT_q_36 (fun z => absurd (hT_q_36.2.symm.trans ((congrArg kap_98 z).trans hT_q_96.2)) (by decide))).1
  have hT_q_46 := (hEX1.2 _ _ hT_q_46 (fun z => absurd (hT_q_46.2.symm.trans ((congrArg kap_98 z).trans hT_q_96.2)) (by decide))).1
  have hT_q_56 := (hEX1.2 _ _ hT_q_56 (fun z => absurd (hT_q_56.2.symm.trans ((congrArg kap_98 z).trans hT_q_96.2)) (by decide))).1
  have hT_q_66 := (hEX1.2 _ _ hT_q_66 (fun z => absurd (hT_q_66.2.symm.trans ((congrArg kap_98 z).trans hT_q_96.2)) (by decide))).1
  have hT_q_76 := (hEX1.2 _ _ hT_q_76 (fun z => absurd (hT_q_76.2.symm.trans ((congrArg kap_98 z).trans hT_q_96.2)) (by decide))).1
  have hT_q_86 := (hEX1.2 _ _ hT_q_86 (fun z => absurd (hT_q_86.2.symm.trans ((congrArg kap_98 z).trans hT_q_96.2)) (by decide))).1
  have hEX := EX_tr hEX hEX1 hnq_q_96 hne_q_96
  have hU : ∀ a k, USP k → TK L_100 kap_101 a k → TK L kap a k ∨ (fun (a k : Nat) => False) a k := U_tr hU hU1 (fun _ _ h => False.elim h) (fun a k h => False.elim h)
  have hT_q_96 := hTq_
  refine W.widen (k := 71) (n := 2730) (Nat.le_of_ble_eq_true rfl) (Nat.le_of_ble_eq_true rfl) ?_
  obtain ⟨x0_w_105, x1_w_105, x2_w_105, x3_w_105, x4_w_105, x5_w_105, x6_w_105, x7_w_105, hB_w_105, _, _, _, _, _, _, _⟩ := hTy.k46 hT_q_96
  refine pl_aast hx hb hK hW hT_q_1.1 hS_q_1 hT_q_96.1 hB_w_105 (by unfold vp_in; decide) dX5_init_33 (fun H locs f_104 S_103 ef_f_104 e1 hW => ?_)
  have hTy := hTy.up e1 hT_q_1 okc_99
  have hSP := SP_up hSP e1 hT_q_1 (STPQ_n (by decide))
  have hS_h0 := un9 e1 hne_q_1 hS_h0
  have hS_q_1 := us e1
  have hEX := EX_put hEX e1 (fun a h _ => hnq_q_1 a h)
  have hbk_0 : f_104 0 = some q_6 := by rw [ef_f_104]; exact hbk_0
  have hbk_1 : f_104 1 = some q_16 := by rw [ef_f_104]; exact hbk_1
  have hbk_2 : f_104 2 = some q_26 := by rw [ef_f_104]; exact hbk_2
  have hbk_3 : f_104 3 = some q_36 := by rw [ef_f_104]; exact hbk_3
  have hbk_4 : f_104 4 = some q_46 := by rw [ef_f_104]; exact hbk_4
  have hbk_5 : f_104 5 = some q_56 := by rw [ef_f_104]; exact hbk_5
  have hbk_6 : f_104 6 = some q_66 := by rw [ef_f_104]; exact hbk_6
  have hbk_7 : f_104 7 = some q_76 := by rw [ef_f_104]; exact hbk_7
  have hbk_8 : f_104 8 = some q_86 := by rw [ef_f_104]; exact hbk_8
  have hbk_9 : f_104 9 = some q_96 := by rw [ef_f_104]; rfl
  refine lv_iinc (v := 10) (lv' := [(1, .int 10), (0, .ref h0)]) hx hb dX5_init_34 hl (k := 0) rfl (by decide) (by decide) rfl (fun ls hl => ?_)
  refine lv_goto (tgt := 15) hx hb dX5_init_37 (by decide) ?_
  refine lv_iload_n hx hb dX5_init_15 rfl (lv_at hl 0 rfl) ?_
  refine lv_bipush (v := 10) hx hb dX5_init_16 (by decide) ?_
  refine lv_icmp_ge (tgt := 40) hx hb dX5_init_18 (by decide) (fun _ => ?_) (fun h => absurd (by decide) h)
  obtain ⟨kap_106, hk1⟩ : ∃ g : Nat → Nat, g = kup kap_101 q_1 28 := ⟨_, rfl⟩
  have hT_h0 := TK_ret hk1 hT_h0 (hne_q_1)
  have hT_q_6 := TK_ret hk1 hT_q_6 (fun z => absurd (hT_q_6.2.symm.trans ((congrArg kap_101 z).trans hT_q_1.2)) (by decide))
  have hT_q_16 := TK_ret hk1 hT_q_16 (fun z => absurd (hT_q_16.2.symm.trans ((congrArg kap_101 z).trans hT_q_1.2)) (by decide))
  have hT_q_26 := TK_ret hk1 hT_q_26 (fun z => absurd (hT_q_26.2.symm.trans ((congrArg kap_101 z).trans hT_q_1.2)) (by decide))
  have hT_q_36 := TK_ret hk1 hT_q_36 (fun z => absurd (hT_q_36.2.symm.trans ((congrArg kap_101 z).trans hT_q_1.2)) (by decide))
  have hT_q_46 := TK_ret hk1 hT_q_46 (fun z => absurd (hT_q_46.2.symm.trans ((congrArg kap_101 z).trans hT_q_1.2)) (by decide))
  have hT_q_56 := TK_ret hk1 hT_q_56 (fun z => absurd (hT_q_56.2.symm.trans ((congrArg kap_101 z).trans hT_q_1.2)) (by decide))
  have hT_q_66 := TK_ret hk1 hT_q_66 (fun z => absurd (hT_q_66.2.symm.trans ((congrArg kap_101 z).trans hT_q_1.2)) (by decide))
  have hT_q_76 := TK_ret hk1 hT_q_76 (fun z => absurd (hT_q_76.2.symm.trans ((congrArg kap_101 z).trans hT_q_1.2)) (by decide))
  have hT_q_86 := TK_ret hk1 hT_q_86 (fun z => absurd (hT_q_86.2.symm.trans ((congrArg kap_101 z).trans hT_q_1.2)) (by decide))
  have hT_q_96 := TK_ret hk1 hT_q_96 (fun z => absurd (hT_q_96.2.symm.trans ((congrArg kap_101 z).trans hT_q_1.2)) (by decide))
  have hTa_ := hT_q_1
  have hT_q_1 := TK_rets hk1 hTa_.1
  have hTy := hTy.ret hk1 hTa_ (by rw [hS_q_1]; exact okc_28 ⟨f_104, rfl, fun j hj => match j, hj with | 0, _ => ⟨q_6, hbk_0, hT_q_6⟩ | 1, _ => ⟨q_16, hbk_1, hT_q_16⟩ | 2, _ => ⟨q_26, hbk_2, hT_q_26⟩ | 3, _ => ⟨q_36, hbk_3, hT_q_36⟩ | 4, _ => ⟨q_46, hbk_4, hT_q_46⟩ | 5, _ => ⟨q_56, hbk_5, hT_q_56⟩ | 6, _ => ⟨q_66, hbk_6, hT_q_66⟩ | 7, _ => ⟨q_76, hbk_7, hT_q_76⟩ | 8, _ => ⟨q_86, hbk_8, hT_q_86⟩ | 9, _ => ⟨q_96, hbk_9, hT_q_96⟩ | j + 10, hj => absurd hj (by omega)⟩)
  have hEX := EX_ret hEX hk1 (fun a h _ => hnq_q_1 a h)
  have hSP := SP_ret hSP hk1 (STPQ_n (by decide))
  have hU : ∀ a k, USP k → TK L_100 kap_106 a k → TK L kap a k ∨ (fun (a k : Nat) => False) a k := U_ret hU hk1 (fun _ _ h => False.elim h) (fun h => absurd h (by decide))
  obtain ⟨kap_107, hk1⟩ : ∃ g : Nat → Nat, g = kup kap_106 h0 5 := ⟨_, rfl⟩
  have hT_q_1 := TK_ret hk1 hT_q_1 (fun z => absurd (hT_q_1.2.symm.trans ((congrArg kap_106 z).trans hT_h0.2)) (by decide))
  have hT_q_6 := TK_ret hk1 hT_q_6 (fun z => absurd (hT_q_6.2.symm.trans ((congrArg kap_106 z).trans hT_h0.2)) (by decide))
  have hT_q_16 := TK_ret hk1 hT_q_16 (fun z => absurd (hT_q_16.2.symm.trans ((congrArg kap_106 z).trans hT_h0.2)) (by decide))
  have hT_q_26 := TK_ret hk1 hT_q_26 (fun z => absurd (hT_q_26.2.symm.trans ((congrArg kap_106 z).trans hT_h0.2)) (by decide))
  have hT_q_36 := TK_ret hk1 hT_q_36 (fun z => absurd (hT_q_36.2.symm.trans ((congrArg kap_106 z).trans hT_h0.2)) (by decide))
  have hT_q_46 := TK_ret hk1 hT_q_46 (fun z => absurd (hT_q_46.2.symm.trans ((congrArg kap_106 z).trans hT_h0.2)) (by decide))
  have hT_q_56 := TK_ret hk1 hT_q_56 (fun z => absurd (hT_q_56.2.symm.trans ((congrArg kap_106 z).trans hT_h0.2)) (by decide))
  have hT_q_66 := TK_ret hk1 hT_q_66 (fun z => absurd (hT_q_66.2.symm.trans ((congrArg kap_106 z).trans hT_h0.2)) (by decide))
  have hT_q_76 := TK_ret hk1 hT_q_76 (fun z => absurd (hT_q_76.2.symm.trans ((congrArg kap_106 z).trans hT_h0.2)) (by decide))
  have hT_q_86 := TK_ret hk1 hT_q_86 (fun z => absurd (hT_q_86.2.symm.trans ((congrArg kap_106 z).trans hT_h0.2)) (by decide))
  have hT_q_96 := TK_ret hk1 hT_q_96 (fun z => absurd (hT_q_96.2.symm.trans ((congrArg kap_106 z).trans hT_h0.2)) (by decide))
  have hTa_ := hT_h0
  have hT_h0 := TK_rets hk1 hTa_.1
  have hTy := hTy.ret hk1 hTa_ (by rw [hS_h0]; exact okc_5 ⟨q_1, 0, rfl, hT_q_1, (by decide)⟩)
  have hEX := EX_ret hEX hk1 (fun _ _ h => h)
  have hSP := SP_ret hSP hk1 (STPQ_n (by decide))
  have hU : ∀ a k, USP k → TK L_100 kap_107 a k → TK L kap a k ∨ (fun (a k : Nat) => False) a k := U_ret hU hk1 (fun _ _ h => False.elim h) (fun h => absurd h (by decide))
  refine W.widen (k := 71) (n := 2730) (Nat.le_of_ble_eq_true rfl) (Nat.le_of_ble_eq_true rfl) ?_
  exact W.vret hx hb hr (fun t ht h9 => ⟨⟨(L_100, kap_107, S_103), rfl, ⟨hTy, hSP, hEX, hT_h0, hU⟩, by rw [ht]; exact hW.1, va_K.moved h9.alike hK, hW.2.1⟩, hW.2.2.F ht⟩) hW.2.2.2.2 dX5_init_40

set_option maxHeartbeats 4000000 in
set_option maxRecDepth 100000 in
theorem n_Reader (l : Launch) (dC : Nat → ClassId) (dI : Nat → Nat → Nat) (cy : Nat → ClassId) (L : List Nat) (kap : Nat → Nat) (S : Nat → va_E) (sz : Nat) (h0 : Nat) (a0 : Nat) (hTy : Ty cy L kap (0, 0) S) (hSP : SPI L kap S) (hT_h0 : TK L kap h0 99) (hS_h0 : S h0 = .inr (6, [.int 0, .int 0, .null, .null, .null, .int 0, .int 0, .int 0, .int 0, .int 0])) (hT_a0 : TK L kap a0 10) : Met l yX6_init (wT yX6_init cX6_init 2 none) ({ frames := 2, cells := 10, slots := 384, locals := 43 }) (pcN dC dI [.ref h0, .ref a0] sz (va_pl L S) (cyT cy) NLk [RX0]) (va_Qv (fun (u : KU) => Ty cy u.1 u.2.1 (0, 0) u.2.2 ∧ SPI u.1 u.2.1 u.2.2 ∧ EXT L kap S h0 u ∧ TK u.1 u.2.1 h0 6 ∧ (∀ a k, USP k → TK u.1 u.2.1 a k → TK L kap a k ∨ (fun (a k : Nat) => (k = 6 ∧ a = h0)) a k)) (fun u t => pB dC dI (AL L sz) (va_pl u.1 u.2.2) (cyT cy) t) (AL L sz)) 10 384 (AL L sz) := by
  refine Met.ofW (cc := cX6_init) (maxL := 2) (ret := none) (by decide) rfl ?_
  intro p e s m args below meth c s₁ B hml hv
  obtain ⟨rfl, hsz, hP, hK, hD0, hN, hO⟩ := hv
  have hx := B.exec
  have hb := B.bytes
  have hr := B.returns
  have hT : ∀ wd ∈ TB, wd.before [.ref h0, .ref a0].toArray s = true := fun wd h => atoms_spec (ws := wT yX6_init cX6_init 2 none) B.pre wd (List.mem_cons_of_mem _ h)
  have hown : s.vm.findClass RX6 = some m.cls := findClass_of_methodNamed B.named
  have hlocks := B.notSynchronized
  have hin : meth.name = "<init>" := (name_of_methodNamed B.named B.method).1
  subst hsz
  have hW : PW dC dI L (AL L s.heap.size) s.heap S s.heap [] := ⟨hP, pl_self hD0, va_S.rf⟩
  have hA : ∀ q, s.heap.size ≤ q → AL L s.heap.size q := fun _ h => Or.inr h
  have hEX : EXT L kap S h0 (L, kap, S) := EX_0 hT_h0.1
  have hU : ∀ a k, USP k → TK L kap a k → TK L kap a k ∨ (fun (a k : Nat) => False) a k := fun a k _ h => Or.inl h
  have hl := lv_entry ([.ref h0, .ref a0]) (n := 2) (Nat.le_of_ble_eq_true rfl)
  rw [lg_entry_eq]
  generalize (lg_sl ([.ref h0, .ref a0]) ++ List.replicate (2 - (lg_sl ([.ref h0, .ref a0])).length) Slot.unset).toArray = ls at hl ⊢
  have hl : lv_has ls 2 [(0, .ref h0), (1, .ref a0)] := hl
  refine lv_aload_n hx hb dX6_init_0 rfl (lv_at hl 0 rfl) ?_
  refine W.objInit hx hb hown (hT _ w51) (hT _ w28) (hT _ w29) rfl (by rw [hml]; exact hl.1) rfl dX6_init_1 (Nat.le_of_ble_eq_true rfl) (Nat.le_of_ble_eq_true rfl) ?_
  refine W.eq (g2 := F0 m 4 ls []) rfl ?_
  refine lv_aload_n hx hb dX6_init_4 rfl (lv_at hl 0 rfl) ?_
  refine lv_iconst (v := (-1)) hx hb dX6_init_5 (by decide) ?_
  refine pl_put (ci := 6) (v := .int (-1)) (ty := .int) (C := RX6) (T := TX6) (N := 10) (fs' := [.int 0, .int (-1), .null, .null, .null, .int 0, .int 0, .int 0, .int 0, .int 0]) hx hb hT iX6 tyX6 tyX6_ok nmX6 hown hK hW hT_h0.1 hS_h0 rfl 1 (by decide) w141 rfl (by decide +kernel) rfl rfl (Nat.le_of_ble_eq_true rfl) rfl dX6_init_6 (fun H locs S_1 e1 hW => ?_)
  have hTy := hTy.up e1 hT_h0 okc_99
  have hSP := SP_up hSP e1 hT_h0 (STPQ_n (by decide))
  have hS_h0 := us e1
  have hEX := EX_put hEX e1 (fun _ _ h => h)
  refine lv_aload_n hx hb dX6_init_9 rfl (lv_at hl 0 rfl) ?_
  refine pl_new (kap := kap) (k := 99) (ci := 3) (fs := [.null, .null, .int 0, .int 0]) (C := RX3) (T := TX3) (N := 4) hx hb hT iX3 tyX3 tyX3_ok hown (hT _ w52) (hT _ w53) (hT _ w4) hK hW hA rfl (fun j hj => by rcases (show j = 0 ∨ j = 1 ∨ j = 2 ∨ j = 3 by omega) with rfl | rfl | rfl | rfl <;> rfl) (Nat.le_of_ble_eq_true rfl) (Nat.le_of_ble_eq_true rfl) dX6_init_10 (fun q_2 H L_3 kap_4 S_5 hG hW => ?_)
  have hne_q_2 : h0 ≠ q_2 := hG.ne hT_h0.1
  have hTy := hG.ty hTy okc_99
  have hS_h0 := hG.at hT_h0.1 hS_h0
  have hT_h0 := hG.tk hT_h0
  have hT_a0 := hG.tk hT_a0
  have hnq_q_2 := fun (a : Nat) (h : a ∈ L) => EX_nq hEX hG.1 h
  have hSP := SP_gr hSP hG (STPQ_n (by decide))
  have hEX := EX_gr hEX hG
  have hT_q_2 := hG.new
  have hS_q_2 := hG.self
  have hU : ∀ a k, USP k → TK L_3 kap_4 a k → TK L kap a k ∨ (fun (a k : Nat) => False) a k := U_gr hU hG (fun _ _ h => False.elim h) (fun h => absurd h (by decide))
  refine W.widen (k := 1) (n := 4) (Nat.le_of_ble_eq_true rfl) (Nat.le_of_ble_eq_true rfl) ?_
  refine lv_dup hx hb dX6_init_13 rfl ?_
  refine pl_callk (va_runIN (As := []) (rest := [.ref q_2, .ref h0]) ⟨hx, hb, hml, hown, hT⟩ (n_Names l dC dI cy L_3 kap_4 S_5 H.size q_2 hTy hSP hT_q_2 hS_q_2) ⟨va_cnB 0 hT (gT w56) rfl rfl rfl (hN (RX6, 17, yX3_init, RX11) (by decide +kernel)) (hT _ w4) (by decide +kernel) ⟨(Nat.le_of_ble_eq_true rfl), (Nat.le_of_ble_eq_true rfl)⟩, rfl, (hT _ w55)⟩ ⟨pcN.blind, pcN.pre hW.1 hK hW.2.1 hN hO⟩ rfl rfl hl.1 rfl (lv_room (Nat.le_of_ble_eq_true rfl)) dX6_init_14 ⟨(Nat.le_of_ble_eq_true rfl), (Nat.le_of_ble_eq_true rfl)⟩) hW hA (fun L_6 kap_7 S_8 H locs hrel hW => ?_)
  obtain ⟨hTy, hSP, hEX1, hTq_, hU1⟩ := hrel
  have hS_h0 := ((hEX1.2 _ _ hT_h0 hne_q_2).2 rfl).trans hS_h0
  have hT_h0 := (hEX1.2 _ _ hT_h0 hne_q_2).1
  have hT_a0 := (hEX1.2 _ _ hT_a0 (fun z => absurd (hT_a0.2.symm.trans ((congrArg kap_4 z).trans hT_q_2.2)) (by decide))).1
  have hEX := EX_tr hEX hEX1 hnq_q_2 hne_q_2
  have hU : ∀ a k, USP k → TK L_6 kap_7 a k → TK L kap a k ∨ (fun (a k : Nat) => False) a k := U_tr hU hU1 (fun _ _ h => False.elim h) (fun a k h => False.elim h)
  have hT_q_2 := hTq_
  refine W.widen (k := 3) (n := 112) (Nat.le_of_ble_eq_true rfl) (Nat.le_of_ble_eq_true rfl) ?_
  refine pl_put (ci := 6) (v := .ref q_2) (ty := .object "SwapPress$Names") (C := RX6) (T := TX6) (N := 10) (fs' := [.int 0, .int (-1), .ref q_2, .null, .null, .int 0, .int 0, .int 0, .int 0, .int 0]) hx hb hT iX6 tyX6 tyX6_ok nmX6 hown hK hW hT_h0.1 hS_h0 rfl 2 (by decide) w143 rfl (by decide +kernel) rfl rfl (Nat.le_of_ble_eq_true rfl) rfl dX6_init_17 (fun H locs S_9 e1 hW => ?_)
  have hTy := hTy.up e1 hT_h0 okc_99
  have hSP := SP_up hSP e1 hT_h0 (STPQ_n (by decide))
  have hS_h0 := us e1
  have hEX := EX_put hEX e1 (fun _ _ h => h)
  refine lv_aload_n hx hb dX6_init_20 rfl (lv_at hl 0 rfl) ?_
  refine pl_new (kap := kap_7) (k := 99) (ci := 0) (fs := [.null, .null, .null, .null, .null, .null, .int 0, .int 0]) (C := RX0) (T := TX0) (N := 8) hx hb hT iX0 tyX0 tyX0_ok hown (hT _ w78) (hT _ w79) (hT _ w5) hK hW hA rfl (fun j hj => by rcases (show j = 0 ∨ j = 1 ∨ j = 2 ∨ j = 3 ∨ j = 4 ∨ j = 5 ∨ j = 6 ∨ j = 7 by omega) with rfl | rfl | rfl | rfl | rfl | rfl | rfl | rfl <;> rfl) (Nat.le_of_ble_eq_true rfl) (Nat.le_of_ble_eq_true rfl) dX6_init_21 (fun q_10 H L_11 kap_12 S_13 hG hW => ?_)
  have hne_q_10 : h0 ≠ q_10 := hG.ne hT_h0.1
  have hTy := hG.ty hTy okc_99
  have hS_h0 := hG.at hT_h0.1 hS_h0
  have hT_h0 := hG.tk hT_h0
  have hT_a0 := hG.tk hT_a0
  have hT_q_2 := hG.tk hT_q_2
  have hnq_q_10 := fun (a : Nat) (h : a ∈ L) => EX_nq hEX hG.1 h
  have hSP := SP_gr hSP hG (STPQ_n (by decide))
  have hEX := EX_gr hEX hG
  have hT_q_10 := hG.new
  have hS_q_10 := hG.self
  have hU : ∀ a k, USP k → TK L_11 kap_12 a k → TK L kap a k ∨ (fun (a k : Nat) => False) a k := U_gr hU hG (fun _ _ h => False.elim h) (fun h => absurd h (by decide))
  refine W.widen (k := 4) (n := 120) (Nat.le_of_ble_eq_true rfl) (Nat.le_of_ble_eq_true rfl) ?_
  refine lv_dup hx hb dX6_init_24 rfl ?_
  refine pl_callk (va_runI (As := []) (rest := [.ref q_10, .ref h0]) ⟨hx, hb, hml, hown, hT⟩ (n_Book0 l dC dI cy L_11 kap_12 S_13 H.size q_10 hTy hSP hT_q_10 hS_q_10) (cwI 0 hT (gT w82) rfl rfl rfl (hT _ w5) (hT _ w80) (hT _ w81) rfl (by decide +kernel) ⟨(Nat.le_of_ble_eq_true rfl), (Nat.le_of_ble_eq_true rfl)⟩) ⟨pcN.blind, pcN.pre hW.1 hK hW.2.1 hN hO⟩ rfl rfl hl.1 rfl (lv_room (Nat.le_of_ble_eq_true rfl)) dX6_init_25 ⟨(Nat.le_of_ble_eq_true rfl), (Nat.le_of_ble_eq_true rfl)⟩) hW hA (fun L_14 kap_15 S_16 H locs hrel hW => ?_)
  obtain ⟨hTy, hSP, hEX1, hTq_, hU1⟩ := hrel
  have hS_h0 := ((hEX1.2 _ _ hT_h0 hne_q_10).2 rfl).trans hS_h0
  have hT_h0 := (hEX1.2 _ _ hT_h0 hne_q_10).1
  have hT_a0 := (hEX1.2 _ _ hT_a0 (fun z => absurd (hT_a0.2.symm.trans ((congrArg kap_12 z).trans hT_q_10.2)) (by decide))).1
  have hT_q_2 := (hEX1.2 _ _ hT_q_2 (fun z => absurd (hT_q_2.2.symm.trans ((congrArg kap_12 z).trans hT_q_10.2)) (by decide))).1
  have hEX := EX_tr hEX hEX1 hnq_q_10 hne_q_10
  have hU : ∀ a k, USP k → TK L_14 kap_15 a k → TK L kap a k ∨ (fun (a k : Nat) => False) a k := U_tr hU hU1 (fun _ _ h => False.elim h) (fun a k h => False.elim h)
  have hT_q_10 := hTq_
  refine W.widen (k := 10) (n := 384) (Nat.le_of_ble_eq_true rfl) (Nat.le_of_ble_eq_true rfl) ?_
  refine pl_put (ci := 6) (v := .ref q_10) (ty := .object "SwapPress$Book") (C := RX6) (T := TX6) (N := 10) (fs' := [.int 0, .int (-1), .ref q_2, .ref q_10, .null, .int 0, .int 0, .int 0, .int 0, .int 0]) hx hb hT iX6 tyX6 tyX6_ok nmX6 hown hK hW hT_h0.1 hS_h0 rfl 3 (by decide) w145 rfl (by decide +kernel) rfl rfl (Nat.le_of_ble_eq_true rfl) rfl dX6_init_28 (fun H locs S_17 e1 hW => ?_)
  have hTy := hTy.up e1 hT_h0 okc_99
  have hSP := SP_up hSP e1 hT_h0 (STPQ_n (by decide))
  have hS_h0 := us e1
  have hEX := EX_put hEX e1 (fun _ _ h => h)
  refine lv_aload_n hx hb dX6_init_31 rfl (lv_at hl 0 rfl) ?_
  refine lv_aload_n hx hb dX6_init_32 rfl (lv_at hl 1 rfl) ?_
  obtain ⟨x_18, hS_a0, hT_x_18, hb_q1⟩ := hTy.k10 hT_a0
  have hb_q1 : 0 ≤ 900 := hb_q1
  have hS_a0 : S_17 a0 = .inr (10, [.ref x_18, .int (nI (0))]) := hS_a0
  refine pl_get (ci := 10) (v := .ref x_18) (C := RX10) (T := TX10) (N := 2) hx hb hT iX10 hown hK hW hT_a0.1 hS_a0 rfl 0 (by decide) w37 rfl dX6_init_33 ?_
  refine pl_putF (ci := 6) (v := .ref x_18) (ty := .array .byte) (C := RX6) (T := TX6) (N := 10) (fs' := [.int 0, .int (-1), .ref q_2, .ref q_10, .ref x_18, .int 0, .int 0, .int 0, .int 0, .int 0]) hx hb hT iX6 tyX6 tyX6_ok nmX6 hown hK hW hT_h0.1 hS_h0 rfl 4 (by decide) w147 rfl hin rfl (by decide +kernel) rfl rfl (Nat.le_of_ble_eq_true rfl) rfl dX6_init_36 (fun H locs S_19 e1 hW => ?_)
  have hTy := hTy.up e1 hT_h0 okc_99
  have hSP := SP_up hSP e1 hT_h0 (STPQ_n (by decide))
  have hS_a0 := un e1 hT_a0 hT_h0 (by decide) hS_a0
  have hS_h0 := us e1
  have hEX := EX_put hEX e1 (fun _ _ h => h)
  obtain ⟨kap_20, hk1⟩ : ∃ g : Nat → Nat, g = kup kap_15 h0 6 := ⟨_, rfl⟩
  have hT_a0 := TK_ret hk1 hT_a0 (fun z => absurd (hT_a0.2.symm.trans ((congrArg kap_15 z).trans hT_h0.2)) (by decide))
  have hT_q_2 := TK_ret hk1 hT_q_2 (fun z => absurd (hT_q_2.2.symm.trans ((congrArg kap_15 z).trans hT_h0.2)) (by decide))
  have hT_q_10 := TK_ret hk1 hT_q_10 (fun z => absurd (hT_q_10.2.symm.trans ((congrArg kap_15 z).trans hT_h0.2)) (by decide))
  have hT_x_18 := TK_ret hk1 hT_x_18 (fun z => absurd (hT_x_18.2.symm.trans ((congrArg kap_15 z).trans hT_h0.2)) (by decide))
  have hTa_ := hT_h0
  have hT_h0 := TK_rets hk1 hTa_.1
  have hTy := hTy.ret hk1 hTa_ (by rw [hS_h0]; exact okc_6 ⟨0, (-1), q_2, q_10, x_18, 0, 0, 0, 0, 0, rfl, hT_q_2, hT_q_10, hT_x_18, (by decide), (by decide), (by decide)⟩)
  have hEX := EX_ret hEX hk1 (fun _ _ h => h)
  have hSP := SP_ret hSP hk1 ⟨fun h => absurd h (by decide), fun _ => by rw [hS_h0]; exact ⟨rfl, rfl⟩, fun h => absurd h (by decide)⟩
  have hU : ∀ a k, USP k → TK L_14 kap_20 a k → TK L kap a k ∨ (fun (a k : Nat) => (k = 6 ∧ a = h0)) a k := U_ret hU hk1 (fun _ _ h => False.elim h) (fun _ => ⟨rfl, rfl⟩)
  refine W.widen (k := 10) (n := 384) (Nat.le_of_ble_eq_true rfl) (Nat.le_of_ble_eq_true rfl) ?_
  exact W.vret hx hb hr (fun t ht h9 => ⟨⟨(L_14, kap_20, S_19), rfl, ⟨hTy, hSP, hEX, hT_h0, hU⟩, by rw [ht]; exact hW.1, va_K.moved h9.alike hK, hW.2.1⟩, hW.2.2.F ht⟩) hW.2.2.2.2 dX6_init_39

set_option maxHeartbeats 4000000 in
set_option maxRecDepth 100000 in
theorem n_Swap (l : Launch) (dC : Nat → ClassId) (dI : Nat → Nat → Nat) (cy : Nat → ClassId) (L : List Nat) (kap : Nat → Nat) (S : Nat → va_E) (sz : Nat) (h0 : Nat) (hTy : Ty cy L kap (0, 0) S) (hSP : SPI L kap S) (hT_h0 : TK L kap h0 99) (hS_h0 : S h0 = .inr (11, [.null, .null, .null, .null, .null, .null, .null, .null, .null, .null, .null, .null, .int 0])) : Met l yX11_init (wT yX11_init cX11_init 1 none) ({ frames := 3, cells := 131, slots := 6092, locals := 64 }) (pcN dC dI [.ref h0] sz (va_pl L S) (cyT cy) NLk [RX0]) (va_Qv (fun (u : KU) => Ty cy u.1 u.2.1 (0, 0) u.2.2 ∧ SPI u.1 u.2.1 u.2.2 ∧ EXT L kap S h0 u ∧ TK u.1 u.2.1 h0 11 ∧ (∃ t27 t10 t6, ∀ a k, USP k → TK u.1 u.2.1 a k → TK L kap a k ∨ ((k = 27 ∧ a = t27) ∨ (k = 10 ∧ a = t10) ∨ (k = 6 ∧ a = t6)))) (fun u t => pB dC dI (AL L sz) (va_pl u.1 u.2.2) (cyT cy) t) (AL L sz)) 131 6092 (AL L sz) := by
  refine Met.ofW (cc := cX11_init) (maxL := 1) (ret := none) (by decide) rfl ?_
  intro p e s m args below meth c s₁ B hml hv
  obtain ⟨rfl, hsz, hP, hK, hD0, hN, hO⟩ := hv
  have hx := B.exec
  have hb := B.bytes
  have hr := B.returns
  have hT : ∀ wd ∈ TB, wd.before [.ref h0].toArray s = true := fun wd h => atoms_spec (ws := wT yX11_init cX11_init 1 none) B.pre wd (List.mem_cons_of_mem _ h)
  have hown : s.vm.findClass RX11 = some m.cls := findClass_of_methodNamed B.named
  have hlocks := B.notSynchronized
  have hin : meth.name = "<init>" := (name_of_methodNamed B.named B.method).1
  subst hsz
  have hW : PW dC dI L (AL L s.heap.size) s.heap S s.heap [] := ⟨hP, pl_self hD0, va_S.rf⟩
  have hA : ∀ q, s.heap.size ≤ q → AL L s.heap.size q := fun _ h => Or.inr h
  have hEX : EXT L kap S h0 (L, kap, S) := EX_0 hT_h0.1
  have hU : ∀ a k, USP k → TK L kap a k → TK L kap a k ∨ (fun (a k : Nat) => False) a k := fun a k _ h => Or.inl h
  have hl := lv_entry ([.ref h0]) (n := 1) (Nat.le_of_ble_eq_true rfl)
  rw [lg_entry_eq]
  generalize (lg_sl ([.ref h0]) ++ List.replicate (1 - (lg_sl ([.ref h0])).length) Slot.unset).toArray = ls at hl ⊢
  have hl : lv_has ls 1 [(0, .ref h0)] := hl
  refine lv_aload_n hx hb dX11_init_0 rfl (lv_at hl 0 rfl) ?_
  refine W.objInit hx hb hown (hT _ w27) (hT _ w28) (hT _ w29) rfl (by rw [hml]; exact hl.1) rfl dX11_init_1 (Nat.le_of_ble_eq_true rfl) (Nat.le_of_ble_eq_true rfl) ?_
  refine W.eq (g2 := F0 m 4 ls []) rfl ?_
  refine lv_aload_n hx hb dX11_init_4 rfl (lv_at hl 0 rfl) ?_
  refine pl_new (kap := kap) (k := 99) (ci := 10) (fs := [.null, .int 0]) (C := RX10) (T := TX10) (N := 2) hx hb hT iX10 tyX10 tyX10_ok hown (hT _ w30) (hT _ w31) (hT _ w2) hK hW hA rfl (fun j hj => by rcases (show j = 0 ∨ j = 1 by omega) with rfl | rfl <;> rfl) (Nat.le_of_ble_eq_true rfl) (Nat.le_of_ble_eq_true rfl) dX11_init_5 (fun q_1 H L_2 kap_3 S_4 hG hW => ?_)
  have hne_q_1 : h0 ≠ q_1 := hG.ne hT_h0.1
  have hTy := hG.ty hTy okc_99
  have hS_h0 := hG.at hT_h0.1 hS_h0
  have hT_h0 := hG.tk hT_h0
  have hnq_q_1 := fun (a : Nat) (h : a ∈ L) => EX_nq hEX hG.1 h
  have hSP := SP_gr hSP hG (STPQ_n (by decide))
  have hEX := EX_gr hEX hG
  have hT_q_1 := hG.new
  have hS_q_1 := hG.self
  have hU : ∀ a k, USP k → TK L_2 kap_3 a k → TK L kap a k ∨ (fun (a k : Nat) => False) a k := U_gr hU hG (fun _ _ h => False.elim h) (fun h => absurd h (by decide))
  refine W.widen (k := 1) (n := 2) (Nat.le_of_ble_eq_true rfl) (Nat.le_of_ble_eq_true rfl) ?_
  refine lv_dup hx hb dX11_init_8 rfl ?_
  refine pl_callk (va_runIN (As := []) (rest := [.ref q_1, .ref h0]) ⟨hx, hb, hml, hown, hT⟩ (n_Tape l dC dI cy L_2 kap_3 S_4 H.size q_1 hTy hSP hT_q_1 hS_q_1) ⟨va_cnB 0 hT (gT w34) rfl rfl rfl (hN (RX11, 11, yX10_init, RX11) (by decide +kernel)) (hT _ w2) (by decide +kernel) ⟨(Nat.le_of_ble_eq_true rfl), (Nat.le_of_ble_eq_true rfl)⟩, rfl, (hT _ w33)⟩ ⟨pcN.blind, pcN.pre hW.1 hK hW.2.1 hN hO⟩ rfl rfl hl.1 rfl (lv_room (Nat.le_of_ble_eq_true rfl)) dX11_init_9 ⟨(Nat.le_of_ble_eq_true rfl), (Nat.le_of_ble_eq_true rfl)⟩) hW hA (fun L_5 kap_6 S_7 H locs hrel hW => ?_)
  obtain ⟨hTy, hSP, hEX1, hTq_, t27_q_1, hU1⟩ := hrel
  have hS_h0 := ((hEX1.2 _ _ hT_h0 hne_q_1).2 rfl).trans hS_h0
  have hT_h0 := (hEX1.2 _ _ hT_h0 hne_q_1).1
  have hEX := EX_tr hEX hEX1 hnq_q_1 hne_q_1
  have hU : ∀ a k, USP k → TK L_5 kap_6 a k → TK L kap a k ∨ (fun (a k : Nat) => (k = 27 ∧ a = t27_q_1) ∨ (k = 10 ∧ a = q_1)) a k := U_tr hU hU1 (fun _ _ h => False.elim h) (fun a k h => h)
  have hT_q_1 := hTq_
  refine W.widen (k := 2) (n := 902) (Nat.le_of_ble_eq_true rfl) (Nat.le_of_ble_eq_true rfl) ?_
  refine pl_putF (ci := 11) (v := .ref q_1) (ty := .object "SwapPress$Tape") (C := RX11) (T := TX11) (N := 13) (fs' := [.ref q_1, .null, .null, .null, .null, .null, .null, .null, .null, .null, .null, .null, .int 0]) hx hb hT iX11 tyX11 tyX11_ok nmX11 hown hK hW hT_h0.1 hS_h0 rfl 0 (by decide) w353 rfl hin rfl (by decide +kernel) rfl rfl (Nat.le_of_ble_eq_true rfl) rfl dX11_init_12 (fun H locs S_8 e1 hW => ?_)
  have hTy := hTy.up e1 hT_h0 okc_99
  have hSP := SP_up hSP e1 hT_h0 (STPQ_n (by decide))
  have hS_h0 := us e1
  have hEX := EX_put hEX e1 (fun _ _ h => h)
  refine lv_aload_n hx hb dX11_init_15 rfl (lv_at hl 0 rfl) ?_
  refine pl_new (kap := kap_6) (k := 99) (ci := 6) (fs := [.int 0, .int 0, .null, .null, .null, .int 0, .int 0, .int 0, .int 0, .int 0]) (C := RX6) (T := TX6) (N := 10) hx hb hT iX6 tyX6 tyX6_ok hown (hT _ w46) (hT _ w47) (hT _ w3) hK hW hA rfl (fun j hj => by rcases (show j = 0 ∨ j = 1 ∨ j = 2 ∨ j = 3 ∨ j = 4 ∨ j = 5 ∨ j = 6 ∨ j = 7 ∨ j = 8 ∨ j = 9 by omega) with rfl | rfl | rfl | rfl | rfl | rfl | rfl | rfl | rfl | rfl <;> rfl) (Nat.le_of_ble_eq_true rfl) (Nat.le_of_ble_eq_true rfl) dX11_init_16 (fun q_9 H L_10 kap_11 S_12 hG hW => ?_)
  have hne_q_9 : h0 ≠ q_9 := hG.ne hT_h0.1
  have hTy := hG.ty hTy okc_99
  have hS_h0 := hG.at hT_h0.1 hS_h0
  have hT_h0 := hG.tk hT_h0
  have hT_q_1 := hG.tk hT_q_1
  have hnq_q_9 := fun (a : Nat) (h : a ∈ L) => EX_nq hEX hG.1 h
  have hSP := SP_gr hSP hG (STPQ_n (by decide))
  have hEX := EX_gr hEX hG
  have hT_q_9 := hG.new
  have hS_q_9 := hG.self
  have hU : ∀ a k, USP k → TK L_10 kap_11 a k → TK L kap a k ∨ (fun (a k : Nat) => (k = 27 ∧ a = t27_q_1) ∨ (k = 10 ∧ a = q_1)) a k := U_gr hU hG (fun _ _ h => h) (fun h => absurd h (by decide))
  refine W.widen (k := 3) (n := 912) (Nat.le_of_ble_eq_true rfl) (Nat.le_of_ble_eq_true rfl) ?_
  refine lv_dup hx hb dX11_init_19 rfl ?_
  refine lv_aload_n hx hb dX11_init_20 rfl (lv_at hl 0 rfl) ?_
  refine pl_get (ci := 11) (v := .ref q_1) (C := RX11) (T := TX11) (N := 13) hx hb hT iX11 hown hK hW hT_h0.1 hS_h0 rfl 0 (by decide) w353 rfl dX11_init_21 ?_
  refine pl_callk (va_runI (As := [.ref q_1]) (rest := [.ref q_9, .ref h0]) ⟨hx, hb, hml, hown, hT⟩ (n_Reader l dC dI cy L_10 kap_11 S_12 H.size q_9 q_1 hTy hSP hT_q_9 hS_q_9 hT_q_1) (cwI 1 hT (gT w50) rfl rfl rfl (hT _ w3) (hT _ w48) (hT _ w49) rfl (by decide +kernel) ⟨(Nat.le_of_ble_eq_true rfl), (Nat.le_of_ble_eq_true rfl)⟩) ⟨pcN.blind, pcN.pre hW.1 hK hW.2.1 hN hO⟩ rfl rfl hl.1 rfl (lv_room (Nat.le_of_ble_eq_true rfl)) dX11_init_24 ⟨(Nat.le_of_ble_eq_true rfl), (Nat.le_of_ble_eq_true rfl)⟩) hW hA (fun L_13 kap_14 S_15 H locs hrel hW => ?_)
  obtain ⟨hTy, hSP, hEX1, hTq_, hU1⟩ := hrel
  have hS_h0 := ((hEX1.2 _ _ hT_h0 hne_q_9).2 rfl).trans hS_h0
  have hT_h0 := (hEX1.2 _ _ hT_h0 hne_q_9).1
  have hT_q_1 := (hEX1.2 _ _ hT_q_1 (fun z => absurd (hT_q_1.2.symm.trans ((congrArg kap_11 z).trans hT_q_9.2)) (by decide))).1
  have hEX := EX_tr hEX hEX1 hnq_q_9 hne_q_9
  have hU : ∀ a k, USP k → TK L_13 kap_14 a k → TK L kap a k ∨ (fun (a k : Nat) => (k = 27 ∧ a = t27_q_1) ∨ (k = 10 ∧ a = q_1) ∨ (k = 6 ∧ a = q_9)) a k := U_tr hU hU1 (fun _ _ h => by rcases h with h | h <;> first | exact Or.inl h | exact Or.inr (Or.inl h)) (fun a k h => Or.inr (Or.inr (h)))
  have hT_q_9 := hTq_
  refine W.widen (k := 13) (n := 1296) (Nat.le_of_ble_eq_true rfl) (Nat.le_of_ble_eq_true rfl) ?_
  refine pl_putF (ci := 11) (v := .ref q_9) (ty := .object "SwapPress$Reader") (C := RX11) (T := TX11) (N := 13) (fs' := [.ref q_1, .ref q_9, .null, .null, .null, .null, .null, .null, .null, .null, .null, .null, .int 0]) hx hb hT iX11 tyX11 tyX11_ok nmX11 hown hK hW hT_h0.1 hS_h0 rfl 1 (by decide) w354 rfl hin rfl (by decide +kernel) rfl rfl (Nat.le_of_ble_eq_true rfl) rfl dX11_init_27 (fun H locs S_16 e1 hW => ?_)
  have hTy := hTy.up e1 hT_h0 okc_99
  have hSP := SP_up hSP e1 hT_h0 (STPQ_n (by decide))
  have hS_h0 := us e1
  have hEX := EX_put hEX e1 (fun _ _ h => h)
  refine lv_aload_n hx hb dX11_init_30 rfl (lv_at hl 0 rfl) ?_
  refine pl_new (kap := kap_14) (k := 99) (ci := 5) (fs := [.null, .int 0]) (C := RX5) (T := TX5) (N := 2) hx hb hT iX5 tyX5 tyX5_ok hown (hT _ w174) (hT _ w175) (hT _ w7) hK hW hA rfl (fun j hj => by rcases (show j = 0 ∨ j = 1 by omega) with rfl | rfl <;> rfl) (Nat.le_of_ble_eq_true rfl) (Nat.le_of_ble_eq_true rfl) dX11_init_31 (fun q_17 H L_18 kap_19 S_20 hG hW => ?_)
  have hne_q_17 : h0 ≠ q_17 := hG.ne hT_h0.1
  have hTy := hG.ty hTy okc_99
  have hS_h0 := hG.at hT_h0.1 hS_h0
  have hT_h0 := hG.tk hT_h0
  have hT_q_1 := hG.tk hT_q_1
  have hT_q_9 := hG.tk hT_q_9
  have hnq_q_17 := fun (a : Nat) (h : a ∈ L) => EX_nq hEX hG.1 h
  have hSP := SP_gr hSP hG (STPQ_n (by decide))
  have hEX := EX_gr hEX hG
  have hT_q_17 := hG.new
  have hS_q_17 := hG.self
  have hU : ∀ a k, USP k → TK L_18 kap_19 a k → TK L kap a k ∨ (fun (a k : Nat) => (k = 27 ∧ a = t27_q_1) ∨ (k = 10 ∧ a = q_1) ∨ (k = 6 ∧ a = q_9)) a k := U_gr hU hG (fun _ _ h => h) (fun h => absurd h (by decide))
  refine W.widen (k := 14) (n := 1298) (Nat.le_of_ble_eq_true rfl) (Nat.le_of_ble_eq_true rfl) ?_
  refine lv_dup hx hb dX11_init_34 rfl ?_
  refine pl_callk (va_runI (As := []) (rest := [.ref q_17, .ref h0]) ⟨hx, hb, hml, hown, hT⟩ (n_Past l dC dI cy L_18 kap_19 S_20 H.size q_17 hTy hSP hT_q_17 hS_q_17) (cwI 0 hT (gT w178) rfl rfl rfl (hT _ w7) (hT _ w176) (hT _ w177) rfl (by decide +kernel) ⟨(Nat.le_of_ble_eq_true rfl), (Nat.le_of_ble_eq_true rfl)⟩) ⟨pcN.blind, pcN.pre hW.1 hK hW.2.1 hN hO⟩ rfl rfl hl.1 rfl (lv_room (Nat.le_of_ble_eq_true rfl)) dX11_init_35 ⟨(Nat.le_of_ble_eq_true rfl), (Nat.le_of_ble_eq_true rfl)⟩) hW hA (fun L_21 kap_22 S_23 H locs hrel hW => ?_)
  obtain ⟨hTy, hSP, hEX1, hTq_, hU1⟩ := hrel
  have hS_h0 := ((hEX1.2 _ _ hT_h0 hne_q_17).2 rfl).trans hS_h0
  have hT_h0 := (hEX1.2 _ _ hT_h0 hne_q_17).1
  have hT_q_1 := (hEX1.2 _ _ hT_q_1 (fun z => absurd (hT_q_1.2.symm.trans ((congrArg kap_19 z).trans hT_q_17.2)) (by decide))).1
  have hT_q_9 := (hEX1.2 _ _ hT_q_9 (fun z => absurd (hT_q_9.2.symm.trans ((congrArg kap_19 z).trans hT_q_17.2)) (by decide))).1
  have hEX := EX_tr hEX hEX1 hnq_q_17 hne_q_17
  have hU : ∀ a k, USP k → TK L_21 kap_22 a k → TK L kap a k ∨ (fun (a k : Nat) => (k = 27 ∧ a = t27_q_1) ∨ (k = 10 ∧ a = q_1) ∨ (k = 6 ∧ a = q_9)) a k := U_tr hU hU1 (fun _ _ h => h) (fun a k h => False.elim h)
  have hT_q_17 := hTq_
  refine W.widen (k := 85) (n := 4028) (Nat.le_of_ble_eq_true rfl) (Nat.le_of_ble_eq_true rfl) ?_
  refine pl_putF (ci := 11) (v := .ref q_17) (ty := .object "SwapPress$Past") (C := RX11) (T := TX11) (N := 13) (fs' := [.ref q_1, .ref q_9, .ref q_17, .null, .null, .null, .null, .null, .null, .null, .null, .null, .int 0]) hx hb hT iX11 tyX11 tyX11_ok nmX11 hown hK hW hT_h0.1 hS_h0 rfl 2 (by decide) w355 rfl hin rfl (by decide +kernel) rfl rfl (Nat.le_of_ble_eq_true rfl) rfl dX11_init_38 (fun H locs S_24 e1 hW => ?_)
  have hTy := hTy.up e1 hT_h0 okc_99
  have hSP := SP_up hSP e1 hT_h0 (STPQ_n (by decide))
  have hS_h0 := us e1
  have hEX := EX_put hEX e1 (fun _ _ h => h)
  refine lv_aload_n hx hb dX11_init_41 rfl (lv_at hl 0 rfl) ?_
  refine pl_new (kap := kap_22) (k := 99) (ci := 1) (fs := [.null, .int 0]) (C := RX1) (T := TX1) (N := 2) hx hb hT iX1 tyX1 tyX1_ok hown (hT _ w191) (hT _ w192) (hT _ w8) hK hW hA rfl (fun j hj => by rcases (show j = 0 ∨ j = 1 by omega) with rfl | rfl <;> rfl) (Nat.le_of_ble_eq_true rfl) (Nat.le_of_ble_eq_true rfl) dX11_init_42 (fun q_25 H L_26 kap_27 S_28 hG hW => ?_)
  have hne_q_25 : h0 ≠ q_25 := hG.ne hT_h0.1
  have hTy := hG.ty hTy okc_99
  have hS_h0 := hG.at hT_h0.1 hS_h0
  have hT_h0 := hG.tk hT_h0
  have hT_q_1 := hG.tk hT_q_1
  have hT_q_9 := hG.tk hT_q_9
  have hT_q_17 := hG.tk hT_q_17
  have hnq_q_25 := fun (a : Nat) (h : a ∈ L) => EX_nq hEX hG.1 h
  have hSP := SP_gr hSP hG (STPQ_n (by decide))
  have hEX := EX_gr hEX hG
  have hT_q_25 := hG.new
  have hS_q_25 := hG.self
  have hU : ∀ a k, USP k → TK L_26 kap_27 a k → TK L kap a k ∨ (fun (a k : Nat) => (k = 27 ∧ a = t27_q_1) ∨ (k = 10 ∧ a = q_1) ∨ (k = 6 ∧ a = q_9)) a k := U_gr hU hG (fun _ _ h => h) (fun h => absurd h (by decide))
  refine W.widen (k := 86) (n := 4030) (Nat.le_of_ble_eq_true rfl) (Nat.le_of_ble_eq_true rfl) ?_
  refine lv_dup hx hb dX11_init_45 rfl ?_
  refine pl_callk (va_runIN (As := []) (rest := [.ref q_25, .ref h0]) ⟨hx, hb, hml, hown, hT⟩ (n_Flows l dC dI cy L_26 kap_27 S_28 H.size q_25 hTy hSP hT_q_25 hS_q_25) ⟨va_cnB 0 hT (gT w195) rfl rfl rfl (hN (RX11, 34, yX1_init, RX11) (by decide +kernel)) (hT _ w8) (by decide +kernel) ⟨(Nat.le_of_ble_eq_true rfl), (Nat.le_of_ble_eq_true rfl)⟩, rfl, (hT _ w194)⟩ ⟨pcN.blind, pcN.pre hW.1 hK hW.2.1 hN hO⟩ rfl rfl hl.1 rfl (lv_room (Nat.le_of_ble_eq_true rfl)) dX11_init_46 ⟨(Nat.le_of_ble_eq_true rfl), (Nat.le_of_ble_eq_true rfl)⟩) hW hA (fun L_29 kap_30 S_31 H locs hrel hW => ?_)
  obtain ⟨hTy, hSP, hEX1, hTq_, hU1⟩ := hrel
  have hS_h0 := ((hEX1.2 _ _ hT_h0 hne_q_25).2 rfl).trans hS_h0
  have hT_h0 := (hEX1.2 _ _ hT_h0 hne_q_25).1
  have hT_q_1 := (hEX1.2 _ _ hT_q_1 (fun z => absurd (hT_q_1.2.symm.trans ((congrArg kap_27 z).trans hT_q_25.2)) (by decide))).1
  have hT_q_9 := (hEX1.2 _ _ hT_q_9 (fun z => absurd (hT_q_9.2.symm.trans ((congrArg kap_27 z).trans hT_q_25.2)) (by decide))).1
  have hT_q_17 := (hEX1.2 _ _ hT_q_17 (fun z => absurd (hT_q_17.2.symm.trans ((congrArg kap_27 z).trans hT_q_25.2)) (by decide))).1
  have hEX := EX_tr hEX hEX1 hnq_q_25 hne_q_25
  have hU : ∀ a k, USP k → TK L_29 kap_30 a k → TK L kap a k ∨ (fun (a k : Nat) => (k = 27 ∧ a = t27_q_1) ∨ (k = 10 ∧ a = q_1) ∨ (k = 6 ∧ a = q_9)) a k := U_tr hU hU1 (fun _ _ h => h) (fun a k h => False.elim h)
  have hT_q_25 := hTq_
  refine W.widen (k := 87) (n := 4094) (Nat.le_of_ble_eq_true rfl) (Nat.le_of_ble_eq_true rfl) ?_
  refine pl_putF (ci := 11) (v := .ref q_25) (ty := .object "SwapPress$Flows") (C := RX11) (T := TX11) (N := 13) (fs' := [.ref q_1, .ref q_9, .ref q_17, .ref q_25, .null, .null, .null, .null, .null, .null, .null, .null, .int 0]) hx hb hT iX11 tyX11 tyX11_ok nmX11 hown hK hW hT_h0.1 hS_h0 rfl 3 (by decide) w356 rfl hin rfl (by decide +kernel) rfl rfl (Nat.le_of_ble_eq_true rfl) rfl dX11_init_49 (fun H locs S_32 e1 hW => ?_)
  have hTy := hTy.up e1 hT_h0 okc_99
  have hSP := SP_up hSP e1 hT_h0 (STPQ_n (by decide))
  have hS_h0 := us e1
  have hEX := EX_put hEX e1 (fun _ _ h => h)
  refine lv_aload_n hx hb dX11_init_52 rfl (lv_at hl 0 rfl) ?_
  refine pl_new (kap := kap_30) (k := 99) (ci := 7) (fs := [.null, .int 0, .long 0, .int 0, .null, .null]) (C := RX7) (T := TX7) (N := 6) hx hb hT iX7 tyX7 tyX7_ok hown (hT _ w210) (hT _ w211) (hT _ w9) hK hW hA rfl (fun j hj => by rcases (show j = 0 ∨ j = 1 ∨ j = 2 ∨ j = 3 ∨ j = 4 ∨ j = 5 by omega) with rfl | rfl | rfl | rfl | rfl | rfl <;> rfl) (Nat.le_of_ble_eq_true rfl) (Nat.le_of_ble_eq_true rfl) dX11_init_53 (fun q_33 H L_34 kap_35 S_36 hG hW => ?_)
  have hne_q_33 : h0 ≠ q_33 := hG.ne hT_h0.1
  have hTy := hG.ty hTy okc_99
  have hS_h0 := hG.at hT_h0.1 hS_h0
  have hT_h0 := hG.tk hT_h0
  have hT_q_1 := hG.tk hT_q_1
  have hT_q_9 := hG.tk hT_q_9
  have hT_q_17 := hG.tk hT_q_17
  have hT_q_25 := hG.tk hT_q_25
  have hnq_q_33 := fun (a : Nat) (h : a ∈ L) => EX_nq hEX hG.1 h
  have hSP := SP_gr hSP hG (STPQ_n (by decide))
  have hEX := EX_gr hEX hG
  have hT_q_33 := hG.new
  have hS_q_33 := hG.self
  have hU : ∀ a k, USP k → TK L_34 kap_35 a k → TK L kap a k ∨ (fun (a k : Nat) => (k = 27 ∧ a = t27_q_1) ∨ (k = 10 ∧ a = q_1) ∨ (k = 6 ∧ a = q_9)) a k := U_gr hU hG (fun _ _ h => h) (fun h => absurd h (by decide))
  refine W.widen (k := 88) (n := 4100) (Nat.le_of_ble_eq_true rfl) (Nat.le_of_ble_eq_true rfl) ?_
  refine lv_dup hx hb dX11_init_56 rfl ?_
  refine pl_callk (va_runIN (As := []) (rest := [.ref q_33, .ref h0]) ⟨hx, hb, hml, hown, hT⟩ (n_Rings l dC dI cy L_34 kap_35 S_36 H.size q_33 hTy hSP hT_q_33 hS_q_33) ⟨va_cnB 0 hT (gT w214) rfl rfl rfl (hN (RX11, 41, yX7_init, RX11) (by decide +kernel)) (hT _ w9) (by decide +kernel) ⟨(Nat.le_of_ble_eq_true rfl), (Nat.le_of_ble_eq_true rfl)⟩, rfl, (hT _ w213)⟩ ⟨pcN.blind, pcN.pre hW.1 hK hW.2.1 hN hO⟩ rfl rfl hl.1 rfl (lv_room (Nat.le_of_ble_eq_true rfl)) dX11_init_57 ⟨(Nat.le_of_ble_eq_true rfl), (Nat.le_of_ble_eq_true rfl)⟩) hW hA (fun L_37 kap_38 S_39 H locs hrel hW => ?_)
  obtain ⟨hTy, hSP, hEX1, hTq_, hU1⟩ := hrel
  have hS_h0 := ((hEX1.2 _ _ hT_h0 hne_q_33).2 rfl).trans hS_h0
  have hT_h0 := (hEX1.2 _ _ hT_h0 hne_q_33).1
  have hT_q_1 := (hEX1.2 _ _ hT_q_1 (fun z => absurd (hT_q_1.2.symm.trans ((congrArg kap_35 z).trans hT_q_33.2)) (by decide))).1
  have hT_q_9 := (hEX1.2 _ _ hT_q_9 (fun z => absurd (hT_q_9.2.symm.trans ((congrArg kap_35 z).trans hT_q_33.2)) (by decide))).1
  have hT_q_17 := (hEX1.2 _ _ hT_q_17 (fun z => absurd (hT_q_17.2.symm.trans ((congrArg kap_35 z).trans hT_q_33.2)) (by decide))).1
  have hT_q_25 := (hEX1.2 _ _ hT_q_25 (fun z => absurd (hT_q_25.2.symm.trans ((congrArg kap_35 z).trans hT_q_33.2)) (by decide))).1
  have hEX := EX_tr hEX hEX1 hnq_q_33 hne_q_33
  have hU : ∀ a k, USP k → TK L_37 kap_38 a k → TK L kap a k ∨ (fun (a k : Nat) => (k = 27 ∧ a = t27_q_1) ∨ (k = 10 ∧ a = q_1) ∨ (k = 6 ∧ a = q_9)) a k := U_tr hU hU1 (fun _ _ h => h) (fun a k h => False.elim h)
  have hT_q_33 := hTq_
  refine W.widen (k := 91) (n := 4124) (Nat.le_of_ble_eq_true rfl) (Nat.le_of_ble_eq_true rfl) ?_
  refine pl_putF (ci := 11) (v := .ref q_33) (ty := .object "SwapPress$Rings") (C := RX11) (T := TX11) (N := 13) (fs' := [.ref q_1, .ref q_9, .ref q_17, .ref q_25, .ref q_33, .null, .null, .null, .null, .null, .null, .null, .int 0]) hx hb hT iX11 tyX11 tyX11_ok nmX11 hown hK hW hT_h0.1 hS_h0 rfl 4 (by decide) w357 rfl hin rfl (by decide +kernel) rfl rfl (Nat.le_of_ble_eq_true rfl) rfl dX11_init_60 (fun H locs S_40 e1 hW => ?_)
  have hTy := hTy.up e1 hT_h0 okc_99
  have hSP := SP_up hSP e1 hT_h0 (STPQ_n (by decide))
  have hS_h0 := us e1
  have hEX := EX_put hEX e1 (fun _ _ h => h)
  refine lv_aload_n hx hb dX11_init_63 rfl (lv_at hl 0 rfl) ?_
  refine pl_new (kap := kap_38) (k := 99) (ci := 8) (fs := [.null, .int 0, .null]) (C := RX8) (T := TX8) (N := 3) hx hb hT iX8 tyX8 tyX8_ok hown (hT _ w239) (hT _ w240) (hT _ w10) hK hW hA rfl (fun j hj => by rcases (show j = 0 ∨ j = 1 ∨ j = 2 by omega) with rfl | rfl | rfl <;> rfl) (Nat.le_of_ble_eq_true rfl) (Nat.le_of_ble_eq_true rfl) dX11_init_64 (fun q_41 H L_42 kap_43 S_44 hG hW => ?_)
  have hne_q_41 : h0 ≠ q_41 := hG.ne hT_h0.1
  have hTy := hG.ty hTy okc_99
  have hS_h0 := hG.at hT_h0.1 hS_h0
  have hT_h0 := hG.tk hT_h0
  have hT_q_1 := hG.tk hT_q_1
  have hT_q_9 := hG.tk hT_q_9
  have hT_q_17 := hG.tk hT_q_17
  have hT_q_25 := hG.tk hT_q_25
  have hT_q_33 := hG.tk hT_q_33
  have hnq_q_41 := fun (a : Nat) (h : a ∈ L) => EX_nq hEX hG.1 h
  have hSP := SP_gr hSP hG (STPQ_n (by decide))
  have hEX := EX_gr hEX hG
  have hT_q_41 := hG.new
  have hS_q_41 := hG.self
  have hU : ∀ a k, USP k → TK L_42 kap_43 a k → TK L kap a k ∨ (fun (a k : Nat) => (k = 27 ∧ a = t27_q_1) ∨ (k = 10 ∧ a = q_1) ∨ (k = 6 ∧ a = q_9)) a k := U_gr hU hG (fun _ _ h => h) (fun h => absurd h (by decide))
  refine W.widen (k := 92) (n := 4127) (Nat.le_of_ble_eq_true rfl) (Nat.le_of_ble_eq_true rfl) ?_
  refine lv_dup hx hb dX11_init_67 rfl ?_
  refine pl_callk (va_runIN (As := []) (rest := [.ref q_41, .ref h0]) ⟨hx, hb, hml, hown, hT⟩ (n_Row l dC dI cy L_42 kap_43 S_44 H.size q_41 hTy hSP hT_q_41 hS_q_41) ⟨va_cnB 0 hT (gT w243) rfl rfl rfl (hN (RX11, 48, yX8_init, RX11) (by decide +kernel)) (hT _ w10) (by decide +kernel) ⟨(Nat.le_of_ble_eq_true rfl), (Nat.le_of_ble_eq_true rfl)⟩, rfl, (hT _ w242)⟩ ⟨pcN.blind, pcN.pre hW.1 hK hW.2.1 hN hO⟩ rfl rfl hl.1 rfl (lv_room (Nat.le_of_ble_eq_true rfl)) dX11_init_68 ⟨(Nat.le_of_ble_eq_true rfl), (Nat.le_of_ble_eq_true rfl)⟩) hW hA (fun L_45 kap_46 S_47 H locs hrel hW => ?_)
  obtain ⟨hTy, hSP, hEX1, hTq_, hU1⟩ := hrel
  have hS_h0 := ((hEX1.2 _ _ hT_h0 hne_q_41).2 rfl).trans hS_h0
  have hT_h0 := (hEX1.2 _ _ hT_h0 hne_q_41).1
  have hT_q_1 := (hEX1.2 _ _ hT_q_1 (fun z => absurd (hT_q_1.2.symm.trans ((congrArg kap_43 z).trans hT_q_41.2)) (by decide))).1
  have hT_q_9 := (hEX1.2 _ _ hT_q_9 (fun z => absurd (hT_q_9.2.symm.trans ((congrArg kap_43 z).trans hT_q_41.2)) (by decide))).1
  have hT_q_17 := (hEX1.2 _ _ hT_q_17 (fun z => absurd (hT_q_17.2.symm.trans ((congrArg kap_43 z).trans hT_q_41.2)) (by decide))).1
  have hT_q_25 := (hEX1.2 _ _ hT_q_25 (fun z => absurd (hT_q_25.2.symm.trans ((congrArg kap_43 z).trans hT_q_41.2)) (by decide))).1
  have hT_q_33 := (hEX1.2 _ _ hT_q_33 (fun z => absurd (hT_q_33.2.symm.trans ((congrArg kap_43 z).trans hT_q_41.2)) (by decide))).1
  have hEX := EX_tr hEX hEX1 hnq_q_41 hne_q_41
  have hU : ∀ a k, USP k → TK L_45 kap_46 a k → TK L kap a k ∨ (fun (a k : Nat) => (k = 27 ∧ a = t27_q_1) ∨ (k = 10 ∧ a = q_1) ∨ (k = 6 ∧ a = q_9)) a k := U_tr hU hU1 (fun _ _ h => h) (fun a k h => False.elim h)
  have hT_q_41 := hTq_
  refine W.widen (k := 94) (n := 4143) (Nat.le_of_ble_eq_true rfl) (Nat.le_of_ble_eq_true rfl) ?_
  refine pl_putF (ci := 11) (v := .ref q_41) (ty := .object "SwapPress$Row") (C := RX11) (T := TX11) (N := 13) (fs' := [.ref q_1, .ref q_9, .ref q_17, .ref q_25, .ref q_33, .ref q_41, .null, .null, .null, .null, .null, .null, .int 0]) hx hb hT iX11 tyX11 tyX11_ok nmX11 hown hK hW hT_h0.1 hS_h0 rfl 5 (by decide) w358 rfl hin rfl (by decide +kernel) rfl rfl (Nat.le_of_ble_eq_true rfl) rfl dX11_init_71 (fun H locs S_48 e1 hW => ?_)
  have hTy := hTy.up e1 hT_h0 okc_99
  have hSP := SP_up hSP e1 hT_h0 (STPQ_n (by decide))
  have hS_h0 := us e1
  have hEX := EX_put hEX e1 (fun _ _ h => h)
  refine lv_aload_n hx hb dX11_init_74 rfl (lv_at hl 0 rfl) ?_
  refine pl_new (kap := kap_46) (k := 99) (ci := 9) (fs := [.null, .null, .int 0, .long 0, .null, .null, .null, .null, .null, .null, .null, .int 0, .int 0]) (C := RX9) (T := TX9) (N := 13) hx hb hT iX9 tyX9 tyX9_ok hown (hT _ w257) (hT _ w258) (hT _ w11) hK hW hA rfl (fun j hj => by rcases (show j = 0 ∨ j = 1 ∨ j = 2 ∨ j = 3 ∨ j = 4 ∨ j = 5 ∨ j = 6 ∨ j = 7 ∨ j = 8 ∨ j = 9 ∨ j = 10 ∨ j = 11 ∨ j = 12 by omega) with rfl | rfl | rfl | rfl | rfl | rfl | rfl | rfl | rfl | rfl | rfl | rfl | rfl <;> rfl) (Nat.le_of_ble_eq_true rfl) (Nat.le_of_ble_eq_true rfl) dX11_init_75 (fun q_49 H L_50 kap_51 S_52 hG hW => ?_)
  have hne_q_49 : h0 ≠ q_49 := hG.ne hT_h0.1
  have hTy := hG.ty hTy okc_99
  have hS_h0 := hG.at hT_h0.1 hS_h0
  have hT_h0 := hG.tk hT_h0
  have hT_q_1 := hG.tk hT_q_1
  have hT_q_9 := hG.tk hT_q_9
  have hT_q_17 := hG.tk hT_q_17
  have hT_q_25 := hG.tk hT_q_25
  have hT_q_33 := hG.tk hT_q_33
  have hT_q_41 := hG.tk hT_q_41
  have hnq_q_49 := fun (a : Nat) (h : a ∈ L) => EX_nq hEX hG.1 h
  have hSP := SP_gr hSP hG (STPQ_n (by decide))
  have hEX := EX_gr hEX hG
  have hT_q_49 := hG.new
  have hS_q_49 := hG.self
  have hU : ∀ a k, USP k → TK L_50 kap_51 a k → TK L kap a k ∨ (fun (a k : Nat) => (k = 27 ∧ a = t27_q_1) ∨ (k = 10 ∧ a = q_1) ∨ (k = 6 ∧ a = q_9)) a k := U_gr hU hG (fun _ _ h => h) (fun h => absurd h (by decide))
  refine W.widen (k := 95) (n := 4156) (Nat.le_of_ble_eq_true rfl) (Nat.le_of_ble_eq_true rfl) ?_
  refine lv_dup hx hb dX11_init_78 rfl ?_
  refine pl_callk (va_runIN (As := []) (rest := [.ref q_49, .ref h0]) ⟨hx, hb, hml, hown, hT⟩ (n_Solver l dC dI cy L_50 kap_51 S_52 H.size q_49 hTy hSP hT_q_49 hS_q_49) ⟨va_cnB 0 hT (gT w261) rfl rfl rfl (hN (RX11, 55, yX9_init, RX11) (by decide +kernel)) (hT _ w11) (by decide +kernel) ⟨(Nat.le_of_ble_eq_true rfl), (Nat.le_of_ble_eq_true rfl)⟩, rfl, (hT _ w260)⟩ ⟨pcN.blind, pcN.pre hW.1 hK hW.2.1 hN hO⟩ rfl rfl hl.1 rfl (lv_room (Nat.le_of_ble_eq_true rfl)) dX11_init_79 ⟨(Nat.le_of_ble_eq_true rfl), (Nat.le_of_ble_eq_true rfl)⟩) hW hA (fun L_53 kap_54 S_55 H locs hrel hW => ?_)
  obtain ⟨hTy, hSP, hEX1, hTq_, hU1⟩ := hrel
  have hS_h0 := ((hEX1.2 _ _ hT_h0 hne_q_49).2 rfl).trans hS_h0
  have hT_h0 := (hEX1.2 _ _ hT_h0 hne_q_49).1
  have hT_q_1 := (hEX1.2 _ _ hT_q_1 (fun z => absurd (hT_q_1.2.symm.trans ((congrArg kap_51 z).trans hT_q_49.2)) (by decide))).1
  have hT_q_9 := (hEX1.2 _ _ hT_q_9 (fun z => absurd (hT_q_9.2.symm.trans ((congrArg kap_51 z).trans hT_q_49.2)) (by decide))).1
  have hT_q_17 := (hEX1.2 _ _ hT_q_17 (fun z => absurd (hT_q_17.2.symm.trans ((congrArg kap_51 z).trans hT_q_49.2)) (by decide))).1
  have hT_q_25 := (hEX1.2 _ _ hT_q_25 (fun z => absurd (hT_q_25.2.symm.trans ((congrArg kap_51 z).trans hT_q_49.2)) (by decide))).1
  have hT_q_33 := (hEX1.2 _ _ hT_q_33 (fun z => absurd (hT_q_33.2.symm.trans ((congrArg kap_51 z).trans hT_q_49.2)) (by decide))).1
  have hT_q_41 := (hEX1.2 _ _ hT_q_41 (fun z => absurd (hT_q_41.2.symm.trans ((congrArg kap_51 z).trans hT_q_49.2)) (by decide))).1
  have hEX := EX_tr hEX hEX1 hnq_q_49 hne_q_49
  have hU : ∀ a k, USP k → TK L_53 kap_54 a k → TK L kap a k ∨ (fun (a k : Nat) => (k = 27 ∧ a = t27_q_1) ∨ (k = 10 ∧ a = q_1) ∨ (k = 6 ∧ a = q_9)) a k := U_tr hU hU1 (fun _ _ h => h) (fun a k h => False.elim h)
  have hT_q_49 := hTq_
  refine W.widen (k := 104) (n := 4620) (Nat.le_of_ble_eq_true rfl) (Nat.le_of_ble_eq_true rfl) ?_
  refine pl_putF (ci := 11) (v := .ref q_49) (ty := .object "SwapPress$Solver") (C := RX11) (T := TX11) (N := 13) (fs' := [.ref q_1, .ref q_9, .ref q_17, .ref q_25, .ref q_33, .ref q_41, .ref q_49, .null, .null, .null, .null, .null, .int 0]) hx hb hT iX11 tyX11 tyX11_ok nmX11 hown hK hW hT_h0.1 hS_h0 rfl 6 (by decide) w359 rfl hin rfl (by decide +kernel) rfl rfl (Nat.le_of_ble_eq_true rfl) rfl dX11_init_82 (fun H locs S_56 e1 hW => ?_)
  have hTy := hTy.up e1 hT_h0 okc_99
  have hSP := SP_up hSP e1 hT_h0 (STPQ_n (by decide))
  have hS_h0 := us e1
  have hEX := EX_put hEX e1 (fun _ _ h => h)
  refine lv_aload_n hx hb dX11_init_85 rfl (lv_at hl 0 rfl) ?_
  refine pl_new (kap := kap_54) (k := 99) (ci := 9) (fs := [.null, .null, .int 0, .long 0, .null, .null, .null, .null, .null, .null, .null, .int 0, .int 0]) (C := RX9) (T := TX9) (N := 13) hx hb hT iX9 tyX9 tyX9_ok hown (hT _ w257) (hT _ w258) (hT _ w11) hK hW hA rfl (fun j hj => by rcases (show j = 0 ∨ j = 1 ∨ j = 2 ∨ j = 3 ∨ j = 4 ∨ j = 5 ∨ j = 6 ∨ j = 7 ∨ j = 8 ∨ j = 9 ∨ j = 10 ∨ j = 11 ∨ j = 12 by omega) with rfl | rfl | rfl | rfl | rfl | rfl | rfl | rfl | rfl | rfl | rfl | rfl | rfl <;> rfl) (Nat.le_of_ble_eq_true rfl) (Nat.le_of_ble_eq_true rfl) dX11_init_86 (fun q_57 H L_58 kap_59 S_60 hG hW => ?_)
  have hne_q_57 : h0 ≠ q_57 := hG.ne hT_h0.1
  have hTy := hG.ty hTy okc_99
  have hS_h0 := hG.at hT_h0.1 hS_h0
  have hT_h0 := hG.tk hT_h0
  have hT_q_1 := hG.tk hT_q_1
  have hT_q_9 := hG.tk hT_q_9
  have hT_q_17 := hG.tk hT_q_17
  have hT_q_25 := hG.tk hT_q_25
  have hT_q_33 := hG.tk hT_q_33
  have hT_q_41 := hG.tk hT_q_41
  have hT_q_49 := hG.tk hT_q_49
  have hnq_q_57 := fun (a : Nat) (h : a ∈ L) => EX_nq hEX hG.1 h
  have hSP := SP_gr hSP hG (STPQ_n (by decide))
  have hEX := EX_gr hEX hG
  have hT_q_57 := hG.new
  have hS_q_57 := hG.self
  have hU : ∀ a k, USP k → TK L_58 kap_59 a k → TK L kap a k ∨ (fun (a k : Nat) => (k = 27 ∧ a = t27_q_1) ∨ (k = 10 ∧ a = q_1) ∨ (k = 6 ∧ a = q_9)) a k := U_gr hU hG (fun _ _ h => h) (fun h => absurd h (by decide))
  refine W.widen (k := 105) (n := 4633) (Nat.le_of_ble_eq_true rfl) (Nat.le_of_ble_eq_true rfl) ?_
  refine lv_dup hx hb dX11_init_89 rfl ?_
  refine pl_callk (va_runIN (As := []) (rest := [.ref q_57, .ref h0]) ⟨hx, hb, hml, hown, hT⟩ (n_Solver l dC dI cy L_58 kap_59 S_60 H.size q_57 hTy hSP hT_q_57 hS_q_57) ⟨va_cnB 0 hT (gT w261) rfl rfl rfl (hN (RX11, 55, yX9_init, RX11) (by decide +kernel)) (hT _ w11) (by decide +kernel) ⟨(Nat.le_of_ble_eq_true rfl), (Nat.le_of_ble_eq_true rfl)⟩, rfl, (hT _ w260)⟩ ⟨pcN.blind, pcN.pre hW.1 hK hW.2.1 hN hO⟩ rfl rfl hl.1 rfl (lv_room (Nat.le_of_ble_eq_true rfl)) dX11_init_90 ⟨(Nat.le_of_ble_eq_true rfl), (Nat.le_of_ble_eq_true rfl)⟩) hW hA (fun L_61 kap_62 S_63 H locs hrel hW => ?_)
  obtain ⟨hTy, hSP, hEX1, hTq_, hU1⟩ := hrel
  have hS_h0 := ((hEX1.2 _ _ hT_h0 hne_q_57).2 rfl).trans hS_h0
  have hT_h0 := (hEX1.2 _ _ hT_h0 hne_q_57).1
  have hT_q_1 := (hEX1.2 _ _ hT_q_1 (fun z => absurd (hT_q_1.2.symm.trans ((congrArg kap_59 z).trans hT_q_57.2)) (by decide))).1
  have hT_q_9 := (hEX1.2 _ _ hT_q_9 (fun z => absurd (hT_q_9.2.symm.trans ((congrArg kap_59 z).trans hT_q_57.2)) (by decide))).1
  have hT_q_17 := (hEX1.2 _ _ hT_q_17 (fun z => absurd (hT_q_17.2.symm.trans ((congrArg kap_59 z).trans hT_q_57.2)) (by decide))).1
  have hT_q_25 := (hEX1.2 _ _ hT_q_25 (fun z => absurd (hT_q_25.2.symm.trans ((congrArg kap_59 z).trans hT_q_57.2)) (by decide))).1
  have hT_q_33 := (hEX1.2 _ _ hT_q_33 (fun z => absurd (hT_q_33.2.symm.trans ((congrArg kap_59 z).trans hT_q_57.2)) (by decide))).1
  have hT_q_41 := (hEX1.2 _ _ hT_q_41 (fun z => absurd (hT_q_41.2.symm.trans ((congrArg kap_59 z).trans hT_q_57.2)) (by decide))).1
  have hT_q_49 := (hEX1.2 _ _ hT_q_49 (fun z => absurd (hT_q_49.2.symm.trans ((congrArg kap_59 z).trans hT_q_57.2)) (by decide))).1
  have hEX := EX_tr hEX hEX1 hnq_q_57 hne_q_57
  have hU : ∀ a k, USP k → TK L_61 kap_62 a k → TK L kap a k ∨ (fun (a k : Nat) => (k = 27 ∧ a = t27_q_1) ∨ (k = 10 ∧ a = q_1) ∨ (k = 6 ∧ a = q_9)) a k := U_tr hU hU1 (fun _ _ h => h) (fun a k h => False.elim h)
  have hT_q_57 := hTq_
  refine W.widen (k := 114) (n := 5097) (Nat.le_of_ble_eq_true rfl) (Nat.le_of_ble_eq_true rfl) ?_
  refine pl_putF (ci := 11) (v := .ref q_57) (ty := .object "SwapPress$Solver") (C := RX11) (T := TX11) (N := 13) (fs' := [.ref q_1, .ref q_9, .ref q_17, .ref q_25, .ref q_33, .ref q_41, .ref q_49, .ref q_57, .null, .null, .null, .null, .int 0]) hx hb hT iX11 tyX11 tyX11_ok nmX11 hown hK hW hT_h0.1 hS_h0 rfl 7 (by decide) w360 rfl hin rfl (by decide +kernel) rfl rfl (Nat.le_of_ble_eq_true rfl) rfl dX11_init_93 (fun H locs S_64 e1 hW => ?_)
  have hTy := hTy.up e1 hT_h0 okc_99
  have hSP := SP_up hSP e1 hT_h0 (STPQ_n (by decide))
  have hS_h0 := us e1
  have hEX := EX_put hEX e1 (fun _ _ h => h)
  refine lv_aload_n hx hb dX11_init_96 rfl (lv_at hl 0 rfl) ?_
  refine pl_new (kap := kap_62) (k := 99) (ci := 2) (fs := [.int 0, .int 0, .null, .null, .null]) (C := RX2) (T := TX2) (N := 5) hx hb hT iX2 tyX2 tyX2_ok hown (hT _ w307) (hT _ w308) (hT _ w12) hK hW hA rfl (fun j hj => by rcases (show j = 0 ∨ j = 1 ∨ j = 2 ∨ j = 3 ∨ j = 4 by omega) with rfl | rfl | rfl | rfl | rfl <;> rfl) (Nat.le_of_ble_eq_true rfl) (Nat.le_of_ble_eq_true rfl) dX11_init_97 (fun q_65 H L_66 kap_67 S_68 hG hW => ?_)
  have hne_q_65 : h0 ≠ q_65 := hG.ne hT_h0.1
  have hTy := hG.ty hTy okc_99
  have hS_h0 := hG.at hT_h0.1 hS_h0
  have hT_h0 := hG.tk hT_h0
  have hT_q_1 := hG.tk hT_q_1
  have hT_q_9 := hG.tk hT_q_9
  have hT_q_17 := hG.tk hT_q_17
  have hT_q_25 := hG.tk hT_q_25
  have hT_q_33 := hG.tk hT_q_33
  have hT_q_41 := hG.tk hT_q_41
  have hT_q_49 := hG.tk hT_q_49
  have hT_q_57 := hG.tk hT_q_57
  have hnq_q_65 := fun (a : Nat) (h : a ∈ L) => EX_nq hEX hG.1 h
  have hSP := SP_gr hSP hG (STPQ_n (by decide))
  have hEX := EX_gr hEX hG
  have hT_q_65 := hG.new
  have hS_q_65 := hG.self
  have hU : ∀ a k, USP k → TK L_66 kap_67 a k → TK L kap a k ∨ (fun (a k : Nat) => (k = 27 ∧ a = t27_q_1) ∨ (k = 10 ∧ a = q_1) ∨ (k = 6 ∧ a = q_9)) a k := U_gr hU hG (fun _ _ h => h) (fun h => absurd h (by decide))
  refine W.widen (k := 115) (n := 5102) (Nat.le_of_ble_eq_true rfl) (Nat.le_of_ble_eq_true rfl) ?_
  refine lv_dup hx hb dX11_init_100 rfl ?_
  refine pl_callk (va_runIN (As := []) (rest := [.ref q_65, .ref h0]) ⟨hx, hb, hml, hown, hT⟩ (n_Groups l dC dI cy L_66 kap_67 S_68 H.size q_65 hTy hSP hT_q_65 hS_q_65) ⟨va_cnB 0 hT (gT w311) rfl rfl rfl (hN (RX11, 65, yX2_init, RX11) (by decide +kernel)) (hT _ w12) (by decide +kernel) ⟨(Nat.le_of_ble_eq_true rfl), (Nat.le_of_ble_eq_true rfl)⟩, rfl, (hT _ w310)⟩ ⟨pcN.blind, pcN.pre hW.1 hK hW.2.1 hN hO⟩ rfl rfl hl.1 rfl (lv_room (Nat.le_of_ble_eq_true rfl)) dX11_init_101 ⟨(Nat.le_of_ble_eq_true rfl), (Nat.le_of_ble_eq_true rfl)⟩) hW hA (fun L_69 kap_70 S_71 H locs hrel hW => ?_)
  obtain ⟨hTy, hSP, hEX1, hTq_, hU1⟩ := hrel
  have hS_h0 := ((hEX1.2 _ _ hT_h0 hne_q_65).2 rfl).trans hS_h0
  have hT_h0 := (hEX1.2 _ _ hT_h0 hne_q_65).1
  have hT_q_1 := (hEX1.2 _ _ hT_q_1 (fun z => absurd (hT_q_1.2.symm.trans ((congrArg kap_67 z).trans hT_q_65.2)) (by decide))).1
  have hT_q_9 := (hEX1.2 _ _ hT_q_9 (fun z => absurd (hT_q_9.2.symm.trans ((congrArg kap_67 z).trans hT_q_65.2)) (by decide))).1
  have hT_q_17 := (hEX1.2 _ _ hT_q_17 (fun z => absurd (hT_q_17.2.symm.trans ((congrArg kap_67 z).trans hT_q_65.2)) (by decide))).1
  have hT_q_25 := (hEX1.2 _ _ hT_q_25 (fun z => absurd (hT_q_25.2.symm.trans ((congrArg kap_67 z).trans hT_q_65.2)) (by decide))).1
  have hT_q_33 := (hEX1.2 _ _ hT_q_33 (fun z => absurd (hT_q_33.2.symm.trans ((congrArg kap_67 z).trans hT_q_65.2)) (by decide))).1
  have hT_q_41 := (hEX1.2 _ _ hT_q_41 (fun z => absurd (hT_q_41.2.symm.trans ((congrArg kap_67 z).trans hT_q_65.2)) (by decide))).1
  have hT_q_49 := (hEX1.2 _ _ hT_q_49 (fun z => absurd (hT_q_49.2.symm.trans ((congrArg kap_67 z).trans hT_q_65.2)) (by decide))).1
  have hT_q_57 := (hEX1.2 _ _ hT_q_57 (fun z => absurd (hT_q_57.2.symm.trans ((congrArg kap_67 z).trans hT_q_65.2)) (by decide))).1
  have hEX := EX_tr hEX hEX1 hnq_q_65 hne_q_65
  have hU : ∀ a k, USP k → TK L_69 kap_70 a k → TK L kap a k ∨ (fun (a k : Nat) => (k = 27 ∧ a = t27_q_1) ∨ (k = 10 ∧ a = q_1) ∨ (k = 6 ∧ a = q_9)) a k := U_tr hU hU1 (fun _ _ h => h) (fun a k h => False.elim h)
  have hT_q_65 := hTq_
  refine W.widen (k := 118) (n := 5622) (Nat.le_of_ble_eq_true rfl) (Nat.le_of_ble_eq_true rfl) ?_
  refine pl_putF (ci := 11) (v := .ref q_65) (ty := .object "SwapPress$Groups") (C := RX11) (T := TX11) (N := 13) (fs' := [.ref q_1, .ref q_9, .ref q_17, .ref q_25, .ref q_33, .ref q_41, .ref q_49, .ref q_57, .ref q_65, .null, .null, .null, .int 0]) hx hb hT iX11 tyX11 tyX11_ok nmX11 hown hK hW hT_h0.1 hS_h0 rfl 8 (by decide) w361 rfl hin rfl (by decide +kernel) rfl rfl (Nat.le_of_ble_eq_true rfl) rfl dX11_init_104 (fun H locs S_72 e1 hW => ?_)
  have hTy := hTy.up e1 hT_h0 okc_99
  have hSP := SP_up hSP e1 hT_h0 (STPQ_n (by decide))
  have hS_h0 := us e1
  have hEX := EX_put hEX e1 (fun _ _ h => h)
  refine lv_aload_n hx hb dX11_init_107 rfl (lv_at hl 0 rfl) ?_
  refine pl_new (kap := kap_70) (k := 99) (ci := 4) (fs := [.null, .int 0, .null]) (C := RX4) (T := TX4) (N := 3) hx hb hT iX4 tyX4 tyX4_ok hown (hT _ w331) (hT _ w332) (hT _ w13) hK hW hA rfl (fun j hj => by rcases (show j = 0 ∨ j = 1 ∨ j = 2 by omega) with rfl | rfl | rfl <;> rfl) (Nat.le_of_ble_eq_true rfl) (Nat.le_of_ble_eq_true rfl) dX11_init_108 (fun q_73 H L_74 kap_75 S_76 hG hW => ?_)
  have hne_q_73 : h0 ≠ q_73 := hG.ne hT_h0.1
  have hTy := hG.ty hTy okc_99
  have hS_h0 := hG.at hT_h0.1 hS_h0
  have hT_h0 := hG.tk hT_h0
  have hT_q_1 := hG.tk hT_q_1
  have hT_q_9 := hG.tk hT_q_9
  have hT_q_17 := hG.tk hT_q_17
  have hT_q_25 := hG.tk hT_q_25
  have hT_q_33 := hG.tk hT_q_33
  have hT_q_41 := hG.tk hT_q_41
  have hT_q_49 := hG.tk hT_q_49
  have hT_q_57 := hG.tk hT_q_57
  have hT_q_65 := hG.tk hT_q_65
  have hnq_q_73 := fun (a : Nat) (h : a ∈ L) => EX_nq hEX hG.1 h
  have hSP := SP_gr hSP hG (STPQ_n (by decide))
  have hEX := EX_gr hEX hG
  have hT_q_73 := hG.new
  have hS_q_73 := hG.self
  have hU : ∀ a k, USP k → TK L_74 kap_75 a k → TK L kap a k ∨ (fun (a k : Nat) => (k = 27 ∧ a = t27_q_1) ∨ (k = 10 ∧ a = q_1) ∨ (k = 6 ∧ a = q_9)) a k := U_gr hU hG (fun _ _ h => h) (fun h => absurd h (by decide))
  refine W.widen (k := 119) (n := 5625) (Nat.le_of_ble_eq_true rfl) (Nat.le_of_ble_eq_true rfl) ?_
  refine lv_dup hx hb dX11_init_111 rfl ?_
  refine pl_callk (va_runIN (As := []) (rest := [.ref q_73, .ref h0]) ⟨hx, hb, hml, hown, hT⟩ (n_Page l dC dI cy L_74 kap_75 S_76 H.size q_73 hTy hSP hT_q_73 hS_q_73) ⟨va_cnB 0 hT (gT w335) rfl rfl rfl (hN (RX11, 72, yX4_init, RX11) (by decide +kernel)) (hT _ w13) (by decide +kernel) ⟨(Nat.le_of_ble_eq_true rfl), (Nat.le_of_ble_eq_true rfl)⟩, rfl, (hT _ w334)⟩ ⟨pcN.blind, pcN.pre hW.1 hK hW.2.1 hN hO⟩ rfl rfl hl.1 rfl (lv_room (Nat.le_of_ble_eq_true rfl)) dX11_init_112 ⟨(Nat.le_of_ble_eq_true rfl), (Nat.le_of_ble_eq_true rfl)⟩) hW hA (fun L_77 kap_78 S_79 H locs hrel hW => ?_)
  obtain ⟨hTy, hSP, hEX1, hTq_, hU1⟩ := hrel
  have hS_h0 := ((hEX1.2 _ _ hT_h0 hne_q_73).2 rfl).trans hS_h0
  have hT_h0 := (hEX1.2 _ _ hT_h0 hne_q_73).1
  have hT_q_1 := (hEX1.2 _ _ hT_q_1 (fun z => absurd (hT_q_1.2.symm.trans ((congrArg kap_75 z).trans hT_q_73.2)) (by decide))).1
  have hT_q_9 := (hEX1.2 _ _ hT_q_9 (fun z => absurd (hT_q_9.2.symm.trans ((congrArg kap_75 z).trans hT_q_73.2)) (by decide))).1
  have hT_q_17 := (hEX1.2 _ _ hT_q_17 (fun z => absurd (hT_q_17.2.symm.trans ((congrArg kap_75 z).trans hT_q_73.2)) (by decide))).1
  have hT_q_25 := (hEX1.2 _ _ hT_q_25 (fun z => absurd (hT_q_25.2.symm.trans ((congrArg kap_75 z).trans hT_q_73.2)) (by decide))).1
  have hT_q_33 := (hEX1.2 _ _ hT_q_33 (fun z => absurd (hT_q_33.2.symm.trans ((congrArg kap_75 z).trans hT_q_73.2)) (by decide))).1
  have hT_q_41 := (hEX1.2 _ _ hT_q_41 (fun z => absurd (hT_q_41.2.symm.trans ((congrArg kap_75 z).trans hT_q_73.2)) (by decide))).1
  have hT_q_49 := (hEX1.2 _ _ hT_q_49 (fun z => absurd (hT_q_49.2.symm.trans ((congrArg kap_75 z).trans hT_q_73.2)) (by decide))).1
  have hT_q_57 := (hEX1.2 _ _ hT_q_57 (fun z => absurd (hT_q_57.2.symm.trans ((congrArg kap_75 z).trans hT_q_73.2)) (by decide))).1
  have hT_q_65 := (hEX1.2 _ _ hT_q_65 (fun z => absurd (hT_q_65.2.symm.trans ((congrArg kap_75 z).trans hT_q_73.2)) (by decide))).1
  have hEX := EX_tr hEX hEX1 hnq_q_73 hne_q_73
  have hU : ∀ a k, USP k → TK L_77 kap_78 a k → TK L kap a k ∨ (fun (a k : Nat) => (k = 27 ∧ a = t27_q_1) ∨ (k = 10 ∧ a = q_1) ∨ (k = 6 ∧ a = q_9)) a k := U_tr hU hU1 (fun _ _ h => h) (fun a k h => False.elim h)
  have hT_q_73 := hTq_
  refine W.widen (k := 121) (n := 5708) (Nat.le_of_ble_eq_true rfl) (Nat.le_of_ble_eq_true rfl) ?_
  refine pl_putF (ci := 11) (v := .ref q_73) (ty := .object "SwapPress$Page") (C := RX11) (T := TX11) (N := 13) (fs' := [.ref q_1, .ref q_9, .ref q_17, .ref q_25, .ref q_33, .ref q_41, .ref q_49, .ref q_57, .ref q_65, .ref q_73, .null, .null, .int 0]) hx hb hT iX11 tyX11 tyX11_ok nmX11 hown hK hW hT_h0.1 hS_h0 rfl 9 (by decide) w362 rfl hin rfl (by decide +kernel) rfl rfl (Nat.le_of_ble_eq_true rfl) rfl dX11_init_115 (fun H locs S_80 e1 hW => ?_)
  have hTy := hTy.up e1 hT_h0 okc_99
  have hSP := SP_up hSP e1 hT_h0 (STPQ_n (by decide))
  have hS_h0 := us e1
  have hEX := EX_put hEX e1 (fun _ _ h => h)
  refine lv_aload_n hx hb dX11_init_118 rfl (lv_at hl 0 rfl) ?_
  refine pl_new (kap := kap_78) (k := 99) (ci := 3) (fs := [.null, .null, .int 0, .int 0]) (C := RX3) (T := TX3) (N := 4) hx hb hT iX3 tyX3 tyX3_ok hown (hT _ w349) (hT _ w53) (hT _ w4) hK hW hA rfl (fun j hj => by rcases (show j = 0 ∨ j = 1 ∨ j = 2 ∨ j = 3 by omega) with rfl | rfl | rfl | rfl <;> rfl) (Nat.le_of_ble_eq_true rfl) (Nat.le_of_ble_eq_true rfl) dX11_init_119 (fun q_81 H L_82 kap_83 S_84 hG hW => ?_)
  have hne_q_81 : h0 ≠ q_81 := hG.ne hT_h0.1
  have hTy := hG.ty hTy okc_99
  have hS_h0 := hG.at hT_h0.1 hS_h0
  have hT_h0 := hG.tk hT_h0
  have hT_q_1 := hG.tk hT_q_1
  have hT_q_9 := hG.tk hT_q_9
  have hT_q_17 := hG.tk hT_q_17
  have hT_q_25 := hG.tk hT_q_25
  have hT_q_33 := hG.tk hT_q_33
  have hT_q_41 := hG.tk hT_q_41
  have hT_q_49 := hG.tk hT_q_49
  have hT_q_57 := hG.tk hT_q_57
  have hT_q_65 := hG.tk hT_q_65
  have hT_q_73 := hG.tk hT_q_73
  have hnq_q_81 := fun (a : Nat) (h : a ∈ L) => EX_nq hEX hG.1 h
  have hSP := SP_gr hSP hG (STPQ_n (by decide))
  have hEX := EX_gr hEX hG
  have hT_q_81 := hG.new
  have hS_q_81 := hG.self
  have hU : ∀ a k, USP k → TK L_82 kap_83 a k → TK L kap a k ∨ (fun (a k : Nat) => (k = 27 ∧ a = t27_q_1) ∨ (k = 10 ∧ a = q_1) ∨ (k = 6 ∧ a = q_9)) a k := U_gr hU hG (fun _ _ h => h) (fun h => absurd h (by decide))
  refine W.widen (k := 122) (n := 5712) (Nat.le_of_ble_eq_true rfl) (Nat.le_of_ble_eq_true rfl) ?_
  refine lv_dup hx hb dX11_init_122 rfl ?_
  refine pl_callk (va_runIN (As := []) (rest := [.ref q_81, .ref h0]) ⟨hx, hb, hml, hown, hT⟩ (n_Names l dC dI cy L_82 kap_83 S_84 H.size q_81 hTy hSP hT_q_81 hS_q_81) ⟨va_cnB 0 hT (gT w56) rfl rfl rfl (hN (RX11, 79, yX3_init, RX11) (by decide +kernel)) (hT _ w4) (by decide +kernel) ⟨(Nat.le_of_ble_eq_true rfl), (Nat.le_of_ble_eq_true rfl)⟩, rfl, (hT _ w55)⟩ ⟨pcN.blind, pcN.pre hW.1 hK hW.2.1 hN hO⟩ rfl rfl hl.1 rfl (lv_room (Nat.le_of_ble_eq_true rfl)) dX11_init_123 ⟨(Nat.le_of_ble_eq_true rfl), (Nat.le_of_ble_eq_true rfl)⟩) hW hA (fun L_85 kap_86 S_87 H locs hrel hW => ?_)
  obtain ⟨hTy, hSP, hEX1, hTq_, hU1⟩ := hrel
  have hS_h0 := ((hEX1.2 _ _ hT_h0 hne_q_81).2 rfl).trans hS_h0
  have hT_h0 := (hEX1.2 _ _ hT_h0 hne_q_81).1
  have hT_q_1 := (hEX1.2 _ _ hT_q_1 (fun z => absurd (hT_q_1.2.symm.trans ((congrArg kap_83 z).trans hT_q_81.2)) (by decide))).1
  have hT_q_9 := (hEX1.2 _ _ hT_q_9 (fun z => absurd (hT_q_9.2.symm.trans ((congrArg kap_83 z).trans hT_q_81.2)) (by decide))).1
  have hT_q_17 := (hEX1.2 _ _ hT_q_17 (fun z => absurd (hT_q_17.2.symm.trans ((congrArg kap_83 z).trans hT_q_81.2)) (by decide))).1
  have hT_q_25 := (hEX1.2 _ _ hT_q_25 (fun z => absurd (hT_q_25.2.symm.trans ((congrArg kap_83 z).trans hT_q_81.2)) (by decide))).1
  have hT_q_33 := (hEX1.2 _ _ hT_q_33 (fun z => absurd (hT_q_33.2.symm.trans ((congrArg kap_83 z).trans hT_q_81.2)) (by decide))).1
  have hT_q_41 := (hEX1.2 _ _ hT_q_41 (fun z => absurd (hT_q_41.2.symm.trans ((congrArg kap_83 z).trans hT_q_81.2)) (by decide))).1
  have hT_q_49 := (hEX1.2 _ _ hT_q_49 (fun z => absurd (hT_q_49.2.symm.trans ((congrArg kap_83 z).trans hT_q_81.2)) (by decide))).1
  have hT_q_57 := (hEX1.2 _ _ hT_q_57 (fun z => absurd (hT_q_57.2.symm.trans ((congrArg kap_83 z).trans hT_q_81.2)) (by decide))).1
  have hT_q_65 := (hEX1.2 _ _ hT_q_65 (fun z => absurd (hT_q_65.2.symm.trans ((congrArg kap_83 z).trans hT_q_81.2)) (by decide))).1
  have hT_q_73 := (hEX1.2 _ _ hT_q_73 (fun z => absurd (hT_q_73.2.symm.trans ((congrArg kap_83 z).trans hT_q_81.2)) (by decide))).1
  have hEX := EX_tr hEX hEX1 hnq_q_81 hne_q_81
  have hU : ∀ a k, USP k → TK L_85 kap_86 a k → TK L kap a k ∨ (fun (a k : Nat) => (k = 27 ∧ a = t27_q_1) ∨ (k = 10 ∧ a = q_1) ∨ (k = 6 ∧ a = q_9)) a k := U_tr hU hU1 (fun _ _ h => h) (fun a k h => False.elim h)
  have hT_q_81 := hTq_
  refine W.widen (k := 124) (n := 5820) (Nat.le_of_ble_eq_true rfl) (Nat.le_of_ble_eq_true rfl) ?_
  refine pl_put (ci := 11) (v := .ref q_81) (ty := .object "SwapPress$Names") (C := RX11) (T := TX11) (N := 13) (fs' := [.ref q_1, .ref q_9, .ref q_17, .ref q_25, .ref q_33, .ref q_41, .ref q_49, .ref q_57, .ref q_65, .ref q_73, .ref q_81, .null, .int 0]) hx hb hT iX11 tyX11 tyX11_ok nmX11 hown hK hW hT_h0.1 hS_h0 rfl 10 (by decide) w363 rfl (by decide +kernel) rfl rfl (Nat.le_of_ble_eq_true rfl) rfl dX11_init_126 (fun H locs S_88 e1 hW => ?_)
  have hTy := hTy.up e1 hT_h0 okc_99
  have hSP := SP_up hSP e1 hT_h0 (STPQ_n (by decide))
  have hS_h0 := us e1
  have hEX := EX_put hEX e1 (fun _ _ h => h)
  refine lv_aload_n hx hb dX11_init_129 rfl (lv_at hl 0 rfl) ?_
  refine pl_new (kap := kap_86) (k := 99) (ci := 0) (fs := [.null, .null, .null, .null, .null, .null, .int 0, .int 0]) (C := RX0) (T := TX0) (N := 8) hx hb hT iX0 tyX0 tyX0_ok hown (hT _ w351) (hT _ w79) (hT _ w5) hK hW hA rfl (fun j hj => by rcases (show j = 0 ∨ j = 1 ∨ j = 2 ∨ j = 3 ∨ j = 4 ∨ j = 5 ∨ j = 6 ∨ j = 7 by omega) with rfl | rfl | rfl | rfl | rfl | rfl | rfl | rfl <;> rfl) (Nat.le_of_ble_eq_true rfl) (Nat.le_of_ble_eq_true rfl) dX11_init_130 (fun q_89 H L_90 kap_91 S_92 hG hW => ?_)
  have hne_q_89 : h0 ≠ q_89 := hG.ne hT_h0.1
  have hTy := hG.ty hTy okc_99
  have hS_h0 := hG.at hT_h0.1 hS_h0
  have hT_h0 := hG.tk hT_h0
  have hT_q_1 := hG.tk hT_q_1
  have hT_q_9 := hG.tk hT_q_9
  have hT_q_17 := hG.tk hT_q_17
  have hT_q_25 := hG.tk hT_q_25
  have hT_q_33 := hG.tk hT_q_33
  have hT_q_41 := hG.tk hT_q_41
  have hT_q_49 := hG.tk hT_q_49
  have hT_q_57 := hG.tk hT_q_57
  have hT_q_65 := hG.tk hT_q_65
  have hT_q_73 := hG.tk hT_q_73
  have hT_q_81 := hG.tk hT_q_81
  have hnq_q_89 := fun (a : Nat) (h : a ∈ L) => EX_nq hEX hG.1 h
  have hSP := SP_gr hSP hG (STPQ_n (by decide))
  have hEX := EX_gr hEX hG
  have hT_q_89 := hG.new
  have hS_q_89 := hG.self
  have hU : ∀ a k, USP k → TK L_90 kap_91 a k → TK L kap a k ∨ (fun (a k : Nat) => (k = 27 ∧ a = t27_q_1) ∨ (k = 10 ∧ a = q_1) ∨ (k = 6 ∧ a = q_9)) a k := U_gr hU hG (fun _ _ h => h) (fun h => absurd h (by decide))
  refine W.widen (k := 125) (n := 5828) (Nat.le_of_ble_eq_true rfl) (Nat.le_of_ble_eq_true rfl) ?_
  refine lv_dup hx hb dX11_init_133 rfl ?_
  refine pl_callk (va_runI (As := []) (rest := [.ref q_89, .ref h0]) ⟨hx, hb, hml, hown, hT⟩ (n_Book0 l dC dI cy L_90 kap_91 S_92 H.size q_89 hTy hSP hT_q_89 hS_q_89) (cwI 0 hT (gT w82) rfl rfl rfl (hT _ w5) (hT _ w352) (hT _ w81) rfl (by decide +kernel) ⟨(Nat.le_of_ble_eq_true rfl), (Nat.le_of_ble_eq_true rfl)⟩) ⟨pcN.blind, pcN.pre hW.1 hK hW.2.1 hN hO⟩ rfl rfl hl.1 rfl (lv_room (Nat.le_of_ble_eq_true rfl)) dX11_init_134 ⟨(Nat.le_of_ble_eq_true rfl), (Nat.le_of_ble_eq_true rfl)⟩) hW hA (fun L_93 kap_94 S_95 H locs hrel hW => ?_)
  obtain ⟨hTy, hSP, hEX1, hTq_, hU1⟩ := hrel
  have hS_h0 := ((hEX1.2 _ _ hT_h0 hne_q_89).2 rfl).trans hS_h0
  have hT_h0 := (hEX1.2 _ _ hT_h0 hne_q_89).1
  have hT_q_1 := (hEX1.2 _ _ hT_q_1 (fun z => absurd (hT_q_1.2.symm.trans ((congrArg kap_91 z).trans hT_q_89.2)) (by decide))).1
  have hT_q_9 := (hEX1.2 _ _ hT_q_9 (fun z => absurd (hT_q_9.2.symm.trans ((congrArg kap_91 z).trans hT_q_89.2)) (by decide))).1
  have hT_q_17 := (hEX1.2 _ _ hT_q_17 (fun z => absurd (hT_q_17.2.symm.trans ((congrArg kap_91 z).trans hT_q_89.2)) (by decide))).1
  have hT_q_25 := (hEX1.2 _ _ hT_q_25 (fun z => absurd (hT_q_25.2.symm.trans ((congrArg kap_91 z).trans hT_q_89.2)) (by decide))).1
  have hT_q_33 := (hEX1.2 _ _ hT_q_33 (fun z => absurd (hT_q_33.2.symm.trans ((congrArg kap_91 z).trans hT_q_89.2)) (by decide))).1
  have hT_q_41 := (hEX1.2 _ _ hT_q_41 (fun z => absurd (hT_q_41.2.symm.trans ((congrArg kap_91 z).trans hT_q_89.2)) (by decide))).1
  have hT_q_49 := (hEX1.2 _ _ hT_q_49 (fun z => absurd (hT_q_49.2.symm.trans ((congrArg kap_91 z).trans hT_q_89.2)) (by decide))).1
  have hT_q_57 := (hEX1.2 _ _ hT_q_57 (fun z => absurd (hT_q_57.2.symm.trans ((congrArg kap_91 z).trans hT_q_89.2)) (by decide))).1
  have hT_q_65 := (hEX1.2 _ _ hT_q_65 (fun z => absurd (hT_q_65.2.symm.trans ((congrArg kap_91 z).trans hT_q_89.2)) (by decide))).1
  have hT_q_73 := (hEX1.2 _ _ hT_q_73 (fun z => absurd (hT_q_73.2.symm.trans ((congrArg kap_91 z).trans hT_q_89.2)) (by decide))).1
  have hT_q_81 := (hEX1.2 _ _ hT_q_81 (fun z => absurd (hT_q_81.2.symm.trans ((congrArg kap_91 z).trans hT_q_89.2)) (by decide))).1
  have hEX := EX_tr hEX hEX1 hnq_q_89 hne_q_89
  have hU : ∀ a k, USP k → TK L_93 kap_94 a k → TK L kap a k ∨ (fun (a k : Nat) => (k = 27 ∧ a = t27_q_1) ∨ (k = 10 ∧ a = q_1) ∨ (k = 6 ∧ a = q_9)) a k := U_tr hU hU1 (fun _ _ h => h) (fun a k h => False.elim h)
  have hT_q_89 := hTq_
  refine W.widen (k := 131) (n := 6092) (Nat.le_of_ble_eq_true rfl) (Nat.le_of_ble_eq_true rfl) ?_
  refine pl_put (ci := 11) (v := .ref q_89) (ty := .object "SwapPress$Book") (C := RX11) (T := TX11) (N := 13) (fs' := [.ref q_1, .ref q_9, .ref q_17, .ref q_25, .ref q_33, .ref q_41, .ref q_49, .ref q_57, .ref q_65, .ref q_73, .ref q_81, .ref q_89, .int 0]) hx hb hT iX11 tyX11 tyX11_ok nmX11 hown hK hW hT_h0.1 hS_h0 rfl 11 (by decide) w364 rfl (by decide +kernel) rfl rfl (Nat.le_of_ble_eq_true rfl) rfl dX11_init_137 (fun H locs S_96 e1 hW => ?_)
  have hTy := hTy.up e1 hT_h0 okc_99
  have hSP := SP_up hSP e1 hT_h0 (STPQ_n (by decide))
  have hS_h0 := us e1
  have hEX := EX_put hEX e1 (fun _ _ h => h)
  refine lv_aload_n hx hb dX11_init_140 rfl (lv_at hl 0 rfl) ?_
  refine lv_iconst (v := (-1)) hx hb dX11_init_141 (by decide) ?_
  refine pl_put (ci := 11) (v := .int (-1)) (ty := .int) (C := RX11) (T := TX11) (N := 13) (fs' := [.ref q_1, .ref q_9, .ref q_17, .ref q_25, .ref q_33, .ref q_41, .ref q_49, .ref q_57, .ref q_65, .ref q_73, .ref q_81, .ref q_89, .int (-1)]) hx hb hT iX11 tyX11 tyX11_ok nmX11 hown hK hW hT_h0.1 hS_h0 rfl 12 (by decide) w365 rfl (by decide +kernel) rfl rfl (Nat.le_of_ble_eq_true rfl) rfl dX11_init_142 (fun H locs S_97 e1 hW => ?_)
  have hTy := hTy.up e1 hT_h0 okc_99
  have hSP := SP_up hSP e1 hT_h0 (STPQ_n (by decide))
  have hS_h0 := us e1
  have hEX := EX_put hEX e1 (fun _ _ h => h)
  obtain ⟨kap_98, hk1⟩ : ∃ g : Nat → Nat, g = kup kap_94 h0 11 := ⟨_, rfl⟩
  have hT_q_1 := TK_ret hk1 hT_q_1 (fun z => absurd (hT_q_1.2.symm.trans ((congrArg kap_94 z).trans hT_h0.2)) (by decide))
  have hT_q_9 := TK_ret hk1 hT_q_9 (fun z => absurd (hT_q_9.2.symm.trans ((congrArg kap_94 z).trans hT_h0.2)) (by decide))
  have hT_q_17 := TK_ret hk1 hT_q_17 (fun z => absurd (hT_q_17.2.symm.trans ((congrArg kap_94 z).trans hT_h0.2)) (by decide))
  have hT_q_25 := TK_ret hk1 hT_q_25 (fun z => absurd (hT_q_25.2.symm.trans ((congrArg kap_94 z).trans hT_h0.2)) (by decide))
  have hT_q_33 := TK_ret hk1 hT_q_33 (fun z => absurd (hT_q_33.2.symm.trans ((congrArg kap_94 z).trans hT_h0.2)) (by decide))
  have hT_q_41 := TK_ret hk1 hT_q_41 (fun z => absurd (hT_q_41.2.symm.trans ((congrArg kap_94 z).trans hT_h0.2)) (by decide))
  have hT_q_49 := TK_ret hk1 hT_q_49 (fun z => absurd (hT_q_49.2.symm.trans ((congrArg kap_94 z).trans hT_h0.2)) (by decide))
  have hT_q_57 := TK_ret hk1 hT_q_57 (fun z => absurd (hT_q_57.2.symm.trans ((congrArg kap_94 z).trans hT_h0.2)) (by decide))
  have hT_q_65 := TK_ret hk1 hT_q_65 (fun z => absurd (hT_q_65.2.symm.trans ((congrArg kap_94 z).trans hT_h0.2)) (by decide))
  have hT_q_73 := TK_ret hk1 hT_q_73 (fun z => absurd (hT_q_73.2.symm.trans ((congrArg kap_94 z).trans hT_h0.2)) (by decide))
  have hT_q_81 := TK_ret hk1 hT_q_81 (fun z => absurd (hT_q_81.2.symm.trans ((congrArg kap_94 z).trans hT_h0.2)) (by decide))
  have hT_q_89 := TK_ret hk1 hT_q_89 (fun z => absurd (hT_q_89.2.symm.trans ((congrArg kap_94 z).trans hT_h0.2)) (by decide))
  have hTa_ := hT_h0
  have hT_h0 := TK_rets hk1 hTa_.1
  have hTy := hTy.ret hk1 hTa_ (by rw [hS_h0]; exact okc_11 ⟨q_1, q_9, q_17, q_25, q_33, q_41, q_49, q_57, q_65, q_73, q_81, q_89, (-1), rfl, hT_q_1, hT_q_9, hT_q_17, hT_q_25, hT_q_33, hT_q_41, hT_q_49, hT_q_57, hT_q_65, hT_q_73, hT_q_81, hT_q_89⟩)
  have hEX := EX_ret hEX hk1 (fun _ _ h => h)
  have hSP := SP_ret hSP hk1 (STPQ_n (by decide))
  have hU : ∀ a k, USP k → TK L_93 kap_98 a k → TK L kap a k ∨ (fun (a k : Nat) => (k = 27 ∧ a = t27_q_1) ∨ (k = 10 ∧ a = q_1) ∨ (k = 6 ∧ a = q_9)) a k := U_ret hU hk1 (fun _ _ h => h) (fun h => absurd h (by decide))
  refine W.widen (k := 131) (n := 6092) (Nat.le_of_ble_eq_true rfl) (Nat.le_of_ble_eq_true rfl) ?_
  exact W.vret hx hb hr (fun t ht h9 => ⟨⟨(L_93, kap_98, S_97), rfl, ⟨hTy, hSP, hEX, hT_h0, ⟨t27_q_1, q_1, q_9, hU⟩⟩, by rw [ht]; exact hW.1, va_K.moved h9.alike hK, hW.2.1⟩, hW.2.2.F ht⟩) hW.2.2.2.2 dX11_init_145

set_option maxHeartbeats 4000000 in
set_option maxRecDepth 100000 in
theorem n_Model (l : Launch) (dC : Nat → ClassId) (dI : Nat → Nat → Nat) (cy : Nat → ClassId) (L : List Nat) (kap : Nat → Nat) (S : Nat → va_E) (sz : Nat) (h0 : Nat) (hTy : Ty cy L kap (0, 0) S) (hSP : SPI L kap S) (hT_h0 : TK L kap h0 99) (hS_h0 : S h0 = .inr (12, [.null, .null, .null, .null, .null, .int 0, .int 0, .int 0, .int 0, .null, .int 0, .int 0, .int 0, .int 0, .int 0, .int 0, .int 0, .null, .null, .int 0, .null, .null, .null, .null, .null, .null, .null, .null, .null, .null, .null, .int 0])) : Met l yX12_init (wT yX12_init cX12_init 1 none) ({ frames := 1, cells := 19, slots := 4748, locals := 21 }) (pcN dC dI [.ref h0] sz (va_pl L S) (cyT cy) NLk [RX0]) (va_Qv (fun (u : KU) => Ty cy u.1 u.2.1 (0, 0) u.2.2 ∧ SPI u.1 u.2.1 u.2.2 ∧ EXT L kap S h0 u ∧ TK u.1 u.2.1 h0 12 ∧ (∃ t50 t51 t52 t55, (∀ a k, USP k → TK u.1 u.2.1 a k → TK L kap a k ∨ ((k = 50 ∧ a = t50) ∨ (k = 51 ∧ a = t51) ∨ (k = 52 ∧ a = t52) ∨ (k = 55 ∧ a = t55) ∨ (k = 12 ∧ a = h0))) ∧ u.2.2 t52 = .inl (cy 0, 2660, .inl (fun _ => 0)) ∧ dg (fld u.2.2 h0 0))) (fun u t => pB dC dI (AL L sz) (va_pl u.1 u.2.2) (cyT cy) t) (AL L sz)) 19 4748 (AL L sz) := by
  refine Met.ofW (cc := cX12_init) (maxL := 1) (ret := none) (by decide) rfl ?_
  intro p e s m args below meth c s₁ B hml hv
  obtain ⟨rfl, hsz, hP, hK, hD0, hN, hO⟩ := hv
  have hx := B.exec
  have hb := B.bytes
  have hr := B.returns
  have hT : ∀ wd ∈ TB, wd.before [.ref h0].toArray s = true := fun wd h => atoms_spec (ws := wT yX12_init cX12_init 1 none) B.pre wd (List.mem_cons_of_mem _ h)
  have hown : s.vm.findClass RX12 = some m.cls := findClass_of_methodNamed B.named
  have hlocks := B.notSynchronized
  have hin : meth.name = "<init>" := (name_of_methodNamed B.named B.method).1
  subst hsz
  have hW : PW dC dI L (AL L s.heap.size) s.heap S s.heap [] := ⟨hP, pl_self hD0, va_S.rf⟩
  have hA : ∀ q, s.heap.size ≤ q → AL L s.heap.size q := fun _ h => Or.inr h
  have hEX : EXT L kap S h0 (L, kap, S) := EX_0 hT_h0.1
  have hU : ∀ a k, USP k → TK L kap a k → TK L kap a k ∨ (fun (a k : Nat) => False) a k := fun a k _ h => Or.inl h
  have hl := lv_entry ([.ref h0]) (n := 1) (Nat.le_of_ble_eq_true rfl)
  rw [lg_entry_eq]
  generalize (lg_sl ([.ref h0]) ++ List.replicate (1 - (lg_sl ([.ref h0])).length) Slot.unset).toArray = ls at hl ⊢
  have hl : lv_has ls 1 [(0, .ref h0)] := hl
  refine lv_aload_n hx hb dX12_init_0 rfl (lv_at hl 0 rfl) ?_
  refine W.objInit hx hb hown (hT _ w1076) (hT _ w28) (hT _ w29) rfl (by rw [hml]; exact hl.1) rfl dX12_init_1 (Nat.le_of_ble_eq_true rfl) (Nat.le_of_ble_eq_true rfl) ?_
  refine W.eq (g2 := F0 m 4 ls []) rfl ?_
  refine lv_aload_n hx hb dX12_init_4 rfl (lv_at hl 0 rfl) ?_
  refine lv_sipush (v := 266) hx hb dX12_init_5 (by decide) ?_
  refine pl_newa (kap := kap) (k := 50) (atype := .int) (ty := .int) (a0 := (266, .inl (fun _ => 0))) (n := 266) (N' := 266) hx hb (hT _ w77) rfl hK hW hA 0 rfl (fun _ => rfl) (by decide) (by decide) (Nat.le_of_ble_eq_true rfl) (Nat.le_of_ble_eq_true rfl) (Nat.le_of_ble_eq_true rfl) dX12_init_8 (fun q_1 H L_2 kap_3 S_4 hG hW => ?_)
  have hTy := hG.ty hTy (okc_50 ⟨_, rfl, fun j _ => okS_z⟩)
  have hS_h0 := hG.at hT_h0.1 hS_h0
  have hT_h0 := hG.tk hT_h0
  have hnq_q_1 := fun (a : Nat) (h : a ∈ L) => EX_nq hEX hG.1 h
  have hSP := SP_gr hSP hG (STPQ_n (by decide))
  have hEX := EX_gr hEX hG
  have hT_q_1 := hG.new
  have hS_q_1 := hG.self
  have hU : ∀ a k, USP k → TK L_2 kap_3 a k → TK L kap a k ∨ (fun (a k : Nat) => (k = 50 ∧ a = q_1)) a k := U_gr hU hG (fun _ _ h => False.elim h) (fun _ => ⟨rfl, rfl⟩)
  refine W.widen (k := 1) (n := 266) (Nat.le_of_ble_eq_true rfl) (Nat.le_of_ble_eq_true rfl) ?_
  refine pl_putF (ci := 12) (v := .ref q_1) (ty := .array .int) (C := RX12) (T := TX12) (N := 32) (fs' := [.ref q_1, .null, .null, .null, .null, .int 0, .int 0, .int 0, .int 0, .null, .int 0, .int 0, .int 0, .int 0, .int 0, .int 0, .int 0, .null, .null, .int 0, .null, .null, .null, .null, .null, .null, .null, .null, .null, .null, .null, .int 0]) hx hb hT iX12 tyX12 tyX12_ok nmX12 hown hK hW hT_h0.1 hS_h0 rfl 0 (by decide) w1082 rfl hin rfl (by decide +kernel) rfl rfl (Nat.le_of_ble_eq_true rfl) rfl dX12_init_10 (fun H locs S_5 e1 hW => ?_)
  have hTy := hTy.up e1 hT_h0 okc_99
  have hSP := SP_up hSP e1 hT_h0 (STPQ_n (by decide))
  have hS_h0 := us e1
  have hEX := EX_put hEX e1 (fun _ _ h => h)
  refine lv_aload_n hx hb dX12_init_13 rfl (lv_at hl 0 rfl) ?_
  refine lv_sipush (v := 266) hx hb dX12_init_14 (by decide) ?_
  refine pl_newa (kap := kap_3) (k := 51) (atype := .int) (ty := .int) (a0 := (266, .inl (fun _ => 0))) (n := 266) (N' := 266) hx hb (hT _ w77) rfl hK hW hA 0 rfl (fun _ => rfl) (by decide) (by decide) (Nat.le_of_ble_eq_true rfl) (Nat.le_of_ble_eq_true rfl) (Nat.le_of_ble_eq_true rfl) dX12_init_17 (fun q_6 H L_7 kap_8 S_9 hG hW => ?_)
  have hTy := hG.ty hTy (okc_51 ⟨_, rfl, fun j _ => okS_z⟩)
  have hS_h0 := hG.at hT_h0.1 hS_h0
  have hT_h0 := hG.tk hT_h0
  have hT_q_1 := hG.tk hT_q_1
  have hnq_q_6 := fun (a : Nat) (h : a ∈ L) => EX_nq hEX hG.1 h
  have hSP := SP_gr hSP hG (STPQ_n (by decide))
  have hEX := EX_gr hEX hG
  have hT_q_6 := hG.new
  have hS_q_6 := hG.self
  have hU : ∀ a k, USP k → TK L_7 kap_8 a k → TK L kap a k ∨ (fun (a k : Nat) => (k = 50 ∧ a = q_1) ∨ (k = 51 ∧ a = q_6)) a k := U_gr hU hG (fun _ _ h => Or.inl h) (fun _ => Or.inr (⟨rfl, rfl⟩))
  refine W.widen (k := 2) (n := 532) (Nat.le_of_ble_eq_true rfl) (Nat.le_of_ble_eq_true rfl) ?_
  refine pl_putF (ci := 12) (v := .ref q_6) (ty := .array .int) (C := RX12) (T := TX12) (N := 32) (fs' := [.ref q_1, .ref q_6, .null, .null, .null, .int 0, .int 0, .int 0, .int 0, .null, .int 0, .int 0, .int 0, .int 0, .int 0, .int 0, .int 0, .null, .null, .int 0, .null, .null, .null, .null, .null, .null, .null, .null, .null, .null, .null, .int 0]) hx hb hT iX12 tyX12 tyX12_ok nmX12 hown hK hW hT_h0.1 hS_h0 rfl 1 (by decide) w1083 rfl hin rfl (by decide +kernel) rfl rfl (Nat.le_of_ble_eq_true rfl) rfl dX12_init_19 (fun H locs S_10 e1 hW => ?_)
  have hTy := hTy.up e1 hT_h0 okc_99
  have hSP := SP_up hSP e1 hT_h0 (STPQ_n (by decide))
  have hS_h0 := us e1
  have hEX := EX_put hEX e1 (fun _ _ h => h)
  refine lv_aload_n hx hb dX12_init_22 rfl (lv_at hl 0 rfl) ?_
  refine lv_sipush (v := 2660) hx hb dX12_init_23 (by decide) ?_
  refine pl_newa (kap := kap_8) (k := 52) (atype := .int) (ty := .int) (a0 := (2660, .inl (fun _ => 0))) (n := 2660) (N' := 2660) hx hb (hT _ w77) rfl hK hW hA 0 rfl (fun _ => rfl) (by decide) (by decide) (Nat.le_of_ble_eq_true rfl) (Nat.le_of_ble_eq_true rfl) (Nat.le_of_ble_eq_true rfl) dX12_init_26 (fun q_11 H L_12 kap_13 S_14 hG hW => ?_)
  have hTy := hG.ty hTy (okc_52 ⟨_, rfl, fun j _ => okS_z⟩)
  have hS_h0 := hG.at hT_h0.1 hS_h0
  have hT_h0 := hG.tk hT_h0
  have hT_q_1 := hG.tk hT_q_1
  have hT_q_6 := hG.tk hT_q_6
  have hnq_q_11 := fun (a : Nat) (h : a ∈ L) => EX_nq hEX hG.1 h
  have hSP := SP_gr hSP hG (STPQ_n (by decide))
  have hEX := EX_gr hEX hG
  have hT_q_11 := hG.new
  have hS_q_11 := hG.self
  have hU : ∀ a k, USP k → TK L_12 kap_13 a k → TK L kap a k ∨ (fun (a k : Nat) => (k = 50 ∧ a = q_1) ∨ (k = 51 ∧ a = q_6) ∨ (k = 52 ∧ a = q_11)) a k := U_gr hU hG (fun _ _ h => by rcases h with h | h <;> first | exact Or.inl h | exact Or.inr (Or.inl h)) (fun _ => Or.inr (Or.inr (⟨rfl, rfl⟩)))
  refine W.widen (k := 3) (n := 3192) (Nat.le_of_ble_eq_true rfl) (Nat.le_of_ble_eq_true rfl) ?_
  refine pl_putF (ci := 12) (v := .ref q_11) (ty := .array .int) (C := RX12) (T := TX12) (N := 32) (fs' := [.ref q_1, .ref q_6, .ref q_11, .null, .null, .int 0, .int 0, .int 0, .int 0, .null, .int 0, .int 0, .int 0, .int 0, .int 0, .int 0, .int 0, .null, .null, .int 0, .null, .null, .null, .null, .null, .null, .null, .null, .null, .null, .null, .int 0]) hx hb hT iX12 tyX12 tyX12_ok nmX12 hown hK hW hT_h0.1 hS_h0 rfl 2 (by decide) w1084 rfl hin rfl (by decide +kernel) rfl rfl (Nat.le_of_ble_eq_true rfl) rfl dX12_init_28 (fun H locs S_15 e1 hW => ?_)
  have hTy := hTy.up e1 hT_h0 okc_99
  have hSP := SP_up hSP e1 hT_h0 (STPQ_n (by decide))
  have hS_q_11 := un e1 hT_q_11 hT_h0 (by decide) hS_q_11
  have hS_h0 := us e1
  have hEX := EX_put hEX e1 (fun _ _ h => h)
  refine lv_aload_n hx hb dX12_init_31 rfl (lv_at hl 0 rfl) ?_
  refine lv_bipush (v := 12) hx hb dX12_init_32 (by decide) ?_
  refine pl_newa (kap := kap_13) (k := 53) (atype := .long) (ty := .long) (a0 := (12, .inr (.inl (fun _ => 0)))) (n := 12) (N' := 12) hx hb (hT _ w137) rfl hK hW hA 1 rfl (fun _ => rfl) (by decide) (by decide) (Nat.le_of_ble_eq_true rfl) (Nat.le_of_ble_eq_true rfl) (Nat.le_of_ble_eq_true rfl) dX12_init_34 (fun q_16 H L_17 kap_18 S_19 hG hW => ?_)
  have hTy := hG.ty hTy (okc_53 ⟨_, rfl⟩)
  have hS_h0 := hG.at hT_h0.1 hS_h0
  have hS_q_11 := hG.at hT_q_11.1 hS_q_11
  have hT_h0 := hG.tk hT_h0
  have hT_q_1 := hG.tk hT_q_1
  have hT_q_6 := hG.tk hT_q_6
  have hT_q_11 := hG.tk hT_q_11
  have hnq_q_16 := fun (a : Nat) (h : a ∈ L) => EX_nq hEX hG.1 h
  have hSP := SP_gr hSP hG (STPQ_n (by decide))
  have hEX := EX_gr hEX hG
  have hT_q_16 := hG.new
  have hS_q_16 := hG.self
  have hU : ∀ a k, USP k → TK L_17 kap_18 a k → TK L kap a k ∨ (fun (a k : Nat) => (k = 50 ∧ a = q_1) ∨ (k = 51 ∧ a = q_6) ∨ (k = 52 ∧ a = q_11)) a k := U_gr hU hG (fun _ _ h => h) (fun h => absurd h (by decide))
  refine W.widen (k := 4) (n := 3204) (Nat.le_of_ble_eq_true rfl) (Nat.le_of_ble_eq_true rfl) ?_
  refine pl_putF (ci := 12) (v := .ref q_16) (ty := .array .long) (C := RX12) (T := TX12) (N := 32) (fs' := [.ref q_1, .ref q_6, .ref q_11, .ref q_16, .null, .int 0, .int 0, .int 0, .int 0, .null, .int 0, .int 0, .int 0, .int 0, .int 0, .int 0, .int 0, .null, .null, .int 0, .null, .null, .null, .null, .null, .null, .null, .null, .null, .null, .null, .int 0]) hx hb hT iX12 tyX12 tyX12_ok nmX12 hown hK hW hT_h0.1 hS_h0 rfl 3 (by decide) w1085 rfl hin rfl (by decide +kernel) rfl rfl (Nat.le_of_ble_eq_true rfl) rfl dX12_init_36 (fun H locs S_20 e1 hW => ?_)
  have hTy := hTy.up e1 hT_h0 okc_99
  have hSP := SP_up hSP e1 hT_h0 (STPQ_n (by decide))
  have hS_q_11 := un e1 hT_q_11 hT_h0 (by decide) hS_q_11
  have hS_h0 := us e1
  have hEX := EX_put hEX e1 (fun _ _ h => h)
  refine lv_aload_n hx hb dX12_init_39 rfl (lv_at hl 0 rfl) ?_
  refine lv_bipush (v := 12) hx hb dX12_init_40 (by decide) ?_
  refine pl_newa (kap := kap_18) (k := 54) (atype := .long) (ty := .long) (a0 := (12, .inr (.inl (fun _ => 0)))) (n := 12) (N' := 12) hx hb (hT _ w137) rfl hK hW hA 1 rfl (fun _ => rfl) (by decide) (by decide) (Nat.le_of_ble_eq_true rfl) (Nat.le_of_ble_eq_true rfl) (Nat.le_of_ble_eq_true rfl) dX12_init_42 (fun q_21 H L_22 kap_23 S_24 hG hW => ?_)
  have hTy := hG.ty hTy (okc_54 ⟨_, rfl⟩)
  have hS_h0 := hG.at hT_h0.1 hS_h0
  have hS_q_11 := hG.at hT_q_11.1 hS_q_11
  have hT_h0 := hG.tk hT_h0
  have hT_q_1 := hG.tk hT_q_1
  have hT_q_6 := hG.tk hT_q_6
  have hT_q_11 := hG.tk hT_q_11
  have hT_q_16 := hG.tk hT_q_16
  have hnq_q_21 := fun (a : Nat) (h : a ∈ L) => EX_nq hEX hG.1 h
  have hSP := SP_gr hSP hG (STPQ_n (by decide))
  have hEX := EX_gr hEX hG
  have hT_q_21 := hG.new
  have hS_q_21 := hG.self
  have hU : ∀ a k, USP k → TK L_22 kap_23 a k → TK L kap a k ∨ (fun (a k : Nat) => (k = 50 ∧ a = q_1) ∨ (k = 51 ∧ a = q_6) ∨ (k = 52 ∧ a = q_11)) a k := U_gr hU hG (fun _ _ h => h) (fun h => absurd h (by decide))
  refine W.widen (k := 5) (n := 3216) (Nat.le_of_ble_eq_true rfl) (Nat.le_of_ble_eq_true rfl) ?_
  refine pl_putF (ci := 12) (v := .ref q_21) (ty := .array .long) (C := RX12) (T := TX12) (N := 32) (fs' := [.ref q_1, .ref q_6, .ref q_11, .ref q_16, .ref q_21, .int 0, .int 0, .int 0, .int 0, .null, .int 0, .int 0, .int 0, .int 0, .int 0, .int 0, .int 0, .null, .null, .int 0, .null, .null, .null, .null, .null, .null, .null, .null, .null, .null, .null, .int 0]) hx hb hT iX12 tyX12 tyX12_ok nmX12 hown hK hW hT_h0.1 hS_h0 rfl 4 (by decide) w1086 rfl hin rfl (by decide +kernel) rfl rfl (Nat.le_of_ble_eq_true rfl) rfl dX12_init_44 (fun H locs S_25 e1 hW => ?_)
  have hTy := hTy.up e1 hT_h0 okc_99
  have hSP := SP_up hSP e1 hT_h0 (STPQ_n (by decide))
  have hS_q_11 := un e1 hT_q_11 hT_h0 (by decide) hS_q_11
  have hS_h0 := us e1
  have hEX := EX_put hEX e1 (fun _ _ h => h)
  refine lv_aload_n hx hb dX12_init_47 rfl (lv_at hl 0 rfl) ?_
  refine lv_sipush (v := 900) hx hb dX12_init_48 (by decide) ?_
  refine pl_newa (kap := kap_23) (k := 55) (atype := .byte) (ty := .byte) (a0 := (900, .inl (fun _ => 0))) (n := 900) (N' := 900) hx hb (hT _ w45) rfl hK hW hA 2 rfl (fun _ => rfl) (by decide) (by decide) (Nat.le_of_ble_eq_true rfl) (Nat.le_of_ble_eq_true rfl) (Nat.le_of_ble_eq_true rfl) dX12_init_51 (fun q_26 H L_27 kap_28 S_29 hG hW => ?_)
  have hTy := hG.ty hTy (okc_55 ⟨_, rfl⟩)
  have hS_h0 := hG.at hT_h0.1 hS_h0
  have hS_q_11 := hG.at hT_q_11.1 hS_q_11
  have hT_h0 := hG.tk hT_h0
  have hT_q_1 := hG.tk hT_q_1
  have hT_q_6 := hG.tk hT_q_6
  have hT_q_11 := hG.tk hT_q_11
  have hT_q_16 := hG.tk hT_q_16
  have hT_q_21 := hG.tk hT_q_21
  have hnq_q_26 := fun (a : Nat) (h : a ∈ L) => EX_nq hEX hG.1 h
  have hSP := SP_gr hSP hG ⟨fun _ => rfl, fun h => absurd h (by decide), fun h => absurd h (by decide)⟩
  have hEX := EX_gr hEX hG
  have hT_q_26 := hG.new
  have hS_q_26 := hG.self
  have hU : ∀ a k, USP k → TK L_27 kap_28 a k → TK L kap a k ∨ (fun (a k : Nat) => (k = 50 ∧ a = q_1) ∨ (k = 51 ∧ a = q_6) ∨ (k = 52 ∧ a = q_11) ∨ (k = 55 ∧ a = q_26)) a k := U_gr hU hG (fun _ _ h => by rcases h with h | h | h <;> first | exact Or.inl h | exact Or.inr (Or.inl h) | exact Or.inr (Or.inr (Or.inl h))) (fun _ => Or.inr (Or.inr (Or.inr (⟨rfl, rfl⟩))))
  refine W.widen (k := 6) (n := 4116) (Nat.le_of_ble_eq_true rfl) (Nat.le_of_ble_eq_true rfl) ?_
  refine pl_putF (ci := 12) (v := .ref q_26) (ty := .array .byte) (C := RX12) (T := TX12) (N := 32) (fs' := [.ref q_1, .ref q_6, .ref q_11, .ref q_16, .ref q_21, .int 0, .int 0, .int 0, .int 0, .ref q_26, .int 0, .int 0, .int 0, .int 0, .int 0, .int 0, .int 0, .null, .null, .int 0, .null, .null, .null, .null, .null, .null, .null, .null, .null, .null, .null, .int 0]) hx hb hT iX12 tyX12 tyX12_ok nmX12 hown hK hW hT_h0.1 hS_h0 rfl 9 (by decide) w1091 rfl hin rfl (by decide +kernel) rfl rfl (Nat.le_of_ble_eq_true rfl) rfl dX12_init_53 (fun H locs S_30 e1 hW => ?_)
  have hTy := hTy.up e1 hT_h0 okc_99
  have hSP := SP_up hSP e1 hT_h0 (STPQ_n (by decide))
  have hS_q_11 := un e1 hT_q_11 hT_h0 (by decide) hS_q_11
  have hS_h0 := us e1
  have hEX := EX_put hEX e1 (fun _ _ h => h)
  refine lv_aload_n hx hb dX12_init_56 rfl (lv_at hl 0 rfl) ?_
  refine lv_iconst (v := (-1)) hx hb dX12_init_57 (by decide) ?_
  refine pl_put (ci := 12) (v := .int (-1)) (ty := .int) (C := RX12) (T := TX12) (N := 32) (fs' := [.ref q_1, .ref q_6, .ref q_11, .ref q_16, .ref q_21, .int 0, .int 0, .int 0, .int 0, .ref q_26, .int 0, .int 0, .int 0, .int 0, .int (-1), .int 0, .int 0, .null, .null, .int 0, .null, .null, .null, .null, .null, .null, .null, .null, .null, .null, .null, .int 0]) hx hb hT iX12 tyX12 tyX12_ok nmX12 hown hK hW hT_h0.1 hS_h0 rfl 14 (by decide) w1096 rfl (by decide +kernel) rfl rfl (Nat.le_of_ble_eq_true rfl) rfl dX12_init_58 (fun H locs S_31 e1 hW => ?_)
  have hTy := hTy.up e1 hT_h0 okc_99
  have hSP := SP_up hSP e1 hT_h0 (STPQ_n (by decide))
  have hS_q_11 := un e1 hT_q_11 hT_h0 (by decide) hS_q_11
  have hS_h0 := us e1
  have hEX := EX_put hEX e1 (fun _ _ h => h)
  refine lv_aload_n hx hb dX12_init_61 rfl (lv_at hl 0 rfl) ?_
  refine lv_bipush (v := 64) hx hb dX12_init_62 (by decide) ?_
  refine pl_newa (kap := kap_28) (k := 56) (atype := .int) (ty := .int) (a0 := (64, .inl (fun _ => 0))) (n := 64) (N' := 64) hx hb (hT _ w77) rfl hK hW hA 0 rfl (fun _ => rfl) (by decide) (by decide) (Nat.le_of_ble_eq_true rfl) (Nat.le_of_ble_eq_true rfl) (Nat.le_of_ble_eq_true rfl) dX12_init_64 (fun q_32 H L_33 kap_34 S_35 hG hW => ?_)
  have hTy := hG.ty hTy (okc_56 ⟨_, rfl⟩)
  have hS_h0 := hG.at hT_h0.1 hS_h0
  have hS_q_11 := hG.at hT_q_11.1 hS_q_11
  have hT_h0 := hG.tk hT_h0
  have hT_q_1 := hG.tk hT_q_1
  have hT_q_6 := hG.tk hT_q_6
  have hT_q_11 := hG.tk hT_q_11
  have hT_q_16 := hG.tk hT_q_16
  have hT_q_21 := hG.tk hT_q_21
  have hT_q_26 := hG.tk hT_q_26
  have hnq_q_32 := fun (a : Nat) (h : a ∈ L) => EX_nq hEX hG.1 h
  have hSP := SP_gr hSP hG (STPQ_n (by decide))
  have hEX := EX_gr hEX hG
  have hT_q_32 := hG.new
  have hS_q_32 := hG.self
  have hU : ∀ a k, USP k → TK L_33 kap_34 a k → TK L kap a k ∨ (fun (a k : Nat) => (k = 50 ∧ a = q_1) ∨ (k = 51 ∧ a = q_6) ∨ (k = 52 ∧ a = q_11) ∨ (k = 55 ∧ a = q_26)) a k := U_gr hU hG (fun _ _ h => h) (fun h => absurd h (by decide))
  refine W.widen (k := 7) (n := 4180) (Nat.le_of_ble_eq_true rfl) (Nat.le_of_ble_eq_true rfl) ?_
  refine pl_putF (ci := 12) (v := .ref q_32) (ty := .array .int) (C := RX12) (T := TX12) (N := 32) (fs' := [.ref q_1, .ref q_6, .ref q_11, .ref q_16, .ref q_21, .int 0, .int 0, .int 0, .int 0, .ref q_26, .int 0, .int 0, .int 0, .int 0, .int (-1), .int 0, .int 0, .ref q_32, .null, .int 0, .null, .null, .null, .null, .null, .null, .null, .null, .null, .null, .null, .int 0]) hx hb hT iX12 tyX12 tyX12_ok nmX12 hown hK hW hT_h0.1 hS_h0 rfl 17 (by decide) w1099 rfl hin rfl (by decide +kernel) rfl rfl (Nat.le_of_ble_eq_true rfl) rfl dX12_init_66 (fun H locs S_36 e1 hW => ?_)
  have hTy := hTy.up e1 hT_h0 okc_99
  have hSP := SP_up hSP e1 hT_h0 (STPQ_n (by decide))
  have hS_q_11 := un e1 hT_q_11 hT_h0 (by decide) hS_q_11
  have hS_h0 := us e1
  have hEX := EX_put hEX e1 (fun _ _ h => h)
  refine lv_aload_n hx hb dX12_init_69 rfl (lv_at hl 0 rfl) ?_
  refine lv_bipush (v := 8) hx hb dX12_init_70 (by decide) ?_
  refine pl_newa (kap := kap_34) (k := 57) (atype := .int) (ty := .int) (a0 := (8, .inl (fun _ => 0))) (n := 8) (N' := 8) hx hb (hT _ w77) rfl hK hW hA 0 rfl (fun _ => rfl) (by decide) (by decide) (Nat.le_of_ble_eq_true rfl) (Nat.le_of_ble_eq_true rfl) (Nat.le_of_ble_eq_true rfl) dX12_init_72 (fun q_37 H L_38 kap_39 S_40 hG hW => ?_)
  have hTy := hG.ty hTy (okc_57 ⟨_, rfl, fun j _ => ⟨0, by decide, rfl⟩⟩)
  have hS_h0 := hG.at hT_h0.1 hS_h0
  have hS_q_11 := hG.at hT_q_11.1 hS_q_11
  have hT_h0 := hG.tk hT_h0
  have hT_q_1 := hG.tk hT_q_1
  have hT_q_6 := hG.tk hT_q_6
  have hT_q_11 := hG.tk hT_q_11
  have hT_q_16 := hG.tk hT_q_16
  have hT_q_21 := hG.tk hT_q_21
  have hT_q_26 := hG.tk hT_q_26
  have hT_q_32 := hG.tk hT_q_32
  have hnq_q_37 := fun (a : Nat) (h : a ∈ L) => EX_nq hEX hG.1 h
  have hSP := SP_gr hSP hG (STPQ_n (by decide))
  have hEX := EX_gr hEX hG
  have hT_q_37 := hG.new
  have hS_q_37 := hG.self
  have hU : ∀ a k, USP k → TK L_38 kap_39 a k → TK L kap a k ∨ (fun (a k : Nat) => (k = 50 ∧ a = q_1) ∨ (k = 51 ∧ a = q_6) ∨ (k = 52 ∧ a = q_11) ∨ (k = 55 ∧ a = q_26)) a k := U_gr hU hG (fun _ _ h => h) (fun h => absurd h (by decide))
  refine W.widen (k := 8) (n := 4188) (Nat.le_of_ble_eq_true rfl) (Nat.le_of_ble_eq_true rfl) ?_
  refine pl_putF (ci := 12) (v := .ref q_37) (ty := .array .int) (C := RX12) (T := TX12) (N := 32) (fs' := [.ref q_1, .ref q_6, .ref q_11, .ref q_16, .ref q_21, .int 0, .int 0, .int 0, .int 0, .ref q_26, .int 0, .int 0, .int 0, .int 0, .int (-1), .int 0, .int 0, .ref q_32, .ref q_37, .int 0, .null, .null, .null, .null, .null, .null, .null, .null, .null, .null, .null, .int 0]) hx hb hT iX12 tyX12 tyX12_ok nmX12 hown hK hW hT_h0.1 hS_h0 rfl 18 (by decide) w1100 rfl hin rfl (by decide +kernel) rfl rfl (Nat.le_of_ble_eq_true rfl) rfl dX12_init_74 (fun H locs S_41 e1 hW => ?_)
  have hTy := hTy.up e1 hT_h0 okc_99
  have hSP := SP_up hSP e1 hT_h0 (STPQ_n (by decide))
  have hS_q_11 := un e1 hT_q_11 hT_h0 (by decide) hS_q_11
  have hS_h0 := us e1
  have hEX := EX_put hEX e1 (fun _ _ h => h)
  refine lv_aload_n hx hb dX12_init_77 rfl (lv_at hl 0 rfl) ?_
  refine lv_bipush (v := 8) hx hb dX12_init_78 (by decide) ?_
  refine pl_newa (kap := kap_39) (k := 58) (atype := .int) (ty := .int) (a0 := (8, .inl (fun _ => 0))) (n := 8) (N' := 8) hx hb (hT _ w77) rfl hK hW hA 0 rfl (fun _ => rfl) (by decide) (by decide) (Nat.le_of_ble_eq_true rfl) (Nat.le_of_ble_eq_true rfl) (Nat.le_of_ble_eq_true rfl) dX12_init_80 (fun q_42 H L_43 kap_44 S_45 hG hW => ?_)
  have hTy := hG.ty hTy (okc_58 ⟨_, rfl⟩)
  have hS_h0 := hG.at hT_h0.1 hS_h0
  have hS_q_11 := hG.at hT_q_11.1 hS_q_11
  have hT_h0 := hG.tk hT_h0
  have hT_q_1 := hG.tk hT_q_1
  have hT_q_6 := hG.tk hT_q_6
  have hT_q_11 := hG.tk hT_q_11
  have hT_q_16 := hG.tk hT_q_16
  have hT_q_21 := hG.tk hT_q_21
  have hT_q_26 := hG.tk hT_q_26
  have hT_q_32 := hG.tk hT_q_32
  have hT_q_37 := hG.tk hT_q_37
  have hnq_q_42 := fun (a : Nat) (h : a ∈ L) => EX_nq hEX hG.1 h
  have hSP := SP_gr hSP hG (STPQ_n (by decide))
  have hEX := EX_gr hEX hG
  have hT_q_42 := hG.new
  have hS_q_42 := hG.self
  have hU : ∀ a k, USP k → TK L_43 kap_44 a k → TK L kap a k ∨ (fun (a k : Nat) => (k = 50 ∧ a = q_1) ∨ (k = 51 ∧ a = q_6) ∨ (k = 52 ∧ a = q_11) ∨ (k = 55 ∧ a = q_26)) a k := U_gr hU hG (fun _ _ h => h) (fun h => absurd h (by decide))
  refine W.widen (k := 9) (n := 4196) (Nat.le_of_ble_eq_true rfl) (Nat.le_of_ble_eq_true rfl) ?_
  refine pl_putF (ci := 12) (v := .ref q_42) (ty := .array .int) (C := RX12) (T := TX12) (N := 32) (fs' := [.ref q_1, .ref q_6, .ref q_11, .ref q_16, .ref q_21, .int 0, .int 0, .int 0, .int 0, .ref q_26, .int 0, .int 0, .int 0, .int 0, .int (-1), .int 0, .int 0, .ref q_32, .ref q_37, .int 0, .ref q_42, .null, .null, .null, .null, .null, .null, .null, .null, .null, .null, .int 0]) hx hb hT iX12 tyX12 tyX12_ok nmX12 hown hK hW hT_h0.1 hS_h0 rfl 20 (by decide) w1102 rfl hin rfl (by decide +kernel) rfl rfl (Nat.le_of_ble_eq_true rfl) rfl dX12_init_82 (fun H locs S_46 e1 hW => ?_)
  have hTy := hTy.up e1 hT_h0 okc_99
  have hSP := SP_up hSP e1 hT_h0 (STPQ_n (by decide))
  have hS_q_11 := un e1 hT_q_11 hT_h0 (by decide) hS_q_11
  have hS_h0 := us e1
  have hEX := EX_put hEX e1 (fun _ _ h => h)
  refine lv_aload_n hx hb dX12_init_85 rfl (lv_at hl 0 rfl) ?_
  refine lv_bipush (v := 64) hx hb dX12_init_86 (by decide) ?_
  refine pl_newa (kap := kap_44) (k := 59) (atype := .int) (ty := .int) (a0 := (64, .inl (fun _ => 0))) (n := 64) (N' := 64) hx hb (hT _ w77) rfl hK hW hA 0 rfl (fun _ => rfl) (by decide) (by decide) (Nat.le_of_ble_eq_true rfl) (Nat.le_of_ble_eq_true rfl) (Nat.le_of_ble_eq_true rfl) dX12_init_88 (fun q_47 H L_48 kap_49 S_50 hG hW => ?_)
  have hTy := hG.ty hTy (okc_59 ⟨_, rfl⟩)
  have hS_h0 := hG.at hT_h0.1 hS_h0
  have hS_q_11 := hG.at hT_q_11.1 hS_q_11
  have hT_h0 := hG.tk hT_h0
  have hT_q_1 := hG.tk hT_q_1
  have hT_q_6 := hG.tk hT_q_6
  have hT_q_11 := hG.tk hT_q_11
  have hT_q_16 := hG.tk hT_q_16
  have hT_q_21 := hG.tk hT_q_21
  have hT_q_26 := hG.tk hT_q_26
  have hT_q_32 := hG.tk hT_q_32
  have hT_q_37 := hG.tk hT_q_37
  have hT_q_42 := hG.tk hT_q_42
  have hnq_q_47 := fun (a : Nat) (h : a ∈ L) => EX_nq hEX hG.1 h
  have hSP := SP_gr hSP hG (STPQ_n (by decide))
  have hEX := EX_gr hEX hG
  have hT_q_47 := hG.new
  have hS_q_47 := hG.self
  have hU : ∀ a k, USP k → TK L_48 kap_49 a k → TK L kap a k ∨ (fun (a k : Nat) => (k = 50 ∧ a = q_1) ∨ (k = 51 ∧ a = q_6) ∨ (k = 52 ∧ a = q_11) ∨ (k = 55 ∧ a = q_26)) a k := U_gr hU hG (fun _ _ h => h) (fun h => absurd h (by decide))
  refine W.widen (k := 10) (n := 4260) (Nat.le_of_ble_eq_true rfl) (Nat.le_of_ble_eq_true rfl) ?_
  refine pl_putF (ci := 12) (v := .ref q_47) (ty := .array .int) (C := RX12) (T := TX12) (N := 32) (fs' := [.ref q_1, .ref q_6, .ref q_11, .ref q_16, .ref q_21, .int 0, .int 0, .int 0, .int 0, .ref q_26, .int 0, .int 0, .int 0, .int 0, .int (-1), .int 0, .int 0, .ref q_32, .ref q_37, .int 0, .ref q_42, .ref q_47, .null, .null, .null, .null, .null, .null, .null, .null, .null, .int 0]) hx hb hT iX12 tyX12 tyX12_ok nmX12 hown hK hW hT_h0.1 hS_h0 rfl 21 (by decide) w1103 rfl hin rfl (by decide +kernel) rfl rfl (Nat.le_of_ble_eq_true rfl) rfl dX12_init_90 (fun H locs S_51 e1 hW => ?_)
  have hTy := hTy.up e1 hT_h0 okc_99
  have hSP := SP_up hSP e1 hT_h0 (STPQ_n (by decide))
  have hS_q_11 := un e1 hT_q_11 hT_h0 (by decide) hS_q_11
  have hS_h0 := us e1
  have hEX := EX_put hEX e1 (fun _ _ h => h)
  refine lv_aload_n hx hb dX12_init_93 rfl (lv_at hl 0 rfl) ?_
  refine lv_bipush (v := 64) hx hb dX12_init_94 (by decide) ?_
  refine pl_newa (kap := kap_49) (k := 60) (atype := .int) (ty := .int) (a0 := (64, .inl (fun _ => 0))) (n := 64) (N' := 64) hx hb (hT _ w77) rfl hK hW hA 0 rfl (fun _ => rfl) (by decide) (by decide) (Nat.le_of_ble_eq_true rfl) (Nat.le_of_ble_eq_true rfl) (Nat.le_of_ble_eq_true rfl) dX12_init_96 (fun q_52 H L_53 kap_54 S_55 hG hW => ?_)
  have hTy := hG.ty hTy (okc_60 ⟨_, rfl⟩)
  have hS_h0 := hG.at hT_h0.1 hS_h0
  have hS_q_11 := hG.at hT_q_11.1 hS_q_11
  have hT_h0 := hG.tk hT_h0
  have hT_q_1 := hG.tk hT_q_1
  have hT_q_6 := hG.tk hT_q_6
  have hT_q_11 := hG.tk hT_q_11
  have hT_q_16 := hG.tk hT_q_16
  have hT_q_21 := hG.tk hT_q_21
  have hT_q_26 := hG.tk hT_q_26
  have hT_q_32 := hG.tk hT_q_32
  have hT_q_37 := hG.tk hT_q_37
  have hT_q_42 := hG.tk hT_q_42
  have hT_q_47 := hG.tk hT_q_47
  have hnq_q_52 := fun (a : Nat) (h : a ∈ L) => EX_nq hEX hG.1 h
  have hSP := SP_gr hSP hG (STPQ_n (by decide))
  have hEX := EX_gr hEX hG
  have hT_q_52 := hG.new
  have hS_q_52 := hG.self
  have hU : ∀ a k, USP k → TK L_53 kap_54 a k → TK L kap a k ∨ (fun (a k : Nat) => (k = 50 ∧ a = q_1) ∨ (k = 51 ∧ a = q_6) ∨ (k = 52 ∧ a = q_11) ∨ (k = 55 ∧ a = q_26)) a k := U_gr hU hG (fun _ _ h => h) (fun h => absurd h (by decide))
  refine W.widen (k := 11) (n := 4324) (Nat.le_of_ble_eq_true rfl) (Nat.le_of_ble_eq_true rfl) ?_
  refine pl_putF (ci := 12) (v := .ref q_52) (ty := .array .int) (C := RX12) (T := TX12) (N := 32) (fs' := [.ref q_1, .ref q_6, .ref q_11, .ref q_16, .ref q_21, .int 0, .int 0, .int 0, .int 0, .ref q_26, .int 0, .int 0, .int 0, .int 0, .int (-1), .int 0, .int 0, .ref q_32, .ref q_37, .int 0, .ref q_42, .ref q_47, .ref q_52, .null, .null, .null, .null, .null, .null, .null, .null, .int 0]) hx hb hT iX12 tyX12 tyX12_ok nmX12 hown hK hW hT_h0.1 hS_h0 rfl 22 (by decide) w1104 rfl hin rfl (by decide +kernel) rfl rfl (Nat.le_of_ble_eq_true rfl) rfl dX12_init_98 (fun H locs S_56 e1 hW => ?_)
  have hTy := hTy.up e1 hT_h0 okc_99
  have hSP := SP_up hSP e1 hT_h0 (STPQ_n (by decide))
  have hS_q_11 := un e1 hT_q_11 hT_h0 (by decide) hS_q_11
  have hS_h0 := us e1
  have hEX := EX_put hEX e1 (fun _ _ h => h)
  refine lv_aload_n hx hb dX12_init_101 rfl (lv_at hl 0 rfl) ?_
  refine lv_bipush (v := 8) hx hb dX12_init_102 (by decide) ?_
  refine pl_newa (kap := kap_54) (k := 61) (atype := .int) (ty := .int) (a0 := (8, .inl (fun _ => 0))) (n := 8) (N' := 8) hx hb (hT _ w77) rfl hK hW hA 0 rfl (fun _ => rfl) (by decide) (by decide) (Nat.le_of_ble_eq_true rfl) (Nat.le_of_ble_eq_true rfl) (Nat.le_of_ble_eq_true rfl) dX12_init_104 (fun q_57 H L_58 kap_59 S_60 hG hW => ?_)
  have hTy := hG.ty hTy (okc_61 ⟨_, rfl⟩)
  have hS_h0 := hG.at hT_h0.1 hS_h0
  have hS_q_11 := hG.at hT_q_11.1 hS_q_11
  have hT_h0 := hG.tk hT_h0
  have hT_q_1 := hG.tk hT_q_1
  have hT_q_6 := hG.tk hT_q_6
  have hT_q_11 := hG.tk hT_q_11
  have hT_q_16 := hG.tk hT_q_16
  have hT_q_21 := hG.tk hT_q_21
  have hT_q_26 := hG.tk hT_q_26
  have hT_q_32 := hG.tk hT_q_32
  have hT_q_37 := hG.tk hT_q_37
  have hT_q_42 := hG.tk hT_q_42
  have hT_q_47 := hG.tk hT_q_47
  have hT_q_52 := hG.tk hT_q_52
  have hnq_q_57 := fun (a : Nat) (h : a ∈ L) => EX_nq hEX hG.1 h
  have hSP := SP_gr hSP hG (STPQ_n (by decide))
  have hEX := EX_gr hEX hG
  have hT_q_57 := hG.new
  have hS_q_57 := hG.self
  have hU : ∀ a k, USP k → TK L_58 kap_59 a k → TK L kap a k ∨ (fun (a k : Nat) => (k = 50 ∧ a = q_1) ∨ (k = 51 ∧ a = q_6) ∨ (k = 52 ∧ a = q_11) ∨ (k = 55 ∧ a = q_26)) a k := U_gr hU hG (fun _ _ h => h) (fun h => absurd h (by decide))
  refine W.widen (k := 12) (n := 4332) (Nat.le_of_ble_eq_true rfl) (Nat.le_of_ble_eq_true rfl) ?_
  refine pl_putF (ci := 12) (v := .ref q_57) (ty := .array .int) (C := RX12) (T := TX12) (N := 32) (fs' := [.ref q_1, .ref q_6, .ref q_11, .ref q_16, .ref q_21, .int 0, .int 0, .int 0, .int 0, .ref q_26, .int 0, .int 0, .int 0, .int 0, .int (-1), .int 0, .int 0, .ref q_32, .ref q_37, .int 0, .ref q_42, .ref q_47, .ref q_52, .ref q_57, .null, .null, .null, .null, .null, .null, .null, .int 0]) hx hb hT iX12 tyX12 tyX12_ok nmX12 hown hK hW hT_h0.1 hS_h0 rfl 23 (by decide) w1105 rfl hin rfl (by decide +kernel) rfl rfl (Nat.le_of_ble_eq_true rfl) rfl dX12_init_106 (fun H locs S_61 e1 hW => ?_)
  have hTy := hTy.up e1 hT_h0 okc_99
  have hSP := SP_up hSP e1 hT_h0 (STPQ_n (by decide))
  have hS_q_11 := un e1 hT_q_11 hT_h0 (by decide) hS_q_11
  have hS_h0 := us e1
  have hEX := EX_put hEX e1 (fun _ _ h => h)
  refine lv_aload_n hx hb dX12_init_109 rfl (lv_at hl 0 rfl) ?_
  refine lv_bipush (v := 8) hx hb dX12_init_110 (by decide) ?_
  refine pl_newa (kap := kap_59) (k := 62) (atype := .int) (ty := .int) (a0 := (8, .inl (fun _ => 0))) (n := 8) (N' := 8) hx hb (hT _ w77) rfl hK hW hA 0 rfl (fun _ => rfl) (by decide) (by decide) (Nat.le_of_ble_eq_true rfl) (Nat.le_of_ble_eq_true rfl) (Nat.le_of_ble_eq_true rfl) dX12_init_112 (fun q_62 H L_63 kap_64 S_65 hG hW => ?_)
  have hTy := hG.ty hTy (okc_62 ⟨_, rfl⟩)
  have hS_h0 := hG.at hT_h0.1 hS_h0
  have hS_q_11 := hG.at hT_q_11.1 hS_q_11
  have hT_h0 := hG.tk hT_h0
  have hT_q_1 := hG.tk hT_q_1
  have hT_q_6 := hG.tk hT_q_6
  have hT_q_11 := hG.tk hT_q_11
  have hT_q_16 := hG.tk hT_q_16
  have hT_q_21 := hG.tk hT_q_21
  have hT_q_26 := hG.tk hT_q_26
  have hT_q_32 := hG.tk hT_q_32
  have hT_q_37 := hG.tk hT_q_37
  have hT_q_42 := hG.tk hT_q_42
  have hT_q_47 := hG.tk hT_q_47
  have hT_q_52 := hG.tk hT_q_52
  have hT_q_57 := hG.tk hT_q_57
  have hnq_q_62 := fun (a : Nat) (h : a ∈ L) => EX_nq hEX hG.1 h
  have hSP := SP_gr hSP hG (STPQ_n (by decide))
  have hEX := EX_gr hEX hG
  have hT_q_62 := hG.new
  have hS_q_62 := hG.self
  have hU : ∀ a k, USP k → TK L_63 kap_64 a k → TK L kap a k ∨ (fun (a k : Nat) => (k = 50 ∧ a = q_1) ∨ (k = 51 ∧ a = q_6) ∨ (k = 52 ∧ a = q_11) ∨ (k = 55 ∧ a = q_26)) a k := U_gr hU hG (fun _ _ h => h) (fun h => absurd h (by decide))
  refine W.widen (k := 13) (n := 4340) (Nat.le_of_ble_eq_true rfl) (Nat.le_of_ble_eq_true rfl) ?_
  refine pl_putF (ci := 12) (v := .ref q_62) (ty := .array .int) (C := RX12) (T := TX12) (N := 32) (fs' := [.ref q_1, .ref q_6, .ref q_11, .ref q_16, .ref q_21, .int 0, .int 0, .int 0, .int 0, .ref q_26, .int 0, .int 0, .int 0, .int 0, .int (-1), .int 0, .int 0, .ref q_32, .ref q_37, .int 0, .ref q_42, .ref q_47, .ref q_52, .ref q_57, .ref q_62, .null, .null, .null, .null, .null, .null, .int 0]) hx hb hT iX12 tyX12 tyX12_ok nmX12 hown hK hW hT_h0.1 hS_h0 rfl 24 (by decide) w1106 rfl hin rfl (by decide +kernel) rfl rfl (Nat.le_of_ble_eq_true rfl) rfl dX12_init_114 (fun H locs S_66 e1 hW => ?_)
  have hTy := hTy.up e1 hT_h0 okc_99
  have hSP := SP_up hSP e1 hT_h0 (STPQ_n (by decide))
  have hS_q_11 := un e1 hT_q_11 hT_h0 (by decide) hS_q_11
  have hS_h0 := us e1
  have hEX := EX_put hEX e1 (fun _ _ h => h)
  refine lv_aload_n hx hb dX12_init_117 rfl (lv_at hl 0 rfl) ?_
  refine lv_bipush (v := 8) hx hb dX12_init_118 (by decide) ?_
  refine pl_newa (kap := kap_64) (k := 63) (atype := .int) (ty := .int) (a0 := (8, .inl (fun _ => 0))) (n := 8) (N' := 8) hx hb (hT _ w77) rfl hK hW hA 0 rfl (fun _ => rfl) (by decide) (by decide) (Nat.le_of_ble_eq_true rfl) (Nat.le_of_ble_eq_true rfl) (Nat.le_of_ble_eq_true rfl) dX12_init_120 (fun q_67 H L_68 kap_69 S_70 hG hW => ?_)
  have hTy := hG.ty hTy (okc_63 ⟨_, rfl⟩)
  have hS_h0 := hG.at hT_h0.1 hS_h0
  have hS_q_11 := hG.at hT_q_11.1 hS_q_11
  have hT_h0 := hG.tk hT_h0
  have hT_q_1 := hG.tk hT_q_1
  have hT_q_6 := hG.tk hT_q_6
  have hT_q_11 := hG.tk hT_q_11
  have hT_q_16 := hG.tk hT_q_16
  have hT_q_21 := hG.tk hT_q_21
  have hT_q_26 := hG.tk hT_q_26
  have hT_q_32 := hG.tk hT_q_32
  have hT_q_37 := hG.tk hT_q_37
  have hT_q_42 := hG.tk hT_q_42
  have hT_q_47 := hG.tk hT_q_47
  have hT_q_52 := hG.tk hT_q_52
  have hT_q_57 := hG.tk hT_q_57
  have hT_q_62 := hG.tk hT_q_62
  have hnq_q_67 := fun (a : Nat) (h : a ∈ L) => EX_nq hEX hG.1 h
  have hSP := SP_gr hSP hG (STPQ_n (by decide))
  have hEX := EX_gr hEX hG
  have hT_q_67 := hG.new
  have hS_q_67 := hG.self
  have hU : ∀ a k, USP k → TK L_68 kap_69 a k → TK L kap a k ∨ (fun (a k : Nat) => (k = 50 ∧ a = q_1) ∨ (k = 51 ∧ a = q_6) ∨ (k = 52 ∧ a = q_11) ∨ (k = 55 ∧ a = q_26)) a k := U_gr hU hG (fun _ _ h => h) (fun h => absurd h (by decide))
  refine W.widen (k := 14) (n := 4348) (Nat.le_of_ble_eq_true rfl) (Nat.le_of_ble_eq_true rfl) ?_
  refine pl_putF (ci := 12) (v := .ref q_67) (ty := .array .int) (C := RX12) (T := TX12) (N := 32) (fs' := [.ref q_1, .ref q_6, .ref q_11, .ref q_16, .ref q_21, .int 0, .int 0, .int 0, .int 0, .ref q_26, .int 0, .int 0, .int 0, .int 0, .int (-1), .int 0, .int 0, .ref q_32, .ref q_37, .int 0, .ref q_42, .ref q_47, .ref q_52, .ref q_57, .ref q_62, .ref q_67, .null, .null, .null, .null, .null, .int 0]) hx hb hT iX12 tyX12 tyX12_ok nmX12 hown hK hW hT_h0.1 hS_h0 rfl 25 (by decide) w1107 rfl hin rfl (by decide +kernel) rfl rfl (Nat.le_of_ble_eq_true rfl) rfl dX12_init_122 (fun H locs S_71 e1 hW => ?_)
  have hTy := hTy.up e1 hT_h0 okc_99
  have hSP := SP_up hSP e1 hT_h0 (STPQ_n (by decide))
  have hS_q_11 := un e1 hT_q_11 hT_h0 (by decide) hS_q_11
  have hS_h0 := us e1
  have hEX := EX_put hEX e1 (fun _ _ h => h)
  refine lv_aload_n hx hb dX12_init_125 rfl (lv_at hl 0 rfl) ?_
  refine lv_bipush (v := 64) hx hb dX12_init_126 (by decide) ?_
  refine pl_newa (kap := kap_69) (k := 64) (atype := .boolean) (ty := .boolean) (a0 := (64, .inl (fun _ => 0))) (n := 64) (N' := 64) hx hb (hT _ w138) rfl hK hW hA 3 rfl (fun _ => rfl) (by decide) (by decide) (Nat.le_of_ble_eq_true rfl) (Nat.le_of_ble_eq_true rfl) (Nat.le_of_ble_eq_true rfl) dX12_init_128 (fun q_72 H L_73 kap_74 S_75 hG hW => ?_)
  have hTy := hG.ty hTy (okc_64 ⟨_, rfl⟩)
  have hS_h0 := hG.at hT_h0.1 hS_h0
  have hS_q_11 := hG.at hT_q_11.1 hS_q_11
  have hT_h0 := hG.tk hT_h0
  have hT_q_1 := hG.tk hT_q_1
  have hT_q_6 := hG.tk hT_q_6
  have hT_q_11 := hG.tk hT_q_11
  have hT_q_16 := hG.tk hT_q_16
  have hT_q_21 := hG.tk hT_q_21
  have hT_q_26 := hG.tk hT_q_26
  have hT_q_32 := hG.tk hT_q_32
  have hT_q_37 := hG.tk hT_q_37
  have hT_q_42 := hG.tk hT_q_42
  have hT_q_47 := hG.tk hT_q_47
  have hT_q_52 := hG.tk hT_q_52
  have hT_q_57 := hG.tk hT_q_57
  have hT_q_62 := hG.tk hT_q_62
  have hT_q_67 := hG.tk hT_q_67
  have hnq_q_72 := fun (a : Nat) (h : a ∈ L) => EX_nq hEX hG.1 h
  have hSP := SP_gr hSP hG (STPQ_n (by decide))
  have hEX := EX_gr hEX hG
  have hT_q_72 := hG.new
  have hS_q_72 := hG.self
  have hU : ∀ a k, USP k → TK L_73 kap_74 a k → TK L kap a k ∨ (fun (a k : Nat) => (k = 50 ∧ a = q_1) ∨ (k = 51 ∧ a = q_6) ∨ (k = 52 ∧ a = q_11) ∨ (k = 55 ∧ a = q_26)) a k := U_gr hU hG (fun _ _ h => h) (fun h => absurd h (by decide))
  refine W.widen (k := 15) (n := 4412) (Nat.le_of_ble_eq_true rfl) (Nat.le_of_ble_eq_true rfl) ?_
  refine pl_putF (ci := 12) (v := .ref q_72) (ty := .array .boolean) (C := RX12) (T := TX12) (N := 32) (fs' := [.ref q_1, .ref q_6, .ref q_11, .ref q_16, .ref q_21, .int 0, .int 0, .int 0, .int 0, .ref q_26, .int 0, .int 0, .int 0, .int 0, .int (-1), .int 0, .int 0, .ref q_32, .ref q_37, .int 0, .ref q_42, .ref q_47, .ref q_52, .ref q_57, .ref q_62, .ref q_67, .ref q_72, .null, .null, .null, .null, .int 0]) hx hb hT iX12 tyX12 tyX12_ok nmX12 hown hK hW hT_h0.1 hS_h0 rfl 26 (by decide) w1108 rfl hin rfl (by decide +kernel) rfl rfl (Nat.le_of_ble_eq_true rfl) rfl dX12_init_130 (fun H locs S_76 e1 hW => ?_)
  have hTy := hTy.up e1 hT_h0 okc_99
  have hSP := SP_up hSP e1 hT_h0 (STPQ_n (by decide))
  have hS_q_11 := un e1 hT_q_11 hT_h0 (by decide) hS_q_11
  have hS_h0 := us e1
  have hEX := EX_put hEX e1 (fun _ _ h => h)
  refine lv_aload_n hx hb dX12_init_133 rfl (lv_at hl 0 rfl) ?_
  refine lv_bipush (v := 16) hx hb dX12_init_134 (by decide) ?_
  refine pl_newa (kap := kap_74) (k := 65) (atype := .int) (ty := .int) (a0 := (16, .inl (fun _ => 0))) (n := 16) (N' := 16) hx hb (hT _ w77) rfl hK hW hA 0 rfl (fun _ => rfl) (by decide) (by decide) (Nat.le_of_ble_eq_true rfl) (Nat.le_of_ble_eq_true rfl) (Nat.le_of_ble_eq_true rfl) dX12_init_136 (fun q_77 H L_78 kap_79 S_80 hG hW => ?_)
  have hTy := hG.ty hTy (okc_65 ⟨_, rfl⟩)
  have hS_h0 := hG.at hT_h0.1 hS_h0
  have hS_q_11 := hG.at hT_q_11.1 hS_q_11
  have hT_h0 := hG.tk hT_h0
  have hT_q_1 := hG.tk hT_q_1
  have hT_q_6 := hG.tk hT_q_6
  have hT_q_11 := hG.tk hT_q_11
  have hT_q_16 := hG.tk hT_q_16
  have hT_q_21 := hG.tk hT_q_21
  have hT_q_26 := hG.tk hT_q_26
  have hT_q_32 := hG.tk hT_q_32
  have hT_q_37 := hG.tk hT_q_37
  have hT_q_42 := hG.tk hT_q_42
  have hT_q_47 := hG.tk hT_q_47
  have hT_q_52 := hG.tk hT_q_52
  have hT_q_57 := hG.tk hT_q_57
  have hT_q_62 := hG.tk hT_q_62
  have hT_q_67 := hG.tk hT_q_67
  have hT_q_72 := hG.tk hT_q_72
  have hnq_q_77 := fun (a : Nat) (h : a ∈ L) => EX_nq hEX hG.1 h
  have hSP := SP_gr hSP hG (STPQ_n (by decide))
  have hEX := EX_gr hEX hG
  have hT_q_77 := hG.new
  have hS_q_77 := hG.self
  have hU : ∀ a k, USP k → TK L_78 kap_79 a k → TK L kap a k ∨ (fun (a k : Nat) => (k = 50 ∧ a = q_1) ∨ (k = 51 ∧ a = q_6) ∨ (k = 52 ∧ a = q_11) ∨ (k = 55 ∧ a = q_26)) a k := U_gr hU hG (fun _ _ h => h) (fun h => absurd h (by decide))
  refine W.widen (k := 16) (n := 4428) (Nat.le_of_ble_eq_true rfl) (Nat.le_of_ble_eq_true rfl) ?_
  refine pl_putF (ci := 12) (v := .ref q_77) (ty := .array .int) (C := RX12) (T := TX12) (N := 32) (fs' := [.ref q_1, .ref q_6, .ref q_11, .ref q_16, .ref q_21, .int 0, .int 0, .int 0, .int 0, .ref q_26, .int 0, .int 0, .int 0, .int 0, .int (-1), .int 0, .int 0, .ref q_32, .ref q_37, .int 0, .ref q_42, .ref q_47, .ref q_52, .ref q_57, .ref q_62, .ref q_67, .ref q_72, .ref q_77, .null, .null, .null, .int 0]) hx hb hT iX12 tyX12 tyX12_ok nmX12 hown hK hW hT_h0.1 hS_h0 rfl 27 (by decide) w1109 rfl hin rfl (by decide +kernel) rfl rfl (Nat.le_of_ble_eq_true rfl) rfl dX12_init_138 (fun H locs S_81 e1 hW => ?_)
  have hTy := hTy.up e1 hT_h0 okc_99
  have hSP := SP_up hSP e1 hT_h0 (STPQ_n (by decide))
  have hS_q_11 := un e1 hT_q_11 hT_h0 (by decide) hS_q_11
  have hS_h0 := us e1
  have hEX := EX_put hEX e1 (fun _ _ h => h)
  refine lv_aload_n hx hb dX12_init_141 rfl (lv_at hl 0 rfl) ?_
  refine lv_bipush (v := 16) hx hb dX12_init_142 (by decide) ?_
  refine pl_newa (kap := kap_79) (k := 66) (atype := .int) (ty := .int) (a0 := (16, .inl (fun _ => 0))) (n := 16) (N' := 16) hx hb (hT _ w77) rfl hK hW hA 0 rfl (fun _ => rfl) (by decide) (by decide) (Nat.le_of_ble_eq_true rfl) (Nat.le_of_ble_eq_true rfl) (Nat.le_of_ble_eq_true rfl) dX12_init_144 (fun q_82 H L_83 kap_84 S_85 hG hW => ?_)
  have hTy := hG.ty hTy (okc_66 ⟨_, rfl, fun j _ => Or.inr ⟨0, by decide, rfl⟩⟩)
  have hS_h0 := hG.at hT_h0.1 hS_h0
  have hS_q_11 := hG.at hT_q_11.1 hS_q_11
  have hT_h0 := hG.tk hT_h0
  have hT_q_1 := hG.tk hT_q_1
  have hT_q_6 := hG.tk hT_q_6
  have hT_q_11 := hG.tk hT_q_11
  have hT_q_16 := hG.tk hT_q_16
  have hT_q_21 := hG.tk hT_q_21
  have hT_q_26 := hG.tk hT_q_26
  have hT_q_32 := hG.tk hT_q_32
  have hT_q_37 := hG.tk hT_q_37
  have hT_q_42 := hG.tk hT_q_42
  have hT_q_47 := hG.tk hT_q_47
  have hT_q_52 := hG.tk hT_q_52
  have hT_q_57 := hG.tk hT_q_57
  have hT_q_62 := hG.tk hT_q_62
  have hT_q_67 := hG.tk hT_q_67
  have hT_q_72 := hG.tk hT_q_72
  have hT_q_77 := hG.tk hT_q_77
  have hnq_q_82 := fun (a : Nat) (h : a ∈ L) => EX_nq hEX hG.1 h
  have hSP := SP_gr hSP hG (STPQ_n (by decide))
  have hEX := EX_gr hEX hG
  have hT_q_82 := hG.new
  have hS_q_82 := hG.self
  have hU : ∀ a k, USP k → TK L_83 kap_84 a k → TK L kap a k ∨ (fun (a k : Nat) => (k = 50 ∧ a = q_1) ∨ (k = 51 ∧ a = q_6) ∨ (k = 52 ∧ a = q_11) ∨ (k = 55 ∧ a = q_26)) a k := U_gr hU hG (fun _ _ h => h) (fun h => absurd h (by decide))
  refine W.widen (k := 17) (n := 4444) (Nat.le_of_ble_eq_true rfl) (Nat.le_of_ble_eq_true rfl) ?_
  refine pl_putF (ci := 12) (v := .ref q_82) (ty := .array .int) (C := RX12) (T := TX12) (N := 32) (fs' := [.ref q_1, .ref q_6, .ref q_11, .ref q_16, .ref q_21, .int 0, .int 0, .int 0, .int 0, .ref q_26, .int 0, .int 0, .int 0, .int 0, .int (-1), .int 0, .int 0, .ref q_32, .ref q_37, .int 0, .ref q_42, .ref q_47, .ref q_52, .ref q_57, .ref q_62, .ref q_67, .ref q_72, .ref q_77, .ref q_82, .null, .null, .int 0]) hx hb hT iX12 tyX12 tyX12_ok nmX12 hown hK hW hT_h0.1 hS_h0 rfl 28 (by decide) w1110 rfl hin rfl (by decide +kernel) rfl rfl (Nat.le_of_ble_eq_true rfl) rfl dX12_init_146 (fun H locs S_86 e1 hW => ?_)
  have hTy := hTy.up e1 hT_h0 okc_99
  have hSP := SP_up hSP e1 hT_h0 (STPQ_n (by decide))
  have hS_q_11 := un e1 hT_q_11 hT_h0 (by decide) hS_q_11
  have hS_h0 := us e1
  have hEX := EX_put hEX e1 (fun _ _ h => h)
  refine lv_aload_n hx hb dX12_init_149 rfl (lv_at hl 0 rfl) ?_
  refine lv_sipush (v := 256) hx hb dX12_init_150 (by decide) ?_
  refine pl_newa (kap := kap_84) (k := 67) (atype := .int) (ty := .int) (a0 := (256, .inl (fun _ => 0))) (n := 256) (N' := 256) hx hb (hT _ w77) rfl hK hW hA 0 rfl (fun _ => rfl) (by decide) (by decide) (Nat.le_of_ble_eq_true rfl) (Nat.le_of_ble_eq_true rfl) (Nat.le_of_ble_eq_true rfl) dX12_init_153 (fun q_87 H L_88 kap_89 S_90 hG hW => ?_)
  have hTy := hG.ty hTy (okc_67 ⟨_, rfl⟩)
  have hS_h0 := hG.at hT_h0.1 hS_h0
  have hS_q_11 := hG.at hT_q_11.1 hS_q_11
  have hT_h0 := hG.tk hT_h0
  have hT_q_1 := hG.tk hT_q_1
  have hT_q_6 := hG.tk hT_q_6
  have hT_q_11 := hG.tk hT_q_11
  have hT_q_16 := hG.tk hT_q_16
  have hT_q_21 := hG.tk hT_q_21
  have hT_q_26 := hG.tk hT_q_26
  have hT_q_32 := hG.tk hT_q_32
  have hT_q_37 := hG.tk hT_q_37
  have hT_q_42 := hG.tk hT_q_42
  have hT_q_47 := hG.tk hT_q_47
  have hT_q_52 := hG.tk hT_q_52
  have hT_q_57 := hG.tk hT_q_57
  have hT_q_62 := hG.tk hT_q_62
  have hT_q_67 := hG.tk hT_q_67
  have hT_q_72 := hG.tk hT_q_72
  have hT_q_77 := hG.tk hT_q_77
  have hT_q_82 := hG.tk hT_q_82
  have hnq_q_87 := fun (a : Nat) (h : a ∈ L) => EX_nq hEX hG.1 h
  have hSP := SP_gr hSP hG (STPQ_n (by decide))
  have hEX := EX_gr hEX hG
  have hT_q_87 := hG.new
  have hS_q_87 := hG.self
  have hU : ∀ a k, USP k → TK L_88 kap_89 a k → TK L kap a k ∨ (fun (a k : Nat) => (k = 50 ∧ a = q_1) ∨ (k = 51 ∧ a = q_6) ∨ (k = 52 ∧ a = q_11) ∨ (k = 55 ∧ a = q_26)) a k := U_gr hU hG (fun _ _ h => h) (fun h => absurd h (by decide))
  refine W.widen (k := 18) (n := 4700) (Nat.le_of_ble_eq_true rfl) (Nat.le_of_ble_eq_true rfl) ?_
  refine pl_putF (ci := 12) (v := .ref q_87) (ty := .array .int) (C := RX12) (T := TX12) (N := 32) (fs' := [.ref q_1, .ref q_6, .ref q_11, .ref q_16, .ref q_21, .int 0, .int 0, .int 0, .int 0, .ref q_26, .int 0, .int 0, .int 0, .int 0, .int (-1), .int 0, .int 0, .ref q_32, .ref q_37, .int 0, .ref q_42, .ref q_47, .ref q_52, .ref q_57, .ref q_62, .ref q_67, .ref q_72, .ref q_77, .ref q_82, .ref q_87, .null, .int 0]) hx hb hT iX12 tyX12 tyX12_ok nmX12 hown hK hW hT_h0.1 hS_h0 rfl 29 (by decide) w1111 rfl hin rfl (by decide +kernel) rfl rfl (Nat.le_of_ble_eq_true rfl) rfl dX12_init_155 (fun H locs S_91 e1 hW => ?_)
  have hTy := hTy.up e1 hT_h0 okc_99
  have hSP := SP_up hSP e1 hT_h0 (STPQ_n (by decide))
  have hS_q_11 := un e1 hT_q_11 hT_h0 (by decide) hS_q_11
  have hS_h0 := us e1
  have hEX := EX_put hEX e1 (fun _ _ h => h)
  refine lv_aload_n hx hb dX12_init_158 rfl (lv_at hl 0 rfl) ?_
  refine lv_bipush (v := 48) hx hb dX12_init_159 (by decide) ?_
  refine pl_newa (kap := kap_89) (k := 68) (atype := .int) (ty := .int) (a0 := (48, .inl (fun _ => 0))) (n := 48) (N' := 48) hx hb (hT _ w77) rfl hK hW hA 0 rfl (fun _ => rfl) (by decide) (by decide) (Nat.le_of_ble_eq_true rfl) (Nat.le_of_ble_eq_true rfl) (Nat.le_of_ble_eq_true rfl) dX12_init_161 (fun q_92 H L_93 kap_94 S_95 hG hW => ?_)
  have hTy := hG.ty hTy (okc_68 ⟨_, rfl⟩)
  have hS_h0 := hG.at hT_h0.1 hS_h0
  have hS_q_11 := hG.at hT_q_11.1 hS_q_11
  have hT_h0 := hG.tk hT_h0
  have hT_q_1 := hG.tk hT_q_1
  have hT_q_6 := hG.tk hT_q_6
  have hT_q_11 := hG.tk hT_q_11
  have hT_q_16 := hG.tk hT_q_16
  have hT_q_21 := hG.tk hT_q_21
  have hT_q_26 := hG.tk hT_q_26
  have hT_q_32 := hG.tk hT_q_32
  have hT_q_37 := hG.tk hT_q_37
  have hT_q_42 := hG.tk hT_q_42
  have hT_q_47 := hG.tk hT_q_47
  have hT_q_52 := hG.tk hT_q_52
  have hT_q_57 := hG.tk hT_q_57
  have hT_q_62 := hG.tk hT_q_62
  have hT_q_67 := hG.tk hT_q_67
  have hT_q_72 := hG.tk hT_q_72
  have hT_q_77 := hG.tk hT_q_77
  have hT_q_82 := hG.tk hT_q_82
  have hT_q_87 := hG.tk hT_q_87
  have hnq_q_92 := fun (a : Nat) (h : a ∈ L) => EX_nq hEX hG.1 h
  have hSP := SP_gr hSP hG (STPQ_n (by decide))
  have hEX := EX_gr hEX hG
  have hT_q_92 := hG.new
  have hS_q_92 := hG.self
  have hU : ∀ a k, USP k → TK L_93 kap_94 a k → TK L kap a k ∨ (fun (a k : Nat) => (k = 50 ∧ a = q_1) ∨ (k = 51 ∧ a = q_6) ∨ (k = 52 ∧ a = q_11) ∨ (k = 55 ∧ a = q_26)) a k := U_gr hU hG (fun _ _ h => h) (fun h => absurd h (by decide))
  refine W.widen (k := 19) (n := 4748) (Nat.le_of_ble_eq_true rfl) (Nat.le_of_ble_eq_true rfl) ?_
  refine pl_putF (ci := 12) (v := .ref q_92) (ty := .array .int) (C := RX12) (T := TX12) (N := 32) (fs' := [.ref q_1, .ref q_6, .ref q_11, .ref q_16, .ref q_21, .int 0, .int 0, .int 0, .int 0, .ref q_26, .int 0, .int 0, .int 0, .int 0, .int (-1), .int 0, .int 0, .ref q_32, .ref q_37, .int 0, .ref q_42, .ref q_47, .ref q_52, .ref q_57, .ref q_62, .ref q_67, .ref q_72, .ref q_77, .ref q_82, .ref q_87, .ref q_92, .int 0]) hx hb hT iX12 tyX12 tyX12_ok nmX12 hown hK hW hT_h0.1 hS_h0 rfl 30 (by decide) w1112 rfl hin rfl (by decide +kernel) rfl rfl (Nat.le_of_ble_eq_true rfl) rfl dX12_init_163 (fun H locs S_96 e1 hW => ?_)
  have hTy := hTy.up e1 hT_h0 okc_99
  have hSP := SP_up hSP e1 hT_h0 (STPQ_n (by decide))
  have hS_q_11 := un e1 hT_q_11 hT_h0 (by decide) hS_q_11
  have hS_h0 := us e1
  have hEX := EX_put hEX e1 (fun _ _ h => h)
  obtain ⟨kap_97, hk1⟩ : ∃ g : Nat → Nat, g = kup kap_94 h0 12 := ⟨_, rfl⟩
  have hT_q_1 := TK_ret hk1 hT_q_1 (fun z => absurd (hT_q_1.2.symm.trans ((congrArg kap_94 z).trans hT_h0.2)) (by decide))
  have hT_q_6 := TK_ret hk1 hT_q_6 (fun z => absurd (hT_q_6.2.symm.trans ((congrArg kap_94 z).trans hT_h0.2)) (by decide))
  have hT_q_11 := TK_ret hk1 hT_q_11 (fun z => absurd (hT_q_11.2.symm.trans ((congrArg kap_94 z).trans hT_h0.2)) (by decide))
  have hT_q_16 := TK_ret hk1 hT_q_16 (fun z => absurd (hT_q_16.2.symm.trans ((congrArg kap_94 z).trans hT_h0.2)) (by decide))
  have hT_q_21 := TK_ret hk1 hT_q_21 (fun z => absurd (hT_q_21.2.symm.trans ((congrArg kap_94 z).trans hT_h0.2)) (by decide))
  have hT_q_26 := TK_ret hk1 hT_q_26 (fun z => absurd (hT_q_26.2.symm.trans ((congrArg kap_94 z).trans hT_h0.2)) (by decide))
  have hT_q_32 := TK_ret hk1 hT_q_32 (fun z => absurd (hT_q_32.2.symm.trans ((congrArg kap_94 z).trans hT_h0.2)) (by decide))
  have hT_q_37 := TK_ret hk1 hT_q_37 (fun z => absurd (hT_q_37.2.symm.trans ((congrArg kap_94 z).trans hT_h0.2)) (by decide))
  have hT_q_42 := TK_ret hk1 hT_q_42 (fun z => absurd (hT_q_42.2.symm.trans ((congrArg kap_94 z).trans hT_h0.2)) (by decide))
  have hT_q_47 := TK_ret hk1 hT_q_47 (fun z => absurd (hT_q_47.2.symm.trans ((congrArg kap_94 z).trans hT_h0.2)) (by decide))
  have hT_q_52 := TK_ret hk1 hT_q_52 (fun z => absurd (hT_q_52.2.symm.trans ((congrArg kap_94 z).trans hT_h0.2)) (by decide))
  have hT_q_57 := TK_ret hk1 hT_q_57 (fun z => absurd (hT_q_57.2.symm.trans ((congrArg kap_94 z).trans hT_h0.2)) (by decide))
  have hT_q_62 := TK_ret hk1 hT_q_62 (fun z => absurd (hT_q_62.2.symm.trans ((congrArg kap_94 z).trans hT_h0.2)) (by decide))
  have hT_q_67 := TK_ret hk1 hT_q_67 (fun z => absurd (hT_q_67.2.symm.trans ((congrArg kap_94 z).trans hT_h0.2)) (by decide))
  have hT_q_72 := TK_ret hk1 hT_q_72 (fun z => absurd (hT_q_72.2.symm.trans ((congrArg kap_94 z).trans hT_h0.2)) (by decide))
  have hT_q_77 := TK_ret hk1 hT_q_77 (fun z => absurd (hT_q_77.2.symm.trans ((congrArg kap_94 z).trans hT_h0.2)) (by decide))
  have hT_q_82 := TK_ret hk1 hT_q_82 (fun z => absurd (hT_q_82.2.symm.trans ((congrArg kap_94 z).trans hT_h0.2)) (by decide))
  have hT_q_87 := TK_ret hk1 hT_q_87 (fun z => absurd (hT_q_87.2.symm.trans ((congrArg kap_94 z).trans hT_h0.2)) (by decide))
  have hT_q_92 := TK_ret hk1 hT_q_92 (fun z => absurd (hT_q_92.2.symm.trans ((congrArg kap_94 z).trans hT_h0.2)) (by decide))
  have hTa_ := hT_h0
  have hT_h0 := TK_rets hk1 hTa_.1
  have hTy := hTy.ret hk1 hTa_ (by rw [hS_h0]; exact okc_12 ⟨q_1, q_6, q_11, q_16, q_21, 0, 0, 0, 0, q_26, 0, 0, 0, (-1), 0, 0, q_32, q_37, 0, q_42, q_47, q_52, q_57, q_62, q_67, q_72, q_77, q_82, q_87, q_92, 0, rfl, hT_q_1, hT_q_6, hT_q_11, hT_q_16, hT_q_21, (by decide), (by decide), (by decide), hT_q_26, (by decide), (by decide), (by decide), hT_q_32, hT_q_37, (by decide), hT_q_42, hT_q_47, hT_q_52, hT_q_57, hT_q_62, hT_q_67, hT_q_72, hT_q_77, hT_q_82, hT_q_87, hT_q_92, (by decide)⟩)
  have hEX := EX_ret hEX hk1 (fun _ _ h => h)
  have hSP := SP_ret hSP hk1 ⟨fun h => absurd h (by decide), fun h => absurd h (by decide), fun _ => by rw [hS_h0]; exact ⟨rfl, rfl⟩⟩
  have hU : ∀ a k, USP k → TK L_93 kap_97 a k → TK L kap a k ∨ (fun (a k : Nat) => (k = 50 ∧ a = q_1) ∨ (k = 51 ∧ a = q_6) ∨ (k = 52 ∧ a = q_11) ∨ (k = 55 ∧ a = q_26) ∨ (k = 12 ∧ a = h0)) a k := U_ret hU hk1 (fun _ _ h => by rcases h with h | h | h | h <;> first | exact Or.inl h | exact Or.inr (Or.inl h) | exact Or.inr (Or.inr (Or.inl h)) | exact Or.inr (Or.inr (Or.inr (Or.inl h)))) (fun _ => Or.inr (Or.inr (Or.inr (Or.inr (⟨rfl, rfl⟩)))))
  refine lv_aload_n hx hb dX12_init_166 rfl (lv_at hl 0 rfl) ?_
  refine pl_callv (va_runV (As := []) (rest := []) ⟨hx, hb, hml, hown, hT⟩ (m_plain l dC dI cy L_93 kap_97 (0, 0) S_96 H.size h0 hTy hT_h0 0 0 0 0 0 q_1 (MKi (sp := 0) (sn := 0) (pa := 0) (ki := 0) hS_h0 rfl rfl rfl rfl rfl rfl (by omega) (by omega) (by omega) (by omega)) (by omega)) (cwV 0 hT (gV w1077 w1079 ws54 w14 w1080) rfl rfl rfl (by decide +kernel) ⟨(Nat.le_of_ble_eq_true rfl), (Nat.le_of_ble_eq_true rfl)⟩) ⟨pcN.blind, pl_recv hK hW hT_h0.1 hS_h0 rfl, pcN.pre hW.1 hK hW.2.1 (fun q h => hN q (List.mem_append_left _ h)) (fun q h => absurd h List.not_mem_nil)⟩ rfl rfl hl.1 rfl (lv_room (Nat.le_of_ble_eq_true rfl)) dX12_init_167 ⟨(Nat.le_of_ble_eq_true rfl), (Nat.le_of_ble_eq_true rfl)⟩) hW (fun q h => PW_A hW h) hA (fun S_98 H locs hrel hW => ?_)
  obtain ⟨hTy, hF1, hx1⟩ := hrel
  have hEX := EX_fr hEX hF1 (by decide)
  have hSP := SP_fr hSP hF1 (by decide) (by decide) (by decide) (by decide)
  have hS_q_11 := hF1.at hT_q_11 (by decide) hS_q_11
  refine W.widen (k := 19) (n := 4748) (Nat.le_of_ble_eq_true rfl) (Nat.le_of_ble_eq_true rfl) ?_
  exact W.vret hx hb hr (fun t ht h9 => ⟨⟨(L_93, kap_97, S_98), rfl, ⟨hTy, hSP, hEX, hT_h0, ⟨q_1, q_6, q_11, q_26, hU, hS_q_11, dg_0 hx1.2⟩⟩, by rw [ht]; exact hW.1, va_K.moved h9.alike hK, hW.2.1⟩, hW.2.2.F ht⟩) hW.2.2.2.2 dX12_init_170

