theorem w1103 : (.fieldLink RX12 46 "SwapPressModel" "bounds" "[I" : Cond) ∈ TB := mTB (List.mem_of_getElem? (i := 1103) (by decide +kernel)) (by decide +kernel)
theorem w1105 : (.fieldLink RX12 52 "SwapPressModel" "may" "[I" : Cond) ∈ TB := mTB (List.mem_of_getElem? (i := 1105) (by decide +kernel)) (by decide +kernel)
theorem w1106 : (.fieldLink RX12 55 "SwapPressModel" "through" "[I" : Cond) ∈ TB := mTB (List.mem_of_getElem? (i := 1106) (by decide +kernel)) (by decide +kernel)
theorem w1108 : (.fieldLink RX12 61 "SwapPressModel" "isFixed" "[Z" : Cond) ∈ TB := mTB (List.mem_of_getElem? (i := 1108) (by decide +kernel)) (by decide +kernel)
theorem w1109 : (.fieldLink RX12 65 "SwapPressModel" "dear" "[I" : Cond) ∈ TB := mTB (List.mem_of_getElem? (i := 1109) (by decide +kernel)) (by decide +kernel)
theorem w1110 : (.fieldLink RX12 68 "SwapPressModel" "by" "[I" : Cond) ∈ TB := mTB (List.mem_of_getElem? (i := 1110) (by decide +kernel)) (by decide +kernel)
theorem w1459 : (.constant RX12 293 1000000 : Cond) ∈ TB := mTB (List.mem_of_getElem? (i := 1459) (by decide +kernel)) (by decide +kernel)
theorem w1464 : (.methodLink RX12 294 yX12_stepMay : Cond) ∈ TB := mTB (List.mem_of_getElem? (i := 1464) (by decide +kernel)) (by decide +kernel)
theorem w1466 : (.instanceMethod yX12_stepMay : Cond) ∈ TB := mTB (List.mem_of_getElem? (i := 1466) (by decide +kernel)) (by decide +kernel)
theorem w1467 : (.code yX12_stepMay cX12_stepMay 7 (some .int) : Cond) ∈ TB := mTB (List.mem_of_getElem? (i := 1467) (by decide +kernel)) (by decide +kernel)
theorem w1468 : (.methodLink RX12 297 yX12_stepCost : Cond) ∈ TB := mTB (List.mem_of_getElem? (i := 1468) (by decide +kernel)) (by decide +kernel)
theorem w1469 : (.static yX12_stepCost : Cond) ∈ TB := mTB (List.mem_of_getElem? (i := 1469) (by decide +kernel)) (by decide +kernel)
theorem w1470 : (.code yX12_stepCost cX12_stepCost 2 (some .int) : Cond) ∈ TB := mTB (List.mem_of_getElem? (i := 1470) (by decide +kernel)) (by decide +kernel)
theorem ws96 : (.selects RX12 yX12_stepMay yX12_stepMay : Cond) ∈ TB := mSel (y := yX12_stepMay) (n := 32) (List.mem_of_getElem? (i := 96) (by decide +kernel)) (by decide +kernel)
theorem dX12_laysWays_0 : decode cX12_laysWays 0 = .ok (.iconst 1, 1) := by decide +kernel
theorem dX12_laysWays_1 : decode cX12_laysWays 1 = .ok (.istore_n 1, 1) := by decide +kernel
theorem dX12_laysWays_2 : decode cX12_laysWays 2 = .ok (.iload_n 1, 1) := by decide +kernel
theorem dX12_laysWays_3 : decode cX12_laysWays 3 = .ok (.ifCond .eq 108, 3) := by decide +kernel
theorem dX12_laysWays_6 : decode cX12_laysWays 6 = .ok (.iconst 0, 1) := by decide +kernel
theorem dX12_laysWays_7 : decode cX12_laysWays 7 = .ok (.istore_n 1, 1) := by decide +kernel
theorem dX12_laysWays_8 : decode cX12_laysWays 8 = .ok (.iconst 0, 1) := by decide +kernel
theorem dX12_laysWays_9 : decode cX12_laysWays 9 = .ok (.istore_n 2, 1) := by decide +kernel
theorem dX12_laysWays_10 : decode cX12_laysWays 10 = .ok (.iload_n 2, 1) := by decide +kernel
theorem dX12_laysWays_11 : decode cX12_laysWays 11 = .ok (.bipush 16, 2) := by decide +kernel
theorem dX12_laysWays_13 : decode cX12_laysWays 13 = .ok (.if_icmp .ge 95, 3) := by decide +kernel
theorem dX12_laysWays_16 : decode cX12_laysWays 16 = .ok (.iconst 0, 1) := by decide +kernel
theorem dX12_laysWays_17 : decode cX12_laysWays 17 = .ok (.istore_n 3, 1) := by decide +kernel
theorem dX12_laysWays_18 : decode cX12_laysWays 18 = .ok (.iload_n 3, 1) := by decide +kernel
theorem dX12_laysWays_19 : decode cX12_laysWays 19 = .ok (.bipush 16, 2) := by decide +kernel
theorem dX12_laysWays_21 : decode cX12_laysWays 21 = .ok (.if_icmp .ge 81, 3) := by decide +kernel
theorem dX12_laysWays_24 : decode cX12_laysWays 24 = .ok (.aload_n 0, 1) := by decide +kernel
theorem dX12_laysWays_25 : decode cX12_laysWays 25 = .ok (.getfield 65, 3) := by decide +kernel
theorem dX12_laysWays_28 : decode cX12_laysWays 28 = .ok (.iload_n 2, 1) := by decide +kernel
theorem dX12_laysWays_29 : decode cX12_laysWays 29 = .ok (.iaload, 1) := by decide +kernel
theorem dX12_laysWays_30 : decode cX12_laysWays 30 = .ok (.ldc_w 293, 3) := by decide +kernel
theorem dX12_laysWays_33 : decode cX12_laysWays 33 = .ok (.if_icmp .ge 69, 3) := by decide +kernel
theorem dX12_laysWays_36 : decode cX12_laysWays 36 = .ok (.aload_n 0, 1) := by decide +kernel
theorem dX12_laysWays_37 : decode cX12_laysWays 37 = .ok (.iload_n 2, 1) := by decide +kernel
theorem dX12_laysWays_38 : decode cX12_laysWays 38 = .ok (.iload_n 3, 1) := by decide +kernel
theorem dX12_laysWays_39 : decode cX12_laysWays 39 = .ok (.invokevirtual 294, 3) := by decide +kernel
theorem dX12_laysWays_42 : decode cX12_laysWays 42 = .ok (.ifCond .le 54, 3) := by decide +kernel
theorem dX12_laysWays_45 : decode cX12_laysWays 45 = .ok (.aload_n 0, 1) := by decide +kernel
theorem dX12_laysWays_46 : decode cX12_laysWays 46 = .ok (.getfield 65, 3) := by decide +kernel
theorem dX12_laysWays_49 : decode cX12_laysWays 49 = .ok (.iload_n 2, 1) := by decide +kernel
theorem dX12_laysWays_50 : decode cX12_laysWays 50 = .ok (.iaload, 1) := by decide +kernel
theorem dX12_laysWays_51 : decode cX12_laysWays 51 = .ok (.iload_n 2, 1) := by decide +kernel
theorem dX12_laysWays_52 : decode cX12_laysWays 52 = .ok (.iload_n 3, 1) := by decide +kernel
theorem dX12_laysWays_53 : decode cX12_laysWays 53 = .ok (.invokestatic 297, 3) := by decide +kernel
theorem dX12_laysWays_56 : decode cX12_laysWays 56 = .ok (.iadd, 1) := by decide +kernel
theorem dX12_laysWays_57 : decode cX12_laysWays 57 = .ok (.aload_n 0, 1) := by decide +kernel
theorem dX12_laysWays_58 : decode cX12_laysWays 58 = .ok (.getfield 65, 3) := by decide +kernel
theorem dX12_laysWays_61 : decode cX12_laysWays 61 = .ok (.iload_n 3, 1) := by decide +kernel
theorem dX12_laysWays_62 : decode cX12_laysWays 62 = .ok (.iaload, 1) := by decide +kernel
theorem dX12_laysWays_63 : decode cX12_laysWays 63 = .ok (.if_icmp .lt 6, 3) := by decide +kernel
theorem dX12_laysWays_66 : decode cX12_laysWays 66 = .ok (.goto 30, 3) := by decide +kernel
theorem dX12_laysWays_69 : decode cX12_laysWays 69 = .ok (.aload_n 0, 1) := by decide +kernel
theorem dX12_laysWays_70 : decode cX12_laysWays 70 = .ok (.getfield 65, 3) := by decide +kernel
theorem dX12_laysWays_73 : decode cX12_laysWays 73 = .ok (.iload_n 3, 1) := by decide +kernel
theorem dX12_laysWays_74 : decode cX12_laysWays 74 = .ok (.aload_n 0, 1) := by decide +kernel
theorem dX12_laysWays_75 : decode cX12_laysWays 75 = .ok (.getfield 65, 3) := by decide +kernel
theorem dX12_laysWays_78 : decode cX12_laysWays 78 = .ok (.iload_n 2, 1) := by decide +kernel
theorem dX12_laysWays_79 : decode cX12_laysWays 79 = .ok (.iaload, 1) := by decide +kernel
theorem dX12_laysWays_80 : decode cX12_laysWays 80 = .ok (.iload_n 2, 1) := by decide +kernel
theorem dX12_laysWays_81 : decode cX12_laysWays 81 = .ok (.iload_n 3, 1) := by decide +kernel
theorem dX12_laysWays_82 : decode cX12_laysWays 82 = .ok (.invokestatic 297, 3) := by decide +kernel
theorem dX12_laysWays_85 : decode cX12_laysWays 85 = .ok (.iadd, 1) := by decide +kernel
theorem dX12_laysWays_86 : decode cX12_laysWays 86 = .ok (.iastore, 1) := by decide +kernel
theorem dX12_laysWays_87 : decode cX12_laysWays 87 = .ok (.aload_n 0, 1) := by decide +kernel
theorem dX12_laysWays_88 : decode cX12_laysWays 88 = .ok (.getfield 68, 3) := by decide +kernel
theorem dX12_laysWays_91 : decode cX12_laysWays 91 = .ok (.iload_n 3, 1) := by decide +kernel
theorem dX12_laysWays_92 : decode cX12_laysWays 92 = .ok (.iload_n 2, 1) := by decide +kernel
theorem dX12_laysWays_93 : decode cX12_laysWays 93 = .ok (.iastore, 1) := by decide +kernel
theorem dX12_laysWays_94 : decode cX12_laysWays 94 = .ok (.iconst 1, 1) := by decide +kernel
theorem dX12_laysWays_95 : decode cX12_laysWays 95 = .ok (.istore_n 1, 1) := by decide +kernel
theorem dX12_laysWays_96 : decode cX12_laysWays 96 = .ok (.iinc 3 1, 3) := by decide +kernel
theorem dX12_laysWays_99 : decode cX12_laysWays 99 = .ok (.goto (-81), 3) := by decide +kernel
theorem dX12_laysWays_102 : decode cX12_laysWays 102 = .ok (.iinc 2 1, 3) := by decide +kernel
theorem dX12_laysWays_105 : decode cX12_laysWays 105 = .ok (.goto (-95), 3) := by decide +kernel
theorem dX12_laysWays_108 : decode cX12_laysWays 108 = .ok (.goto (-106), 3) := by decide +kernel
theorem dX12_laysWays_111 : decode cX12_laysWays 111 = .ok (.return_, 1) := by decide +kernel
theorem dX12_stepCost_0 : decode cX12_stepCost 0 = .ok (.iconst 1, 1) := by decide +kernel
theorem dX12_stepCost_1 : decode cX12_stepCost 1 = .ok (.iload_n 0, 1) := by decide +kernel
theorem dX12_stepCost_2 : decode cX12_stepCost 2 = .ok (.iload_n 1, 1) := by decide +kernel
theorem dX12_stepCost_3 : decode cX12_stepCost 3 = .ok (.bipush 8, 2) := by decide +kernel
theorem dX12_stepCost_5 : decode cX12_stepCost 5 = .ok (.iadd, 1) := by decide +kernel
theorem dX12_stepCost_6 : decode cX12_stepCost 6 = .ok (.if_icmp .eq 11, 3) := by decide +kernel
theorem dX12_stepCost_9 : decode cX12_stepCost 9 = .ok (.iload_n 1, 1) := by decide +kernel
theorem dX12_stepCost_10 : decode cX12_stepCost 10 = .ok (.iload_n 0, 1) := by decide +kernel
theorem dX12_stepCost_11 : decode cX12_stepCost 11 = .ok (.bipush 8, 2) := by decide +kernel
theorem dX12_stepCost_13 : decode cX12_stepCost 13 = .ok (.iadd, 1) := by decide +kernel
theorem dX12_stepCost_14 : decode cX12_stepCost 14 = .ok (.if_icmp .ne 7, 3) := by decide +kernel
theorem dX12_stepCost_17 : decode cX12_stepCost 17 = .ok (.iconst 0, 1) := by decide +kernel
theorem dX12_stepCost_18 : decode cX12_stepCost 18 = .ok (.goto 16, 3) := by decide +kernel
theorem dX12_stepCost_21 : decode cX12_stepCost 21 = .ok (.iload_n 0, 1) := by decide +kernel
theorem dX12_stepCost_22 : decode cX12_stepCost 22 = .ok (.bipush 8, 2) := by decide +kernel
theorem dX12_stepCost_24 : decode cX12_stepCost 24 = .ok (.if_icmp .ge 8, 3) := by decide +kernel
theorem dX12_stepCost_27 : decode cX12_stepCost 27 = .ok (.bipush 64, 2) := by decide +kernel
theorem dX12_stepCost_29 : decode cX12_stepCost 29 = .ok (.goto 5, 3) := by decide +kernel
theorem dX12_stepCost_32 : decode cX12_stepCost 32 = .ok (.bipush (-64), 2) := by decide +kernel
theorem dX12_stepCost_34 : decode cX12_stepCost 34 = .ok (.iadd, 1) := by decide +kernel
theorem dX12_stepCost_35 : decode cX12_stepCost 35 = .ok (.ireturn, 1) := by decide +kernel
theorem dX12_stepMay_0 : decode cX12_stepMay 0 = .ok (.iload_n 1, 1) := by decide +kernel
theorem dX12_stepMay_1 : decode cX12_stepMay 1 = .ok (.bipush 8, 2) := by decide +kernel
theorem dX12_stepMay_3 : decode cX12_stepMay 3 = .ok (.if_icmp .ge 7, 3) := by decide +kernel
theorem dX12_stepMay_6 : decode cX12_stepMay 6 = .ok (.iconst 1, 1) := by decide +kernel
theorem dX12_stepMay_7 : decode cX12_stepMay 7 = .ok (.goto 4, 3) := by decide +kernel
theorem dX12_stepMay_10 : decode cX12_stepMay 10 = .ok (.iconst 0, 1) := by decide +kernel
theorem dX12_stepMay_11 : decode cX12_stepMay 11 = .ok (.iload_n 2, 1) := by decide +kernel
theorem dX12_stepMay_12 : decode cX12_stepMay 12 = .ok (.bipush 8, 2) := by decide +kernel
theorem dX12_stepMay_14 : decode cX12_stepMay 14 = .ok (.if_icmp .ge 7, 3) := by decide +kernel
theorem dX12_stepMay_17 : decode cX12_stepMay 17 = .ok (.iconst 1, 1) := by decide +kernel
theorem dX12_stepMay_18 : decode cX12_stepMay 18 = .ok (.goto 4, 3) := by decide +kernel
theorem dX12_stepMay_21 : decode cX12_stepMay 21 = .ok (.iconst 0, 1) := by decide +kernel
theorem dX12_stepMay_22 : decode cX12_stepMay 22 = .ok (.if_icmp .ne 5, 3) := by decide +kernel
theorem dX12_stepMay_25 : decode cX12_stepMay 25 = .ok (.iconst 0, 1) := by decide +kernel
theorem dX12_stepMay_26 : decode cX12_stepMay 26 = .ok (.ireturn, 1) := by decide +kernel
theorem dX12_stepMay_27 : decode cX12_stepMay 27 = .ok (.iload_n 1, 1) := by decide +kernel
theorem dX12_stepMay_28 : decode cX12_stepMay 28 = .ok (.bipush 8, 2) := by decide +kernel
theorem dX12_stepMay_30 : decode cX12_stepMay 30 = .ok (.if_icmp .ge 7, 3) := by decide +kernel
theorem dX12_stepMay_33 : decode cX12_stepMay 33 = .ok (.iconst 1, 1) := by decide +kernel
theorem dX12_stepMay_34 : decode cX12_stepMay 34 = .ok (.goto 4, 3) := by decide +kernel
theorem dX12_stepMay_37 : decode cX12_stepMay 37 = .ok (.iconst 0, 1) := by decide +kernel
theorem dX12_stepMay_38 : decode cX12_stepMay 38 = .ok (.istore_n 3, 1) := by decide +kernel
theorem dX12_stepMay_39 : decode cX12_stepMay 39 = .ok (.iload_n 3, 1) := by decide +kernel
theorem dX12_stepMay_40 : decode cX12_stepMay 40 = .ok (.ifCond .eq 7, 3) := by decide +kernel
theorem dX12_stepMay_43 : decode cX12_stepMay 43 = .ok (.iload_n 1, 1) := by decide +kernel
theorem dX12_stepMay_44 : decode cX12_stepMay 44 = .ok (.goto 4, 3) := by decide +kernel
theorem dX12_stepMay_47 : decode cX12_stepMay 47 = .ok (.iload_n 2, 1) := by decide +kernel
theorem dX12_stepMay_48 : decode cX12_stepMay 48 = .ok (.istore 4, 2) := by decide +kernel
theorem dX12_stepMay_50 : decode cX12_stepMay 50 = .ok (.iload_n 3, 1) := by decide +kernel
theorem dX12_stepMay_51 : decode cX12_stepMay 51 = .ok (.ifCond .eq 10, 3) := by decide +kernel
theorem dX12_stepMay_54 : decode cX12_stepMay 54 = .ok (.iload_n 2, 1) := by decide +kernel
theorem dX12_stepMay_55 : decode cX12_stepMay 55 = .ok (.bipush 8, 2) := by decide +kernel
theorem dX12_stepMay_57 : decode cX12_stepMay 57 = .ok (.isub, 1) := by decide +kernel
theorem dX12_stepMay_58 : decode cX12_stepMay 58 = .ok (.goto 7, 3) := by decide +kernel
theorem dX12_stepMay_61 : decode cX12_stepMay 61 = .ok (.iload_n 1, 1) := by decide +kernel
theorem dX12_stepMay_62 : decode cX12_stepMay 62 = .ok (.bipush 8, 2) := by decide +kernel
theorem dX12_stepMay_64 : decode cX12_stepMay 64 = .ok (.isub, 1) := by decide +kernel
theorem dX12_stepMay_65 : decode cX12_stepMay 65 = .ok (.istore 5, 2) := by decide +kernel
theorem dX12_stepMay_67 : decode cX12_stepMay 67 = .ok (.iload 4, 2) := by decide +kernel
theorem dX12_stepMay_69 : decode cX12_stepMay 69 = .ok (.iload 5, 2) := by decide +kernel
theorem dX12_stepMay_71 : decode cX12_stepMay 71 = .ok (.if_icmp .ne 33, 3) := by decide +kernel
theorem dX12_stepMay_74 : decode cX12_stepMay 74 = .ok (.iload_n 3, 1) := by decide +kernel
theorem dX12_stepMay_75 : decode cX12_stepMay 75 = .ok (.ifCond .eq 13, 3) := by decide +kernel
theorem dX12_stepMay_78 : decode cX12_stepMay 78 = .ok (.aload_n 0, 1) := by decide +kernel
theorem dX12_stepMay_79 : decode cX12_stepMay 79 = .ok (.getfield 55, 3) := by decide +kernel
theorem dX12_stepMay_82 : decode cX12_stepMay 82 = .ok (.iload 4, 2) := by decide +kernel
theorem dX12_stepMay_84 : decode cX12_stepMay 84 = .ok (.iaload, 1) := by decide +kernel
theorem dX12_stepMay_85 : decode cX12_stepMay 85 = .ok (.goto 18, 3) := by decide +kernel
theorem dX12_stepMay_88 : decode cX12_stepMay 88 = .ok (.aload_n 0, 1) := by decide +kernel
theorem dX12_stepMay_89 : decode cX12_stepMay 89 = .ok (.getfield 52, 3) := by decide +kernel
theorem dX12_stepMay_92 : decode cX12_stepMay 92 = .ok (.iload 4, 2) := by decide +kernel
theorem dX12_stepMay_94 : decode cX12_stepMay 94 = .ok (.iaload, 1) := by decide +kernel
theorem dX12_stepMay_95 : decode cX12_stepMay 95 = .ok (.aload_n 0, 1) := by decide +kernel
theorem dX12_stepMay_96 : decode cX12_stepMay 96 = .ok (.getfield 55, 3) := by decide +kernel
theorem dX12_stepMay_99 : decode cX12_stepMay 99 = .ok (.iload 4, 2) := by decide +kernel
theorem dX12_stepMay_101 : decode cX12_stepMay 101 = .ok (.iaload, 1) := by decide +kernel
theorem dX12_stepMay_102 : decode cX12_stepMay 102 = .ok (.isub, 1) := by decide +kernel
theorem dX12_stepMay_103 : decode cX12_stepMay 103 = .ok (.ireturn, 1) := by decide +kernel
theorem dX12_stepMay_104 : decode cX12_stepMay 104 = .ok (.iload 4, 2) := by decide +kernel
theorem dX12_stepMay_106 : decode cX12_stepMay 106 = .ok (.iload 5, 2) := by decide +kernel
theorem dX12_stepMay_108 : decode cX12_stepMay 108 = .ok (.invokestatic 229, 3) := by decide +kernel
theorem dX12_stepMay_111 : decode cX12_stepMay 111 = .ok (.istore 6, 2) := by decide +kernel
theorem dX12_stepMay_113 : decode cX12_stepMay 113 = .ok (.aload_n 0, 1) := by decide +kernel
theorem dX12_stepMay_114 : decode cX12_stepMay 114 = .ok (.getfield 61, 3) := by decide +kernel
theorem dX12_stepMay_117 : decode cX12_stepMay 117 = .ok (.iload 6, 2) := by decide +kernel
theorem dX12_stepMay_119 : decode cX12_stepMay 119 = .ok (.baload, 1) := by decide +kernel
theorem dX12_stepMay_120 : decode cX12_stepMay 120 = .ok (.ifCond .eq 7, 3) := by decide +kernel
theorem dX12_stepMay_123 : decode cX12_stepMay 123 = .ok (.iconst 0, 1) := by decide +kernel
theorem dX12_stepMay_124 : decode cX12_stepMay 124 = .ok (.goto 32, 3) := by decide +kernel
theorem dX12_stepMay_127 : decode cX12_stepMay 127 = .ok (.iload_n 3, 1) := by decide +kernel
theorem dX12_stepMay_128 : decode cX12_stepMay 128 = .ok (.ifCond .eq 21, 3) := by decide +kernel
theorem dX12_stepMay_131 : decode cX12_stepMay 131 = .ok (.aload_n 0, 1) := by decide +kernel
theorem dX12_stepMay_132 : decode cX12_stepMay 132 = .ok (.getfield 46, 3) := by decide +kernel
theorem dX12_stepMay_135 : decode cX12_stepMay 135 = .ok (.iload 6, 2) := by decide +kernel
theorem dX12_stepMay_137 : decode cX12_stepMay 137 = .ok (.iaload, 1) := by decide +kernel
theorem dX12_stepMay_138 : decode cX12_stepMay 138 = .ok (.aload_n 0, 1) := by decide +kernel
theorem dX12_stepMay_139 : decode cX12_stepMay 139 = .ok (.getfield 49, 3) := by decide +kernel
theorem dX12_stepMay_142 : decode cX12_stepMay 142 = .ok (.iload 6, 2) := by decide +kernel
theorem dX12_stepMay_144 : decode cX12_stepMay 144 = .ok (.iaload, 1) := by decide +kernel
theorem dX12_stepMay_145 : decode cX12_stepMay 145 = .ok (.isub, 1) := by decide +kernel
theorem dX12_stepMay_146 : decode cX12_stepMay 146 = .ok (.goto 10, 3) := by decide +kernel
theorem dX12_stepMay_149 : decode cX12_stepMay 149 = .ok (.aload_n 0, 1) := by decide +kernel
theorem dX12_stepMay_150 : decode cX12_stepMay 150 = .ok (.getfield 49, 3) := by decide +kernel
theorem dX12_stepMay_153 : decode cX12_stepMay 153 = .ok (.iload 6, 2) := by decide +kernel
theorem dX12_stepMay_155 : decode cX12_stepMay 155 = .ok (.iaload, 1) := by decide +kernel
theorem dX12_stepMay_156 : decode cX12_stepMay 156 = .ok (.ireturn, 1) := by decide +kernel
/-! What is pure of the reference's ways. -/
def stpF (fx its bn my th : Nat → Int32) (p q : Nat) : Int32 :=
  if p < 8 then (if q < 8 then 0 else if p = q - 8 then th p else if fx (8 * p + (q - 8)) = 0 then bn (8 * p + (q - 8)) - its (8 * p + (q - 8)) else 0)
  else (if q < 8 then (if q = p - 8 then my q - th q else if fx (8 * q + (p - 8)) = 0 then its (8 * q + (p - 8)) else 0) else 0)
section STPF
variable {fx its bn my th : Nat → Int32} {p q : Nat}
theorem stp_s (h : p < 8 ∧ q < 8 ∨ ¬ p < 8 ∧ ¬ q < 8) : stpF fx its bn my th p q = 0 := by
  unfold stpF
  rcases h with ⟨h1, h2⟩ | ⟨h1, h2⟩
  · rw [if_pos h1, if_pos h2]
  · rw [if_neg h1, if_neg h2]
theorem stp_a (h1 : p < 8) (h2 : ¬ q < 8) (h3 : p = q - 8) : stpF fx its bn my th p q = th p := by
  unfold stpF
  rw [if_pos h1, if_neg h2, if_pos h3]
theorem stp_b (h1 : p < 8) (h2 : ¬ q < 8) (h3 : ¬ p = q - 8) (h4 : ¬ fx (8 * p + (q - 8)) = 0) : stpF fx its bn my th p q = 0 := by
  unfold stpF
  rw [if_pos h1, if_neg h2, if_neg h3, if_neg h4]
theorem stp_c (h1 : p < 8) (h2 : ¬ q < 8) (h3 : ¬ p = q - 8) (h4 : fx (8 * p + (q - 8)) = 0) : stpF fx its bn my th p q = bn (8 * p + (q - 8)) - its (8 * p + (q - 8)) := by
  unfold stpF
  rw [if_pos h1, if_neg h2, if_neg h3, if_pos h4]
theorem stp_d (h1 : ¬ p < 8) (h2 : q < 8) (h3 : q = p - 8) : stpF fx its bn my th p q = my q - th q := by
  unfold stpF
  rw [if_neg h1, if_pos h2, if_pos h3]
theorem stp_e (h1 : ¬ p < 8) (h2 : q < 8) (h3 : ¬ q = p - 8) (h4 : ¬ fx (8 * q + (p - 8)) = 0) : stpF fx its bn my th p q = 0 := by
  unfold stpF
  rw [if_neg h1, if_pos h2, if_neg h3, if_neg h4]
theorem stp_f (h1 : ¬ p < 8) (h2 : q < 8) (h3 : ¬ q = p - 8) (h4 : fx (8 * q + (p - 8)) = 0) : stpF fx its bn my th p q = its (8 * q + (p - 8)) := by
  unfold stpF
  rw [if_neg h1, if_pos h2, if_neg h3, if_pos h4]
theorem stp_side (h : 0 < stpF fx its bn my th p q) : p < 8 ∧ ¬ q < 8 ∨ ¬ p < 8 ∧ q < 8 := by
  by_cases h1 : p < 8 <;> by_cases h2 : q < 8
  · rw [stp_s (Or.inl ⟨h1, h2⟩)] at h
    exact absurd h (by decide)
  · exact Or.inl ⟨h1, h2⟩
  · exact Or.inr ⟨h1, h2⟩
  · rw [stp_s (Or.inr ⟨h1, h2⟩)] at h
    exact absurd h (by decide)
/-- one cell of its: the steps that don't go by it -/
theorem stp_its {a b : Nat} {v : Int32} (ha : a < 8) (hb : b < 8) (hp : p < 16) (hq : q < 16) (h1 : ¬ (p = a ∧ q = b + 8)) (h2 : ¬ (p = b + 8 ∧ q = a)) : stpF fx (upd its (8 * a + b) v) bn my th p q = stpF fx its bn my th p q := by
  unfold stpF
  by_cases c1 : p < 8 <;> by_cases c2 : q < 8
  · rw [if_pos c1, if_pos c1, if_pos c2, if_pos c2]
  · rw [if_pos c1, if_pos c1, if_neg c2, if_neg c2, pk_un (by omega)]
  · rw [if_neg c1, if_neg c1, if_pos c2, if_pos c2, pk_un (by omega)]
  · rw [if_neg c1, if_neg c1, if_neg c2, if_neg c2]
theorem stp_thr {a : Nat} {v : Int32} (hp : p < 16) (hq : q < 16) (h1 : ¬ (p = a ∧ q = a + 8)) (h2 : ¬ (p = a + 8 ∧ q = a)) : stpF fx its bn my (upd th a v) p q = stpF fx its bn my th p q := by
  unfold stpF
  by_cases c1 : p < 8 <;> by_cases c2 : q < 8
  · rw [if_pos c1, if_pos c1, if_pos c2, if_pos c2]
  · rw [if_pos c1, if_pos c1, if_neg c2, if_neg c2]
    by_cases c3 : p = q - 8
    · rw [if_pos c3, if_pos c3, pk_un (by omega)]
    · rw [if_neg c3, if_neg c3]
  · rw [if_neg c1, if_neg c1, if_pos c2, if_pos c2]
    by_cases c3 : q = p - 8
    · rw [if_pos c3, if_pos c3, pk_un (by omega)]
    · rw [if_neg c3, if_neg c3]
  · rw [if_neg c1, if_neg c1, if_neg c2, if_neg c2]
/-- what is shut stays shut; a shut cell may hold anything -/
theorem stp_fix {a b : Nat} {its2 : Nat → Int32} (ha : a < 8) (hb : b < 8) (hi : ∀ j, j ≠ 8 * a + b → its2 j = its j) {x : Int32} (hx : ¬ x = 0) (h : 0 < stpF (upd fx (8 * a + b) x) its2 bn my th p q) : 0 < stpF fx its bn my th p q := by
  have g : ∀ j, upd fx (8 * a + b) x j = 0 → fx j = 0 ∧ its2 j = its j := fun j hj => by
    by_cases e : j = 8 * a + b
    · rw [e, pk_us] at hj
      exact absurd hj hx
    · rw [pk_un e] at hj
      exact ⟨hj, hi j e⟩
  rcases stp_side h with ⟨h1, h2⟩ | ⟨h1, h2⟩
  · by_cases h3 : p = q - 8
    · rw [stp_a h1 h2 h3] at h ⊢
      exact h
    · by_cases h4 : upd fx (8 * a + b) x (8 * p + (q - 8)) = 0
      · rw [stp_c h1 h2 h3 h4, (g _ h4).2] at h
        rw [stp_c h1 h2 h3 (g _ h4).1]
        exact h
      · rw [stp_b h1 h2 h3 h4] at h
        exact absurd h (by decide)
  · by_cases h3 : q = p - 8
    · rw [stp_d h1 h2 h3] at h ⊢
      exact h
    · by_cases h4 : upd fx (8 * a + b) x (8 * q + (p - 8)) = 0
      · rw [stp_f h1 h2 h3 h4, (g _ h4).2] at h
        rw [stp_f h1 h2 h3 (g _ h4).1]
        exact h
      · rw [stp_e h1 h2 h3 h4] at h
        exact absurd h (by decide)
end STPF
def cst (p q : Nat) : Int32 := if p = q + 8 ∨ q = p + 8 then 1 else if p < 8 then 65 else -63
def mst (p q : Nat) : Int := if p = q + 8 ∨ q = p + 8 then 0 else if p < 8 then 1 else -1
theorem cst_i (p q : Nat) : (cst p q).toInt = 64 * mst p q + 1 := by
  unfold cst mst
  by_cases h : p = q + 8 ∨ q = p + 8
  · rw [if_pos h, if_pos h]; decide
  · rw [if_neg h, if_neg h]
    by_cases h2 : p < 8
    · rw [if_pos h2, if_pos h2]; decide
    · rw [if_neg h2, if_neg h2]; decide
theorem mst_b (p q : Nat) : -1 ≤ mst p q ∧ mst p q ≤ 1 := by
  unfold mst
  by_cases h : p = q + 8 ∨ q = p + 8
  · rw [if_pos h]; omega
  · rw [if_neg h]
    by_cases h2 : p < 8
    · rw [if_pos h2]; omega
    · rw [if_neg h2]; omega
theorem mst_rev {p q : Nat} (h : p < 8 ∧ ¬ q < 8 ∨ ¬ p < 8 ∧ q < 8) : mst q p = - mst p q := by
  unfold mst
  by_cases c : p = q + 8 ∨ q = p + 8
  · rw [if_pos c, if_pos (Or.symm c)]; rfl
  · rw [if_neg c, if_neg (fun z => c (Or.symm z))]
    rcases h with ⟨h1, h2⟩ | ⟨h1, h2⟩
    · rw [if_pos h1, if_neg h2]
    · rw [if_neg h1, if_pos h2]; rfl
theorem mst_pp {p : Nat} (h : ¬ p < 8) : mst p p = -1 := by
  unfold mst
  rw [if_neg (by omega), if_neg h]
theorem mst_pn {p : Nat} (h : p < 8) : mst p p = 1 := by
  unfold mst
  rw [if_neg (by omega), if_pos h]
def cnt (P : Nat → Bool) : Nat → Nat
  | 0 => 0
  | n + 1 => cnt P n + (if P n = true then 1 else 0)
theorem cnt_le (P : Nat → Bool) : ∀ n, cnt P n ≤ n
  | 0 => Nat.le_refl 0
  | n + 1 => by
    have := cnt_le P n
    show cnt P n + (if P n = true then 1 else 0) ≤ n + 1
    by_cases h : P n = true
    · rw [if_pos h]; omega
    · rw [if_neg h]; omega
theorem cnt_mono {P Q : Nat → Bool} : ∀ n, (∀ u, u < n → P u = true → Q u = true) → cnt P n ≤ cnt Q n
  | 0, _ => Nat.le_refl 0
  | n + 1, h => by
    have ih := cnt_mono n (fun u hu => h u (by omega))
    show cnt P n + (if P n = true then 1 else 0) ≤ cnt Q n + (if Q n = true then 1 else 0)
    by_cases c : P n = true
    · rw [if_pos c, if_pos (h n (by omega) c)]; omega
    · rw [if_neg c]; omega
theorem cnt_lt {P Q : Nat → Bool} {w : Nat} : ∀ n, w < n → (∀ u, u < n → P u = true → Q u = true) → ¬ P w = true → Q w = true → cnt P n < cnt Q n
  | 0, hw, _, _, _ => absurd hw (Nat.not_lt_zero _)
  | n + 1, hw, h, h1, h2 => by
    show cnt P n + (if P n = true then 1 else 0) < cnt Q n + (if Q n = true then 1 else 0)
    by_cases e : w = n
    · subst e
      have := cnt_mono w (fun u hu => h u (by omega))
      rw [if_neg h1, if_pos h2]; omega
    · have ih := cnt_lt n (by omega) (fun u hu => h u (by omega)) h1 h2
      by_cases c : P n = true
      · rw [if_pos c, if_pos (h n (by omega) c)]; omega
      · rw [if_neg c]; omega
def WI (op : Nat → Nat → Prop) (d0 d b : Nat → Int32) : Prop := (∀ v, v < 16 → (d v).toInt ≤ 1000000) ∧ (∀ v, v < 16 → b v = -1 → d v = d0 v) ∧ (∀ v p, v < 16 → p < 16 → b v = nI p → op p v ∧ (d p).toInt < 1000000 ∧ (d p).toInt + (cst p v).toInt ≤ (d v).toInt)
def BY (b : Nat → Int32) : Prop := ∀ j, j < 16 → b j = -1 ∨ ∃ k, k < 16 ∧ b j = nI k
def POT (op : Nat → Nat → Prop) (K : Nat → Int) : Prop := ∀ p q, p < 16 → q < 16 → op p q → K q ≤ K p + mst p q
def D0 (d0 : Nat → Int32) : Prop := ∀ v, v < 16 → d0 v = 0 ∨ d0 v = 1000000
def rkd (d : Nat → Int32) (K : Nat → Int) (v : Nat) : Int := (d v).toInt - 64 * K v
def rank (d : Nat → Int32) (K : Nat → Int) (v : Nat) : Nat := cnt (fun u => decide (rkd d K u < rkd d K v)) 16
section WAYS
variable {op : Nat → Nat → Prop} {d0 d b : Nat → Int32} {K : Nat → Int} {v p q : Nat}
theorem rk_lt (hW : WI op d0 d b) (hK : POT op K) (hv : v < 16) (hp : p < 16) (h : b v = nI p) : rank d K p < rank d K v := by
  obtain ⟨h1, h2, h3⟩ := hW.2.2 v p hv hp h
  have h4 := hK p v hp hv h1
  have e := cst_i p v
  have hr : rkd d K p < rkd d K v := by unfold rkd; omega
  refine cnt_lt 16 hp (fun u _ hu => ?_) ?_ ?_
  · have hu := of_decide_eq_true hu
    exact decide_eq_true (by omega)
  · intro z
    have z := of_decide_eq_true z
    omega
  · exact decide_eq_true hr
theorem rank_le (hv : v < 16) : rank d K v ≤ 15 := by
  have h : rank d K v < cnt (fun _ => true) 16 := cnt_lt 16 hv (fun _ _ _ => rfl) (fun z => by have z := of_decide_eq_true z; omega) rfl
  have e : cnt (fun _ => true) 16 = 16 := by decide
  omega
theorem d0_i (h0 : D0 d0) (hv : v < 16) : (d0 v).toInt = 0 ∨ (d0 v).toInt = 1000000 := (h0 v hv).imp (fun e => by rw [e]; decide) (fun e => by rw [e]; decide)
theorem d_low (hW : WI op d0 d b) (hK : POT op K) (hB : BY b) (h0 : D0 d0) : ∀ (n v : Nat), v < 16 → rank d K v ≤ n → -63 * (rank d K v : Int) ≤ (d v).toInt := by
  intro n
  induction n with
  | zero =>
    intro v hv hn
    rcases hB v hv with h | ⟨p, hp, h⟩
    · rw [hW.2.1 v hv h]
      have := d0_i h0 hv
      omega
    · have := rk_lt hW hK hv hp h
      omega
  | succ n ih =>
    intro v hv hn
    rcases hB v hv with h | ⟨p, hp, h⟩
    · rw [hW.2.1 v hv h]
      have := d0_i h0 hv
      omega
    · have h1 := rk_lt hW hK hv hp h
      have h2 := ih p hp (by omega)
      have h3 := (hW.2.2 v p hv hp h).2.2
      have h4 := cst_i p v
      have h5 := mst_b p v
      omega
theorem d_bel (hW : WI op d0 d b) (hK : POT op K) (hB : BY b) (h0 : D0 d0) (hv : v < 16) : -945 ≤ (d v).toInt := by
  have h1 := d_low hW hK hB h0 15 v hv (rank_le hv)
  have h2 := rank_le (d := d) (K := K) hv
  omega
theorem add_i {x y : Int32} (hx : -945 ≤ x.toInt) (hx2 : x.toInt ≤ 1000000) (hy : -63 ≤ y.toInt) (hy2 : y.toInt ≤ 65) : (x + y).toInt = x.toInt + y.toInt := by
  rw [Int32.toInt_add]
  exact Int.bmod_eq_of_le (by omega) (by omega)
theorem cst_b (p q : Nat) : -63 ≤ (cst p q).toInt ∧ (cst p q).toInt ≤ 65 := by
  have h := cst_i p q
  have h2 := mst_b p q
  omega
theorem WI_up {x : Int32} (hW : WI op d0 d b) (hK : POT op K) (hp : p < 16) (hq : q < 16) (ho : op p q) (hd : (d p).toInt < 1000000) (hx : x.toInt = (d p).toInt + (cst p q).toInt) (hl : x.toInt < (d q).toInt) : WI op d0 (upd d q x) (upd b q (nI p)) := by
  have hne : p ≠ q := fun e => by
    subst e
    have h1 := hK p p hp hp ho
    have h2 := cst_i p p
    by_cases c : p < 8
    · rw [mst_pn c] at h1 h2; omega
    · rw [mst_pp c] at h1; omega
  refine ⟨fun v hv => ?_, fun v hv hb => ?_, fun v p' hv hp' hb => ?_⟩
  · by_cases e : v = q
    · rw [e, pk_us]
      have := hW.1 q hq
      omega
    · rw [pk_un e]; exact hW.1 v hv
  · by_cases e : v = q
    · rw [e, pk_us] at hb
      exact absurd hb (nI_neg (by omega)).1
    · rw [pk_un e] at hb ⊢
      exact hW.2.1 v hv hb
  · by_cases e : v = q
    · subst e
      rw [pk_us] at hb
      have e2 := (nI_eq (by omega) (by omega)).mp hb
      subst e2
      rw [pk_un hne, pk_us]
      exact ⟨ho, hd, by omega⟩
    · rw [pk_un e] at hb ⊢
      obtain ⟨g1, g2, g3⟩ := hW.2.2 v p' hv hp' hb
      by_cases e2 : p' = q
      · subst e2
        rw [pk_us]
        exact ⟨g1, by omega, by omega⟩
      · rw [pk_un e2]
        exact ⟨g1, g2, g3⟩
def sg (d : Nat → Int32) : Nat → Nat
  | 0 => 0
  | n + 1 => sg d n + ((d n).toInt + 2000).toNat
theorem sg_out {x : Int32} : ∀ n, n ≤ q → sg (upd d q x) n = sg d n
  | 0, _ => rfl
  | n + 1, h => by
    show sg (upd d q x) n + ((upd d q x n).toInt + 2000).toNat = sg d n + ((d n).toInt + 2000).toNat
    rw [sg_out n (by omega), pk_un (by omega)]
theorem sg_up {x : Int32} (hl : x.toInt < (d q).toInt) (hb : -2000 ≤ x.toInt) : ∀ n, q < n → sg (upd d q x) n < sg d n
  | 0, h => absurd h (Nat.not_lt_zero _)
  | n + 1, h => by
    show sg (upd d q x) n + ((upd d q x n).toInt + 2000).toNat < sg d n + ((d n).toInt + 2000).toNat
    by_cases e : n = q
    · subst e
      rw [sg_out n (Nat.le_refl _), pk_us]
      omega
    · have ih := sg_up hl hb n (by omega)
      rw [pk_un e]
      omega
def OPT (op : Nat → Nat → Prop) (d : Nat → Int32) (P Q : Nat) : Prop := ∀ p q, q < 16 → (p < P ∨ p = P ∧ q < Q) → op p q → (d p).toInt < 1000000 → (d q).toInt ≤ (d p).toInt + (cst p q).toInt
theorem OPT_0 : OPT op d 0 0 := fun p q _ h => by omega
theorem OPT_q (h : OPT op d p q) (hn : op p q → (d p).toInt < 1000000 → (d q).toInt ≤ (d p).toInt + (cst p q).toInt) : OPT op d p (q + 1) := fun p' q' hq' hc ho hd => by
  by_cases e : p' = p ∧ q' = q
  · obtain ⟨rfl, rfl⟩ := e
    exact hn ho hd
  · exact h p' q' hq' (by omega) ho hd
theorem OPT_r (h : OPT op d p q) (hn : ¬ q < 16 ∨ ¬ (d p).toInt < 1000000) : OPT op d (p + 1) 0 := fun p' q' hq' hc ho hd => by
  by_cases e : p' < p ∨ p' = p ∧ q' < q
  · exact h p' q' hq' e ho hd
  · rcases hn with hn | hn
    · omega
    · have e2 : p' = p := by omega
      subst e2
      exact absurd hd hn
theorem d_top (hW : WI op d0 d b) (hK : POT op K) (hB : BY b) (h0 : D0 d0) (hO : OPT op d 16 0) : ∀ (n v : Nat), v < 16 → rank d K v ≤ n → (d v).toInt < 1000000 → (d v).toInt % 64 ≤ rank d K v ∧ (d v).toInt ≤ 65 * (rank d K v : Int) := by
  intro n
  induction n with
  | zero =>
    intro v hv hn hd
    rcases hB v hv with h | ⟨p, hp, h⟩
    · rw [hW.2.1 v hv h] at hd ⊢
      have := d0_i h0 hv
      omega
    · have := rk_lt hW hK hv hp h
      omega
  | succ n ih =>
    intro v hv hn hd
    rcases hB v hv with h | ⟨p, hp, h⟩
    · rw [hW.2.1 v hv h] at hd ⊢
      have := d0_i h0 hv
      omega
    · have h1 := rk_lt hW hK hv hp h
      obtain ⟨g1, g2, g3⟩ := hW.2.2 v p hv hp h
      obtain ⟨h2, h3⟩ := ih p hp (by omega) g2
      have h4 := hO p v hv (Or.inl hp) g1 g2
      have h5 := cst_i p v
      have h6 := mst_b p v
      omega
theorem bigB (K : Nat → Int) : ∀ n : Nat, ∃ B : Int, ∀ u, u < n → -(K u) + 100 ≤ B
  | 0 => ⟨0, fun u h => absurd h (Nat.not_lt_zero _)⟩
  | n + 1 => by
    obtain ⟨B, hB⟩ := bigB K n
    by_cases h : -(K n) + 100 ≤ B
    · exact ⟨B, fun u hu => by
        by_cases e : u = n
        · rw [e]; exact h
        · exact hB u (by omega)⟩
    · exact ⟨-(K n) + 100, fun u hu => by
        by_cases e : u = n
        · rw [e]; exact Int.le_refl _
        · have := hB u (by omega)
          omega⟩
theorem POT_new (hW : WI op d0 d b) (hK : POT op K) (hB : BY b) (h0 : D0 d0) (hO : OPT op d 16 0) : ∃ K' : Nat → Int, POT op K' ∧ ∀ v p, v < 16 → p < 16 → b v = nI p → K' v = K' p + mst p v := by
  obtain ⟨B, hBB⟩ := bigB K 16
  have top : ∀ v, v < 16 → (d v).toInt < 1000000 → (d v).toInt % 64 ≤ 15 ∧ (d v).toInt ≤ 975 := fun v hv hd => by
    have h1 := d_top hW hK hB h0 hO 15 v hv (rank_le hv) hd
    have h2 := rank_le (d := d) (K := K) hv
    omega
  have low : ∀ v, v < 16 → -945 ≤ (d v).toInt := fun v hv => d_bel hW hK hB h0 hv
  refine ⟨fun v => if (d v).toInt < 1000000 then (d v).toInt / 64 else K v + B, fun p q hp hq ho => ?_, fun v p hv hp h => ?_⟩
  · show (if (d q).toInt < 1000000 then (d q).toInt / 64 else K q + B) ≤ (if (d p).toInt < 1000000 then (d p).toInt / 64 else K p + B) + mst p q
    have h5 := cst_i p q
    have h6 := mst_b p q
    have hk := hK p q hp hq ho
    by_cases c : (d p).toInt < 1000000
    · have h1 := hO p q hq (Or.inl hp) ho c
      have h2 := top p hp c
      have c2 : (d q).toInt < 1000000 := by omega
      rw [if_pos c, if_pos c2]
      omega
    · rw [if_neg c]
      have h3 := hBB p hp
      by_cases c2 : (d q).toInt < 1000000
      · have h2 := top q hq c2
        rw [if_pos c2]
        omega
      · rw [if_neg c2]
        omega
  · show (if (d v).toInt < 1000000 then (d v).toInt / 64 else K v + B) = (if (d p).toInt < 1000000 then (d p).toInt / 64 else K p + B) + mst p v
    obtain ⟨g1, g2, g3⟩ := hW.2.2 v p hv hp h
    have h4 := hO p v hv (Or.inl hp) g1 g2
    have h5 := cst_i p v
    have h6 := mst_b p v
    have h2 := top p hp g2
    have c2 : (d v).toInt < 1000000 := by omega
    rw [if_pos g2, if_pos c2]
    omega
/-- steps that are open behind a sending: those of before, and those of the way turned round -/
theorem POT_send {op' : Nat → Nat → Prop} (hs : ∀ p q, op p q → p < 8 ∧ ¬ q < 8 ∨ ¬ p < 8 ∧ q < 8) (hW : WI op d0 d b) (hK : POT op K) (hB : BY b) (h0 : D0 d0) (hO : OPT op d 16 0) (h : ∀ p q, p < 16 → q < 16 → op' p q → op p q ∨ b p = nI q) : ∃ K' : Nat → Int, POT op' K' := by
  obtain ⟨K', h1, h2⟩ := POT_new hW hK hB h0 hO
  refine ⟨K', fun p q hp hq ho => ?_⟩
  rcases h p q hp hq ho with g | g
  · exact h1 p q hp hq g
  · have e := h2 p q hp hq g
    have e2 := mst_rev (hs q p (hW.2.2 p q hp hq g).1)
    omega
end WAYS

def STP (S : Nat → va_E) (o p q : Nat) : Int32 := stpF (fld S o 26) (fld S o 22) (fld S o 21) (fld S o 23) (fld S o 24) p q
theorem STPe {S : Nat → va_E} {o k x0 x1 x2 x3 x4 n0 n1 n2 n3 n4 p q : Nat} {c0 c1 c2 c3 c4 : ClassId} {f0 f1 f2 f3 f4 : Nat → Int32} {fs : List Value} (h : S o = .inr (k, fs)) (h0 : fs[26]? = some (.ref x0)) (h1 : fs[22]? = some (.ref x1)) (h2 : fs[21]? = some (.ref x2)) (h3 : fs[23]? = some (.ref x3)) (h4 : fs[24]? = some (.ref x4)) (a0 : S x0 = .inl (c0, n0, .inl f0)) (a1 : S x1 = .inl (c1, n1, .inl f1)) (a2 : S x2 = .inl (c2, n2, .inl f2)) (a3 : S x3 = .inl (c3, n3, .inl f3)) (a4 : S x4 = .inl (c4, n4, .inl f4)) : STP S o p q = stpF f0 f1 f2 f3 f4 p q := by
  rw [STP, fld_i h h0 a0, fld_i h h1 a1, fld_i h h2 a2, fld_i h h3 a3, fld_i h h4 a4]
theorem inv66 {f f1 : Nat → Int32} {x y : Int32} (h : ∀ j, j < 16 → f j = -1 ∨ ∃ k, k < 16 ∧ f j = nI k) (hf : f1 = upd f y.toNatClampNeg x) (hx : x = -1 ∨ ∃ k, k < 16 ∧ x = nI k) : ∀ j, j < 16 → f1 j = -1 ∨ ∃ k, k < 16 ∧ f1 j = nI k := fun j hj => by
  subst hf
  by_cases q : j = y.toNatClampNeg
  · rw [q, pk_us]; exact hx
  · rw [pk_un q]; exact h j hj
theorem ipos {r : Int32} (h : ¬ r ≤ 0) : 0 < r := by
  rw [Int32.le_iff_toInt_le] at h
  rw [Int32.lt_iff_toInt_lt]
  omega
theorem iposn {r : Int32} (h : r ≤ 0) : ¬ 0 < r := by
  rw [Int32.le_iff_toInt_le] at h
  rw [Int32.lt_iff_toInt_lt]
  omega
theorem far_n {y : Int32} {d : Nat → Int32} {i : Nat} (h : (1000000 : Int32) ≤ y) (e : y = d (nI i).toNatClampNeg) (hi : i < 16) : ¬ (d i).toInt < 1000000 := by
  rw [nI_clamp (by omega)] at e
  rw [← e]
  rw [Int32.le_iff_toInt_le] at h
  have e2 : (1000000 : Int32).toInt = 1000000 := by decide
  omega
theorem far_p {y : Int32} {d : Nat → Int32} {i : Nat} (h : ¬ (1000000 : Int32) ≤ y) (e : y = d (nI i).toNatClampNeg) (hi : i < 16) : (d i).toInt < 1000000 := by
  rw [nI_clamp (by omega)] at e
  rw [← e]
  rw [Int32.le_iff_toInt_le] at h
  have e2 : (1000000 : Int32).toInt = 1000000 := by decide
  omega
theorem WI_0 {op : Nat → Nat → Prop} {d0 b : Nat → Int32} (h0 : D0 d0) (hb : ∀ v, v < 16 → b v = -1) : WI op d0 d0 b := ⟨fun v hv => by have := d0_i h0 hv; omega, fun _ _ _ => rfl, fun v p hv hp h => by
  rw [hb v hv] at h
  exact absurd h.symm (nI_neg (by omega)).1⟩
theorem way_up {op : Nat → Nat → Prop} {K : Nat → Int} {d0 d d1 b b1 : Nat → Int32} {i j : Nat} {x : Int32} (e1 : d1 = upd d (nI j).toNatClampNeg x) (e2 : b1 = upd b (nI j).toNatClampNeg (nI i)) (hi : i < 16) (hj : j < 16) (hW : WI op d0 d b) (hK : POT op K) (hB : BY b) (h0 : D0 d0) (ho : op i j) (hd : (d i).toInt < 1000000) (hx : x = d (nI i).toNatClampNeg + cst i j) (hl : d (nI i).toNatClampNeg + cst i j < d (nI j).toNatClampNeg) : WI op d0 d1 b1 ∧ BY b1 ∧ sg d1 16 < sg d 16 := by
  rw [nI_clamp (by omega)] at e1 e2 hx hl
  rw [nI_clamp (by omega)] at hl
  subst e1 e2 hx
  have hlow := d_bel hW hK hB h0 hi
  have hcb := cst_b i j
  have hadd := add_i hlow (hW.1 i hi) hcb.1 hcb.2
  have hl2 := Int32.lt_iff_toInt_lt.mp hl
  refine ⟨WI_up hW hK hi hj ho hd hadd hl2, fun k hk => ?_, sg_up hl2 (by omega) 16 hj⟩
  by_cases e : k = j
  · rw [e, pk_us]; exact Or.inr ⟨i, hi, rfl⟩
  · rw [pk_un e]; exact hB k hk
theorem opt_z {op : Nat → Nat → Prop} {d : Nat → Int32} {i j : Nat} {y y2 z c : Int32} (h : ¬ z < y2) (ez : z = y + c) (ey : y = d (nI i).toNatClampNeg) (ec : c = cst i j) (ey2 : y2 = d (nI j).toNatClampNeg) (hi : i < 16) (hj : j < 16) (h1 : -945 ≤ (d i).toInt) (h2 : (d i).toInt ≤ 1000000) : (d j).toInt ≤ (d i).toInt + (cst i j).toInt := by
  rw [nI_clamp (by omega)] at ey ey2
  subst ey ec ey2 ez
  have hcb := cst_b i j
  rw [Int32.lt_iff_toInt_lt, add_i h1 h2 hcb.1 hcb.2] at h
  omega
set_option maxHeartbeats 4000000 in
set_option maxRecDepth 100000 in
theorem m_stepMay (l : Launch) (dC : Nat → ClassId) (dI : Nat → Nat → Nat) (cy : Nat → ClassId) (L : List Nat) (kap : Nat → Nat) (pr : Pr) (S : Nat → va_E) (sz : Nat) (o : Nat) (ep : Nat) (eq : Nat) (hTy : Ty cy L kap pr S) (hT_o : TK L kap o 12) (hb_ep : ep < 16) (hb_eq : eq < 16) : Met l yX12_stepMay (wT yX12_stepMay cX12_stepMay 7 (some .int)) ({ frames := 1, cells := 0, slots := 0, locals := 21 }) (pcN dC dI [.ref o, .int (nI ep), .int (nI eq)] sz (va_pl L S) (cyT cy) NLs []) (vp_Si (fun r => r = STP S o ep eq)) 0 0 (fun _ => False) := by
  refine Met.ofW (cc := cX12_stepMay) (maxL := 7) (ret := (some .int)) (by decide) rfl ?_
  intro p e s m args below meth c s₁ B hml hv
  obtain ⟨rfl, hsz, hP, hK, hD0, hN, -⟩ := hv
  have hx := B.exec
  have hb := B.bytes
  have hr := B.returns
  have hT : ∀ wd ∈ TB, wd.before [.ref o, .int (nI ep), .int (nI eq)].toArray s = true := fun wd h => atoms_spec (ws := wT yX12_stepMay cX12_stepMay 7 (some .int)) B.pre wd (List.mem_cons_of_mem _ h)
  have hown : s.vm.findClass RX12 = some m.cls := findClass_of_methodNamed B.named
  have hlocks := B.notSynchronized
  subst hsz
  have hW : PW dC dI L (AL L s.heap.size) s.heap S s.heap [] := ⟨hP, pl_self hD0, va_S.rf⟩
  have hFr : Fr kap [] S S := Fr.rf
  have hl := lv_entry ([.ref o, .int (nI ep), .int (nI eq)]) (n := 7) (Nat.le_of_ble_eq_true rfl)
  rw [lg_entry_eq]
  generalize (lg_sl ([.ref o, .int (nI ep), .int (nI eq)]) ++ List.replicate (7 - (lg_sl ([.ref o, .int (nI ep), .int (nI eq)])).length) Slot.unset).toArray = ls at hl ⊢
  have hl : lv_has ls 7 [(0, .ref o), (1, .int (nI ep)), (2, .int (nI eq))] := hl
  obtain ⟨x_1, x_2, x_3, x_4, x_5, x_6, x_7, x_8, x_9, x_10, x_11, x_12, x_13, x_14, x_15, x_16, x_17, x_18, x_19, x_20, x_21, x_22, x_23, x_24, x_25, x_26, x_27, x_28, x_29, x_30, x_31, hS_o, hT_x_1, hT_x_2, hT_x_3, hT_x_4, hT_x_5, hb_x_6, hb_x_7, hb_x_8, hT_x_10, hb_q2, hb_x_11, hb_x_12, hT_x_17, hT_x_18, hb_x_19, hT_x_20, hT_x_21, hT_x_22, hT_x_23, hT_x_24, hT_x_25, hT_x_26, hT_x_27, hT_x_28, hT_x_29, hT_x_30, hb_x_31⟩ := hTy.k12 hT_o
  have hb_q2 : pr.2 ≤ 900 := hb_q2
  have hS_o : S o = .inr (12, [.ref x_1, .ref x_2, .ref x_3, .ref x_4, .ref x_5, .int (nI x_6), .int (nI x_7), .int (nI x_8), .int x_9, .ref x_10, .int (nI (pr.2)), .int (nI x_11), .int (nI x_12), .int x_13, .int x_14, .int x_15, .int x_16, .ref x_17, .ref x_18, .int (nI x_19), .ref x_20, .ref x_21, .ref x_22, .ref x_23, .ref x_24, .ref x_25, .ref x_26, .ref x_27, .ref x_28, .ref x_29, .ref x_30, .int (nI x_31)]) := hS_o
  obtain ⟨f_32, hS_x_26⟩ := hTy.k64 hT_x_26
  obtain ⟨f_33, hS_x_22⟩ := hTy.k60 hT_x_22
  obtain ⟨f_34, hS_x_21⟩ := hTy.k59 hT_x_21
  obtain ⟨f_35, hS_x_23⟩ := hTy.k61 hT_x_23
  obtain ⟨f_36, hS_x_24⟩ := hTy.k62 hT_x_24
  refine lv_iload_n hx hb dX12_stepMay_0 rfl (lv_at hl 1 rfl) ?_
  refine lv_bipush (v := 8) hx hb dX12_stepMay_1 (by decide) ?_
  refine lv_icmp_ge (tgt := 10) hx hb dX12_stepMay_3 (by decide) (fun c_3 => ?_) (fun c_3 => ?_)
  · have c_3 : 8 ≤ ep := (nI_leI (a := 8) (b := ep) (by omega) (by omega)).mp c_3
    refine lv_iconst (v := 0) hx hb dX12_stepMay_10 (by decide) ?_
    refine lv_iload_n hx hb dX12_stepMay_11 rfl (lv_at hl 2 rfl) ?_
    refine lv_bipush (v := 8) hx hb dX12_stepMay_12 (by decide) ?_
    refine lv_icmp_ge (tgt := 21) hx hb dX12_stepMay_14 (by decide) (fun c_14 => ?_) (fun c_14 => ?_)
    · have c_14 : 8 ≤ eq := (nI_leI (a := 8) (b := eq) (by omega) (by omega)).mp c_14
      refine lv_iconst (v := 0) hx hb dX12_stepMay_21 (by decide) ?_
      refine lv_icmp_ne (tgt := 27) hx hb dX12_stepMay_22 (by decide) (fun h => absurd (by decide) h) (fun _ => ?_)
      refine lv_iconst (v := 0) hx hb dX12_stepMay_25 (by decide) ?_
      exact W.iret (v := 0) hx hb hr (fun t ht h9 => ⟨0, rfl, ((STPe hS_o rfl rfl rfl rfl rfl hS_x_26 hS_x_22 hS_x_21 hS_x_23 hS_x_24).trans (stp_s (by omega))).symm, ht⟩) (fun q h => by cases h) dX12_stepMay_26
    · have c_14 : ¬ (8 ≤ eq) := fun hh9 => c_14 ((nI_leI (a := 8) (b := eq) (by omega) (by omega)).mpr hh9)
      refine lv_iconst (v := 1) hx hb dX12_stepMay_17 (by decide) ?_
      refine lv_goto (tgt := 22) hx hb dX12_stepMay_18 (by decide) ?_
      refine lv_icmp_ne (tgt := 27) hx hb dX12_stepMay_22 (by decide) (fun _ => ?_) (fun h => absurd h (by decide))
      refine lv_iload_n hx hb dX12_stepMay_27 rfl (lv_at hl 1 rfl) ?_
      refine lv_bipush (v := 8) hx hb dX12_stepMay_28 (by decide) ?_
      refine lv_icmp_ge (tgt := 37) hx hb dX12_stepMay_30 (by decide) (fun _ => ?_) (fun h => absurd ((nI_leI (a := 8) (b := ep) (by omega) (by omega)).mpr (by omega)) h)
      refine lv_iconst (v := 0) hx hb dX12_stepMay_37 (by decide) ?_
      refine lv_istore_n (lv' := [(3, .int 0), (0, .ref o), (1, .int (nI ep)), (2, .int (nI eq))]) hx hb dX12_stepMay_38 rfl hl (by decide) rfl (fun ls hl => ?_)
      refine lv_iload_n hx hb dX12_stepMay_39 rfl (lv_at hl 0 rfl) ?_
      refine lv_if_eq (tgt := 47) hx hb dX12_stepMay_40 (by decide) (fun _ => ?_) (fun h => absurd (by decide) h)
      refine lv_iload_n hx hb dX12_stepMay_47 rfl (lv_at hl 3 rfl) ?_
      refine lv_istore (lv' := [(4, .int (nI eq)), (3, .int 0), (0, .ref o), (1, .int (nI ep)), (2, .int (nI eq))]) hx hb dX12_stepMay_48 hl (by decide) rfl (fun ls hl => ?_)
      refine lv_iload_n hx hb dX12_stepMay_50 rfl (lv_at hl 1 rfl) ?_
      refine lv_if_eq (tgt := 61) hx hb dX12_stepMay_51 (by decide) (fun _ => ?_) (fun h => absurd (by decide) h)
      refine lv_iload_n hx hb dX12_stepMay_61 rfl (lv_at hl 3 rfl) ?_
      refine lv_bipush (v := 8) hx hb dX12_stepMay_62 (by decide) ?_
      refine lv_isub hx hb dX12_stepMay_64 ?_
      refine lv_topi (fun z_37 ez_37 => ?_)
      obtain rfl : z_37 = nI (ep - 8) := ez_37.trans (pk_sub (a := ep) (b := 8) (by omega))
      refine lv_istore (lv' := [(5, .int (nI (ep - 8))), (4, .int (nI eq)), (3, .int 0), (0, .ref o), (1, .int (nI ep)), (2, .int (nI eq))]) hx hb dX12_stepMay_65 hl (by decide) rfl (fun ls hl => ?_)
      refine lv_iload hx hb dX12_stepMay_67 (lv_at hl 1 rfl) ?_
      refine lv_iload hx hb dX12_stepMay_69 (lv_at hl 0 rfl) ?_
      refine lv_icmp_ne (tgt := 104) hx hb dX12_stepMay_71 (by decide) (fun c_71 => ?_) (fun c_71 => ?_)
      · have c_71 : ¬ (eq = (ep - 8)) := fun hh9 => c_71 ((nI_eq (a := eq) (b := ep - 8) (by omega) (by omega)).mpr hh9)
        refine lv_iload hx hb dX12_stepMay_104 (lv_at hl 1 rfl) ?_
        refine lv_iload hx hb dX12_stepMay_106 (lv_at hl 0 rfl) ?_
        refine vp_callSi (va_Run.run (va_runS (As := [.int (nI eq), .int (nI (ep - 8))]) (rest := []) ⟨hx, hb, hml, hown, hT⟩ (m_couple l dC dI s.heap.size eq (ep - 8) (by omega) (by omega)) (va_cwS 2 hT (gS w1348 w1349 w14 w1350) rfl rfl rfl (by decide +kernel) ⟨(Nat.le_of_ble_eq_true rfl), (Nat.le_of_ble_eq_true rfl)⟩) ⟨pcW.blind, pcW.pre (va_P0 _ _ _) (hK.sub (tys' := []) [] rfl) (va_D0 (fun _ => True))⟩ rfl rfl hl.1 rfl (lv_room (Nat.le_of_ble_eq_true rfl)) dX12_stepMay_108 ⟨(Nat.le_of_ble_eq_true rfl), (Nat.le_of_ble_eq_true rfl)⟩)) (fun r_38 hr_38 => ?_)
        obtain rfl : r_38 = nI (8 * eq + (ep - 8)) := hr_38
        refine lv_istore (lv' := [(6, .int (nI (8 * eq + (ep - 8)))), (5, .int (nI (ep - 8))), (4, .int (nI eq)), (3, .int 0), (0, .ref o), (1, .int (nI ep)), (2, .int (nI eq))]) hx hb dX12_stepMay_111 hl (by decide) rfl (fun ls hl => ?_)
        refine lv_aload_n hx hb dX12_stepMay_113 rfl (lv_at hl 4 rfl) ?_
        refine pl_get (ci := 12) (v := .ref x_26) (C := RX12) (T := TX12) (N := 32) hx hb hT iX12 hown hK hW hT_o.1 hS_o rfl 26 (by decide) w1108 rfl dX12_stepMay_114 ?_
        refine lv_iload hx hb dX12_stepMay_117 (lv_at hl 0 rfl) ?_
        refine pl_zald hx hb hK hW hT_x_26.1 hS_x_26 (vp_in_nI (n := 8 * eq + (ep - 8)) (N := 64) (by omega) (by omega)) dX12_stepMay_119 ?_
        refine lv_topi (fun y_39 ey_39 => ?_)
        refine lv_if_eq (tgt := 127) hx hb dX12_stepMay_120 (by decide) (fun c_120 => ?_) (fun c_120 => ?_)
        · refine lv_iload_n hx hb dX12_stepMay_127 rfl (lv_at hl 3 rfl) ?_
          refine lv_if_eq (tgt := 149) hx hb dX12_stepMay_128 (by decide) (fun _ => ?_) (fun h => absurd (by decide) h)
          refine lv_aload_n hx hb dX12_stepMay_149 rfl (lv_at hl 4 rfl) ?_
          refine pl_get (ci := 12) (v := .ref x_22) (C := RX12) (T := TX12) (N := 32) hx hb hT iX12 hown hK hW hT_o.1 hS_o rfl 22 (by decide) w1104 rfl dX12_stepMay_150 ?_
          refine lv_iload hx hb dX12_stepMay_153 (lv_at hl 0 rfl) ?_
          refine pl_iald hx hb hK hW hT_x_22.1 hS_x_22 (vp_in_nI (n := 8 * eq + (ep - 8)) (N := 64) (by omega) (by omega)) dX12_stepMay_155 ?_
          refine lv_topi (fun y_40 ey_40 => ?_)
          exact W.iret (v := y_40) hx hb hr (fun t ht h9 => ⟨y_40, rfl, ((STPe hS_o rfl rfl rfl rfl rfl hS_x_26 hS_x_22 hS_x_21 hS_x_23 hS_x_24).trans ((stp_f (by omega) (by omega) (by omega) (by rw [← nI_clamp (n := 8 * eq + (ep - 8)) (by omega), ← ey_39]; exact c_120)).trans (by rw [ey_40, nI_clamp (by omega)]))).symm, ht⟩) (fun q h => by cases h) dX12_stepMay_156
        · refine lv_iconst (v := 0) hx hb dX12_stepMay_123 (by decide) ?_
          refine lv_goto (tgt := 156) hx hb dX12_stepMay_124 (by decide) ?_
          exact W.iret (v := 0) hx hb hr (fun t ht h9 => ⟨0, rfl, ((STPe hS_o rfl rfl rfl rfl rfl hS_x_26 hS_x_22 hS_x_21 hS_x_23 hS_x_24).trans (stp_e (by omega) (by omega) (by omega) (by rw [← nI_clamp (n := 8 * eq + (ep - 8)) (by omega), ← ey_39]; exact c_120))).symm, ht⟩) (fun q h => by cases h) dX12_stepMay_156
      · have c_71 : eq = (ep - 8) := (nI_eq (a := eq) (b := ep - 8) (by omega) (by omega)).mp c_71
        refine lv_iload_n hx hb dX12_stepMay_74 rfl (lv_at hl 2 rfl) ?_
        refine lv_if_eq (tgt := 88) hx hb dX12_stepMay_75 (by decide) (fun _ => ?_) (fun h => absurd (by decide) h)
        refine lv_aload_n hx hb dX12_stepMay_88 rfl (lv_at hl 3 rfl) ?_
        refine pl_get (ci := 12) (v := .ref x_23) (C := RX12) (T := TX12) (N := 32) hx hb hT iX12 hown hK hW hT_o.1 hS_o rfl 23 (by decide) w1105 rfl dX12_stepMay_89 ?_
        refine lv_iload hx hb dX12_stepMay_92 (lv_at hl 1 rfl) ?_
        refine pl_iald hx hb hK hW hT_x_23.1 hS_x_23 (vp_in_nI (n := eq) (N := 8) (by omega) (by omega)) dX12_stepMay_94 ?_
        refine lv_topi (fun y_41 ey_41 => ?_)
        refine lv_aload_n hx hb dX12_stepMay_95 rfl (lv_at hl 3 rfl) ?_
        refine pl_get (ci := 12) (v := .ref x_24) (C := RX12) (T := TX12) (N := 32) hx hb hT iX12 hown hK hW hT_o.1 hS_o rfl 24 (by decide) w1106 rfl dX12_stepMay_96 ?_
        refine lv_iload hx hb dX12_stepMay_99 (lv_at hl 1 rfl) ?_
        refine pl_iald hx hb hK hW hT_x_24.1 hS_x_24 (vp_in_nI (n := eq) (N := 8) (by omega) (by omega)) dX12_stepMay_101 ?_
        refine lv_topi (fun y_42 ey_42 => ?_)
        refine lv_isub hx hb dX12_stepMay_102 ?_
        refine lv_topi (fun z_43 ez_43 => ?_)
        exact W.iret (v := z_43) hx hb hr (fun t ht h9 => ⟨z_43, rfl, ((STPe hS_o rfl rfl rfl rfl rfl hS_x_26 hS_x_22 hS_x_21 hS_x_23 hS_x_24).trans ((stp_d (by omega) (by omega) (by omega)).trans (by rw [ez_43, ey_41, ey_42, nI_clamp (by omega)]))).symm, ht⟩) (fun q h => by cases h) dX12_stepMay_103
  · have c_3 : ¬ (8 ≤ ep) := fun hh9 => c_3 ((nI_leI (a := 8) (b := ep) (by omega) (by omega)).mpr hh9)
    refine lv_iconst (v := 1) hx hb dX12_stepMay_6 (by decide) ?_
    refine lv_goto (tgt := 11) hx hb dX12_stepMay_7 (by decide) ?_
    refine lv_iload_n hx hb dX12_stepMay_11 rfl (lv_at hl 2 rfl) ?_
    refine lv_bipush (v := 8) hx hb dX12_stepMay_12 (by decide) ?_
    refine lv_icmp_ge (tgt := 21) hx hb dX12_stepMay_14 (by decide) (fun c_14 => ?_) (fun c_14 => ?_)
    · have c_14 : 8 ≤ eq := (nI_leI (a := 8) (b := eq) (by omega) (by omega)).mp c_14
      refine lv_iconst (v := 0) hx hb dX12_stepMay_21 (by decide) ?_
      refine lv_icmp_ne (tgt := 27) hx hb dX12_stepMay_22 (by decide) (fun _ => ?_) (fun h => absurd h (by decide))
      refine lv_iload_n hx hb dX12_stepMay_27 rfl (lv_at hl 1 rfl) ?_
      refine lv_bipush (v := 8) hx hb dX12_stepMay_28 (by decide) ?_
      refine lv_icmp_ge (tgt := 37) hx hb dX12_stepMay_30 (by decide) (fun h => absurd h (fun h => by have := (nI_leI (a := 8) (b := ep) (by omega) (by omega)).mp h; omega)) (fun _ => ?_)
      refine lv_iconst (v := 1) hx hb dX12_stepMay_33 (by decide) ?_
      refine lv_goto (tgt := 38) hx hb dX12_stepMay_34 (by decide) ?_
      refine lv_istore_n (lv' := [(3, .int 1), (0, .ref o), (1, .int (nI ep)), (2, .int (nI eq))]) hx hb dX12_stepMay_38 rfl hl (by decide) rfl (fun ls hl => ?_)
      refine lv_iload_n hx hb dX12_stepMay_39 rfl (lv_at hl 0 rfl) ?_
      refine lv_if_eq (tgt := 47) hx hb dX12_stepMay_40 (by decide) (fun h => absurd h (by decide)) (fun _ => ?_)
      refine lv_iload_n hx hb dX12_stepMay_43 rfl (lv_at hl 2 rfl) ?_
      refine lv_goto (tgt := 48) hx hb dX12_stepMay_44 (by decide) ?_
      refine lv_istore (lv' := [(4, .int (nI ep)), (3, .int 1), (0, .ref o), (1, .int (nI ep)), (2, .int (nI eq))]) hx hb dX12_stepMay_48 hl (by decide) rfl (fun ls hl => ?_)
      refine lv_iload_n hx hb dX12_stepMay_50 rfl (lv_at hl 1 rfl) ?_
      refine lv_if_eq (tgt := 61) hx hb dX12_stepMay_51 (by decide) (fun h => absurd h (by decide)) (fun _ => ?_)
      refine lv_iload_n hx hb dX12_stepMay_54 rfl (lv_at hl 4 rfl) ?_
      refine lv_bipush (v := 8) hx hb dX12_stepMay_55 (by decide) ?_
      refine lv_isub hx hb dX12_stepMay_57 ?_
      refine lv_topi (fun z_44 ez_44 => ?_)
      obtain rfl : z_44 = nI (eq - 8) := ez_44.trans (pk_sub (a := eq) (b := 8) (by omega))
      refine lv_goto (tgt := 65) hx hb dX12_stepMay_58 (by decide) ?_
      refine lv_istore (lv' := [(5, .int (nI (eq - 8))), (4, .int (nI ep)), (3, .int 1), (0, .ref o), (1, .int (nI ep)), (2, .int (nI eq))]) hx hb dX12_stepMay_65 hl (by decide) rfl (fun ls hl => ?_)
      refine lv_iload hx hb dX12_stepMay_67 (lv_at hl 1 rfl) ?_
      refine lv_iload hx hb dX12_stepMay_69 (lv_at hl 0 rfl) ?_
      refine lv_icmp_ne (tgt := 104) hx hb dX12_stepMay_71 (by decide) (fun c_71 => ?_) (fun c_71 => ?_)
      · have c_71 : ¬ (ep = (eq - 8)) := fun hh9 => c_71 ((nI_eq (a := ep) (b := eq - 8) (by omega) (by omega)).mpr hh9)
        refine lv_iload hx hb dX12_stepMay_104 (lv_at hl 1 rfl) ?_
        refine lv_iload hx hb dX12_stepMay_106 (lv_at hl 0 rfl) ?_
        refine vp_callSi (va_Run.run (va_runS (As := [.int (nI ep), .int (nI (eq - 8))]) (rest := []) ⟨hx, hb, hml, hown, hT⟩ (m_couple l dC dI s.heap.size ep (eq - 8) (by omega) (by omega)) (va_cwS 2 hT (gS w1348 w1349 w14 w1350) rfl rfl rfl (by decide +kernel) ⟨(Nat.le_of_ble_eq_true rfl), (Nat.le_of_ble_eq_true rfl)⟩) ⟨pcW.blind, pcW.pre (va_P0 _ _ _) (hK.sub (tys' := []) [] rfl) (va_D0 (fun _ => True))⟩ rfl rfl hl.1 rfl (lv_room (Nat.le_of_ble_eq_true rfl)) dX12_stepMay_108 ⟨(Nat.le_of_ble_eq_true rfl), (Nat.le_of_ble_eq_true rfl)⟩)) (fun r_45 hr_45 => ?_)
        obtain rfl : r_45 = nI (8 * ep + (eq - 8)) := hr_45
        refine lv_istore (lv' := [(6, .int (nI (8 * ep + (eq - 8)))), (5, .int (nI (eq - 8))), (4, .int (nI ep)), (3, .int 1), (0, .ref o), (1, .int (nI ep)), (2, .int (nI eq))]) hx hb dX12_stepMay_111 hl (by decide) rfl (fun ls hl => ?_)
        refine lv_aload_n hx hb dX12_stepMay_113 rfl (lv_at hl 4 rfl) ?_
        refine pl_get (ci := 12) (v := .ref x_26) (C := RX12) (T := TX12) (N := 32) hx hb hT iX12 hown hK hW hT_o.1 hS_o rfl 26 (by decide) w1108 rfl dX12_stepMay_114 ?_
        refine lv_iload hx hb dX12_stepMay_117 (lv_at hl 0 rfl) ?_
        refine pl_zald hx hb hK hW hT_x_26.1 hS_x_26 (vp_in_nI (n := 8 * ep + (eq - 8)) (N := 64) (by omega) (by omega)) dX12_stepMay_119 ?_
        refine lv_topi (fun y_46 ey_46 => ?_)
        refine lv_if_eq (tgt := 127) hx hb dX12_stepMay_120 (by decide) (fun c_120 => ?_) (fun c_120 => ?_)
        · refine lv_iload_n hx hb dX12_stepMay_127 rfl (lv_at hl 3 rfl) ?_
          refine lv_if_eq (tgt := 149) hx hb dX12_stepMay_128 (by decide) (fun h => absurd h (by decide)) (fun _ => ?_)
          refine lv_aload_n hx hb dX12_stepMay_131 rfl (lv_at hl 4 rfl) ?_
          refine pl_get (ci := 12) (v := .ref x_21) (C := RX12) (T := TX12) (N := 32) hx hb hT iX12 hown hK hW hT_o.1 hS_o rfl 21 (by decide) w1103 rfl dX12_stepMay_132 ?_
          refine lv_iload hx hb dX12_stepMay_135 (lv_at hl 0 rfl) ?_
          refine pl_iald hx hb hK hW hT_x_21.1 hS_x_21 (vp_in_nI (n := 8 * ep + (eq - 8)) (N := 64) (by omega) (by omega)) dX12_stepMay_137 ?_
          refine lv_topi (fun y_47 ey_47 => ?_)
          refine lv_aload_n hx hb dX12_stepMay_138 rfl (lv_at hl 4 rfl) ?_
          refine pl_get (ci := 12) (v := .ref x_22) (C := RX12) (T := TX12) (N := 32) hx hb hT iX12 hown hK hW hT_o.1 hS_o rfl 22 (by decide) w1104 rfl dX12_stepMay_139 ?_
          refine lv_iload hx hb dX12_stepMay_142 (lv_at hl 0 rfl) ?_
          refine pl_iald hx hb hK hW hT_x_22.1 hS_x_22 (vp_in_nI (n := 8 * ep + (eq - 8)) (N := 64) (by omega) (by omega)) dX12_stepMay_144 ?_
          refine lv_topi (fun y_48 ey_48 => ?_)
          refine lv_isub hx hb dX12_stepMay_145 ?_
          refine lv_topi (fun z_49 ez_49 => ?_)
          refine lv_goto (tgt := 156) hx hb dX12_stepMay_146 (by decide) ?_
          exact W.iret (v := z_49) hx hb hr (fun t ht h9 => ⟨z_49, rfl, ((STPe hS_o rfl rfl rfl rfl rfl hS_x_26 hS_x_22 hS_x_21 hS_x_23 hS_x_24).trans ((stp_c (by omega) (by omega) (by omega) (by rw [← nI_clamp (n := 8 * ep + (eq - 8)) (by omega), ← ey_46]; exact c_120)).trans (by rw [ez_49, ey_47, ey_48, nI_clamp (by omega)]))).symm, ht⟩) (fun q h => by cases h) dX12_stepMay_156
        · refine lv_iconst (v := 0) hx hb dX12_stepMay_123 (by decide) ?_
          refine lv_goto (tgt := 156) hx hb dX12_stepMay_124 (by decide) ?_
          exact W.iret (v := 0) hx hb hr (fun t ht h9 => ⟨0, rfl, ((STPe hS_o rfl rfl rfl rfl rfl hS_x_26 hS_x_22 hS_x_21 hS_x_23 hS_x_24).trans (stp_b (by omega) (by omega) (by omega) (by rw [← nI_clamp (n := 8 * ep + (eq - 8)) (by omega), ← ey_46]; exact c_120))).symm, ht⟩) (fun q h => by cases h) dX12_stepMay_156
      · have c_71 : ep = (eq - 8) := (nI_eq (a := ep) (b := eq - 8) (by omega) (by omega)).mp c_71
        refine lv_iload_n hx hb dX12_stepMay_74 rfl (lv_at hl 2 rfl) ?_
        refine lv_if_eq (tgt := 88) hx hb dX12_stepMay_75 (by decide) (fun h => absurd h (by decide)) (fun _ => ?_)
        refine lv_aload_n hx hb dX12_stepMay_78 rfl (lv_at hl 3 rfl) ?_
        refine pl_get (ci := 12) (v := .ref x_24) (C := RX12) (T := TX12) (N := 32) hx hb hT iX12 hown hK hW hT_o.1 hS_o rfl 24 (by decide) w1106 rfl dX12_stepMay_79 ?_
        refine lv_iload hx hb dX12_stepMay_82 (lv_at hl 1 rfl) ?_
        refine pl_iald hx hb hK hW hT_x_24.1 hS_x_24 (vp_in_nI (n := ep) (N := 8) (by omega) (by omega)) dX12_stepMay_84 ?_
        refine lv_topi (fun y_50 ey_50 => ?_)
        refine lv_goto (tgt := 103) hx hb dX12_stepMay_85 (by decide) ?_
        exact W.iret (v := y_50) hx hb hr (fun t ht h9 => ⟨y_50, rfl, ((STPe hS_o rfl rfl rfl rfl rfl hS_x_26 hS_x_22 hS_x_21 hS_x_23 hS_x_24).trans ((stp_a (by omega) (by omega) (by omega)).trans (by rw [ey_50, nI_clamp (by omega)]))).symm, ht⟩) (fun q h => by cases h) dX12_stepMay_103
    · have c_14 : ¬ (8 ≤ eq) := fun hh9 => c_14 ((nI_leI (a := 8) (b := eq) (by omega) (by omega)).mpr hh9)
      refine lv_iconst (v := 1) hx hb dX12_stepMay_17 (by decide) ?_
      refine lv_goto (tgt := 22) hx hb dX12_stepMay_18 (by decide) ?_
      refine lv_icmp_ne (tgt := 27) hx hb dX12_stepMay_22 (by decide) (fun h => absurd (by decide) h) (fun _ => ?_)
      refine lv_iconst (v := 0) hx hb dX12_stepMay_25 (by decide) ?_
      exact W.iret (v := 0) hx hb hr (fun t ht h9 => ⟨0, rfl, ((STPe hS_o rfl rfl rfl rfl rfl hS_x_26 hS_x_22 hS_x_21 hS_x_23 hS_x_24).trans (stp_s (by omega))).symm, ht⟩) (fun q h => by cases h) dX12_stepMay_26

set_option maxHeartbeats 4000000 in
set_option maxRecDepth 100000 in
theorem m_stepCost (l : Launch) (dC : Nat → ClassId) (dI : Nat → Nat → Nat) (sz : Nat) (ep : Nat) (eq : Nat) (hb_ep : ep < 16) (hb_eq : eq < 16) : Met l yX12_stepCost (wT yX12_stepCost cX12_stepCost 2 (some .int)) ({ frames := 0, cells := 0, slots := 0, locals := 0 }) (pcW dC dI [.int (nI ep), .int (nI eq)] sz [] []) (vp_Si (fun r => r = cst ep eq)) 0 0 (fun _ => False) := by
  refine Met.ofW (cc := cX12_stepCost) (maxL := 2) (ret := (some .int)) (by decide) rfl ?_
  intro p e s m args below meth c s₁ B hml hv
  obtain ⟨rfl, hsz, hP, hK, hD0⟩ := hv
  have hx := B.exec
  have hb := B.bytes
  have hr := B.returns
  have hT : ∀ wd ∈ TB, wd.before [.int (nI ep), .int (nI eq)].toArray s = true := fun wd h => atoms_spec (ws := wT yX12_stepCost cX12_stepCost 2 (some .int)) B.pre wd (List.mem_cons_of_mem _ h)
  have hown : s.vm.findClass RX12 = some m.cls := findClass_of_methodNamed B.named
  have hlocks := B.notSynchronized
  subst hsz
  have hl := lv_entry ([.int (nI ep), .int (nI eq)]) (n := 2) (Nat.le_of_ble_eq_true rfl)
  rw [lg_entry_eq]
  generalize (lg_sl ([.int (nI ep), .int (nI eq)]) ++ List.replicate (2 - (lg_sl ([.int (nI ep), .int (nI eq)])).length) Slot.unset).toArray = ls at hl ⊢
  have hl : lv_has ls 2 [(0, .int (nI ep)), (1, .int (nI eq))] := hl
  refine lv_iconst (v := 1) hx hb dX12_stepCost_0 (by decide) ?_
  refine lv_iload_n hx hb dX12_stepCost_1 rfl (lv_at hl 0 rfl) ?_
  refine lv_iload_n hx hb dX12_stepCost_2 rfl (lv_at hl 1 rfl) ?_
  refine lv_bipush (v := 8) hx hb dX12_stepCost_3 (by decide) ?_
  refine lv_iadd hx hb dX12_stepCost_5 ?_
  refine lv_topi (fun z_1 ez_1 => ?_)
  obtain rfl : z_1 = nI (eq + 8) := ez_1.trans (nI_add (eq) (8))
  refine lv_icmp_eq (tgt := 17) hx hb dX12_stepCost_6 (by decide) (fun c_6 => ?_) (fun c_6 => ?_)
  · have c_6 : ep = (eq + 8) := (nI_eq (a := ep) (b := eq + 8) (by omega) (by omega)).mp c_6
    refine lv_iconst (v := 0) hx hb dX12_stepCost_17 (by decide) ?_
    refine lv_goto (tgt := 34) hx hb dX12_stepCost_18 (by decide) ?_
    refine lv_iadd hx hb dX12_stepCost_34 ?_
    refine lv_topi (fun z_2 ez_2 => ?_)
    obtain rfl : z_2 = 1 := ez_2.trans (by decide)
    exact W.iret (v := 1) hx hb hr (fun t ht h9 => ⟨1, rfl, (by unfold cst; rw [if_pos (by omega)]), ht⟩) (fun q h => by cases h) dX12_stepCost_35
  · have c_6 : ¬ (ep = (eq + 8)) := fun hh9 => c_6 ((nI_eq (a := ep) (b := eq + 8) (by omega) (by omega)).mpr hh9)
    refine lv_iload_n hx hb dX12_stepCost_9 rfl (lv_at hl 1 rfl) ?_
    refine lv_iload_n hx hb dX12_stepCost_10 rfl (lv_at hl 0 rfl) ?_
    refine lv_bipush (v := 8) hx hb dX12_stepCost_11 (by decide) ?_
    refine lv_iadd hx hb dX12_stepCost_13 ?_
    refine lv_topi (fun z_3 ez_3 => ?_)
    obtain rfl : z_3 = nI (ep + 8) := ez_3.trans (nI_add (ep) (8))
    refine lv_icmp_ne (tgt := 21) hx hb dX12_stepCost_14 (by decide) (fun c_14 => ?_) (fun c_14 => ?_)
    · have c_14 : ¬ (eq = (ep + 8)) := fun hh9 => c_14 ((nI_eq (a := eq) (b := ep + 8) (by omega) (by omega)).mpr hh9)
      refine lv_iload_n hx hb dX12_stepCost_21 rfl (lv_at hl 0 rfl) ?_
      refine lv_bipush (v := 8) hx hb dX12_stepCost_22 (by decide) ?_
      refine lv_icmp_ge (tgt := 32) hx hb dX12_stepCost_24 (by decide) (fun c_24 => ?_) (fun c_24 => ?_)
      · have c_24 : 8 ≤ ep := (nI_leI (a := 8) (b := ep) (by omega) (by omega)).mp c_24
        refine lv_bipush (v := (-64)) hx hb dX12_stepCost_32 (by decide) ?_
        refine lv_iadd hx hb dX12_stepCost_34 ?_
        refine lv_topi (fun z_4 ez_4 => ?_)
        obtain rfl : z_4 = (-63) := ez_4.trans (by decide)
        exact W.iret (v := (-63)) hx hb hr (fun t ht h9 => ⟨(-63), rfl, (by unfold cst; rw [if_neg (by omega), if_neg (by omega)]), ht⟩) (fun q h => by cases h) dX12_stepCost_35
      · have c_24 : ¬ (8 ≤ ep) := fun hh9 => c_24 ((nI_leI (a := 8) (b := ep) (by omega) (by omega)).mpr hh9)
        refine lv_bipush (v := 64) hx hb dX12_stepCost_27 (by decide) ?_
        refine lv_goto (tgt := 34) hx hb dX12_stepCost_29 (by decide) ?_
        refine lv_iadd hx hb dX12_stepCost_34 ?_
        refine lv_topi (fun z_5 ez_5 => ?_)
        obtain rfl : z_5 = 65 := ez_5.trans (by decide)
        exact W.iret (v := 65) hx hb hr (fun t ht h9 => ⟨65, rfl, (by unfold cst; rw [if_neg (by omega), if_pos (by omega)]), ht⟩) (fun q h => by cases h) dX12_stepCost_35
    · have c_14 : eq = (ep + 8) := (nI_eq (a := eq) (b := ep + 8) (by omega) (by omega)).mp c_14
      refine lv_iconst (v := 0) hx hb dX12_stepCost_17 (by decide) ?_
      refine lv_goto (tgt := 34) hx hb dX12_stepCost_18 (by decide) ?_
      refine lv_iadd hx hb dX12_stepCost_34 ?_
      refine lv_topi (fun z_6 ez_6 => ?_)
      obtain rfl : z_6 = 1 := ez_6.trans (by decide)
      exact W.iret (v := 1) hx hb hr (fun t ht h9 => ⟨1, rfl, (by unfold cst; rw [if_pos (by omega)]), ht⟩) (fun q h => by cases h) dX12_stepCost_35

set_option maxHeartbeats 4000000 in
set_option maxRecDepth 100000 in
theorem m_ways (l : Launch) (dC : Nat → ClassId) (dI : Nat → Nat → Nat) (cy : Nat → ClassId) (L : List Nat) (kap : Nat → Nat) (pr : Pr) (S : Nat → va_E) (sz : Nat) (o : Nat) (hTy : Ty cy L kap pr S) (hT_o : TK L kap o 12) (kq : Nat → Int) (hkq : POT (fun p q => 0 < STP S o p q) kq) (h0 : D0 (fld S o 27)) (hb0 : ∀ v, v < 16 → fld S o 28 v = -1) : Met l yX12_laysWays (wT yX12_laysWays cX12_laysWays 4 none) ({ frames := 2, cells := 0, slots := 0, locals := 47 }) (pcN dC dI [.ref o] sz (va_pl L S) (cyT cy) NLs []) (va_Qv (fun S' => Ty cy L kap pr S' ∧ Fr kap [65, 66] S S' ∧ (WI (fun p q => 0 < STP S o p q) (fld S o 27) (fld S' o 27) (fld S' o 28) ∧ BY (fld S' o 28) ∧ OPT (fun p q => 0 < STP S o p q) (fld S' o 27) 16 0)) (fun S' t => pB dC dI (AL L sz) (va_pl L S') (cyT cy) t) (AL L sz)) 0 0 (AL L sz) := by
  refine Met.ofW (cc := cX12_laysWays) (maxL := 4) (ret := none) (by decide) rfl ?_
  intro p e s m args below meth c s₁ B hml hv
  obtain ⟨rfl, hsz, hP, hK, hD0, hN, -⟩ := hv
  have hx := B.exec
  have hb := B.bytes
  have hr := B.returns
  have hT : ∀ wd ∈ TB, wd.before [.ref o].toArray s = true := fun wd h => atoms_spec (ws := wT yX12_laysWays cX12_laysWays 4 none) B.pre wd (List.mem_cons_of_mem _ h)
  have hown : s.vm.findClass RX12 = some m.cls := findClass_of_methodNamed B.named
  have hlocks := B.notSynchronized
  subst hsz
  have hW : PW dC dI L (AL L s.heap.size) s.heap S s.heap [] := ⟨hP, pl_self hD0, va_S.rf⟩
  have hA0 : ∀ q, q ∈ L → AL L s.heap.size q := fun _ h => Or.inl h
  have hA : ∀ q, s.heap.size ≤ q → AL L s.heap.size q := fun _ h => Or.inr h
  have hFr : Fr kap [65, 66] S S := Fr.rf
  have hl := lv_entry ([.ref o]) (n := 4) (Nat.le_of_ble_eq_true rfl)
  rw [lg_entry_eq]
  generalize (lg_sl ([.ref o]) ++ List.replicate (4 - (lg_sl ([.ref o])).length) Slot.unset).toArray = ls at hl ⊢
  have hl : lv_has ls 4 [(0, .ref o)] := hl
  obtain ⟨x_1, x_2, x_3, x_4, x_5, x_6, x_7, x_8, x_9, x_10, x_11, x_12, x_13, x_14, x_15, x_16, x_17, x_18, x_19, x_20, x_21, x_22, x_23, x_24, x_25, x_26, x_27, x_28, x_29, x_30, x_31, hS_o, hT_x_1, hT_x_2, hT_x_3, hT_x_4, hT_x_5, hb_x_6, hb_x_7, hb_x_8, hT_x_10, hb_q2, hb_x_11, hb_x_12, hT_x_17, hT_x_18, hb_x_19, hT_x_20, hT_x_21, hT_x_22, hT_x_23, hT_x_24, hT_x_25, hT_x_26, hT_x_27, hT_x_28, hT_x_29, hT_x_30, hb_x_31⟩ := hTy.k12 hT_o
  have hb_q2 : pr.2 ≤ 900 := hb_q2
  have hS_o : S o = .inr (12, [.ref x_1, .ref x_2, .ref x_3, .ref x_4, .ref x_5, .int (nI x_6), .int (nI x_7), .int (nI x_8), .int x_9, .ref x_10, .int (nI (pr.2)), .int (nI x_11), .int (nI x_12), .int x_13, .int x_14, .int x_15, .int x_16, .ref x_17, .ref x_18, .int (nI x_19), .ref x_20, .ref x_21, .ref x_22, .ref x_23, .ref x_24, .ref x_25, .ref x_26, .ref x_27, .ref x_28, .ref x_29, .ref x_30, .int (nI x_31)]) := hS_o
  obtain ⟨f_32, hS_x_26⟩ := hTy.k64 hT_x_26
  obtain ⟨f_33, hS_x_22⟩ := hTy.k60 hT_x_22
  obtain ⟨f_34, hS_x_21⟩ := hTy.k59 hT_x_21
  obtain ⟨f_35, hS_x_23⟩ := hTy.k61 hT_x_23
  obtain ⟨f_36, hS_x_24⟩ := hTy.k62 hT_x_24
  obtain ⟨f_37, hS_x_27⟩ := hTy.k65 hT_x_27
  obtain ⟨f_38, hS_x_28, hi_f_38⟩ := hTy.k66 hT_x_28
  obtain ⟨op, hopd⟩ : ∃ op : Nat → Nat → Prop, op = fun p q => 0 < stpF f_32 f_33 f_34 f_35 f_36 p q := ⟨_, rfl⟩
  have hopS : (fun p q => 0 < STP S o p q) = op := by rw [hopd]; funext p q; rw [(STPe hS_o rfl rfl rfl rfl rfl hS_x_26 hS_x_22 hS_x_21 hS_x_23 hS_x_24)]
  have hdS : fld S o 27 = f_37 := fld_i hS_o rfl hS_x_27
  have hbS : fld S o 28 = f_38 := fld_i hS_o rfl hS_x_28
  rw [hopS] at hkq
  rw [hdS] at h0
  rw [hbS] at hb0
  refine lv_iconst (v := 1) hx hb dX12_laysWays_0 (by decide) ?_
  refine lv_istore_n (lv' := [(1, .int 1), (0, .ref o)]) hx hb dX12_laysWays_1 rfl hl (by decide) rfl (fun ls hl => ?_)
  have loop : ∀ (fuel : Nat) (mo : Int32) (gd : Nat → Int32) (gb : Nat → Int32) (mb : Nat) (SS : Nat → va_E) (H : Heap) (locs : List Loc) (ls : Array Slot), 2 * sg gd 16 + mb < fuel → (SS x_27 = .inl (cy 0, 16, .inl gd)) → (SS x_28 = .inl (cy 0, 16, .inl gb)) → (WI op f_37 gd gb) → (BY gb) → (mo = 0 → OPT op gd 16 0) → (mo = 0 ∨ mb = 1) → Ty cy L kap pr SS → Fr kap [65, 66] S SS → Fr kap [65, 66] S SS → PW dC dI L (AL L s.heap.size) s.heap SS H locs → lv_has ls 4 [(1, .int mo), (0, .ref o)] → W p l e (headSpec (wT yX12_laysWays cX12_laysWays 4 none) { frames := 2, cells := 0, slots := 0, locals := 47 }).room s m [.ref o].toArray below meth c H locs 0 0 (MQ below (va_Qv (fun S' => Ty cy L kap pr S' ∧ Fr kap [65, 66] S S' ∧ (WI (fun p q => 0 < STP S o p q) (fld S o 27) (fld S' o 27) (fld S' o 28) ∧ BY (fld S' o 28) ∧ OPT (fun p q => 0 < STP S o p q) (fld S' o 27) 16 0)) (fun S' t => pB dC dI (AL L s.heap.size) (va_pl L S') (cyT cy) t) (AL L s.heap.size)) [.ref o].toArray s 0 0 (AL L s.heap.size)) (F0 m 2 ls []) := by
    intro fuel
    induction fuel with
    | zero => intro mo gd gb mb SS H locs ls h; exact absurd h (Nat.not_lt_zero _)
    | succ fu2 ih2 =>
      intro mo gd gb mb S_39 H locs ls hm2 hDs hBs hWI hBY hOP hmb hTy hFr hFl2 hW hl
      have hS_o := hFl2.at hT_o (by decide) hS_o
      have hS_x_26 := hFl2.at hT_x_26 (by decide) hS_x_26
      have hS_x_22 := hFl2.at hT_x_22 (by decide) hS_x_22
      have hS_x_21 := hFl2.at hT_x_21 (by decide) hS_x_21
      have hS_x_23 := hFl2.at hT_x_23 (by decide) hS_x_23
      have hS_x_24 := hFl2.at hT_x_24 (by decide) hS_x_24
      have hi_gb : ∀ j, j < 16 → gb j = -1 ∨ ∃ k, k < 16 ∧ gb j = nI k := hBY
      refine lv_iload_n hx hb dX12_laysWays_2 rfl (lv_at hl 0 rfl) ?_
      refine lv_if_eq (tgt := 111) hx hb dX12_laysWays_3 (by decide) (fun c_3 => ?_) (fun c_3 => ?_)
      · exact W.vret hx hb hr (fun t ht h9 => ⟨⟨S_39, rfl, ⟨hTy, hFr, ⟨by rw [hopS, hdS, fld_i hS_o rfl hDs, fld_i hS_o rfl hBs]; exact hWI, by rw [fld_i hS_o rfl hBs]; exact hBY, by rw [hopS, fld_i hS_o rfl hDs]; exact hOP c_3⟩⟩, by rw [ht]; exact hW.1, va_K.moved h9.alike hK, hW.2.1⟩, hW.2.2.F ht⟩) hW.2.2.2.2 dX12_laysWays_111
      · refine lv_iconst (v := 0) hx hb dX12_laysWays_6 (by decide) ?_
        refine lv_istore_n (lv' := [(1, .int 0), (0, .ref o)]) hx hb dX12_laysWays_7 rfl hl (by decide) rfl (fun ls hl => ?_)
        refine lv_iconst (v := 0) hx hb dX12_laysWays_8 (by decide) ?_
        refine lv_istore_n (lv' := [(2, .int 0), (1, .int 0), (0, .ref o)]) hx hb dX12_laysWays_9 rfl hl (by decide) rfl (fun ls hl => ?_)
        have loop : ∀ (fuel : Nat) (i : Nat) (mo2 : Int32) (gd2 : Nat → Int32) (gb2 : Nat → Int32) (SS : Nat → va_E) (H : Heap) (locs : List Loc) (ls : Array Slot), 17 - i < fuel → (i ≤ 16) → (SS x_27 = .inl (cy 0, 16, .inl gd2)) → (SS x_28 = .inl (cy 0, 16, .inl gb2)) → (WI op f_37 gd2 gb2) → (BY gb2) → (mo2 = 0 → OPT op gd2 i 0) → (sg gd2 16 ≤ sg gd 16 ∧ (mo2 ≠ 0 → sg gd2 16 < sg gd 16)) → Ty cy L kap pr SS → Fr kap [65, 66] S SS → Fr kap [65, 66] S_39 SS → PW dC dI L (AL L s.heap.size) s.heap SS H locs → lv_has ls 4 [(2, .int (nI i)), (1, .int mo2), (0, .ref o)] → W p l e (headSpec (wT yX12_laysWays cX12_laysWays 4 none) { frames := 2, cells := 0, slots := 0, locals := 47 }).room s m [.ref o].toArray below meth c H locs 0 0 (MQ below (va_Qv (fun S' => Ty cy L kap pr S' ∧ Fr kap [65, 66] S S' ∧ (WI (fun p q => 0 < STP S o p q) (fld S o 27) (fld S' o 27) (fld S' o 28) ∧ BY (fld S' o 28) ∧ OPT (fun p q => 0 < STP S o p q) (fld S' o 27) 16 0)) (fun S' t => pB dC dI (AL L s.heap.size) (va_pl L S') (cyT cy) t) (AL L s.heap.size)) [.ref o].toArray s 0 0 (AL L s.heap.size)) (F0 m 10 ls []) := by
          intro fuel
          induction fuel with
          | zero => intro i mo2 gd2 gb2 SS H locs ls h; exact absurd h (Nat.not_lt_zero _)
          | succ fu10 ih10 =>
            intro i mo2 gd2 gb2 S_40 H locs ls hm10 hb_i hDs2 hBs2 hWI2 hBY2 hOP2 hSg2 hTy hFr hFl10 hW hl
            have hS_o := hFl10.at hT_o (by decide) hS_o
            have hS_x_26 := hFl10.at hT_x_26 (by decide) hS_x_26
            have hS_x_22 := hFl10.at hT_x_22 (by decide) hS_x_22
            have hS_x_21 := hFl10.at hT_x_21 (by decide) hS_x_21
            have hS_x_23 := hFl10.at hT_x_23 (by decide) hS_x_23
            have hS_x_24 := hFl10.at hT_x_24 (by decide) hS_x_24
            have hFl2 := hFl2.tr hFl10 (by decide)
            have hi_gb2 : ∀ j, j < 16 → gb2 j = -1 ∨ ∃ k, k < 16 ∧ gb2 j = nI k := hBY2
            refine lv_iload_n hx hb dX12_laysWays_10 rfl (lv_at hl 0 rfl) ?_
            refine lv_bipush (v := 16) hx hb dX12_laysWays_11 (by decide) ?_
            refine lv_icmp_ge (tgt := 108) hx hb dX12_laysWays_13 (by decide) (fun c_13 => ?_) (fun c_13 => ?_)
            · have c_13 : 16 ≤ i := (nI_leI (a := 16) (b := i) (by omega) (by omega)).mp c_13
              have hmz : 2 * sg gd2 16 + (if mo2 = 0 then 0 else 1) + 1 ≤ 2 * sg gd 16 + mb := by
                have h1 := hmb.resolve_left c_3
                by_cases h : mo2 = 0
                · rw [if_pos h]; omega
                · rw [if_neg h]; have := hSg2.2 h; omega
              have hmb2 : mo2 = 0 ∨ (if mo2 = 0 then 0 else 1) = 1 := by by_cases h : mo2 = 0; exact Or.inl h; exact Or.inr (if_neg h)
              refine lv_goto (tgt := 2) hx hb dX12_laysWays_108 (by decide) ?_
              exact ih2 mo2 gd2 gb2 (if mo2 = 0 then 0 else 1) _ _ _ ls (by omega) hDs2 hBs2 hWI2 hBY2 (fun h => by have q := hOP2 h; rw [show i = 16 from by omega] at q; exact q) hmb2 hTy hFr hFl2 hW (lv_sub hl [1, 2] rfl)
            · have c_13 : ¬ (16 ≤ i) := fun hh9 => c_13 ((nI_leI (a := 16) (b := i) (by omega) (by omega)).mpr hh9)
              refine lv_iconst (v := 0) hx hb dX12_laysWays_16 (by decide) ?_
              refine lv_istore_n (lv' := [(3, .int 0), (2, .int (nI i)), (1, .int mo2), (0, .ref o)]) hx hb dX12_laysWays_17 rfl hl (by decide) rfl (fun ls hl => ?_)
              have loop : ∀ (fuel : Nat) (j : Nat) (mo3 : Int32) (gd3 : Nat → Int32) (gb3 : Nat → Int32) (SS : Nat → va_E) (H : Heap) (locs : List Loc) (ls : Array Slot), 17 - j < fuel → (j ≤ 16) → (SS x_27 = .inl (cy 0, 16, .inl gd3)) → (SS x_28 = .inl (cy 0, 16, .inl gb3)) → (WI op f_37 gd3 gb3) → (BY gb3) → (mo3 = 0 → OPT op gd3 i j) → (sg gd3 16 ≤ sg gd 16 ∧ (mo3 ≠ 0 → sg gd3 16 < sg gd 16)) → Ty cy L kap pr SS → Fr kap [65, 66] S SS → Fr kap [65, 66] S_40 SS → PW dC dI L (AL L s.heap.size) s.heap SS H locs → lv_has ls 4 [(3, .int (nI j)), (2, .int (nI i)), (1, .int mo3), (0, .ref o)] → W p l e (headSpec (wT yX12_laysWays cX12_laysWays 4 none) { frames := 2, cells := 0, slots := 0, locals := 47 }).room s m [.ref o].toArray below meth c H locs 0 0 (MQ below (va_Qv (fun S' => Ty cy L kap pr S' ∧ Fr kap [65, 66] S S' ∧ (WI (fun p q => 0 < STP S o p q) (fld S o 27) (fld S' o 27) (fld S' o 28) ∧ BY (fld S' o 28) ∧ OPT (fun p q => 0 < STP S o p q) (fld S' o 27) 16 0)) (fun S' t => pB dC dI (AL L s.heap.size) (va_pl L S') (cyT cy) t) (AL L s.heap.size)) [.ref o].toArray s 0 0 (AL L s.heap.size)) (F0 m 18 ls []) := by
                intro fuel
                induction fuel with
                | zero => intro j mo3 gd3 gb3 SS H locs ls h; exact absurd h (Nat.not_lt_zero _)
                | succ fu18 ih18 =>
                  intro j mo3 gd3 gb3 S_41 H locs ls hm18 hb_j hDs3 hBs3 hWI3 hBY3 hOP3 hSg3 hTy hFr hFl18 hW hl
                  have hS_o := hFl18.at hT_o (by decide) hS_o
                  have hS_x_26 := hFl18.at hT_x_26 (by decide) hS_x_26
                  have hS_x_22 := hFl18.at hT_x_22 (by decide) hS_x_22
                  have hS_x_21 := hFl18.at hT_x_21 (by decide) hS_x_21
                  have hS_x_23 := hFl18.at hT_x_23 (by decide) hS_x_23
                  have hS_x_24 := hFl18.at hT_x_24 (by decide) hS_x_24
                  have hFl2 := hFl2.tr hFl18 (by decide)
                  have hFl10 := hFl10.tr hFl18 (by decide)
                  have hi_gb3 : ∀ j, j < 16 → gb3 j = -1 ∨ ∃ k, k < 16 ∧ gb3 j = nI k := hBY3
                  refine lv_iload_n hx hb dX12_laysWays_18 rfl (lv_at hl 0 rfl) ?_
                  refine lv_bipush (v := 16) hx hb dX12_laysWays_19 (by decide) ?_
                  refine lv_icmp_ge (tgt := 102) hx hb dX12_laysWays_21 (by decide) (fun c_21 => ?_) (fun c_21 => ?_)
                  · have c_21 : 16 ≤ j := (nI_leI (a := 16) (b := j) (by omega) (by omega)).mp c_21
                    refine lv_iinc (v := nI (i + 1)) (lv' := [(2, .int (nI (i + 1))), (3, .int (nI j)), (1, .int mo3), (0, .ref o)]) hx hb dX12_laysWays_102 hl (k := 1) rfl (nI_add (i) 1) (by decide) rfl (fun ls hl => ?_)
                    refine lv_goto (tgt := 10) hx hb dX12_laysWays_105 (by decide) ?_
                    exact ih10 (i + 1) mo3 gd3 gb3 _ _ _ ls (by omega) (by omega) hDs3 hBs3 hWI3 hBY3 (fun h => OPT_r (hOP3 h) (Or.inl (by omega))) hSg3 hTy hFr hFl10 hW (lv_sub hl [0, 2, 3] rfl)
                  · have c_21 : ¬ (16 ≤ j) := fun hh9 => c_21 ((nI_leI (a := 16) (b := j) (by omega) (by omega)).mpr hh9)
                    refine lv_aload_n hx hb dX12_laysWays_24 rfl (lv_at hl 3 rfl) ?_
                    refine pl_get (ci := 12) (v := .ref x_27) (C := RX12) (T := TX12) (N := 32) hx hb hT iX12 hown hK hW hT_o.1 hS_o rfl 27 (by decide) w1109 rfl dX12_laysWays_25 ?_
                    refine lv_iload_n hx hb dX12_laysWays_28 rfl (lv_at hl 1 rfl) ?_
                    refine pl_iald hx hb hK hW hT_x_27.1 hDs3 (vp_in_nI (n := i) (N := 16) (by omega) (by omega)) dX12_laysWays_29 ?_
                    refine lv_topi (fun y_42 ey_42 => ?_)
                    refine lv_ldcw (v := 1000000) hx hb hown (hT _ w1459) dX12_laysWays_30 ?_
                    refine lv_icmp_ge (tgt := 102) hx hb dX12_laysWays_33 (by decide) (fun c_33 => ?_) (fun c_33 => ?_)
                    · refine lv_iinc (v := nI (i + 1)) (lv' := [(2, .int (nI (i + 1))), (3, .int (nI j)), (1, .int mo3), (0, .ref o)]) hx hb dX12_laysWays_102 hl (k := 1) rfl (nI_add (i) 1) (by decide) rfl (fun ls hl => ?_)
                      refine lv_goto (tgt := 10) hx hb dX12_laysWays_105 (by decide) ?_
                      exact ih10 (i + 1) mo3 gd3 gb3 _ _ _ ls (by omega) (by omega) hDs3 hBs3 hWI3 hBY3 (fun h => OPT_r (hOP3 h) (Or.inr (far_n c_33 ey_42 (by omega)))) hSg3 hTy hFr hFl10 hW (lv_sub hl [0, 2, 3] rfl)
                    · refine lv_aload_n hx hb dX12_laysWays_36 rfl (lv_at hl 3 rfl) ?_
                      refine lv_iload_n hx hb dX12_laysWays_37 rfl (lv_at hl 1 rfl) ?_
                      refine lv_iload_n hx hb dX12_laysWays_38 rfl (lv_at hl 0 rfl) ?_
                      refine vp_callSi (va_Run.run (va_runV (As := [.int (nI i), .int (nI j)]) (rest := []) ⟨hx, hb, hml, hown, hT⟩ (m_stepMay l dC dI cy L kap pr S_41 H.size o i j hTy hT_o (by omega) (by omega)) (cwV 2 hT (gV w1464 w1466 ws96 w14 w1467) rfl rfl rfl (by decide +kernel) ⟨(Nat.le_of_ble_eq_true rfl), (Nat.le_of_ble_eq_true rfl)⟩) ⟨pcN.blind, pl_recv hK hW hT_o.1 hS_o rfl, pcN.pre hW.1 hK hW.2.1 hN (fun q h => absurd h List.not_mem_nil)⟩ rfl rfl hl.1 rfl (lv_room (Nat.le_of_ble_eq_true rfl)) dX12_laysWays_39 ⟨(Nat.le_of_ble_eq_true rfl), (Nat.le_of_ble_eq_true rfl)⟩)) (fun r_43 hr_43 => ?_)
                      have hstp := hr_43.trans (STPe hS_o rfl rfl rfl rfl rfl hS_x_26 hS_x_22 hS_x_21 hS_x_23 hS_x_24)
                      refine lv_if_le (tgt := 96) hx hb dX12_laysWays_42 (by decide) (fun c_42 => ?_) (fun c_42 => ?_)
                      · refine lv_iinc (v := nI (j + 1)) (lv' := [(3, .int (nI (j + 1))), (2, .int (nI i)), (1, .int mo3), (0, .ref o)]) hx hb dX12_laysWays_96 hl (k := 0) rfl (nI_add (j) 1) (by decide) rfl (fun ls hl => ?_)
                        refine lv_goto (tgt := 18) hx hb dX12_laysWays_99 (by decide) ?_
                        exact ih18 (j + 1) mo3 gd3 gb3 _ _ _ ls (by omega) (by omega) hDs3 hBs3 hWI3 hBY3 (fun h => OPT_q (hOP3 h) (fun ho _ => absurd (by rw [hopd] at ho; exact ho) (by show ¬ 0 < _; rw [← hstp]; exact iposn c_42))) hSg3 hTy hFr hFl18 hW (lv_sub hl [0, 1, 2, 3] rfl)
                      · refine lv_aload_n hx hb dX12_laysWays_45 rfl (lv_at hl 3 rfl) ?_
                        refine pl_get (ci := 12) (v := .ref x_27) (C := RX12) (T := TX12) (N := 32) hx hb hT iX12 hown hK hW hT_o.1 hS_o rfl 27 (by decide) w1109 rfl dX12_laysWays_46 ?_
                        refine lv_iload_n hx hb dX12_laysWays_49 rfl (lv_at hl 1 rfl) ?_
                        refine pl_iald hx hb hK hW hT_x_27.1 hDs3 (vp_in_nI (n := i) (N := 16) (by omega) (by omega)) dX12_laysWays_50 ?_
                        refine lv_topi (fun y_44 ey_44 => ?_)
                        refine lv_iload_n hx hb dX12_laysWays_51 rfl (lv_at hl 1 rfl) ?_
                        refine lv_iload_n hx hb dX12_laysWays_52 rfl (lv_at hl 0 rfl) ?_
                        refine vp_callSi (va_Run.run (va_runS (As := [.int (nI i), .int (nI j)]) (rest := [.int y_44]) ⟨hx, hb, hml, hown, hT⟩ (m_stepCost l dC dI H.size i j (by omega) (by omega)) (va_cwS 2 hT (gS w1468 w1469 w14 w1470) rfl rfl rfl (by decide +kernel) ⟨(Nat.le_of_ble_eq_true rfl), (Nat.le_of_ble_eq_true rfl)⟩) ⟨pcW.blind, pcW.pre (va_P0 _ _ _) (hK.sub (tys' := []) [] rfl) (va_D0 (fun _ => True))⟩ rfl rfl hl.1 rfl (lv_room (Nat.le_of_ble_eq_true rfl)) dX12_laysWays_53 ⟨(Nat.le_of_ble_eq_true rfl), (Nat.le_of_ble_eq_true rfl)⟩)) (fun r_45 hr_45 => ?_)
                        refine lv_iadd hx hb dX12_laysWays_56 ?_
                        refine lv_topi (fun z_46 ez_46 => ?_)
                        refine lv_aload_n hx hb dX12_laysWays_57 rfl (lv_at hl 3 rfl) ?_
                        refine pl_get (ci := 12) (v := .ref x_27) (C := RX12) (T := TX12) (N := 32) hx hb hT iX12 hown hK hW hT_o.1 hS_o rfl 27 (by decide) w1109 rfl dX12_laysWays_58 ?_
                        refine lv_iload_n hx hb dX12_laysWays_61 rfl (lv_at hl 0 rfl) ?_
                        refine pl_iald hx hb hK hW hT_x_27.1 hDs3 (vp_in_nI (n := j) (N := 16) (by omega) (by omega)) dX12_laysWays_62 ?_
                        refine lv_topi (fun y_47 ey_47 => ?_)
                        refine lv_icmp_lt (tgt := 69) hx hb dX12_laysWays_63 (by decide) (fun c_63 => ?_) (fun c_63 => ?_)
                        · refine lv_aload_n hx hb dX12_laysWays_69 rfl (lv_at hl 3 rfl) ?_
                          refine pl_get (ci := 12) (v := .ref x_27) (C := RX12) (T := TX12) (N := 32) hx hb hT iX12 hown hK hW hT_o.1 hS_o rfl 27 (by decide) w1109 rfl dX12_laysWays_70 ?_
                          refine lv_iload_n hx hb dX12_laysWays_73 rfl (lv_at hl 0 rfl) ?_
                          refine lv_aload_n hx hb dX12_laysWays_74 rfl (lv_at hl 3 rfl) ?_
                          refine pl_get (ci := 12) (v := .ref x_27) (C := RX12) (T := TX12) (N := 32) hx hb hT iX12 hown hK hW hT_o.1 hS_o rfl 27 (by decide) w1109 rfl dX12_laysWays_75 ?_
                          refine lv_iload_n hx hb dX12_laysWays_78 rfl (lv_at hl 1 rfl) ?_
                          refine pl_iald hx hb hK hW hT_x_27.1 hDs3 (vp_in_nI (n := i) (N := 16) (by omega) (by omega)) dX12_laysWays_79 ?_
                          refine lv_topi (fun y_48 ey_48 => ?_)
                          refine lv_iload_n hx hb dX12_laysWays_80 rfl (lv_at hl 1 rfl) ?_
                          refine lv_iload_n hx hb dX12_laysWays_81 rfl (lv_at hl 0 rfl) ?_
                          refine vp_callSi (va_Run.run (va_runS (As := [.int (nI i), .int (nI j)]) (rest := [.int y_48, .int (nI j), .ref x_27]) ⟨hx, hb, hml, hown, hT⟩ (m_stepCost l dC dI H.size i j (by omega) (by omega)) (va_cwS 2 hT (gS w1468 w1469 w14 w1470) rfl rfl rfl (by decide +kernel) ⟨(Nat.le_of_ble_eq_true rfl), (Nat.le_of_ble_eq_true rfl)⟩) ⟨pcW.blind, pcW.pre (va_P0 _ _ _) (hK.sub (tys' := []) [] rfl) (va_D0 (fun _ => True))⟩ rfl rfl hl.1 rfl (lv_room (Nat.le_of_ble_eq_true rfl)) dX12_laysWays_82 ⟨(Nat.le_of_ble_eq_true rfl), (Nat.le_of_ble_eq_true rfl)⟩)) (fun r_49 hr_49 => ?_)
                          refine lv_iadd hx hb dX12_laysWays_85 ?_
                          refine lv_topi (fun z_50 ez_50 => ?_)
                          refine pl_iast hx hb hK hW hT_x_27.1 hDs3 (vp_in_nI (n := j) (N := 16) (by omega) (by omega)) dX12_laysWays_86 (fun H locs f_52 S_51 ef_f_52 e1 hW => ?_)
                          have hTy := hTy.u65 e1 hT_x_27 ⟨f_52, rfl⟩
                          have hS_o := un e1 hT_o hT_x_27 (by decide) hS_o
                          have hS_x_26 := un e1 hT_x_26 hT_x_27 (by decide) hS_x_26
                          have hS_x_22 := un e1 hT_x_22 hT_x_27 (by decide) hS_x_22
                          have hS_x_21 := un e1 hT_x_21 hT_x_27 (by decide) hS_x_21
                          have hS_x_23 := un e1 hT_x_23 hT_x_27 (by decide) hS_x_23
                          have hS_x_24 := un e1 hT_x_24 hT_x_27 (by decide) hS_x_24
                          have hBs3 := un e1 hT_x_28 hT_x_27 (by decide) hBs3
                          have hFr := uf hFr e1 hT_x_27 (by decide) (by decide)
                          have hFl2 := uf hFl2 e1 hT_x_27 (by decide) (by decide)
                          have hFl10 := uf hFl10 e1 hT_x_27 (by decide) (by decide)
                          have hFl18 := uf hFl18 e1 hT_x_27 (by decide) (by decide)
                          have hDs3 := us e1
                          refine lv_aload_n hx hb dX12_laysWays_87 rfl (lv_at hl 3 rfl) ?_
                          refine pl_get (ci := 12) (v := .ref x_28) (C := RX12) (T := TX12) (N := 32) hx hb hT iX12 hown hK hW hT_o.1 hS_o rfl 28 (by decide) w1110 rfl dX12_laysWays_88 ?_
                          refine lv_iload_n hx hb dX12_laysWays_91 rfl (lv_at hl 0 rfl) ?_
                          refine lv_iload_n hx hb dX12_laysWays_92 rfl (lv_at hl 1 rfl) ?_
                          refine pl_iast hx hb hK hW hT_x_28.1 hBs3 (vp_in_nI (n := j) (N := 16) (by omega) (by omega)) dX12_laysWays_93 (fun H locs f_54 S_53 ef_f_54 e1 hW => ?_)
                          have hi_f_54 := inv66 hi_gb3 ef_f_54 (Or.inr ⟨i, by omega, rfl⟩)
                          have hTy := hTy.u66 e1 hT_x_28 ⟨f_54, rfl, hi_f_54⟩
                          have hS_o := un e1 hT_o hT_x_28 (by decide) hS_o
                          have hS_x_26 := un e1 hT_x_26 hT_x_28 (by decide) hS_x_26
                          have hS_x_22 := un e1 hT_x_22 hT_x_28 (by decide) hS_x_22
                          have hS_x_21 := un e1 hT_x_21 hT_x_28 (by decide) hS_x_21
                          have hS_x_23 := un e1 hT_x_23 hT_x_28 (by decide) hS_x_23
                          have hS_x_24 := un e1 hT_x_24 hT_x_28 (by decide) hS_x_24
                          have hDs3 := un e1 hT_x_27 hT_x_28 (by decide) hDs3
                          have hFr := uf hFr e1 hT_x_28 (by decide) (by decide)
                          have hFl2 := uf hFl2 e1 hT_x_28 (by decide) (by decide)
                          have hFl10 := uf hFl10 e1 hT_x_28 (by decide) (by decide)
                          have hFl18 := uf hFl18 e1 hT_x_28 (by decide) (by decide)
                          have hBs3 := us e1
                          have hup := way_up ef_f_52 ef_f_54 (by omega) (by omega) hWI3 hkq hBY3 h0 (by rw [hopd]; show 0 < _; rw [← hstp]; exact ipos c_42) (far_p c_33 ey_42 (by omega)) (by rw [ez_50, ey_48, hr_49]) (by have q := c_63; rw [ez_46, ey_44, hr_45, ey_47] at q; exact q)
                          have hsl := hup.2.2
                          refine lv_iconst (v := 1) hx hb dX12_laysWays_94 (by decide) ?_
                          refine lv_istore_n (lv' := [(1, .int 1), (3, .int (nI j)), (2, .int (nI i)), (0, .ref o)]) hx hb dX12_laysWays_95 rfl hl (by decide) rfl (fun ls hl => ?_)
                          refine lv_iinc (v := nI (j + 1)) (lv' := [(3, .int (nI (j + 1))), (1, .int 1), (2, .int (nI i)), (0, .ref o)]) hx hb dX12_laysWays_96 hl (k := 1) rfl (nI_add (j) 1) (by decide) rfl (fun ls hl => ?_)
                          refine lv_goto (tgt := 18) hx hb dX12_laysWays_99 (by decide) ?_
                          exact ih18 (j + 1) 1 f_52 f_54 _ _ _ ls (by omega) (by omega) hDs3 hBs3 hup.1 hup.2.1 (fun h => absurd h (by decide)) ⟨by omega, fun _ => by omega⟩ hTy hFr hFl18 hW (lv_sub hl [0, 2, 1, 3] rfl)
                        · refine lv_goto (tgt := 96) hx hb dX12_laysWays_66 (by decide) ?_
                          refine lv_iinc (v := nI (j + 1)) (lv' := [(3, .int (nI (j + 1))), (2, .int (nI i)), (1, .int mo3), (0, .ref o)]) hx hb dX12_laysWays_96 hl (k := 0) rfl (nI_add (j) 1) (by decide) rfl (fun ls hl => ?_)
                          refine lv_goto (tgt := 18) hx hb dX12_laysWays_99 (by decide) ?_
                          exact ih18 (j + 1) mo3 gd3 gb3 _ _ _ ls (by omega) (by omega) hDs3 hBs3 hWI3 hBY3 (fun h => OPT_q (hOP3 h) (fun _ hd => opt_z (op := op) c_63 ez_46 ey_44 hr_45 ey_47 (by omega) (by omega) (d_bel hWI3 hkq hBY3 h0 (by omega)) (by omega))) hSg3 hTy hFr hFl18 hW (lv_sub hl [0, 1, 2, 3] rfl)
              exact loop ((17 - 0) + 1) 0 mo2 gd2 gb2 _ _ _ ls (Nat.lt_succ_self _) (by omega) hDs2 hBs2 hWI2 hBY2 hOP2 hSg2 hTy hFr Fr.rf hW (lv_sub hl [0, 1, 2, 3] rfl)
        exact loop ((17 - 0) + 1) 0 0 gd gb _ _ _ ls (Nat.lt_succ_self _) (by omega) hDs hBs hWI hBY (fun _ => OPT_0) ⟨Nat.le_refl _, fun h => absurd rfl h⟩ hTy hFr Fr.rf hW (lv_sub hl [0, 1, 2] rfl)
  exact loop ((2 * sg f_37 16 + 1) + 1) 1 f_37 f_38 1 _ _ _ ls (Nat.lt_succ_self _) hS_x_27 hS_x_28 (WI_0 h0 hb0) hi_f_38 (fun h => absurd h (by decide)) (Or.inr rfl) hTy hFr Fr.rf hW (lv_sub hl [0, 1] rfl)

