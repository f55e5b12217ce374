theorem w1507 : (.methodLink RX12 333 yX12_couplesNow : Cond) ∈ TB := mTB (List.mem_of_getElem? (i := 1507) (by decide +kernel)) (by decide +kernel)
theorem w1509 : (.instanceMethod yX12_couplesNow : Cond) ∈ TB := mTB (List.mem_of_getElem? (i := 1509) (by decide +kernel)) (by decide +kernel)
theorem w1510 : (.code yX12_couplesNow cX12_couplesNow 3 (some .int) : Cond) ∈ TB := mTB (List.mem_of_getElem? (i := 1510) (by decide +kernel)) (by decide +kernel)
theorem ws104 : (.selects RX12 yX12_couplesNow yX12_couplesNow : Cond) ∈ TB := mSel (y := yX12_couplesNow) (n := 32) (List.mem_of_getElem? (i := 104) (by decide +kernel)) (by decide +kernel)
theorem dX12_couplesNow_0 : decode cX12_couplesNow 0 = .ok (.iconst 0, 1) := by decide +kernel
theorem dX12_couplesNow_1 : decode cX12_couplesNow 1 = .ok (.istore_n 1, 1) := by decide +kernel
theorem dX12_couplesNow_2 : decode cX12_couplesNow 2 = .ok (.iconst 0, 1) := by decide +kernel
theorem dX12_couplesNow_3 : decode cX12_couplesNow 3 = .ok (.istore_n 2, 1) := by decide +kernel
theorem dX12_couplesNow_4 : decode cX12_couplesNow 4 = .ok (.iload_n 2, 1) := by decide +kernel
theorem dX12_couplesNow_5 : decode cX12_couplesNow 5 = .ok (.bipush 64, 2) := by decide +kernel
theorem dX12_couplesNow_7 : decode cX12_couplesNow 7 = .ok (.if_icmp .ge 26, 3) := by decide +kernel
theorem dX12_couplesNow_10 : decode cX12_couplesNow 10 = .ok (.iload_n 1, 1) := by decide +kernel
theorem dX12_couplesNow_11 : decode cX12_couplesNow 11 = .ok (.aload_n 0, 1) := by decide +kernel
theorem dX12_couplesNow_12 : decode cX12_couplesNow 12 = .ok (.getfield 49, 3) := by decide +kernel
theorem dX12_couplesNow_15 : decode cX12_couplesNow 15 = .ok (.iload_n 2, 1) := by decide +kernel
theorem dX12_couplesNow_16 : decode cX12_couplesNow 16 = .ok (.iaload, 1) := by decide +kernel
theorem dX12_couplesNow_17 : decode cX12_couplesNow 17 = .ok (.ifCond .le 7, 3) := by decide +kernel
theorem dX12_couplesNow_20 : decode cX12_couplesNow 20 = .ok (.iconst 1, 1) := by decide +kernel
theorem dX12_couplesNow_21 : decode cX12_couplesNow 21 = .ok (.goto 4, 3) := by decide +kernel
theorem dX12_couplesNow_24 : decode cX12_couplesNow 24 = .ok (.iconst 0, 1) := by decide +kernel
theorem dX12_couplesNow_25 : decode cX12_couplesNow 25 = .ok (.iadd, 1) := by decide +kernel
theorem dX12_couplesNow_26 : decode cX12_couplesNow 26 = .ok (.istore_n 1, 1) := by decide +kernel
theorem dX12_couplesNow_27 : decode cX12_couplesNow 27 = .ok (.iinc 2 1, 3) := by decide +kernel
theorem dX12_couplesNow_30 : decode cX12_couplesNow 30 = .ok (.goto (-26), 3) := by decide +kernel
theorem dX12_couplesNow_33 : decode cX12_couplesNow 33 = .ok (.iload_n 1, 1) := by decide +kernel
theorem dX12_couplesNow_34 : decode cX12_couplesNow 34 = .ok (.ireturn, 1) := by decide +kernel
theorem dX12_press_0 : decode cX12_press 0 = .ok (.aload_n 0, 1) := by decide +kernel
theorem dX12_press_1 : decode cX12_press 1 = .ok (.iconst 0, 1) := by decide +kernel
theorem dX12_press_2 : decode cX12_press 2 = .ok (.putfield 1, 3) := by decide +kernel
theorem dX12_press_5 : decode cX12_press 5 = .ok (.aload_n 0, 1) := by decide +kernel
theorem dX12_press_6 : decode cX12_press 6 = .ok (.iload_n 1, 1) := by decide +kernel
theorem dX12_press_7 : decode cX12_press 7 = .ok (.invokevirtual 205, 3) := by decide +kernel
theorem dX12_press_10 : decode cX12_press 10 = .ok (.ifCond .ne 6, 3) := by decide +kernel
theorem dX12_press_13 : decode cX12_press 13 = .ok (.bipush (-2), 2) := by decide +kernel
theorem dX12_press_15 : decode cX12_press 15 = .ok (.ireturn, 1) := by decide +kernel
theorem dX12_press_16 : decode cX12_press 16 = .ok (.aload_n 0, 1) := by decide +kernel
theorem dX12_press_17 : decode cX12_press 17 = .ok (.iload_n 1, 1) := by decide +kernel
theorem dX12_press_18 : decode cX12_press 18 = .ok (.invokevirtual 330, 3) := by decide +kernel
theorem dX12_press_21 : decode cX12_press 21 = .ok (.ifCond .ne 6, 3) := by decide +kernel
theorem dX12_press_24 : decode cX12_press 24 = .ok (.bipush (-5), 2) := by decide +kernel
theorem dX12_press_26 : decode cX12_press 26 = .ok (.ireturn, 1) := by decide +kernel
theorem dX12_press_27 : decode cX12_press 27 = .ok (.aload_n 0, 1) := by decide +kernel
theorem dX12_press_28 : decode cX12_press 28 = .ok (.invokevirtual 333, 3) := by decide +kernel
theorem dX12_press_31 : decode cX12_press 31 = .ok (.istore_n 2, 1) := by decide +kernel
theorem dX12_press_32 : decode cX12_press 32 = .ok (.iconst 0, 1) := by decide +kernel
theorem dX12_press_33 : decode cX12_press 33 = .ok (.istore_n 3, 1) := by decide +kernel
theorem dX12_press_34 : decode cX12_press 34 = .ok (.iload_n 3, 1) := by decide +kernel
theorem dX12_press_35 : decode cX12_press 35 = .ok (.aload_n 0, 1) := by decide +kernel
theorem dX12_press_36 : decode cX12_press 36 = .ok (.getfield 13, 3) := by decide +kernel
theorem dX12_press_39 : decode cX12_press 39 = .ok (.iconst 0, 1) := by decide +kernel
theorem dX12_press_40 : decode cX12_press 40 = .ok (.iaload, 1) := by decide +kernel
theorem dX12_press_41 : decode cX12_press 41 = .ok (.if_icmp .ge 26, 3) := by decide +kernel
theorem dX12_press_44 : decode cX12_press 44 = .ok (.iload_n 2, 1) := by decide +kernel
theorem dX12_press_45 : decode cX12_press 45 = .ok (.aload_n 0, 1) := by decide +kernel
theorem dX12_press_46 : decode cX12_press 46 = .ok (.iload_n 3, 1) := by decide +kernel
theorem dX12_press_47 : decode cX12_press 47 = .ok (.iload_n 1, 1) := by decide +kernel
theorem dX12_press_48 : decode cX12_press 48 = .ok (.invokevirtual 223, 3) := by decide +kernel
theorem dX12_press_51 : decode cX12_press 51 = .ok (.ifCond .eq 7, 3) := by decide +kernel
theorem dX12_press_54 : decode cX12_press 54 = .ok (.iconst 0, 1) := by decide +kernel
theorem dX12_press_55 : decode cX12_press 55 = .ok (.goto 4, 3) := by decide +kernel
theorem dX12_press_58 : decode cX12_press 58 = .ok (.iconst 1, 1) := by decide +kernel
theorem dX12_press_59 : decode cX12_press 59 = .ok (.iadd, 1) := by decide +kernel
theorem dX12_press_60 : decode cX12_press 60 = .ok (.istore_n 2, 1) := by decide +kernel
theorem dX12_press_61 : decode cX12_press 61 = .ok (.iinc 3 1, 3) := by decide +kernel
theorem dX12_press_64 : decode cX12_press 64 = .ok (.goto (-30), 3) := by decide +kernel
theorem dX12_press_67 : decode cX12_press 67 = .ok (.iload_n 2, 1) := by decide +kernel
theorem dX12_press_68 : decode cX12_press 68 = .ok (.bipush 40, 2) := by decide +kernel
theorem dX12_press_70 : decode cX12_press 70 = .ok (.if_icmp .le 6, 3) := by decide +kernel
theorem dX12_press_73 : decode cX12_press 73 = .ok (.bipush (-4), 2) := by decide +kernel
theorem dX12_press_75 : decode cX12_press 75 = .ok (.ireturn, 1) := by decide +kernel
theorem dX12_press_76 : decode cX12_press 76 = .ok (.aload_n 0, 1) := by decide +kernel
theorem dX12_press_77 : decode cX12_press 77 = .ok (.invokevirtual 210, 3) := by decide +kernel
theorem dX12_press_80 : decode cX12_press 80 = .ok (.aload_n 0, 1) := by decide +kernel
theorem dX12_press_81 : decode cX12_press 81 = .ok (.getfield 13, 3) := by decide +kernel
theorem dX12_press_84 : decode cX12_press 84 = .ok (.iconst 0, 1) := by decide +kernel
theorem dX12_press_85 : decode cX12_press 85 = .ok (.iaload, 1) := by decide +kernel
theorem dX12_press_86 : decode cX12_press 86 = .ok (.iconst 1, 1) := by decide +kernel
theorem dX12_press_87 : decode cX12_press 87 = .ok (.isub, 1) := by decide +kernel
theorem dX12_press_88 : decode cX12_press 88 = .ok (.istore_n 3, 1) := by decide +kernel
theorem dX12_press_89 : decode cX12_press 89 = .ok (.iload_n 3, 1) := by decide +kernel
theorem dX12_press_90 : decode cX12_press 90 = .ok (.ifCond .lt 23, 3) := by decide +kernel
theorem dX12_press_93 : decode cX12_press 93 = .ok (.aload_n 0, 1) := by decide +kernel
theorem dX12_press_94 : decode cX12_press 94 = .ok (.iload_n 3, 1) := by decide +kernel
theorem dX12_press_95 : decode cX12_press 95 = .ok (.iload_n 1, 1) := by decide +kernel
theorem dX12_press_96 : decode cX12_press 96 = .ok (.invokevirtual 223, 3) := by decide +kernel
theorem dX12_press_99 : decode cX12_press 99 = .ok (.ifCond .eq 8, 3) := by decide +kernel
theorem dX12_press_102 : decode cX12_press 102 = .ok (.aload_n 0, 1) := by decide +kernel
theorem dX12_press_103 : decode cX12_press 103 = .ok (.iload_n 3, 1) := by decide +kernel
theorem dX12_press_104 : decode cX12_press 104 = .ok (.invokevirtual 216, 3) := by decide +kernel
theorem dX12_press_107 : decode cX12_press 107 = .ok (.iinc 3 (-1), 3) := by decide +kernel
theorem dX12_press_110 : decode cX12_press 110 = .ok (.goto (-21), 3) := by decide +kernel
theorem dX12_press_113 : decode cX12_press 113 = .ok (.iconst 0, 1) := by decide +kernel
theorem dX12_press_114 : decode cX12_press 114 = .ok (.istore_n 3, 1) := by decide +kernel
theorem dX12_press_115 : decode cX12_press 115 = .ok (.iload_n 3, 1) := by decide +kernel
theorem dX12_press_116 : decode cX12_press 116 = .ok (.bipush 64, 2) := by decide +kernel
theorem dX12_press_118 : decode cX12_press 118 = .ok (.if_icmp .ge 37, 3) := by decide +kernel
theorem dX12_press_121 : decode cX12_press 121 = .ok (.aload_n 0, 1) := by decide +kernel
theorem dX12_press_122 : decode cX12_press 122 = .ok (.getfield 49, 3) := by decide +kernel
theorem dX12_press_125 : decode cX12_press 125 = .ok (.iload_n 3, 1) := by decide +kernel
theorem dX12_press_126 : decode cX12_press 126 = .ok (.iaload, 1) := by decide +kernel
theorem dX12_press_127 : decode cX12_press 127 = .ok (.ifCond .le 22, 3) := by decide +kernel
theorem dX12_press_130 : decode cX12_press 130 = .ok (.aload_n 0, 1) := by decide +kernel
theorem dX12_press_131 : decode cX12_press 131 = .ok (.iload_n 3, 1) := by decide +kernel
theorem dX12_press_132 : decode cX12_press 132 = .ok (.bipush 8, 2) := by decide +kernel
theorem dX12_press_134 : decode cX12_press 134 = .ok (.idiv, 1) := by decide +kernel
theorem dX12_press_135 : decode cX12_press 135 = .ok (.iload_n 3, 1) := by decide +kernel
theorem dX12_press_136 : decode cX12_press 136 = .ok (.bipush 8, 2) := by decide +kernel
theorem dX12_press_138 : decode cX12_press 138 = .ok (.irem, 1) := by decide +kernel
theorem dX12_press_139 : decode cX12_press 139 = .ok (.aload_n 0, 1) := by decide +kernel
theorem dX12_press_140 : decode cX12_press 140 = .ok (.getfield 49, 3) := by decide +kernel
theorem dX12_press_143 : decode cX12_press 143 = .ok (.iload_n 3, 1) := by decide +kernel
theorem dX12_press_144 : decode cX12_press 144 = .ok (.iaload, 1) := by decide +kernel
theorem dX12_press_145 : decode cX12_press 145 = .ok (.iload_n 1, 1) := by decide +kernel
theorem dX12_press_146 : decode cX12_press 146 = .ok (.invokevirtual 188, 3) := by decide +kernel
theorem dX12_press_149 : decode cX12_press 149 = .ok (.iinc 3 1, 3) := by decide +kernel
theorem dX12_press_152 : decode cX12_press 152 = .ok (.goto (-37), 3) := by decide +kernel
theorem dX12_press_155 : decode cX12_press 155 = .ok (.aload_n 0, 1) := by decide +kernel
theorem dX12_press_156 : decode cX12_press 156 = .ok (.getfield 13, 3) := by decide +kernel
theorem dX12_press_159 : decode cX12_press 159 = .ok (.iconst 0, 1) := by decide +kernel
theorem dX12_press_160 : decode cX12_press 160 = .ok (.iaload, 1) := by decide +kernel
theorem dX12_press_161 : decode cX12_press 161 = .ok (.ireturn, 1) := by decide +kernel
theorem dX12_takeRing_0 : decode cX12_takeRing 0 = .ok (.aload_n 0, 1) := by decide +kernel
theorem dX12_takeRing_1 : decode cX12_takeRing 1 = .ok (.iconst 0, 1) := by decide +kernel
theorem dX12_takeRing_2 : decode cX12_takeRing 2 = .ok (.putfield 1, 3) := by decide +kernel
theorem dX12_takeRing_5 : decode cX12_takeRing 5 = .ok (.aload_n 0, 1) := by decide +kernel
theorem dX12_takeRing_6 : decode cX12_takeRing 6 = .ok (.iload_n 1, 1) := by decide +kernel
theorem dX12_takeRing_7 : decode cX12_takeRing 7 = .ok (.invokevirtual 205, 3) := by decide +kernel
theorem dX12_takeRing_10 : decode cX12_takeRing 10 = .ok (.ifCond .ne 6, 3) := by decide +kernel
theorem dX12_takeRing_13 : decode cX12_takeRing 13 = .ok (.bipush (-2), 2) := by decide +kernel
theorem dX12_takeRing_15 : decode cX12_takeRing 15 = .ok (.ireturn, 1) := by decide +kernel
theorem dX12_takeRing_16 : decode cX12_takeRing 16 = .ok (.aload_n 0, 1) := by decide +kernel
theorem dX12_takeRing_17 : decode cX12_takeRing 17 = .ok (.iload_n 1, 1) := by decide +kernel
theorem dX12_takeRing_18 : decode cX12_takeRing 18 = .ok (.iconst (-1), 1) := by decide +kernel
theorem dX12_takeRing_19 : decode cX12_takeRing 19 = .ok (.invokevirtual 234, 3) := by decide +kernel
theorem dX12_takeRing_22 : decode cX12_takeRing 22 = .ok (.aload_n 0, 1) := by decide +kernel
theorem dX12_takeRing_23 : decode cX12_takeRing 23 = .ok (.invokevirtual 271, 3) := by decide +kernel
theorem dX12_takeRing_26 : decode cX12_takeRing 26 = .ok (.ifCond .ne 6, 3) := by decide +kernel
theorem dX12_takeRing_29 : decode cX12_takeRing 29 = .ok (.bipush (-5), 2) := by decide +kernel
theorem dX12_takeRing_31 : decode cX12_takeRing 31 = .ok (.ireturn, 1) := by decide +kernel
theorem dX12_takeRing_32 : decode cX12_takeRing 32 = .ok (.aload_n 0, 1) := by decide +kernel
theorem dX12_takeRing_33 : decode cX12_takeRing 33 = .ok (.invokevirtual 210, 3) := by decide +kernel
theorem dX12_takeRing_36 : decode cX12_takeRing 36 = .ok (.aload_n 0, 1) := by decide +kernel
theorem dX12_takeRing_37 : decode cX12_takeRing 37 = .ok (.invokevirtual 274, 3) := by decide +kernel
theorem dX12_takeRing_40 : decode cX12_takeRing 40 = .ok (.istore_n 2, 1) := by decide +kernel
theorem dX12_takeRing_41 : decode cX12_takeRing 41 = .ok (.iconst 0, 1) := by decide +kernel
theorem dX12_takeRing_42 : decode cX12_takeRing 42 = .ok (.istore_n 3, 1) := by decide +kernel
theorem dX12_takeRing_43 : decode cX12_takeRing 43 = .ok (.iload_n 3, 1) := by decide +kernel
theorem dX12_takeRing_44 : decode cX12_takeRing 44 = .ok (.aload_n 0, 1) := by decide +kernel
theorem dX12_takeRing_45 : decode cX12_takeRing 45 = .ok (.getfield 265, 3) := by decide +kernel
theorem dX12_takeRing_48 : decode cX12_takeRing 48 = .ok (.if_icmp .ge 143, 3) := by decide +kernel
theorem dX12_takeRing_51 : decode cX12_takeRing 51 = .ok (.iload_n 2, 1) := by decide +kernel
theorem dX12_takeRing_52 : decode cX12_takeRing 52 = .ok (.istore 4, 2) := by decide +kernel
theorem dX12_takeRing_54 : decode cX12_takeRing 54 = .ok (.aload_n 0, 1) := by decide +kernel
theorem dX12_takeRing_55 : decode cX12_takeRing 55 = .ok (.getfield 13, 3) := by decide +kernel
theorem dX12_takeRing_58 : decode cX12_takeRing 58 = .ok (.iconst 0, 1) := by decide +kernel
theorem dX12_takeRing_59 : decode cX12_takeRing 59 = .ok (.iaload, 1) := by decide +kernel
theorem dX12_takeRing_60 : decode cX12_takeRing 60 = .ok (.iconst 1, 1) := by decide +kernel
theorem dX12_takeRing_61 : decode cX12_takeRing 61 = .ok (.isub, 1) := by decide +kernel
theorem dX12_takeRing_62 : decode cX12_takeRing 62 = .ok (.istore 5, 2) := by decide +kernel
theorem dX12_takeRing_64 : decode cX12_takeRing 64 = .ok (.iload 5, 2) := by decide +kernel
theorem dX12_takeRing_66 : decode cX12_takeRing 66 = .ok (.ifCond .lt 119, 3) := by decide +kernel
theorem dX12_takeRing_69 : decode cX12_takeRing 69 = .ok (.iload 4, 2) := by decide +kernel
theorem dX12_takeRing_71 : decode cX12_takeRing 71 = .ok (.ifCond .le 114, 3) := by decide +kernel
theorem dX12_takeRing_74 : decode cX12_takeRing 74 = .ok (.aload_n 0, 1) := by decide +kernel
theorem dX12_takeRing_75 : decode cX12_takeRing 75 = .ok (.iload 5, 2) := by decide +kernel
theorem dX12_takeRing_77 : decode cX12_takeRing 77 = .ok (.iload_n 1, 1) := by decide +kernel
theorem dX12_takeRing_78 : decode cX12_takeRing 78 = .ok (.invokevirtual 223, 3) := by decide +kernel
theorem dX12_takeRing_81 : decode cX12_takeRing 81 = .ok (.ifCond .eq 98, 3) := by decide +kernel
theorem dX12_takeRing_84 : decode cX12_takeRing 84 = .ok (.aload_n 0, 1) := by decide +kernel
theorem dX12_takeRing_85 : decode cX12_takeRing 85 = .ok (.iload 5, 2) := by decide +kernel
theorem dX12_takeRing_87 : decode cX12_takeRing 87 = .ok (.iconst 0, 1) := by decide +kernel
theorem dX12_takeRing_88 : decode cX12_takeRing 88 = .ok (.invokevirtual 174, 3) := by decide +kernel
theorem dX12_takeRing_91 : decode cX12_takeRing 91 = .ok (.aload_n 0, 1) := by decide +kernel
theorem dX12_takeRing_92 : decode cX12_takeRing 92 = .ok (.iload 5, 2) := by decide +kernel
theorem dX12_takeRing_94 : decode cX12_takeRing 94 = .ok (.iconst 1, 1) := by decide +kernel
theorem dX12_takeRing_95 : decode cX12_takeRing 95 = .ok (.invokevirtual 174, 3) := by decide +kernel
theorem dX12_takeRing_98 : decode cX12_takeRing 98 = .ok (.invokestatic 229, 3) := by decide +kernel
theorem dX12_takeRing_101 : decode cX12_takeRing 101 = .ok (.aload_n 0, 1) := by decide +kernel
theorem dX12_takeRing_102 : decode cX12_takeRing 102 = .ok (.iload_n 3, 1) := by decide +kernel
theorem dX12_takeRing_103 : decode cX12_takeRing 103 = .ok (.invokevirtual 268, 3) := by decide +kernel
theorem dX12_takeRing_106 : decode cX12_takeRing 106 = .ok (.if_icmp .eq 6, 3) := by decide +kernel
theorem dX12_takeRing_109 : decode cX12_takeRing 109 = .ok (.goto 70, 3) := by decide +kernel
theorem dX12_takeRing_112 : decode cX12_takeRing 112 = .ok (.aload_n 0, 1) := by decide +kernel
theorem dX12_takeRing_113 : decode cX12_takeRing 113 = .ok (.iload 5, 2) := by decide +kernel
theorem dX12_takeRing_115 : decode cX12_takeRing 115 = .ok (.iconst 2, 1) := by decide +kernel
theorem dX12_takeRing_116 : decode cX12_takeRing 116 = .ok (.invokevirtual 174, 3) := by decide +kernel
theorem dX12_takeRing_119 : decode cX12_takeRing 119 = .ok (.iload 4, 2) := by decide +kernel
theorem dX12_takeRing_121 : decode cX12_takeRing 121 = .ok (.if_icmp .ge 13, 3) := by decide +kernel
theorem dX12_takeRing_124 : decode cX12_takeRing 124 = .ok (.aload_n 0, 1) := by decide +kernel
theorem dX12_takeRing_125 : decode cX12_takeRing 125 = .ok (.iload 5, 2) := by decide +kernel
theorem dX12_takeRing_127 : decode cX12_takeRing 127 = .ok (.iconst 2, 1) := by decide +kernel
theorem dX12_takeRing_128 : decode cX12_takeRing 128 = .ok (.invokevirtual 174, 3) := by decide +kernel
theorem dX12_takeRing_131 : decode cX12_takeRing 131 = .ok (.goto 5, 3) := by decide +kernel
theorem dX12_takeRing_134 : decode cX12_takeRing 134 = .ok (.iload 4, 2) := by decide +kernel
theorem dX12_takeRing_136 : decode cX12_takeRing 136 = .ok (.istore 6, 2) := by decide +kernel
theorem dX12_takeRing_138 : decode cX12_takeRing 138 = .ok (.aload_n 0, 1) := by decide +kernel
theorem dX12_takeRing_139 : decode cX12_takeRing 139 = .ok (.getfield 13, 3) := by decide +kernel
theorem dX12_takeRing_142 : decode cX12_takeRing 142 = .ok (.iconst 2, 1) := by decide +kernel
theorem dX12_takeRing_143 : decode cX12_takeRing 143 = .ok (.iconst 5, 1) := by decide +kernel
theorem dX12_takeRing_144 : decode cX12_takeRing 144 = .ok (.iload 5, 2) := by decide +kernel
theorem dX12_takeRing_146 : decode cX12_takeRing 146 = .ok (.imul, 1) := by decide +kernel
theorem dX12_takeRing_147 : decode cX12_takeRing 147 = .ok (.iadd, 1) := by decide +kernel
theorem dX12_takeRing_148 : decode cX12_takeRing 148 = .ok (.iconst 2, 1) := by decide +kernel
theorem dX12_takeRing_149 : decode cX12_takeRing 149 = .ok (.iadd, 1) := by decide +kernel
theorem dX12_takeRing_150 : decode cX12_takeRing 150 = .ok (.dup2, 1) := by decide +kernel
theorem dX12_takeRing_151 : decode cX12_takeRing 151 = .ok (.iaload, 1) := by decide +kernel
theorem dX12_takeRing_152 : decode cX12_takeRing 152 = .ok (.iload 6, 2) := by decide +kernel
theorem dX12_takeRing_154 : decode cX12_takeRing 154 = .ok (.isub, 1) := by decide +kernel
theorem dX12_takeRing_155 : decode cX12_takeRing 155 = .ok (.iastore, 1) := by decide +kernel
theorem dX12_takeRing_156 : decode cX12_takeRing 156 = .ok (.iload 4, 2) := by decide +kernel
theorem dX12_takeRing_158 : decode cX12_takeRing 158 = .ok (.iload 6, 2) := by decide +kernel
theorem dX12_takeRing_160 : decode cX12_takeRing 160 = .ok (.isub, 1) := by decide +kernel
theorem dX12_takeRing_161 : decode cX12_takeRing 161 = .ok (.istore 4, 2) := by decide +kernel
theorem dX12_takeRing_163 : decode cX12_takeRing 163 = .ok (.aload_n 0, 1) := by decide +kernel
theorem dX12_takeRing_164 : decode cX12_takeRing 164 = .ok (.iload 5, 2) := by decide +kernel
theorem dX12_takeRing_166 : decode cX12_takeRing 166 = .ok (.iconst 2, 1) := by decide +kernel
theorem dX12_takeRing_167 : decode cX12_takeRing 167 = .ok (.invokevirtual 174, 3) := by decide +kernel
theorem dX12_takeRing_170 : decode cX12_takeRing 170 = .ok (.ifCond .ne 9, 3) := by decide +kernel
theorem dX12_takeRing_173 : decode cX12_takeRing 173 = .ok (.aload_n 0, 1) := by decide +kernel
theorem dX12_takeRing_174 : decode cX12_takeRing 174 = .ok (.iload 5, 2) := by decide +kernel
theorem dX12_takeRing_176 : decode cX12_takeRing 176 = .ok (.invokevirtual 216, 3) := by decide +kernel
theorem dX12_takeRing_179 : decode cX12_takeRing 179 = .ok (.iinc 5 (-1), 3) := by decide +kernel
theorem dX12_takeRing_182 : decode cX12_takeRing 182 = .ok (.goto (-118), 3) := by decide +kernel
theorem dX12_takeRing_185 : decode cX12_takeRing 185 = .ok (.iinc 3 1, 3) := by decide +kernel
theorem dX12_takeRing_188 : decode cX12_takeRing 188 = .ok (.goto (-145), 3) := by decide +kernel
theorem dX12_takeRing_191 : decode cX12_takeRing 191 = .ok (.iload_n 2, 1) := by decide +kernel
theorem dX12_takeRing_192 : decode cX12_takeRing 192 = .ok (.ireturn, 1) := by decide +kernel
def o7 (S S' : Nat → va_E) (o n : Nat) : Prop := ∀ vs : List Value, S o = .inr (12, vs) → S' o = .inr (12, vs.set 7 (.int (nI n)))
theorem o7i {S S' : Nat → va_E} {o n : Nat} {vs vs' : List Value} (h : S o = .inr (12, vs)) (h' : S' o = .inr (12, vs')) (hv : vs' = vs.set 7 (.int (nI n))) : o7 S S' o n := fun ws e => by
  have e := h.symm.trans e
  simp only [Sum.inr.injEq, Prod.mk.injEq, true_and] at e
  rw [← e, h', hv]
theorem cnt_T {P : Nat → Bool} {n m : Nat} (h : m = cnt P n) (hp : P n = true) : m + 1 = cnt P (n + 1) := by
  show m + 1 = cnt P n + (if P n = true then 1 else 0)
  rw [if_pos hp, h]
theorem cnt_F {P : Nat → Bool} {n m : Nat} (h : m = cnt P n) (hp : ¬ P n = true) : m = cnt P (n + 1) := by
  show m = cnt P n + (if P n = true then 1 else 0)
  rw [if_neg hp, h, Nat.add_zero]
theorem cnt_to {P : Nat → Bool} {m : Nat} : ∀ n, m ≤ n → cnt P m ≤ cnt P n
  | 0, h => by rw [show m = 0 from by omega]; exact Nat.le_refl _
  | n + 1, h => by
    by_cases e : m = n + 1
    · rw [e]; exact Nat.le_refl _
    · have := cnt_to (P := P) (m := m) n (by omega)
      show cnt P m ≤ cnt P n + (if P n = true then 1 else 0)
      omega
def psB (f : Nat → Int32) (j : Nat) : Bool := decide (0 < f j)
def nfB (f : Nat → Int32) (kd : Int32) (t : Nat) : Bool := !(decide (f (2 + 5 * t + 3) = kd) && decide (f (2 + 5 * t + 4) = 0))
theorem nfB_f {f : Nat → Int32} {kd : Int32} {t : Nat} (h : fre f kd t) : ¬ nfB f kd t = true := by
  unfold nfB
  rw [decide_eq_true h.1, decide_eq_true h.2]
  decide
theorem nfB_t {f : Nat → Int32} {kd : Int32} {t : Nat} (h : ¬ fre f kd t) : nfB f kd t = true := by
  unfold nfB
  by_cases h1 : f (2 + 5 * t + 3) = kd
  · by_cases h2 : f (2 + 5 * t + 4) = 0
    · exact absurd ⟨h1, h2⟩ h
    · rw [decide_eq_false h2, Bool.and_false]; rfl
  · rw [decide_eq_false h1, Bool.false_and]; rfl
theorem fre_c {f g : Nat → Int32} {kd : Int32} {t n : Nat} (h : ∀ j, 1 ≤ j → j < 2 + 5 * n → f j = g j) (ht : t < n) : fre f kd t ↔ fre g kd t := by
  unfold fre
  rw [h _ (by omega) (by omega), h _ (by omega) (by omega)]
set_option maxHeartbeats 4000000 in
set_option maxRecDepth 100000 in
theorem m_remembers2 (l : Launch) (dC : Nat → ClassId) (dI : Nat → Nat → Nat) (cy : Nat → ClassId) (L : List Nat) (kap : Nat → Nat) (pr : Pr) (S : Nat → va_E) (sz : Nat) (o : Nat) (hTy : Ty cy L kap pr S) (hT_o : TK L kap o 12) (hdg : dg (fld S o 0)) (hda : DGA (fld S o 2)) : Met l yX12_remembers (wT yX12_remembers cX12_remembers 2 none) ({ frames := 0, cells := 0, slots := 0, locals := 0 }) (pcN dC dI [.ref o] sz (va_pl L S) (cyT cy) NLs []) (va_Qv (fun S' => Ty cy L kap pr S' ∧ Fr kap [12, 52] S S' ∧ ((∃ n, n ≤ 10 ∧ o7 S S' o n) ∧ DGA (fld S' o 2))) (fun S' t => pB dC dI (AL L sz) (va_pl L S') (cyT cy) t) (AL L sz)) 0 0 (AL L sz) := by
  refine Met.ofW (cc := cX12_remembers) (maxL := 2) (ret := none) (by decide) rfl ?_
  intro p e s m args below meth c s₁ B hml hv
  obtain ⟨rfl, hsz, hP, hK, hD0, hN, -⟩ := hv
  have hx := B.exec
  have hb := B.bytes
  have hr := B.returns
  have hT : ∀ wd ∈ TB, wd.before [.ref o].toArray s = true := fun wd h => atoms_spec (ws := wT yX12_remembers cX12_remembers 2 none) B.pre wd (List.mem_cons_of_mem _ h)
  have hown : s.vm.findClass RX12 = some m.cls := findClass_of_methodNamed B.named
  have hlocks := B.notSynchronized
  subst hsz
  have hW : PW dC dI L (AL L s.heap.size) s.heap S s.heap [] := ⟨hP, pl_self hD0, va_S.rf⟩
  have hA0 : ∀ q, q ∈ L → AL L s.heap.size q := fun _ h => Or.inl h
  have hA : ∀ q, s.heap.size ≤ q → AL L s.heap.size q := fun _ h => Or.inr h
  have hFr : Fr kap [12, 52] S S := Fr.rf
  have hl := lv_entry ([.ref o]) (n := 2) (Nat.le_of_ble_eq_true rfl)
  rw [lg_entry_eq]
  generalize (lg_sl ([.ref o]) ++ List.replicate (2 - (lg_sl ([.ref o])).length) Slot.unset).toArray = ls at hl ⊢
  have hl : lv_has ls 2 [(0, .ref o)] := hl
  obtain ⟨x_1, x_2, x_3, x_4, x_5, x_6, x_7, x_8, x_9, x_10, x_11, x_12, x_13, x_14, x_15, x_16, x_17, x_18, x_19, x_20, x_21, x_22, x_23, x_24, x_25, x_26, x_27, x_28, x_29, x_30, x_31, hS_o, hT_x_1, hT_x_2, hT_x_3, hT_x_4, hT_x_5, hb_x_6, hb_x_7, hb_x_8, hT_x_10, hb_q2, hb_x_11, hb_x_12, hT_x_17, hT_x_18, hb_x_19, hT_x_20, hT_x_21, hT_x_22, hT_x_23, hT_x_24, hT_x_25, hT_x_26, hT_x_27, hT_x_28, hT_x_29, hT_x_30, hb_x_31⟩ := hTy.k12 hT_o
  have hb_q2 : pr.2 ≤ 900 := hb_q2
  have hS_o : S o = .inr (12, [.ref x_1, .ref x_2, .ref x_3, .ref x_4, .ref x_5, .int (nI x_6), .int (nI x_7), .int (nI x_8), .int x_9, .ref x_10, .int (nI (pr.2)), .int (nI x_11), .int (nI x_12), .int x_13, .int x_14, .int x_15, .int x_16, .ref x_17, .ref x_18, .int (nI x_19), .ref x_20, .ref x_21, .ref x_22, .ref x_23, .ref x_24, .ref x_25, .ref x_26, .ref x_27, .ref x_28, .ref x_29, .ref x_30, .int (nI x_31)]) := hS_o
  have hS_o0 := hS_o
  obtain ⟨f_32, hS_x_1, hi_f_32⟩ := hTy.k50 hT_x_1
  have hdg_ : dg f_32 := by have q := hdg; rw [fld_i hS_o rfl hS_x_1] at q; exact q
  obtain ⟨f_33, hS_x_3, hi_f_33⟩ := hTy.k52 hT_x_3
  have hda_ : DGA f_33 := by have q := hda; rw [fld_i hS_o rfl hS_x_3] at q; exact q
  refine lv_aload_n hx hb dX12_remembers_0 rfl (lv_at hl 0 rfl) ?_
  refine pl_get (ci := 12) (v := .int (nI x_8)) (C := RX12) (T := TX12) (N := 32) hx hb hT iX12 hown hK hW hT_o.1 hS_o rfl 7 (by decide) w1089 rfl dX12_remembers_1 ?_
  refine lv_bipush (v := 10) hx hb dX12_remembers_4 (by decide) ?_
  refine lv_icmp_ne (tgt := 50) hx hb dX12_remembers_6 (by decide) (fun c_6 => ?_) (fun c_6 => ?_)
  · have c_6 : ¬ (x_8 = 10) := fun hh9 => c_6 ((nI_eq (a := x_8) (b := 10) (by omega) (by omega)).mpr hh9)
    refine lv_iconst (v := 0) hx hb dX12_remembers_50 (by decide) ?_
    refine lv_istore_n (lv' := [(1, .int 0), (0, .ref o)]) hx hb dX12_remembers_51 rfl hl (by decide) rfl (fun ls hl => ?_)
    have loop : ∀ (fuel : Nat) (i2 : Nat) (gw : Nat → Int32) (SS : Nat → va_E) (H : Heap) (locs : List Loc) (ls : Array Slot), 267 - i2 < fuel → (i2 ≤ 266) → (SS x_3 = .inl (cy 0, 2660, .inl gw)) → ((∀ j, j < i2 → gw (266 * x_8 + j) = f_32 j) ∧ ∀ j, j < 266 * x_8 ∨ 266 * x_8 + 266 ≤ j → gw j = f_33 j) → Ty cy L kap pr SS → Fr kap [12, 52] S SS → Fr kap [52] S SS → PW dC dI L (AL L s.heap.size) s.heap SS H locs → lv_has ls 2 [(1, .int (nI i2)), (0, .ref o)] → W p l e (headSpec (wT yX12_remembers cX12_remembers 2 none) { frames := 0, cells := 0, slots := 0, locals := 0 }).room s m [.ref o].toArray below meth c H locs 0 0 (MQ below (va_Qv (fun S' => Ty cy L kap pr S' ∧ Fr kap [12, 52] S S' ∧ ((∃ n, n ≤ 10 ∧ o7 S S' o n) ∧ DGA (fld S' o 2))) (fun S' t => pB dC dI (AL L s.heap.size) (va_pl L S') (cyT cy) t) (AL L s.heap.size)) [.ref o].toArray s 0 0 (AL L s.heap.size)) (F0 m 52 ls []) := by
      intro fuel
      induction fuel with
      | zero => intro i2 gw SS H locs ls h; exact absurd h (Nat.not_lt_zero _)
      | succ fu52 ih52 =>
        intro i2 gw S_34 H locs ls hm52 hb_i2 hWs hcq hTy hFr hFl52 hW hl
        have hS_o := hFl52.at hT_o (by decide) hS_o
        have hS_x_1 := hFl52.at hT_x_1 (by decide) hS_x_1
        have hi_gw := k52i hTy hT_x_3 hWs
        refine lv_iload_n hx hb dX12_remembers_52 rfl (lv_at hl 0 rfl) ?_
        refine lv_sipush (v := 266) hx hb dX12_remembers_53 (by decide) ?_
        refine lv_icmp_ge (tgt := 86) hx hb dX12_remembers_56 (by decide) (fun c_56 => ?_) (fun c_56 => ?_)
        · have c_56 : 266 ≤ i2 := (nI_leI (a := 266) (b := i2) (by omega) (by omega)).mp c_56
          have hi66 : i2 = 266 := by omega
          have hda_ : DGA gw := DGA_put (am := x_8) hda_ hdg_ rfl (by rw [hi66] at hcq; exact hcq)
          refine lv_aload_n hx hb dX12_remembers_86 rfl (lv_at hl 1 rfl) ?_
          refine lv_dup hx hb dX12_remembers_87 rfl ?_
          refine pl_get (ci := 12) (v := .int (nI x_8)) (C := RX12) (T := TX12) (N := 32) hx hb hT iX12 hown hK hW hT_o.1 hS_o rfl 7 (by decide) w1089 rfl dX12_remembers_88 ?_
          refine lv_iconst (v := 1) hx hb dX12_remembers_91 (by decide) ?_
          refine lv_iadd hx hb dX12_remembers_92 ?_
          refine lv_topi (fun z_35 ez_35 => ?_)
          obtain rfl : z_35 = nI (x_8 + 1) := ez_35.trans (nI_add (x_8) (1))
          refine pl_put (ci := 12) (v := .int (nI (x_8 + 1))) (ty := .int) (C := RX12) (T := TX12) (N := 32) (fs' := [.ref x_1, .ref x_2, .ref x_3, .ref x_4, .ref x_5, .int (nI x_6), .int (nI x_7), .int (nI (x_8 + 1)), .int x_9, .ref x_10, .int (nI (pr.2)), .int (nI x_11), .int (nI x_12), .int x_13, .int x_14, .int x_15, .int x_16, .ref x_17, .ref x_18, .int (nI x_19), .ref x_20, .ref x_21, .ref x_22, .ref x_23, .ref x_24, .ref x_25, .ref x_26, .ref x_27, .ref x_28, .ref x_29, .ref x_30, .int (nI x_31)]) hx hb hT iX12 tyX12 tyX12_ok nmX12 hown hK hW hT_o.1 hS_o rfl 7 (by decide) w1089 rfl (by decide +kernel) rfl rfl (Nat.le_of_ble_eq_true rfl) rfl dX12_remembers_93 (fun H locs S_36 e1 hW => ?_)
          have hTy := hTy.u12 e1 hT_o ⟨x_1, x_2, x_3, x_4, x_5, x_6, x_7, x_8 + 1, x_9, x_10, x_11, x_12, x_13, x_14, x_15, x_16, x_17, x_18, x_19, x_20, x_21, x_22, x_23, x_24, x_25, x_26, x_27, x_28, x_29, x_30, x_31, rfl, hT_x_1, hT_x_2, hT_x_3, hT_x_4, hT_x_5, (by omega), (by omega), (by omega), hT_x_10, (by show pr.2 ≤ 900; omega), (by omega), (by omega), hT_x_17, hT_x_18, (by omega), hT_x_20, hT_x_21, hT_x_22, hT_x_23, hT_x_24, hT_x_25, hT_x_26, hT_x_27, hT_x_28, hT_x_29, hT_x_30, (by omega)⟩
          have hS_x_1 := un e1 hT_x_1 hT_o (by decide) hS_x_1
          have hWs := un e1 hT_x_3 hT_o (by decide) hWs
          have hws := (show wrs (.inr (12, [.ref x_1, .ref x_2, .ref x_3, .ref x_4, .ref x_5, .int (nI x_6), .int (nI x_7), .int (nI (x_8 + 1)), .int x_9, .ref x_10, .int (nI (pr.2)), .int (nI x_11), .int (nI x_12), .int x_13, .int x_14, .int x_15, .int x_16, .ref x_17, .ref x_18, .int (nI x_19), .ref x_20, .ref x_21, .ref x_22, .ref x_23, .ref x_24, .ref x_25, .ref x_26, .ref x_27, .ref x_28, .ref x_29, .ref x_30, .int (nI x_31)])) = wrs (S_34 o) from by rw [hS_o]; rfl)
          have hFr := ufs hFr e1 hT_o (by decide) hws
          have hS_o := us e1
          exact W.vret hx hb hr (fun t ht h9 => ⟨⟨S_36, rfl, ⟨hTy, hFr, ⟨⟨x_8 + 1, by omega, o7i hS_o0 hS_o rfl⟩, (by rw [fld_i hS_o rfl hWs]; exact hda_)⟩⟩, by rw [ht]; exact hW.1, va_K.moved h9.alike hK, hW.2.1⟩, hW.2.2.F ht⟩) hW.2.2.2.2 dX12_remembers_96
        · have c_56 : ¬ (266 ≤ i2) := fun hh9 => c_56 ((nI_leI (a := 266) (b := i2) (by omega) (by omega)).mpr hh9)
          refine lv_aload_n hx hb dX12_remembers_59 rfl (lv_at hl 1 rfl) ?_
          refine pl_get (ci := 12) (v := .ref x_3) (C := RX12) (T := TX12) (N := 32) hx hb hT iX12 hown hK hW hT_o.1 hS_o rfl 2 (by decide) w1084 rfl dX12_remembers_60 ?_
          refine lv_sipush (v := 266) hx hb dX12_remembers_63 (by decide) ?_
          refine lv_aload_n hx hb dX12_remembers_66 rfl (lv_at hl 1 rfl) ?_
          refine pl_get (ci := 12) (v := .int (nI x_8)) (C := RX12) (T := TX12) (N := 32) hx hb hT iX12 hown hK hW hT_o.1 hS_o rfl 7 (by decide) w1089 rfl dX12_remembers_67 ?_
          refine lv_imul hx hb dX12_remembers_70 ?_
          refine lv_topi (fun z_37 ez_37 => ?_)
          obtain rfl : z_37 = nI (266 * x_8) := ez_37.trans (pk_mul (266) (x_8))
          refine lv_iload_n hx hb dX12_remembers_71 rfl (lv_at hl 0 rfl) ?_
          refine lv_iadd hx hb dX12_remembers_72 ?_
          refine lv_topi (fun z_38 ez_38 => ?_)
          obtain rfl : z_38 = nI ((266 * x_8) + i2) := ez_38.trans (nI_add (266 * x_8) (i2))
          refine lv_aload_n hx hb dX12_remembers_73 rfl (lv_at hl 1 rfl) ?_
          refine pl_get (ci := 12) (v := .ref x_1) (C := RX12) (T := TX12) (N := 32) hx hb hT iX12 hown hK hW hT_o.1 hS_o rfl 0 (by decide) w1082 rfl dX12_remembers_74 ?_
          refine lv_iload_n hx hb dX12_remembers_77 rfl (lv_at hl 0 rfl) ?_
          refine pl_iald hx hb hK hW hT_x_1.1 hS_x_1 (vp_in_nI (n := i2) (N := 266) (by omega) (by omega)) dX12_remembers_78 ?_
          refine lv_topi (fun y_39 ey_39 => ?_)
          have hv_y_39 : okS (i2) y_39 := by rw [ey_39]; show okS _ (f_32 (nI (i2)).toNatClampNeg); rw [nI_clamp (by omega)]; exact hi_f_32 (i2) (by omega)
          refine pl_iast hx hb hK hW hT_x_3.1 hWs (vp_in_nI (n := (266 * x_8) + i2) (N := 2660) (by omega) (by omega)) dX12_remembers_79 (fun H locs f_41 S_40 ef_f_41 e1 hW => ?_)
          have hi_f_41 := okS2_up (i := (266 * x_8) + i2) (by omega) hi_gw ef_f_41 (by rw [Nat.mul_add_mod, Nat.mod_eq_of_lt (by omega)]; exact hv_y_39)
          have hTy := hTy.u52 e1 hT_x_3 ⟨f_41, rfl, hi_f_41⟩
          have hS_o := un e1 hT_o hT_x_3 (by decide) hS_o
          have hS_x_1 := un e1 hT_x_1 hT_x_3 (by decide) hS_x_1
          have hFr := uf hFr e1 hT_x_3 (by decide) (by decide)
          have hFl52 := uf hFl52 e1 hT_x_3 (by decide) (by decide)
          have hWs := us e1
          have hcq1 := cpb_up hcq ef_f_41 (by omega) ey_39 (by omega) (by omega)
          refine lv_iinc (v := nI (i2 + 1)) (lv' := [(1, .int (nI (i2 + 1))), (0, .ref o)]) hx hb dX12_remembers_80 hl (k := 0) rfl (nI_add (i2) 1) (by decide) rfl (fun ls hl => ?_)
          refine lv_goto (tgt := 52) hx hb dX12_remembers_83 (by decide) ?_
          exact ih52 (i2 + 1) f_41 _ _ _ ls (by omega) (by omega) hWs hcq1 hTy hFr hFl52 hW (lv_sub hl [0, 1] rfl)
    exact loop ((267 - 0) + 1) 0 f_33 _ _ _ ls (Nat.lt_succ_self _) (by omega) hS_x_3 ⟨fun j h => absurd h (Nat.not_lt_zero _), fun _ _ => rfl⟩ hTy hFr Fr.rf hW (lv_sub hl [0, 1] rfl)
  · have c_6 : x_8 = 10 := (nI_eq (a := x_8) (b := 10) (by omega) (by omega)).mp c_6
    refine lv_iconst (v := 0) hx hb dX12_remembers_9 (by decide) ?_
    refine lv_istore_n (lv' := [(1, .int 0), (0, .ref o)]) hx hb dX12_remembers_10 rfl hl (by decide) rfl (fun ls hl => ?_)
    have loop : ∀ (fuel : Nat) (i : Nat) (gv : Nat → Int32) (SS : Nat → va_E) (H : Heap) (locs : List Loc) (ls : Array Slot), 2395 - i < fuel → (i ≤ 2394) → (SS x_3 = .inl (cy 0, 2660, .inl gv)) → ((∀ j, j < i → gv j = f_33 (j + 266)) ∧ ∀ j, i ≤ j → gv j = f_33 j) → Ty cy L kap pr SS → Fr kap [12, 52] S SS → Fr kap [52] S SS → PW dC dI L (AL L s.heap.size) s.heap SS H locs → lv_has ls 2 [(1, .int (nI i)), (0, .ref o)] → W p l e (headSpec (wT yX12_remembers cX12_remembers 2 none) { frames := 0, cells := 0, slots := 0, locals := 0 }).room s m [.ref o].toArray below meth c H locs 0 0 (MQ below (va_Qv (fun S' => Ty cy L kap pr S' ∧ Fr kap [12, 52] S S' ∧ ((∃ n, n ≤ 10 ∧ o7 S S' o n) ∧ DGA (fld S' o 2))) (fun S' t => pB dC dI (AL L s.heap.size) (va_pl L S') (cyT cy) t) (AL L s.heap.size)) [.ref o].toArray s 0 0 (AL L s.heap.size)) (F0 m 11 ls []) := by
      intro fuel
      induction fuel with
      | zero => intro i gv SS H locs ls h; exact absurd h (Nat.not_lt_zero _)
      | succ fu11 ih11 =>
        intro i gv S_42 H locs ls hm11 hb_i hVs hcp hTy hFr hFl11 hW hl
        have hS_o := hFl11.at hT_o (by decide) hS_o
        have hS_x_1 := hFl11.at hT_x_1 (by decide) hS_x_1
        have hi_gv := k52i hTy hT_x_3 hVs
        refine lv_iload_n hx hb dX12_remembers_11 rfl (lv_at hl 0 rfl) ?_
        refine lv_sipush (v := 2394) hx hb dX12_remembers_12 (by decide) ?_
        refine lv_icmp_ge (tgt := 40) hx hb dX12_remembers_15 (by decide) (fun c_15 => ?_) (fun c_15 => ?_)
        · have c_15 : 2394 ≤ i := (nI_leI (a := 2394) (b := i) (by omega) (by omega)).mp c_15
          have hi94 : i = 2394 := by omega
          have hda_ : DGA gv := DGA_sh hda_ (by rw [hi94] at hcp; exact hcp)
          refine lv_aload_n hx hb dX12_remembers_40 rfl (lv_at hl 1 rfl) ?_
          refine lv_dup hx hb dX12_remembers_41 rfl ?_
          refine pl_get (ci := 12) (v := .int (nI x_8)) (C := RX12) (T := TX12) (N := 32) hx hb hT iX12 hown hK hW hT_o.1 hS_o rfl 7 (by decide) w1089 rfl dX12_remembers_42 ?_
          refine lv_iconst (v := 1) hx hb dX12_remembers_45 (by decide) ?_
          refine lv_isub hx hb dX12_remembers_46 ?_
          refine lv_topi (fun z_43 ez_43 => ?_)
          obtain rfl : z_43 = nI (x_8 - 1) := ez_43.trans (pk_sub (a := x_8) (b := 1) (by omega))
          refine pl_put (ci := 12) (v := .int (nI (x_8 - 1))) (ty := .int) (C := RX12) (T := TX12) (N := 32) (fs' := [.ref x_1, .ref x_2, .ref x_3, .ref x_4, .ref x_5, .int (nI x_6), .int (nI x_7), .int (nI (x_8 - 1)), .int x_9, .ref x_10, .int (nI (pr.2)), .int (nI x_11), .int (nI x_12), .int x_13, .int x_14, .int x_15, .int x_16, .ref x_17, .ref x_18, .int (nI x_19), .ref x_20, .ref x_21, .ref x_22, .ref x_23, .ref x_24, .ref x_25, .ref x_26, .ref x_27, .ref x_28, .ref x_29, .ref x_30, .int (nI x_31)]) hx hb hT iX12 tyX12 tyX12_ok nmX12 hown hK hW hT_o.1 hS_o rfl 7 (by decide) w1089 rfl (by decide +kernel) rfl rfl (Nat.le_of_ble_eq_true rfl) rfl dX12_remembers_47 (fun H locs S_44 e1 hW => ?_)
          have hTy := hTy.u12 e1 hT_o ⟨x_1, x_2, x_3, x_4, x_5, x_6, x_7, x_8 - 1, x_9, x_10, x_11, x_12, x_13, x_14, x_15, x_16, x_17, x_18, x_19, x_20, x_21, x_22, x_23, x_24, x_25, x_26, x_27, x_28, x_29, x_30, x_31, rfl, hT_x_1, hT_x_2, hT_x_3, hT_x_4, hT_x_5, (by omega), (by omega), (by omega), hT_x_10, (by show pr.2 ≤ 900; omega), (by omega), (by omega), hT_x_17, hT_x_18, (by omega), hT_x_20, hT_x_21, hT_x_22, hT_x_23, hT_x_24, hT_x_25, hT_x_26, hT_x_27, hT_x_28, hT_x_29, hT_x_30, (by omega)⟩
          have hS_x_1 := un e1 hT_x_1 hT_o (by decide) hS_x_1
          have hVs := un e1 hT_x_3 hT_o (by decide) hVs
          have hws := (show wrs (.inr (12, [.ref x_1, .ref x_2, .ref x_3, .ref x_4, .ref x_5, .int (nI x_6), .int (nI x_7), .int (nI (x_8 - 1)), .int x_9, .ref x_10, .int (nI (pr.2)), .int (nI x_11), .int (nI x_12), .int x_13, .int x_14, .int x_15, .int x_16, .ref x_17, .ref x_18, .int (nI x_19), .ref x_20, .ref x_21, .ref x_22, .ref x_23, .ref x_24, .ref x_25, .ref x_26, .ref x_27, .ref x_28, .ref x_29, .ref x_30, .int (nI x_31)])) = wrs (S_42 o) from by rw [hS_o]; rfl)
          have hFr := ufs hFr e1 hT_o (by decide) hws
          have hS_o := us e1
          refine lv_iconst (v := 0) hx hb dX12_remembers_50 (by decide) ?_
          refine lv_istore_n (lv' := [(1, .int 0), (0, .ref o)]) hx hb dX12_remembers_51 rfl hl (by decide) rfl (fun ls hl => ?_)
          have loop : ∀ (fuel : Nat) (i2 : Nat) (gw : Nat → Int32) (SS : Nat → va_E) (H : Heap) (locs : List Loc) (ls : Array Slot), 267 - i2 < fuel → (i2 ≤ 266) → (SS x_3 = .inl (cy 0, 2660, .inl gw)) → ((∀ j, j < i2 → gw (266 * (x_8 - 1) + j) = f_32 j) ∧ ∀ j, j < 266 * (x_8 - 1) ∨ 266 * (x_8 - 1) + 266 ≤ j → gw j = gv j) → Ty cy L kap pr SS → Fr kap [12, 52] S SS → Fr kap [52] S_44 SS → PW dC dI L (AL L s.heap.size) s.heap SS H locs → lv_has ls 2 [(1, .int (nI i2)), (0, .ref o)] → W p l e (headSpec (wT yX12_remembers cX12_remembers 2 none) { frames := 0, cells := 0, slots := 0, locals := 0 }).room s m [.ref o].toArray below meth c H locs 0 0 (MQ below (va_Qv (fun S' => Ty cy L kap pr S' ∧ Fr kap [12, 52] S S' ∧ ((∃ n, n ≤ 10 ∧ o7 S S' o n) ∧ DGA (fld S' o 2))) (fun S' t => pB dC dI (AL L s.heap.size) (va_pl L S') (cyT cy) t) (AL L s.heap.size)) [.ref o].toArray s 0 0 (AL L s.heap.size)) (F0 m 52 ls []) := by
            intro fuel
            induction fuel with
            | zero => intro i2 gw SS H locs ls h; exact absurd h (Nat.not_lt_zero _)
            | succ fu52 ih52 =>
              intro i2 gw S_45 H locs ls hm52 hb_i2 hWs hcq hTy hFr hFl52 hW hl
              have hS_o := hFl52.at hT_o (by decide) hS_o
              have hS_x_1 := hFl52.at hT_x_1 (by decide) hS_x_1
              have hi_gw := k52i hTy hT_x_3 hWs
              refine lv_iload_n hx hb dX12_remembers_52 rfl (lv_at hl 0 rfl) ?_
              refine lv_sipush (v := 266) hx hb dX12_remembers_53 (by decide) ?_
              refine lv_icmp_ge (tgt := 86) hx hb dX12_remembers_56 (by decide) (fun c_56 => ?_) (fun c_56 => ?_)
              · have c_56 : 266 ≤ i2 := (nI_leI (a := 266) (b := i2) (by omega) (by omega)).mp c_56
                have hi66 : i2 = 266 := by omega
                have hda_ : DGA gw := DGA_put (am := x_8 - 1) hda_ hdg_ rfl (by rw [hi66] at hcq; exact hcq)
                refine lv_aload_n hx hb dX12_remembers_86 rfl (lv_at hl 1 rfl) ?_
                refine lv_dup hx hb dX12_remembers_87 rfl ?_
                refine pl_get (ci := 12) (v := .int (nI (x_8 - 1))) (C := RX12) (T := TX12) (N := 32) hx hb hT iX12 hown hK hW hT_o.1 hS_o rfl 7 (by decide) w1089 rfl dX12_remembers_88 ?_
                refine lv_iconst (v := 1) hx hb dX12_remembers_91 (by decide) ?_
                refine lv_iadd hx hb dX12_remembers_92 ?_
                refine lv_topi (fun z_46 ez_46 => ?_)
                obtain rfl : z_46 = nI ((x_8 - 1) + 1) := ez_46.trans (nI_add (x_8 - 1) (1))
                refine pl_put (ci := 12) (v := .int (nI ((x_8 - 1) + 1))) (ty := .int) (C := RX12) (T := TX12) (N := 32) (fs' := [.ref x_1, .ref x_2, .ref x_3, .ref x_4, .ref x_5, .int (nI x_6), .int (nI x_7), .int (nI ((x_8 - 1) + 1)), .int x_9, .ref x_10, .int (nI (pr.2)), .int (nI x_11), .int (nI x_12), .int x_13, .int x_14, .int x_15, .int x_16, .ref x_17, .ref x_18, .int (nI x_19), .ref x_20, .ref x_21, .ref x_22, .ref x_23, .ref x_24, .ref x_25, .ref x_26, .ref x_27, .ref x_28, .ref x_29, .ref x_30, .int (nI x_31)]) hx hb hT iX12 tyX12 tyX12_ok nmX12 hown hK hW hT_o.1 hS_o rfl 7 (by decide) w1089 rfl (by decide +kernel) rfl rfl (Nat.le_of_ble_eq_true rfl) rfl dX12_remembers_93 (fun H locs S_47 e1 hW => ?_)
                have hTy := hTy.u12 e1 hT_o ⟨x_1, x_2, x_3, x_4, x_5, x_6, x_7, (x_8 - 1) + 1, x_9, x_10, x_11, x_12, x_13, x_14, x_15, x_16, x_17, x_18, x_19, x_20, x_21, x_22, x_23, x_24, x_25, x_26, x_27, x_28, x_29, x_30, x_31, rfl, hT_x_1, hT_x_2, hT_x_3, hT_x_4, hT_x_5, (by omega), (by omega), (by omega), hT_x_10, (by show pr.2 ≤ 900; omega), (by omega), (by omega), hT_x_17, hT_x_18, (by omega), hT_x_20, hT_x_21, hT_x_22, hT_x_23, hT_x_24, hT_x_25, hT_x_26, hT_x_27, hT_x_28, hT_x_29, hT_x_30, (by omega)⟩
                have hS_x_1 := un e1 hT_x_1 hT_o (by decide) hS_x_1
                have hWs := un e1 hT_x_3 hT_o (by decide) hWs
                have hws := (show wrs (.inr (12, [.ref x_1, .ref x_2, .ref x_3, .ref x_4, .ref x_5, .int (nI x_6), .int (nI x_7), .int (nI ((x_8 - 1) + 1)), .int x_9, .ref x_10, .int (nI (pr.2)), .int (nI x_11), .int (nI x_12), .int x_13, .int x_14, .int x_15, .int x_16, .ref x_17, .ref x_18, .int (nI x_19), .ref x_20, .ref x_21, .ref x_22, .ref x_23, .ref x_24, .ref x_25, .ref x_26, .ref x_27, .ref x_28, .ref x_29, .ref x_30, .int (nI x_31)])) = wrs (S_45 o) from by rw [hS_o]; rfl)
                have hFr := ufs hFr e1 hT_o (by decide) hws
                have hS_o := us e1
                exact W.vret hx hb hr (fun t ht h9 => ⟨⟨S_47, rfl, ⟨hTy, hFr, ⟨⟨(x_8 - 1) + 1, by omega, o7i hS_o0 hS_o rfl⟩, (by rw [fld_i hS_o rfl hWs]; exact hda_)⟩⟩, by rw [ht]; exact hW.1, va_K.moved h9.alike hK, hW.2.1⟩, hW.2.2.F ht⟩) hW.2.2.2.2 dX12_remembers_96
              · have c_56 : ¬ (266 ≤ i2) := fun hh9 => c_56 ((nI_leI (a := 266) (b := i2) (by omega) (by omega)).mpr hh9)
                refine lv_aload_n hx hb dX12_remembers_59 rfl (lv_at hl 1 rfl) ?_
                refine pl_get (ci := 12) (v := .ref x_3) (C := RX12) (T := TX12) (N := 32) hx hb hT iX12 hown hK hW hT_o.1 hS_o rfl 2 (by decide) w1084 rfl dX12_remembers_60 ?_
                refine lv_sipush (v := 266) hx hb dX12_remembers_63 (by decide) ?_
                refine lv_aload_n hx hb dX12_remembers_66 rfl (lv_at hl 1 rfl) ?_
                refine pl_get (ci := 12) (v := .int (nI (x_8 - 1))) (C := RX12) (T := TX12) (N := 32) hx hb hT iX12 hown hK hW hT_o.1 hS_o rfl 7 (by decide) w1089 rfl dX12_remembers_67 ?_
                refine lv_imul hx hb dX12_remembers_70 ?_
                refine lv_topi (fun z_48 ez_48 => ?_)
                obtain rfl : z_48 = nI (266 * (x_8 - 1)) := ez_48.trans (pk_mul (266) (x_8 - 1))
                refine lv_iload_n hx hb dX12_remembers_71 rfl (lv_at hl 0 rfl) ?_
                refine lv_iadd hx hb dX12_remembers_72 ?_
                refine lv_topi (fun z_49 ez_49 => ?_)
                obtain rfl : z_49 = nI ((266 * (x_8 - 1)) + i2) := ez_49.trans (nI_add (266 * (x_8 - 1)) (i2))
                refine lv_aload_n hx hb dX12_remembers_73 rfl (lv_at hl 1 rfl) ?_
                refine pl_get (ci := 12) (v := .ref x_1) (C := RX12) (T := TX12) (N := 32) hx hb hT iX12 hown hK hW hT_o.1 hS_o rfl 0 (by decide) w1082 rfl dX12_remembers_74 ?_
                refine lv_iload_n hx hb dX12_remembers_77 rfl (lv_at hl 0 rfl) ?_
                refine pl_iald hx hb hK hW hT_x_1.1 hS_x_1 (vp_in_nI (n := i2) (N := 266) (by omega) (by omega)) dX12_remembers_78 ?_
                refine lv_topi (fun y_50 ey_50 => ?_)
                have hv_y_50 : okS (i2) y_50 := by rw [ey_50]; show okS _ (f_32 (nI (i2)).toNatClampNeg); rw [nI_clamp (by omega)]; exact hi_f_32 (i2) (by omega)
                refine pl_iast hx hb hK hW hT_x_3.1 hWs (vp_in_nI (n := (266 * (x_8 - 1)) + i2) (N := 2660) (by omega) (by omega)) dX12_remembers_79 (fun H locs f_52 S_51 ef_f_52 e1 hW => ?_)
                have hi_f_52 := okS2_up (i := (266 * (x_8 - 1)) + i2) (by omega) hi_gw ef_f_52 (by rw [Nat.mul_add_mod, Nat.mod_eq_of_lt (by omega)]; exact hv_y_50)
                have hTy := hTy.u52 e1 hT_x_3 ⟨f_52, rfl, hi_f_52⟩
                have hS_o := un e1 hT_o hT_x_3 (by decide) hS_o
                have hS_x_1 := un e1 hT_x_1 hT_x_3 (by decide) hS_x_1
                have hFr := uf hFr e1 hT_x_3 (by decide) (by decide)
                have hFl52 := uf hFl52 e1 hT_x_3 (by decide) (by decide)
                have hWs := us e1
                have hcq1 := cpb_up hcq ef_f_52 (by omega) ey_50 (by omega) (by omega)
                refine lv_iinc (v := nI (i2 + 1)) (lv' := [(1, .int (nI (i2 + 1))), (0, .ref o)]) hx hb dX12_remembers_80 hl (k := 0) rfl (nI_add (i2) 1) (by decide) rfl (fun ls hl => ?_)
                refine lv_goto (tgt := 52) hx hb dX12_remembers_83 (by decide) ?_
                exact ih52 (i2 + 1) f_52 _ _ _ ls (by omega) (by omega) hWs hcq1 hTy hFr hFl52 hW (lv_sub hl [0, 1] rfl)
          exact loop ((267 - 0) + 1) 0 gv _ _ _ ls (Nat.lt_succ_self _) (by omega) hVs ⟨fun j h => absurd h (Nat.not_lt_zero _), fun _ _ => rfl⟩ hTy hFr Fr.rf hW (lv_sub hl [0, 1] rfl)
        · have c_15 : ¬ (2394 ≤ i) := fun hh9 => c_15 ((nI_leI (a := 2394) (b := i) (by omega) (by omega)).mpr hh9)
          refine lv_aload_n hx hb dX12_remembers_18 rfl (lv_at hl 1 rfl) ?_
          refine pl_get (ci := 12) (v := .ref x_3) (C := RX12) (T := TX12) (N := 32) hx hb hT iX12 hown hK hW hT_o.1 hS_o rfl 2 (by decide) w1084 rfl dX12_remembers_19 ?_
          refine lv_iload_n hx hb dX12_remembers_22 rfl (lv_at hl 0 rfl) ?_
          refine lv_aload_n hx hb dX12_remembers_23 rfl (lv_at hl 1 rfl) ?_
          refine pl_get (ci := 12) (v := .ref x_3) (C := RX12) (T := TX12) (N := 32) hx hb hT iX12 hown hK hW hT_o.1 hS_o rfl 2 (by decide) w1084 rfl dX12_remembers_24 ?_
          refine lv_iload_n hx hb dX12_remembers_27 rfl (lv_at hl 0 rfl) ?_
          refine lv_sipush (v := 266) hx hb dX12_remembers_28 (by decide) ?_
          refine lv_iadd hx hb dX12_remembers_31 ?_
          refine lv_topi (fun z_53 ez_53 => ?_)
          obtain rfl : z_53 = nI (i + 266) := ez_53.trans (nI_add (i) (266))
          refine pl_iald hx hb hK hW hT_x_3.1 hVs (vp_in_nI (n := i + 266) (N := 2660) (by omega) (by omega)) dX12_remembers_32 ?_
          refine lv_topi (fun y_54 ey_54 => ?_)
          have hv_y_54 : okS ((i + 266) % 266) y_54 := by rw [ey_54]; show okS _ (gv (nI (i + 266)).toNatClampNeg); rw [nI_clamp (by omega)]; exact hi_gv (i + 266) (by omega)
          refine pl_iast hx hb hK hW hT_x_3.1 hVs (vp_in_nI (n := i) (N := 2660) (by omega) (by omega)) dX12_remembers_33 (fun H locs f_56 S_55 ef_f_56 e1 hW => ?_)
          have hi_f_56 := okS2_up (i := i) (by omega) hi_gv ef_f_56 (by have q := hv_y_54; rw [Nat.add_mod_right] at q; exact q)
          have hTy := hTy.u52 e1 hT_x_3 ⟨f_56, rfl, hi_f_56⟩
          have hS_o := un e1 hT_o hT_x_3 (by decide) hS_o
          have hS_x_1 := un e1 hT_x_1 hT_x_3 (by decide) hS_x_1
          have hFr := uf hFr e1 hT_x_3 (by decide) (by decide)
          have hFl11 := uf hFl11 e1 hT_x_3 (by decide) (by decide)
          have hVs := us e1
          have hcp1 := csh_up hcp ef_f_56 (by omega) ey_54 (by omega)
          refine lv_iinc (v := nI (i + 1)) (lv' := [(1, .int (nI (i + 1))), (0, .ref o)]) hx hb dX12_remembers_34 hl (k := 0) rfl (nI_add (i) 1) (by decide) rfl (fun ls hl => ?_)
          refine lv_goto (tgt := 11) hx hb dX12_remembers_37 (by decide) ?_
          exact ih11 (i + 1) f_56 _ _ _ ls (by omega) (by omega) hVs hcp1 hTy hFr hFl11 hW (lv_sub hl [0, 1] rfl)
    exact loop ((2395 - 0) + 1) 0 f_33 _ _ _ ls (Nat.lt_succ_self _) (by omega) hS_x_3 ⟨fun j h => absurd h (Nat.not_lt_zero _), fun _ _ => rfl⟩ hTy hFr Fr.rf hW (lv_sub hl [0, 1] rfl)

set_option maxHeartbeats 4000000 in
set_option maxRecDepth 100000 in
theorem m_takeRing (l : Launch) (dC : Nat → ClassId) (dI : Nat → Nat → Nat) (cy : Nat → ClassId) (L : List Nat) (kap : Nat → Nat) (pr : Pr) (S : Nat → va_E) (sz : Nat) (o : Nat) (kd : Int32) (hTy : Ty cy L kap pr S) (hT_o : TK L kap o 12) (hdi : dg (fld S o 0) ∧ DGA (fld S o 2)) : Met l yX12_takeRing (wT yX12_takeRing cX12_takeRing 7 (some .int)) ({ frames := 10, cells := 0, slots := 0, locals := 243 }) (pcN dC dI [.ref o, .int kd] sz (va_pl L S) (cyT cy) NLs []) (va_Qi (fun r S' => Ty cy L kap pr S' ∧ Fr kap [12, 50, 52, 56, 57] S S' ∧ (dg (fld S' o 0) ∧ DGA (fld S' o 2))) (fun S' t => pB dC dI (AL L sz) (va_pl L S') (cyT cy) t) (AL L sz)) 0 0 (AL L sz) := by
  refine Met.ofW (cc := cX12_takeRing) (maxL := 7) (ret := (some .int)) (by decide) rfl ?_
  intro p e s m args below meth c s₁ B hml hv
  obtain ⟨rfl, hsz, hP, hK, hD0, hN, -⟩ := hv
  have hx := B.exec
  have hb := B.bytes
  have hr := B.returns
  have hT : ∀ wd ∈ TB, wd.before [.ref o, .int kd].toArray s = true := fun wd h => atoms_spec (ws := wT yX12_takeRing cX12_takeRing 7 (some .int)) B.pre wd (List.mem_cons_of_mem _ h)
  have hown : s.vm.findClass RX12 = some m.cls := findClass_of_methodNamed B.named
  have hlocks := B.notSynchronized
  subst hsz
  have hW : PW dC dI L (AL L s.heap.size) s.heap S s.heap [] := ⟨hP, pl_self hD0, va_S.rf⟩
  have hA0 : ∀ q, q ∈ L → AL L s.heap.size q := fun _ h => Or.inl h
  have hA : ∀ q, s.heap.size ≤ q → AL L s.heap.size q := fun _ h => Or.inr h
  have hFr : Fr kap [12, 50, 52, 56, 57] S S := Fr.rf
  have hl := lv_entry ([.ref o, .int kd]) (n := 7) (Nat.le_of_ble_eq_true rfl)
  rw [lg_entry_eq]
  generalize (lg_sl ([.ref o, .int kd]) ++ List.replicate (7 - (lg_sl ([.ref o, .int kd])).length) Slot.unset).toArray = ls at hl ⊢
  have hl : lv_has ls 7 [(0, .ref o), (1, .int kd)] := hl
  obtain ⟨x_1, x_2, x_3, x_4, x_5, x_6, x_7, x_8, x_9, x_10, x_11, x_12, x_13, x_14, x_15, x_16, x_17, x_18, x_19, x_20, x_21, x_22, x_23, x_24, x_25, x_26, x_27, x_28, x_29, x_30, x_31, hS_o, hT_x_1, hT_x_2, hT_x_3, hT_x_4, hT_x_5, hb_x_6, hb_x_7, hb_x_8, hT_x_10, hb_q2, hb_x_11, hb_x_12, hT_x_17, hT_x_18, hb_x_19, hT_x_20, hT_x_21, hT_x_22, hT_x_23, hT_x_24, hT_x_25, hT_x_26, hT_x_27, hT_x_28, hT_x_29, hT_x_30, hb_x_31⟩ := hTy.k12 hT_o
  have hb_q2 : pr.2 ≤ 900 := hb_q2
  have hS_o : S o = .inr (12, [.ref x_1, .ref x_2, .ref x_3, .ref x_4, .ref x_5, .int (nI x_6), .int (nI x_7), .int (nI x_8), .int x_9, .ref x_10, .int (nI (pr.2)), .int (nI x_11), .int (nI x_12), .int x_13, .int x_14, .int x_15, .int x_16, .ref x_17, .ref x_18, .int (nI x_19), .ref x_20, .ref x_21, .ref x_22, .ref x_23, .ref x_24, .ref x_25, .ref x_26, .ref x_27, .ref x_28, .ref x_29, .ref x_30, .int (nI x_31)]) := hS_o
  obtain ⟨f_32, hS_x_1, hi_f_32⟩ := hTy.k50 hT_x_1
  have hdg_ : dg f_32 := by have q := hdi.1; rw [fld_i hS_o rfl hS_x_1] at q; exact q
  obtain ⟨f_33, hS_x_3, hi_f_33⟩ := hTy.k52 hT_x_3
  have hda_ : DGA f_33 := by have q := hdi.2; rw [fld_i hS_o rfl hS_x_3] at q; exact q
  refine lv_aload_n hx hb dX12_takeRing_0 rfl (lv_at hl 0 rfl) ?_
  refine lv_iconst (v := 0) hx hb dX12_takeRing_1 (by decide) ?_
  refine pl_put (ci := 12) (v := .int 0) (ty := .int) (C := RX12) (T := TX12) (N := 32) (fs' := [.ref x_1, .ref x_2, .ref x_3, .ref x_4, .ref x_5, .int (nI x_6), .int (nI x_7), .int (nI x_8), .int 0, .ref x_10, .int (nI (pr.2)), .int (nI x_11), .int (nI x_12), .int x_13, .int x_14, .int x_15, .int x_16, .ref x_17, .ref x_18, .int (nI x_19), .ref x_20, .ref x_21, .ref x_22, .ref x_23, .ref x_24, .ref x_25, .ref x_26, .ref x_27, .ref x_28, .ref x_29, .ref x_30, .int (nI x_31)]) hx hb hT iX12 tyX12 tyX12_ok nmX12 hown hK hW hT_o.1 hS_o rfl 8 (by decide) w1090 rfl (by decide +kernel) rfl rfl (Nat.le_of_ble_eq_true rfl) rfl dX12_takeRing_2 (fun H locs S_34 e1 hW => ?_)
  have hTy := hTy.u12 e1 hT_o ⟨x_1, x_2, x_3, x_4, x_5, x_6, x_7, x_8, 0, x_10, x_11, x_12, x_13, x_14, x_15, x_16, x_17, x_18, x_19, x_20, x_21, x_22, x_23, x_24, x_25, x_26, x_27, x_28, x_29, x_30, x_31, rfl, hT_x_1, hT_x_2, hT_x_3, hT_x_4, hT_x_5, (by omega), (by omega), (by omega), hT_x_10, (by show pr.2 ≤ 900; omega), (by omega), (by omega), hT_x_17, hT_x_18, (by omega), hT_x_20, hT_x_21, hT_x_22, hT_x_23, hT_x_24, hT_x_25, hT_x_26, hT_x_27, hT_x_28, hT_x_29, hT_x_30, (by omega)⟩
  have hS_x_1 := un e1 hT_x_1 hT_o (by decide) hS_x_1
  have hS_x_3 := un e1 hT_x_3 hT_o (by decide) hS_x_3
  have hws := (show wrs (.inr (12, [.ref x_1, .ref x_2, .ref x_3, .ref x_4, .ref x_5, .int (nI x_6), .int (nI x_7), .int (nI x_8), .int 0, .ref x_10, .int (nI (pr.2)), .int (nI x_11), .int (nI x_12), .int x_13, .int x_14, .int x_15, .int x_16, .ref x_17, .ref x_18, .int (nI x_19), .ref x_20, .ref x_21, .ref x_22, .ref x_23, .ref x_24, .ref x_25, .ref x_26, .ref x_27, .ref x_28, .ref x_29, .ref x_30, .int (nI x_31)])) = wrs (S o) from by rw [hS_o]; rfl)
  have hFr := ufs hFr e1 hT_o (by decide) hws
  have hS_o := us e1
  refine lv_aload_n hx hb dX12_takeRing_5 rfl (lv_at hl 0 rfl) ?_
  refine lv_iload_n hx hb dX12_takeRing_6 rfl (lv_at hl 1 rfl) ?_
  refine vp_callSi (va_Run.run (va_runV (As := [.int kd]) (rest := []) ⟨hx, hb, hml, hown, hT⟩ (m_isKind l dC dI cy L kap pr S_34 H.size o kd hTy hT_o) (cwV 1 hT (gV w1288 w1290 ws74 w14 w1291) rfl rfl rfl (by decide +kernel) ⟨(Nat.le_of_ble_eq_true rfl), (Nat.le_of_ble_eq_true rfl)⟩) ⟨pcN.blind, pl_recv hK hW hT_o.1 hS_o rfl, pcN.pre hW.1 hK hW.2.1 hN (fun q h => absurd h List.not_mem_nil)⟩ rfl rfl hl.1 rfl (lv_room (Nat.le_of_ble_eq_true rfl)) dX12_takeRing_7 ⟨(Nat.le_of_ble_eq_true rfl), (Nat.le_of_ble_eq_true rfl)⟩)) (fun r_35 hr_35 => ?_)
  rcases hr_35 with hc_ | hc_
  · obtain rfl : r_35 = 0 := hc_
    refine lv_if_ne (tgt := 16) hx hb dX12_takeRing_10 (by decide) (fun h => absurd (by decide) h) (fun _ => ?_)
    refine lv_bipush (v := (-2)) hx hb dX12_takeRing_13 (by decide) ?_
    exact W.iret (v := (-2)) hx hb hr (fun t ht h9 => ⟨⟨(-2), S_34, rfl, ⟨hTy, hFr, ⟨(by rw [fld_i hS_o rfl hS_x_1]; exact hdg_), (by rw [fld_i hS_o rfl hS_x_3]; exact hda_)⟩⟩, by rw [ht]; exact hW.1, va_K.moved h9.alike hK, hW.2.1⟩, hW.2.2.F ht⟩) hW.2.2.2.2 dX12_takeRing_15
  · obtain ⟨rfl, k_36, hb_k_36, rfl⟩ := hc_
    refine lv_if_ne (tgt := 16) hx hb dX12_takeRing_10 (by decide) (fun _ => ?_) (fun h => absurd h (by decide))
    refine lv_aload_n hx hb dX12_takeRing_16 rfl (lv_at hl 0 rfl) ?_
    refine lv_iload_n hx hb dX12_takeRing_17 rfl (lv_at hl 1 rfl) ?_
    refine lv_iconst (v := (-1)) hx hb dX12_takeRing_18 (by decide) ?_
    refine pl_callv (va_runV (As := [.int (nI k_36), .int (-1)]) (rest := []) ⟨hx, hb, hml, hown, hT⟩ (m_laysFlows l dC dI cy L kap pr S_34 H.size o (nI k_36) (-1) hTy hT_o) (cwV 2 hT (gV w1336 w1338 ws78 w14 w1339) rfl rfl rfl (by decide +kernel) ⟨(Nat.le_of_ble_eq_true rfl), (Nat.le_of_ble_eq_true rfl)⟩) ⟨pcN.blind, pl_recv hK hW hT_o.1 hS_o rfl, pcN.pre hW.1 hK hW.2.1 hN (fun q h => absurd h List.not_mem_nil)⟩ rfl rfl hl.1 rfl (lv_room (Nat.le_of_ble_eq_true rfl)) dX12_takeRing_19 ⟨(Nat.le_of_ble_eq_true rfl), (Nat.le_of_ble_eq_true rfl)⟩) hW hA0 hA (fun S_37 H locs hrel hW => ?_)
    obtain ⟨hTy, hF1⟩ := hrel
    have hFr := hFr.tr hF1 (by decide)
    have hS_o := hF1.at hT_o (by decide) hS_o
    have hS_x_1 := hF1.at hT_x_1 (by decide) hS_x_1
    have hS_x_3 := hF1.at hT_x_3 (by decide) hS_x_3
    refine lv_aload_n hx hb dX12_takeRing_22 rfl (lv_at hl 0 rfl) ?_
    obtain ⟨f_38, hS_x_17⟩ := hTy.k56 hT_x_17
    obtain ⟨f_39, hS_x_18, hi_f_39⟩ := hTy.k57 hT_x_18
    have h17_ : fld S_37 o 17 = f_38 := fld_i hS_o rfl hS_x_17
    have h18_ : fld S_37 o 18 = f_39 := fld_i hS_o rfl hS_x_18
    refine pl_calli (va_runV (As := []) (rest := []) ⟨hx, hb, hml, hown, hT⟩ (m_laysRing l dC dI cy L kap pr S_37 H.size o hTy hT_o x_6 ⟨inf_i hS_o rfl, by omega⟩) (cwV 0 hT (gV w1394 w1396 ws86 w14 w1397) rfl rfl rfl (by decide +kernel) ⟨(Nat.le_of_ble_eq_true rfl), (Nat.le_of_ble_eq_true rfl)⟩) ⟨pcN.blind, pl_recv hK hW hT_o.1 hS_o rfl, pcN.pre hW.1 hK hW.2.1 hN (fun q h => absurd h List.not_mem_nil)⟩ rfl rfl hl.1 rfl (lv_room (Nat.le_of_ble_eq_true rfl)) dX12_takeRing_23 ⟨(Nat.le_of_ble_eq_true rfl), (Nat.le_of_ble_eq_true rfl)⟩) hW hA0 hA (fun r_41 S_40 H locs hrel hW => ?_)
    obtain ⟨hTy, hF1, hx1⟩ := hrel
    have hFr := hFr.tr hF1 (by decide)
    have hS_x_1 := hF1.at hT_x_1 (by decide) hS_x_1
    have hS_x_3 := hF1.at hT_x_3 (by decide) hS_x_3
    have hS_x_17 := hF1.at hT_x_17 (by decide) hS_x_17
    obtain ⟨n_42, hb_n_42, ho12_, hrg_⟩ := hx1
    have hS_o : S_40 o = .inr (12, [.ref x_1, .ref x_2, .ref x_3, .ref x_4, .ref x_5, .int (nI x_6), .int (nI x_7), .int (nI x_8), .int 0, .ref x_10, .int (nI (pr.2)), .int (nI x_11), .int (nI x_12), .int x_13, .int x_14, .int x_15, .int x_16, .ref x_17, .ref x_18, .int (nI n_42), .ref x_20, .ref x_21, .ref x_22, .ref x_23, .ref x_24, .ref x_25, .ref x_26, .ref x_27, .ref x_28, .ref x_29, .ref x_30, .int (nI x_31)]) := ho12_ _ hS_o
    obtain ⟨f_43, hS_x_18, hi_f_43⟩ := hTy.k57 hT_x_18
    rw [h17_, fld_i (S := S_40) hS_o rfl hS_x_18] at hrg_
    rcases hrg_ with hc_ | hc_
    · obtain ⟨rfl, hnor⟩ := hc_
      refine lv_if_ne (tgt := 32) hx hb dX12_takeRing_26 (by decide) (fun h => absurd (by decide) h) (fun _ => ?_)
      refine lv_bipush (v := (-5)) hx hb dX12_takeRing_29 (by decide) ?_
      exact W.iret (v := (-5)) hx hb hr (fun t ht h9 => ⟨⟨(-5), S_40, rfl, ⟨hTy, hFr, ⟨(by rw [fld_i hS_o rfl hS_x_1]; exact hdg_), (by rw [fld_i hS_o rfl hS_x_3]; exact hda_)⟩⟩, by rw [ht]; exact hW.1, va_K.moved h9.alike hK, hW.2.1⟩, hW.2.2.F ht⟩) hW.2.2.2.2 dX12_takeRing_31
    · obtain ⟨hn2_, rfl, hRNG⟩ := hc_
      refine lv_if_ne (tgt := 32) hx hb dX12_takeRing_26 (by decide) (fun c_26 => ?_) (fun c_26 => ?_)
      · have c_26 : ¬ (n_42 = 0) := fun hh9 => c_26 ((nI_eq (a := n_42) (b := 0) (by omega) (by omega)).mpr hh9)
        refine lv_aload_n hx hb dX12_takeRing_32 rfl (lv_at hl 0 rfl) ?_
        refine pl_callv (va_runV (As := []) (rest := []) ⟨hx, hb, hml, hown, hT⟩ (m_remembers2 l dC dI cy L kap pr S_40 H.size o hTy hT_o (by rw [fld_i hS_o rfl hS_x_1]; exact hdg_) (by rw [fld_i hS_o rfl hS_x_3]; exact hda_)) (cwV 0 hT (gV w1293 w1295 ws75 w14 w1296) rfl rfl rfl (by decide +kernel) ⟨(Nat.le_of_ble_eq_true rfl), (Nat.le_of_ble_eq_true rfl)⟩) ⟨pcN.blind, pl_recv hK hW hT_o.1 hS_o rfl, pcN.pre hW.1 hK hW.2.1 hN (fun q h => absurd h List.not_mem_nil)⟩ rfl rfl hl.1 rfl (lv_room (Nat.le_of_ble_eq_true rfl)) dX12_takeRing_33 ⟨(Nat.le_of_ble_eq_true rfl), (Nat.le_of_ble_eq_true rfl)⟩) hW hA0 hA (fun S_44 H locs hrel hW => ?_)
        obtain ⟨hTy, hF1, hx1⟩ := hrel
        have hFr := hFr.tr hF1 (by decide)
        have hS_x_1 := hF1.at hT_x_1 (by decide) hS_x_1
        have hS_x_17 := hF1.at hT_x_17 (by decide) hS_x_17
        have hS_x_18 := hF1.at hT_x_18 (by decide) hS_x_18
        obtain ⟨⟨n_45, hb_n_45, ho7_⟩, hda_⟩ := hx1
        have hS_o : S_44 o = .inr (12, [.ref x_1, .ref x_2, .ref x_3, .ref x_4, .ref x_5, .int (nI x_6), .int (nI x_7), .int (nI n_45), .int 0, .ref x_10, .int (nI (pr.2)), .int (nI x_11), .int (nI x_12), .int x_13, .int x_14, .int x_15, .int x_16, .ref x_17, .ref x_18, .int (nI n_42), .ref x_20, .ref x_21, .ref x_22, .ref x_23, .ref x_24, .ref x_25, .ref x_26, .ref x_27, .ref x_28, .ref x_29, .ref x_30, .int (nI x_31)]) := ho7_ _ hS_o
        obtain ⟨f_46, hS_x_3, hi_f_46⟩ := hTy.k52 hT_x_3
        have hda_ : DGA f_46 := by have q := hda_; rw [fld_i hS_o rfl hS_x_3] at q; exact q
        refine lv_aload_n hx hb dX12_takeRing_36 rfl (lv_at hl 0 rfl) ?_
        refine vp_callSi (va_Run.run (va_runV (As := []) (rest := []) ⟨hx, hb, hml, hown, hT⟩ (m_loadOf l dC dI cy L kap pr S_44 H.size o hTy hT_o n_42 (inf_i hS_o rfl) (by omega) (by omega)) (cwV 0 hT (gV w1406 w1408 ws88 w14 w1409) rfl rfl rfl (by decide +kernel) ⟨(Nat.le_of_ble_eq_true rfl), (Nat.le_of_ble_eq_true rfl)⟩) ⟨pcN.blind, pl_recv hK hW hT_o.1 hS_o rfl, pcN.pre hW.1 hK hW.2.1 hN (fun q h => absurd h List.not_mem_nil)⟩ rfl rfl hl.1 rfl (lv_room (Nat.le_of_ble_eq_true rfl)) dX12_takeRing_37 ⟨(Nat.le_of_ble_eq_true rfl), (Nat.le_of_ble_eq_true rfl)⟩)) (fun r_47 hr_47 => ?_)
        have hld_ := hr_47
        refine lv_istore_n (lv' := [(2, .int r_47), (0, .ref o), (1, .int (nI k_36))]) hx hb dX12_takeRing_40 rfl hl (by decide) rfl (fun ls hl => ?_)
        refine lv_iconst (v := 0) hx hb dX12_takeRing_41 (by decide) ?_
        refine lv_istore_n (lv' := [(3, .int 0), (2, .int r_47), (0, .ref o), (1, .int (nI k_36))]) hx hb dX12_takeRing_42 rfl hl (by decide) rfl (fun ls hl => ?_)
        have loop : ∀ (fuel : Nat) (i : Nat) (gs : Nat → Int32) (SS : Nat → va_E) (H : Heap) (locs : List Loc) (ls : Array Slot), 9 - i < fuel → (i ≤ 8) → (SS x_1 = .inl (cy 0, 266, .inl gs)) → (dg gs) → Ty cy L kap pr SS → Fr kap [12, 50, 52, 56, 57] S SS → Fr kap [50] S_44 SS → PW dC dI L (AL L s.heap.size) s.heap SS H locs → lv_has ls 7 [(3, .int (nI i)), (2, .int r_47), (0, .ref o), (1, .int (nI k_36))] → W p l e (headSpec (wT yX12_takeRing cX12_takeRing 7 (some .int)) { frames := 10, cells := 0, slots := 0, locals := 243 }).room s m [.ref o, .int (nI k_36)].toArray below meth c H locs 0 0 (MQ below (va_Qi (fun r S' => Ty cy L kap pr S' ∧ Fr kap [12, 50, 52, 56, 57] S S' ∧ (dg (fld S' o 0) ∧ DGA (fld S' o 2))) (fun S' t => pB dC dI (AL L s.heap.size) (va_pl L S') (cyT cy) t) (AL L s.heap.size)) [.ref o, .int (nI k_36)].toArray s 0 0 (AL L s.heap.size)) (F0 m 43 ls []) := by
          intro fuel
          induction fuel with
          | zero => intro i gs SS H locs ls h; exact absurd h (Nat.not_lt_zero _)
          | succ fu43 ih43 =>
            intro i gs S_48 H locs ls hm43 hb_i hRs hDg hTy hFr hFl43 hW hl
            have hS_x_17 := hFl43.at hT_x_17 (by decide) hS_x_17
            have hS_x_18 := hFl43.at hT_x_18 (by decide) hS_x_18
            have hS_o := hFl43.at hT_o (by decide) hS_o
            have hS_x_3 := hFl43.at hT_x_3 (by decide) hS_x_3
            have hi_gs := k50i hTy hT_x_1 hRs
            have hdg_ := hDg
            refine lv_iload_n hx hb dX12_takeRing_43 rfl (lv_at hl 0 rfl) ?_
            refine lv_aload_n hx hb dX12_takeRing_44 rfl (lv_at hl 2 rfl) ?_
            refine pl_get (ci := 12) (v := .int (nI n_42)) (C := RX12) (T := TX12) (N := 32) hx hb hT iX12 hown hK hW hT_o.1 hS_o rfl 19 (by decide) w1101 rfl dX12_takeRing_45 ?_
            refine lv_icmp_ge (tgt := 191) hx hb dX12_takeRing_48 (by decide) (fun c_48 => ?_) (fun c_48 => ?_)
            · have c_48 : n_42 ≤ i := (nI_leI (a := n_42) (b := i) (by omega) (by omega)).mp c_48
              refine lv_iload_n hx hb dX12_takeRing_191 rfl (lv_at hl 1 rfl) ?_
              exact W.iret (v := r_47) hx hb hr (fun t ht h9 => ⟨⟨r_47, S_48, rfl, ⟨hTy, hFr, ⟨(by rw [fld_i hS_o rfl hRs]; exact hdg_), (by rw [fld_i hS_o rfl hS_x_3]; exact hda_)⟩⟩, by rw [ht]; exact hW.1, va_K.moved h9.alike hK, hW.2.1⟩, hW.2.2.F ht⟩) hW.2.2.2.2 dX12_takeRing_192
            · have c_48 : ¬ (n_42 ≤ i) := fun hh9 => c_48 ((nI_leI (a := n_42) (b := i) (by omega) (by omega)).mpr hh9)
              refine lv_iload_n hx hb dX12_takeRing_51 rfl (lv_at hl 1 rfl) ?_
              refine lv_istore (lv' := [(4, .int r_47), (3, .int (nI i)), (2, .int r_47), (0, .ref o), (1, .int (nI k_36))]) hx hb dX12_takeRing_52 hl (by decide) rfl (fun ls hl => ?_)
              refine lv_aload_n hx hb dX12_takeRing_54 rfl (lv_at hl 3 rfl) ?_
              refine pl_get (ci := 12) (v := .ref x_1) (C := RX12) (T := TX12) (N := 32) hx hb hT iX12 hown hK hW hT_o.1 hS_o rfl 0 (by decide) w1082 rfl dX12_takeRing_55 ?_
              refine lv_iconst (v := 0) hx hb dX12_takeRing_58 (by decide) ?_
              refine pl_iald hx hb hK hW hT_x_1.1 hRs (vp_in_nI (n := 0) (N := 266) (by omega) (by omega)) dX12_takeRing_59 ?_
              refine lv_topi (fun y_49 ey_49 => ?_)
              have hv_y_49 : okS (0) y_49 := by rw [ey_49]; show okS _ (gs (nI (0)).toNatClampNeg); rw [nI_clamp (by omega)]; exact hi_gs (0) (by omega)
              obtain ⟨k_50, hb_k_50, hq_k_50⟩ := hv_y_49.1 rfl
              obtain rfl : y_49 = nI k_50 := hq_k_50
              refine lv_iconst (v := 1) hx hb dX12_takeRing_60 (by decide) ?_
              refine lv_isub hx hb dX12_takeRing_61 ?_
              refine lv_topi (fun z_51 ez_51 => ?_)
              obtain rfl : z_51 = pd (k_50) := ez_51
              refine lv_istore (lv' := [(5, .int (pd k_50)), (4, .int r_47), (3, .int (nI i)), (2, .int r_47), (0, .ref o), (1, .int (nI k_36))]) hx hb dX12_takeRing_62 hl (by decide) rfl (fun ls hl => ?_)
              have loop : ∀ (fuel : Nat) (t1 : Nat) (lf : Int32) (gs2 : Nat → Int32) (mm : Nat) (SS : Nat → va_E) (H : Heap) (locs : List Loc) (ls : Array Slot), t1 < fuel → (SS x_1 = .inl (cy 0, 266, .inl gs2)) → (dg gs2) → (gs2 0 = nI mm) → (mm ≤ 40) → (t1 ≤ mm) → Ty cy L kap pr SS → Fr kap [12, 50, 52, 56, 57] S SS → Fr kap [50] S_48 SS → PW dC dI L (AL L s.heap.size) s.heap SS H locs → lv_has ls 7 [(5, .int (pd t1)), (4, .int lf), (3, .int (nI i)), (2, .int r_47), (0, .ref o), (1, .int (nI k_36))] → W p l e (headSpec (wT yX12_takeRing cX12_takeRing 7 (some .int)) { frames := 10, cells := 0, slots := 0, locals := 243 }).room s m [.ref o, .int (nI k_36)].toArray below meth c H locs 0 0 (MQ below (va_Qi (fun r S' => Ty cy L kap pr S' ∧ Fr kap [12, 50, 52, 56, 57] S S' ∧ (dg (fld S' o 0) ∧ DGA (fld S' o 2))) (fun S' t => pB dC dI (AL L s.heap.size) (va_pl L S') (cyT cy) t) (AL L s.heap.size)) [.ref o, .int (nI k_36)].toArray s 0 0 (AL L s.heap.size)) (F0 m 64 ls []) := by
                intro fuel
                induction fuel with
                | zero => intro t1 lf gs2 mm SS H locs ls h; exact absurd h (Nat.not_lt_zero _)
                | succ fu64 ih64 =>
                  intro t1 lf gs2 mm S_52 H locs ls hm64 hRs2 hDg2 h0m hmm htm hTy hFr hFl64 hW hl
                  have hS_x_17 := hFl64.at hT_x_17 (by decide) hS_x_17
                  have hS_x_18 := hFl64.at hT_x_18 (by decide) hS_x_18
                  have hS_o := hFl64.at hT_o (by decide) hS_o
                  have hS_x_3 := hFl64.at hT_x_3 (by decide) hS_x_3
                  have hFl43 := hFl43.tr hFl64 (by decide)
                  have hi_gs2 := k50i hTy hT_x_1 hRs2
                  have hdg_ := hDg2
                  have h0_ := h0m
                  refine lv_iload hx hb dX12_takeRing_64 (lv_at hl 0 rfl) ?_
                  refine lv_if_lt (tgt := 185) hx hb dX12_takeRing_66 (by decide) (fun c_66 => ?_) (fun c_66 => ?_)
                  · have c_66 : t1 = 0 := (pd_lt (by omega)).mp c_66
                    refine lv_iinc (v := nI (i + 1)) (lv' := [(3, .int (nI (i + 1))), (5, .int (pd t1)), (4, .int lf), (2, .int r_47), (0, .ref o), (1, .int (nI k_36))]) hx hb dX12_takeRing_185 hl (k := 2) rfl (nI_add (i) 1) (by decide) rfl (fun ls hl => ?_)
                    refine lv_goto (tgt := 43) hx hb dX12_takeRing_188 (by decide) ?_
                    exact ih43 (i + 1) gs2 _ _ _ ls (by omega) (by omega) hRs2 hdg_ hTy hFr hFl43 hW (lv_sub hl [0, 3, 4, 5] rfl)
                  · have c_66 : 0 < t1 := pd_p (by omega) c_66
                    obtain ⟨j_53, rfl⟩ : ∃ w9, t1 = w9 + 1 := ⟨t1 - 1, by omega⟩
                    rw [pd_s] at hl
                    refine lv_iload hx hb dX12_takeRing_69 (lv_at hl 1 rfl) ?_
                    refine lv_if_le (tgt := 185) hx hb dX12_takeRing_71 (by decide) (fun c_71 => ?_) (fun c_71 => ?_)
                    · refine lv_iinc (v := nI (i + 1)) (lv' := [(3, .int (nI (i + 1))), (5, .int (nI j_53)), (4, .int lf), (2, .int r_47), (0, .ref o), (1, .int (nI k_36))]) hx hb dX12_takeRing_185 hl (k := 2) rfl (nI_add (i) 1) (by decide) rfl (fun ls hl => ?_)
                      refine lv_goto (tgt := 43) hx hb dX12_takeRing_188 (by decide) ?_
                      exact ih43 (i + 1) gs2 _ _ _ ls (by omega) (by omega) hRs2 hdg_ hTy hFr hFl43 hW (lv_sub hl [0, 3, 4, 5] rfl)
                    · refine lv_aload_n hx hb dX12_takeRing_74 rfl (lv_at hl 4 rfl) ?_
                      refine lv_iload hx hb dX12_takeRing_75 (lv_at hl 0 rfl) ?_
                      refine lv_iload_n hx hb dX12_takeRing_77 rfl (lv_at hl 5 rfl) ?_
                      refine vp_callSi (va_Run.run (va_runV (As := [.int (nI j_53), .int (nI k_36)]) (rest := []) ⟨hx, hb, hml, hown, hT⟩ (m_isFree l dC dI cy L kap pr S_52 H.size o j_53 (nI k_36) hTy hT_o (by omega)) (cwV 2 hT (gV w1340 w1342 ws79 w14 w1343) rfl rfl rfl (by decide +kernel) ⟨(Nat.le_of_ble_eq_true rfl), (Nat.le_of_ble_eq_true rfl)⟩) ⟨pcN.blind, pl_recv hK hW hT_o.1 hS_o rfl, pcN.pre hW.1 hK hW.2.1 hN (fun q h => absurd h List.not_mem_nil)⟩ rfl rfl hl.1 rfl (lv_room (Nat.le_of_ble_eq_true rfl)) dX12_takeRing_78 ⟨(Nat.le_of_ble_eq_true rfl), (Nat.le_of_ble_eq_true rfl)⟩)) (fun r_54 hr_54 => ?_)
                      refine lv_if_eq (tgt := 179) hx hb dX12_takeRing_81 (by decide) (fun c_81 => ?_) (fun c_81 => ?_)
                      · refine lv_iinc (v := pd j_53) (lv' := [(5, .int (pd j_53)), (4, .int lf), (3, .int (nI i)), (2, .int r_47), (0, .ref o), (1, .int (nI k_36))]) hx hb dX12_takeRing_179 hl (k := 0) rfl (pd_dec _) (by decide) rfl (fun ls hl => ?_)
                        refine lv_goto (tgt := 64) hx hb dX12_takeRing_182 (by decide) ?_
                        exact ih64 j_53 lf gs2 mm _ _ _ ls (by omega) hRs2 hdg_ h0_ (by omega) (by omega) hTy hFr hFl64 hW (lv_sub hl [0, 1, 2, 3, 4, 5] rfl)
                      · refine lv_aload_n hx hb dX12_takeRing_84 rfl (lv_at hl 4 rfl) ?_
                        refine lv_iload hx hb dX12_takeRing_85 (lv_at hl 0 rfl) ?_
                        refine lv_iconst (v := 0) hx hb dX12_takeRing_87 (by decide) ?_
                        refine vp_callSi (va_Run.run (va_runV (As := [.int (nI j_53), .int 0]) (rest := []) ⟨hx, hb, hml, hown, hT⟩ (m_tradeAt l dC dI cy L kap pr S_52 H.size o j_53 0 hTy hT_o (by omega) (by omega)) (cwV 2 hT (gV w1247 w1249 ws66 w14 w1250) rfl rfl rfl (by decide +kernel) ⟨(Nat.le_of_ble_eq_true rfl), (Nat.le_of_ble_eq_true rfl)⟩) ⟨pcN.blind, pl_recv hK hW hT_o.1 hS_o rfl, pcN.pre hW.1 hK hW.2.1 hN (fun q h => absurd h List.not_mem_nil)⟩ rfl rfl hl.1 rfl (lv_room (Nat.le_of_ble_eq_true rfl)) dX12_takeRing_88 ⟨(Nat.le_of_ble_eq_true rfl), (Nat.le_of_ble_eq_true rfl)⟩)) (fun r_55 hr_55 => ?_)
                        obtain ⟨k_56, hb_k_56, rfl⟩ := hr_55.1.2.1 (by omega) (by omega) (by omega)
                        refine lv_aload_n hx hb dX12_takeRing_91 rfl (lv_at hl 4 rfl) ?_
                        refine lv_iload hx hb dX12_takeRing_92 (lv_at hl 0 rfl) ?_
                        refine lv_iconst (v := 1) hx hb dX12_takeRing_94 (by decide) ?_
                        refine vp_callSi (va_Run.run (va_runV (As := [.int (nI j_53), .int 1]) (rest := [.int (nI k_56)]) ⟨hx, hb, hml, hown, hT⟩ (m_tradeAt l dC dI cy L kap pr S_52 H.size o j_53 1 hTy hT_o (by omega) (by omega)) (cwV 2 hT (gV w1247 w1249 ws66 w14 w1250) rfl rfl rfl (by decide +kernel) ⟨(Nat.le_of_ble_eq_true rfl), (Nat.le_of_ble_eq_true rfl)⟩) ⟨pcN.blind, pl_recv hK hW hT_o.1 hS_o rfl, pcN.pre hW.1 hK hW.2.1 hN (fun q h => absurd h List.not_mem_nil)⟩ rfl rfl hl.1 rfl (lv_room (Nat.le_of_ble_eq_true rfl)) dX12_takeRing_95 ⟨(Nat.le_of_ble_eq_true rfl), (Nat.le_of_ble_eq_true rfl)⟩)) (fun r_57 hr_57 => ?_)
                        obtain ⟨k_58, hb_k_58, rfl⟩ := hr_57.1.2.1 (by omega) (by omega) (by omega)
                        refine vp_callSi (va_Run.run (va_runS (As := [.int (nI k_56), .int (nI k_58)]) (rest := []) ⟨hx, hb, hml, hown, hT⟩ (m_couple l dC dI H.size k_56 k_58 (by omega) (by omega)) (va_cwS 2 hT (gS w1348 w1349 w14 w1350) rfl rfl rfl (by decide +kernel) ⟨(Nat.le_of_ble_eq_true rfl), (Nat.le_of_ble_eq_true rfl)⟩) ⟨pcW.blind, pcW.pre (va_P0 _ _ _) (hK.sub (tys' := []) [] rfl) (va_D0 (fun _ => True))⟩ rfl rfl hl.1 rfl (lv_room (Nat.le_of_ble_eq_true rfl)) dX12_takeRing_98 ⟨(Nat.le_of_ble_eq_true rfl), (Nat.le_of_ble_eq_true rfl)⟩)) (fun r_59 hr_59 => ?_)
                        obtain rfl : r_59 = nI (8 * k_56 + k_58) := hr_59
                        refine lv_aload_n hx hb dX12_takeRing_101 rfl (lv_at hl 4 rfl) ?_
                        refine lv_iload_n hx hb dX12_takeRing_102 rfl (lv_at hl 2 rfl) ?_
                        refine vp_callSi (va_Run.run (va_runV (As := [.int (nI i)]) (rest := [.int (nI (8 * k_56 + k_58))]) ⟨hx, hb, hml, hown, hT⟩ (m_coupleOf l dC dI cy L kap pr S_52 H.size o i hTy hT_o (by omega) n_42 (inf_i hS_o rfl) (by omega) (by omega) (by omega)) (cwV 1 hT (gV w1410 w1412 ws89 w14 w1413) rfl rfl rfl (by decide +kernel) ⟨(Nat.le_of_ble_eq_true rfl), (Nat.le_of_ble_eq_true rfl)⟩) ⟨pcN.blind, pl_recv hK hW hT_o.1 hS_o rfl, pcN.pre hW.1 hK hW.2.1 hN (fun q h => absurd h List.not_mem_nil)⟩ rfl rfl hl.1 rfl (lv_room (Nat.le_of_ble_eq_true rfl)) dX12_takeRing_103 ⟨(Nat.le_of_ble_eq_true rfl), (Nat.le_of_ble_eq_true rfl)⟩)) (fun r_60 hr_60 => ?_)
                        have hcl_ := hr_60
                        rw [fld_i (S := S_52) hS_o rfl hS_x_18] at hcl_
                        obtain ⟨hce_, hcl_⟩ := hcl_
                        obtain rfl : r_60 = nI (cpl f_43 n_42 i) := hce_
                        refine lv_icmp_eq (tgt := 112) hx hb dX12_takeRing_106 (by decide) (fun c_106 => ?_) (fun c_106 => ?_)
                        · have c_106 : (8 * k_56 + k_58) = (cpl f_43 n_42 i) := (nI_eq (a := 8 * k_56 + k_58) (b := cpl f_43 n_42 i) (by omega) (by omega)).mp c_106
                          refine lv_aload_n hx hb dX12_takeRing_112 rfl (lv_at hl 4 rfl) ?_
                          refine lv_iload hx hb dX12_takeRing_113 (lv_at hl 0 rfl) ?_
                          refine lv_iconst (v := 2) hx hb dX12_takeRing_115 (by decide) ?_
                          refine vp_callSi (va_Run.run (va_runV (As := [.int (nI j_53), .int 2]) (rest := []) ⟨hx, hb, hml, hown, hT⟩ (m_tradeAt l dC dI cy L kap pr S_52 H.size o j_53 2 hTy hT_o (by omega) (by omega)) (cwV 2 hT (gV w1247 w1249 ws66 w14 w1250) rfl rfl rfl (by decide +kernel) ⟨(Nat.le_of_ble_eq_true rfl), (Nat.le_of_ble_eq_true rfl)⟩) ⟨pcN.blind, pl_recv hK hW hT_o.1 hS_o rfl, pcN.pre hW.1 hK hW.2.1 hN (fun q h => absurd h List.not_mem_nil)⟩ rfl rfl hl.1 rfl (lv_room (Nat.le_of_ble_eq_true rfl)) dX12_takeRing_116 ⟨(Nat.le_of_ble_eq_true rfl), (Nat.le_of_ble_eq_true rfl)⟩)) (fun r_61 hr_61 => ?_)
                          refine lv_iload hx hb dX12_takeRing_119 (lv_at hl 1 rfl) ?_
                          refine lv_icmp_ge (tgt := 134) hx hb dX12_takeRing_121 (by decide) (fun c_121 => ?_) (fun c_121 => ?_)
                          · refine lv_iload hx hb dX12_takeRing_134 (lv_at hl 1 rfl) ?_
                            refine lv_istore (lv' := [(6, .int lf), (5, .int (nI j_53)), (4, .int lf), (3, .int (nI i)), (2, .int r_47), (0, .ref o), (1, .int (nI k_36))]) hx hb dX12_takeRing_136 hl (by decide) rfl (fun ls hl => ?_)
                            refine lv_aload_n hx hb dX12_takeRing_138 rfl (lv_at hl 5 rfl) ?_
                            refine pl_get (ci := 12) (v := .ref x_1) (C := RX12) (T := TX12) (N := 32) hx hb hT iX12 hown hK hW hT_o.1 hS_o rfl 0 (by decide) w1082 rfl dX12_takeRing_139 ?_
                            refine lv_iconst (v := 2) hx hb dX12_takeRing_142 (by decide) ?_
                            refine lv_iconst (v := 5) hx hb dX12_takeRing_143 (by decide) ?_
                            refine lv_iload hx hb dX12_takeRing_144 (lv_at hl 1 rfl) ?_
                            refine lv_imul hx hb dX12_takeRing_146 ?_
                            refine lv_topi (fun z_62 ez_62 => ?_)
                            obtain rfl : z_62 = nI (5 * j_53) := ez_62.trans (pk_mul (5) (j_53))
                            refine lv_iadd hx hb dX12_takeRing_147 ?_
                            refine lv_topi (fun z_63 ez_63 => ?_)
                            obtain rfl : z_63 = nI (2 + (5 * j_53)) := ez_63.trans (nI_add (2) (5 * j_53))
                            refine lv_iconst (v := 2) hx hb dX12_takeRing_148 (by decide) ?_
                            refine lv_iadd hx hb dX12_takeRing_149 ?_
                            refine lv_topi (fun z_64 ez_64 => ?_)
                            obtain rfl : z_64 = nI ((2 + (5 * j_53)) + 2) := ez_64.trans (nI_add (2 + (5 * j_53)) (2))
                            refine lv_dup2_11 hx hb dX12_takeRing_150 rfl rfl ?_
                            refine pl_iald hx hb hK hW hT_x_1.1 hRs2 (vp_in_nI (n := (2 + (5 * j_53)) + 2) (N := 266) (by omega) (by omega)) dX12_takeRing_151 ?_
                            refine lv_topi (fun y_65 ey_65 => ?_)
                            have hv_y_65 : okS ((2 + (5 * j_53)) + 2) y_65 := by rw [ey_65]; show okS _ (gs2 (nI ((2 + (5 * j_53)) + 2)).toNatClampNeg); rw [nI_clamp (by omega)]; exact hi_gs2 ((2 + (5 * j_53)) + 2) (by omega)
                            refine lv_iload hx hb dX12_takeRing_152 (lv_at hl 0 rfl) ?_
                            refine lv_isub hx hb dX12_takeRing_154 ?_
                            refine lv_topi (fun z_66 ez_66 => ?_)
                            refine pl_iast hx hb hK hW hT_x_1.1 hRs2 (vp_in_nI (n := (2 + (5 * j_53)) + 2) (N := 266) (by omega) (by omega)) dX12_takeRing_155 (fun H locs f_68 S_67 ef_f_68 e1 hW => ?_)
                            have hi_f_68 := okS_up (i := (2 + (5 * j_53)) + 2) (by omega) hi_gs2 ef_f_68 (okS_any (by omega))
                            have hTy := hTy.u50 e1 hT_x_1 ⟨f_68, rfl, hi_f_68⟩
                            have hS_x_17 := un e1 hT_x_17 hT_x_1 (by decide) hS_x_17
                            have hS_x_18 := un e1 hT_x_18 hT_x_1 (by decide) hS_x_18
                            have hS_o := un e1 hT_o hT_x_1 (by decide) hS_o
                            have hS_x_3 := un e1 hT_x_3 hT_x_1 (by decide) hS_x_3
                            have hFr := uf hFr e1 hT_x_1 (by decide) (by decide)
                            have hFl43 := uf hFl43 e1 hT_x_1 (by decide) (by decide)
                            have hFl64 := uf hFl64 e1 hT_x_1 (by decide) (by decide)
                            have hRs2 := us e1
                            have h0_ : f_68 0 = nI mm := up0 (i := (2 + (5 * j_53)) + 2) (by omega) (by omega) h0_ ef_f_68
                            have hdg_ := dg_up (i := (2 + (5 * j_53)) + 2) hdg_ ef_f_68 (by omega) (by omega)
                            refine lv_iload hx hb dX12_takeRing_156 (lv_at hl 2 rfl) ?_
                            refine lv_iload hx hb dX12_takeRing_158 (lv_at hl 0 rfl) ?_
                            refine lv_isub hx hb dX12_takeRing_160 ?_
                            refine lv_topi (fun z_69 ez_69 => ?_)
                            refine lv_istore (lv' := [(4, .int z_69), (6, .int lf), (5, .int (nI j_53)), (3, .int (nI i)), (2, .int r_47), (0, .ref o), (1, .int (nI k_36))]) hx hb dX12_takeRing_161 hl (by decide) rfl (fun ls hl => ?_)
                            refine lv_aload_n hx hb dX12_takeRing_163 rfl (lv_at hl 5 rfl) ?_
                            refine lv_iload hx hb dX12_takeRing_164 (lv_at hl 2 rfl) ?_
                            refine lv_iconst (v := 2) hx hb dX12_takeRing_166 (by decide) ?_
                            refine vp_callSi (va_Run.run (va_runV (As := [.int (nI j_53), .int 2]) (rest := []) ⟨hx, hb, hml, hown, hT⟩ (m_tradeAt l dC dI cy L kap pr S_67 H.size o j_53 2 hTy hT_o (by omega) (by omega)) (cwV 2 hT (gV w1247 w1249 ws66 w14 w1250) rfl rfl rfl (by decide +kernel) ⟨(Nat.le_of_ble_eq_true rfl), (Nat.le_of_ble_eq_true rfl)⟩) ⟨pcN.blind, pl_recv hK hW hT_o.1 hS_o rfl, pcN.pre hW.1 hK hW.2.1 hN (fun q h => absurd h List.not_mem_nil)⟩ rfl rfl hl.1 rfl (lv_room (Nat.le_of_ble_eq_true rfl)) dX12_takeRing_167 ⟨(Nat.le_of_ble_eq_true rfl), (Nat.le_of_ble_eq_true rfl)⟩)) (fun r_70 hr_70 => ?_)
                            refine lv_if_ne (tgt := 179) hx hb dX12_takeRing_170 (by decide) (fun c_170 => ?_) (fun c_170 => ?_)
                            · refine lv_iinc (v := pd j_53) (lv' := [(5, .int (pd j_53)), (4, .int z_69), (6, .int lf), (3, .int (nI i)), (2, .int r_47), (0, .ref o), (1, .int (nI k_36))]) hx hb dX12_takeRing_179 hl (k := 2) rfl (pd_dec _) (by decide) rfl (fun ls hl => ?_)
                              refine lv_goto (tgt := 64) hx hb dX12_takeRing_182 (by decide) ?_
                              exact ih64 j_53 z_69 f_68 mm _ _ _ ls (by omega) hRs2 hdg_ h0_ (by omega) (by omega) hTy hFr hFl64 hW (lv_sub hl [0, 1, 3, 4, 5, 6] rfl)
                            · refine lv_aload_n hx hb dX12_takeRing_173 rfl (lv_at hl 5 rfl) ?_
                              refine lv_iload hx hb dX12_takeRing_174 (lv_at hl 2 rfl) ?_
                              refine pl_callv (va_runV (As := [.int (nI j_53)]) (rest := []) ⟨hx, hb, hml, hown, hT⟩ (m_goes l dC dI cy L kap pr S_67 H.size o j_53 hTy hT_o (by omega) mm (mnyi hS_o rfl hRs2 h0_) (by omega) (by omega) (by rw [fld_i hS_o rfl hRs2]; exact hdg_)) (cwV 1 hT (gV w1305 w1307 ws77 w14 w1308) rfl rfl rfl (by decide +kernel) ⟨(Nat.le_of_ble_eq_true rfl), (Nat.le_of_ble_eq_true rfl)⟩) ⟨pcN.blind, pl_recv hK hW hT_o.1 hS_o rfl, pcN.pre hW.1 hK hW.2.1 hN (fun q h => absurd h List.not_mem_nil)⟩ rfl rfl hl.1 rfl (lv_room (Nat.le_of_ble_eq_true rfl)) dX12_takeRing_176 ⟨(Nat.le_of_ble_eq_true rfl), (Nat.le_of_ble_eq_true rfl)⟩) hW hA0 hA (fun S_71 H locs hrel hW => ?_)
                              obtain ⟨hTy, hF1, hx1⟩ := hrel
                              have hFr := hFr.tr hF1 (by decide)
                              have hFl43 := hFl43.tr hF1 (by decide)
                              have hFl64 := hFl64.tr hF1 (by decide)
                              have hS_x_17 := hF1.at hT_x_17 (by decide) hS_x_17
                              have hS_x_18 := hF1.at hT_x_18 (by decide) hS_x_18
                              have hS_o := hF1.at hT_o (by decide) hS_o
                              have hS_x_3 := hF1.at hT_x_3 (by decide) hS_x_3
                              have hgo_ := hx1.2.1
                              obtain ⟨f_72, hS_x_1, hi_f_72⟩ := hTy.k50 hT_x_1
                              have h0_ : f_72 0 = nI (mm - 1) := mnye hx1.1 hS_o rfl hS_x_1
                              have hdg_ : dg f_72 := by have q := hx1.2.2; rw [fld_i hS_o rfl hS_x_1] at q; exact q
                              refine lv_iinc (v := pd j_53) (lv' := [(5, .int (pd j_53)), (4, .int z_69), (6, .int lf), (3, .int (nI i)), (2, .int r_47), (0, .ref o), (1, .int (nI k_36))]) hx hb dX12_takeRing_179 hl (k := 2) rfl (pd_dec _) (by decide) rfl (fun ls hl => ?_)
                              refine lv_goto (tgt := 64) hx hb dX12_takeRing_182 (by decide) ?_
                              exact ih64 j_53 z_69 f_72 (mm - 1) _ _ _ ls (by omega) hS_x_1 hdg_ h0_ (by omega) (by omega) hTy hFr hFl64 hW (lv_sub hl [0, 1, 3, 4, 5, 6] rfl)
                          · refine lv_aload_n hx hb dX12_takeRing_124 rfl (lv_at hl 4 rfl) ?_
                            refine lv_iload hx hb dX12_takeRing_125 (lv_at hl 0 rfl) ?_
                            refine lv_iconst (v := 2) hx hb dX12_takeRing_127 (by decide) ?_
                            refine vp_callSi (va_Run.run (va_runV (As := [.int (nI j_53), .int 2]) (rest := []) ⟨hx, hb, hml, hown, hT⟩ (m_tradeAt l dC dI cy L kap pr S_52 H.size o j_53 2 hTy hT_o (by omega) (by omega)) (cwV 2 hT (gV w1247 w1249 ws66 w14 w1250) rfl rfl rfl (by decide +kernel) ⟨(Nat.le_of_ble_eq_true rfl), (Nat.le_of_ble_eq_true rfl)⟩) ⟨pcN.blind, pl_recv hK hW hT_o.1 hS_o rfl, pcN.pre hW.1 hK hW.2.1 hN (fun q h => absurd h List.not_mem_nil)⟩ rfl rfl hl.1 rfl (lv_room (Nat.le_of_ble_eq_true rfl)) dX12_takeRing_128 ⟨(Nat.le_of_ble_eq_true rfl), (Nat.le_of_ble_eq_true rfl)⟩)) (fun r_73 hr_73 => ?_)
                            refine lv_goto (tgt := 136) hx hb dX12_takeRing_131 (by decide) ?_
                            refine lv_istore (lv' := [(6, .int r_73), (5, .int (nI j_53)), (4, .int lf), (3, .int (nI i)), (2, .int r_47), (0, .ref o), (1, .int (nI k_36))]) hx hb dX12_takeRing_136 hl (by decide) rfl (fun ls hl => ?_)
                            refine lv_aload_n hx hb dX12_takeRing_138 rfl (lv_at hl 5 rfl) ?_
                            refine pl_get (ci := 12) (v := .ref x_1) (C := RX12) (T := TX12) (N := 32) hx hb hT iX12 hown hK hW hT_o.1 hS_o rfl 0 (by decide) w1082 rfl dX12_takeRing_139 ?_
                            refine lv_iconst (v := 2) hx hb dX12_takeRing_142 (by decide) ?_
                            refine lv_iconst (v := 5) hx hb dX12_takeRing_143 (by decide) ?_
                            refine lv_iload hx hb dX12_takeRing_144 (lv_at hl 1 rfl) ?_
                            refine lv_imul hx hb dX12_takeRing_146 ?_
                            refine lv_topi (fun z_74 ez_74 => ?_)
                            obtain rfl : z_74 = nI (5 * j_53) := ez_74.trans (pk_mul (5) (j_53))
                            refine lv_iadd hx hb dX12_takeRing_147 ?_
                            refine lv_topi (fun z_75 ez_75 => ?_)
                            obtain rfl : z_75 = nI (2 + (5 * j_53)) := ez_75.trans (nI_add (2) (5 * j_53))
                            refine lv_iconst (v := 2) hx hb dX12_takeRing_148 (by decide) ?_
                            refine lv_iadd hx hb dX12_takeRing_149 ?_
                            refine lv_topi (fun z_76 ez_76 => ?_)
                            obtain rfl : z_76 = nI ((2 + (5 * j_53)) + 2) := ez_76.trans (nI_add (2 + (5 * j_53)) (2))
                            refine lv_dup2_11 hx hb dX12_takeRing_150 rfl rfl ?_
                            refine pl_iald hx hb hK hW hT_x_1.1 hRs2 (vp_in_nI (n := (2 + (5 * j_53)) + 2) (N := 266) (by omega) (by omega)) dX12_takeRing_151 ?_
                            refine lv_topi (fun y_77 ey_77 => ?_)
                            have hv_y_77 : okS ((2 + (5 * j_53)) + 2) y_77 := by rw [ey_77]; show okS _ (gs2 (nI ((2 + (5 * j_53)) + 2)).toNatClampNeg); rw [nI_clamp (by omega)]; exact hi_gs2 ((2 + (5 * j_53)) + 2) (by omega)
                            refine lv_iload hx hb dX12_takeRing_152 (lv_at hl 0 rfl) ?_
                            refine lv_isub hx hb dX12_takeRing_154 ?_
                            refine lv_topi (fun z_78 ez_78 => ?_)
                            refine pl_iast hx hb hK hW hT_x_1.1 hRs2 (vp_in_nI (n := (2 + (5 * j_53)) + 2) (N := 266) (by omega) (by omega)) dX12_takeRing_155 (fun H locs f_80 S_79 ef_f_80 e1 hW => ?_)
                            have hi_f_80 := okS_up (i := (2 + (5 * j_53)) + 2) (by omega) hi_gs2 ef_f_80 (okS_any (by omega))
                            have hTy := hTy.u50 e1 hT_x_1 ⟨f_80, rfl, hi_f_80⟩
                            have hS_x_17 := un e1 hT_x_17 hT_x_1 (by decide) hS_x_17
                            have hS_x_18 := un e1 hT_x_18 hT_x_1 (by decide) hS_x_18
                            have hS_o := un e1 hT_o hT_x_1 (by decide) hS_o
                            have hS_x_3 := un e1 hT_x_3 hT_x_1 (by decide) hS_x_3
                            have hFr := uf hFr e1 hT_x_1 (by decide) (by decide)
                            have hFl43 := uf hFl43 e1 hT_x_1 (by decide) (by decide)
                            have hFl64 := uf hFl64 e1 hT_x_1 (by decide) (by decide)
                            have hRs2 := us e1
                            have h0_ : f_80 0 = nI mm := up0 (i := (2 + (5 * j_53)) + 2) (by omega) (by omega) h0_ ef_f_80
                            have hdg_ := dg_up (i := (2 + (5 * j_53)) + 2) hdg_ ef_f_80 (by omega) (by omega)
                            refine lv_iload hx hb dX12_takeRing_156 (lv_at hl 2 rfl) ?_
                            refine lv_iload hx hb dX12_takeRing_158 (lv_at hl 0 rfl) ?_
                            refine lv_isub hx hb dX12_takeRing_160 ?_
                            refine lv_topi (fun z_81 ez_81 => ?_)
                            refine lv_istore (lv' := [(4, .int z_81), (6, .int r_73), (5, .int (nI j_53)), (3, .int (nI i)), (2, .int r_47), (0, .ref o), (1, .int (nI k_36))]) hx hb dX12_takeRing_161 hl (by decide) rfl (fun ls hl => ?_)
                            refine lv_aload_n hx hb dX12_takeRing_163 rfl (lv_at hl 5 rfl) ?_
                            refine lv_iload hx hb dX12_takeRing_164 (lv_at hl 2 rfl) ?_
                            refine lv_iconst (v := 2) hx hb dX12_takeRing_166 (by decide) ?_
                            refine vp_callSi (va_Run.run (va_runV (As := [.int (nI j_53), .int 2]) (rest := []) ⟨hx, hb, hml, hown, hT⟩ (m_tradeAt l dC dI cy L kap pr S_79 H.size o j_53 2 hTy hT_o (by omega) (by omega)) (cwV 2 hT (gV w1247 w1249 ws66 w14 w1250) rfl rfl rfl (by decide +kernel) ⟨(Nat.le_of_ble_eq_true rfl), (Nat.le_of_ble_eq_true rfl)⟩) ⟨pcN.blind, pl_recv hK hW hT_o.1 hS_o rfl, pcN.pre hW.1 hK hW.2.1 hN (fun q h => absurd h List.not_mem_nil)⟩ rfl rfl hl.1 rfl (lv_room (Nat.le_of_ble_eq_true rfl)) dX12_takeRing_167 ⟨(Nat.le_of_ble_eq_true rfl), (Nat.le_of_ble_eq_true rfl)⟩)) (fun r_82 hr_82 => ?_)
                            refine lv_if_ne (tgt := 179) hx hb dX12_takeRing_170 (by decide) (fun c_170 => ?_) (fun c_170 => ?_)
                            · refine lv_iinc (v := pd j_53) (lv' := [(5, .int (pd j_53)), (4, .int z_81), (6, .int r_73), (3, .int (nI i)), (2, .int r_47), (0, .ref o), (1, .int (nI k_36))]) hx hb dX12_takeRing_179 hl (k := 2) rfl (pd_dec _) (by decide) rfl (fun ls hl => ?_)
                              refine lv_goto (tgt := 64) hx hb dX12_takeRing_182 (by decide) ?_
                              exact ih64 j_53 z_81 f_80 mm _ _ _ ls (by omega) hRs2 hdg_ h0_ (by omega) (by omega) hTy hFr hFl64 hW (lv_sub hl [0, 1, 3, 4, 5, 6] rfl)
                            · refine lv_aload_n hx hb dX12_takeRing_173 rfl (lv_at hl 5 rfl) ?_
                              refine lv_iload hx hb dX12_takeRing_174 (lv_at hl 2 rfl) ?_
                              refine pl_callv (va_runV (As := [.int (nI j_53)]) (rest := []) ⟨hx, hb, hml, hown, hT⟩ (m_goes l dC dI cy L kap pr S_79 H.size o j_53 hTy hT_o (by omega) mm (mnyi hS_o rfl hRs2 h0_) (by omega) (by omega) (by rw [fld_i hS_o rfl hRs2]; exact hdg_)) (cwV 1 hT (gV w1305 w1307 ws77 w14 w1308) rfl rfl rfl (by decide +kernel) ⟨(Nat.le_of_ble_eq_true rfl), (Nat.le_of_ble_eq_true rfl)⟩) ⟨pcN.blind, pl_recv hK hW hT_o.1 hS_o rfl, pcN.pre hW.1 hK hW.2.1 hN (fun q h => absurd h List.not_mem_nil)⟩ rfl rfl hl.1 rfl (lv_room (Nat.le_of_ble_eq_true rfl)) dX12_takeRing_176 ⟨(Nat.le_of_ble_eq_true rfl), (Nat.le_of_ble_eq_true rfl)⟩) hW hA0 hA (fun S_83 H locs hrel hW => ?_)
                              obtain ⟨hTy, hF1, hx1⟩ := hrel
                              have hFr := hFr.tr hF1 (by decide)
                              have hFl43 := hFl43.tr hF1 (by decide)
                              have hFl64 := hFl64.tr hF1 (by decide)
                              have hS_x_17 := hF1.at hT_x_17 (by decide) hS_x_17
                              have hS_x_18 := hF1.at hT_x_18 (by decide) hS_x_18
                              have hS_o := hF1.at hT_o (by decide) hS_o
                              have hS_x_3 := hF1.at hT_x_3 (by decide) hS_x_3
                              have hgo_ := hx1.2.1
                              obtain ⟨f_84, hS_x_1, hi_f_84⟩ := hTy.k50 hT_x_1
                              have h0_ : f_84 0 = nI (mm - 1) := mnye hx1.1 hS_o rfl hS_x_1
                              have hdg_ : dg f_84 := by have q := hx1.2.2; rw [fld_i hS_o rfl hS_x_1] at q; exact q
                              refine lv_iinc (v := pd j_53) (lv' := [(5, .int (pd j_53)), (4, .int z_81), (6, .int r_73), (3, .int (nI i)), (2, .int r_47), (0, .ref o), (1, .int (nI k_36))]) hx hb dX12_takeRing_179 hl (k := 2) rfl (pd_dec _) (by decide) rfl (fun ls hl => ?_)
                              refine lv_goto (tgt := 64) hx hb dX12_takeRing_182 (by decide) ?_
                              exact ih64 j_53 z_81 f_84 (mm - 1) _ _ _ ls (by omega) hS_x_1 hdg_ h0_ (by omega) (by omega) hTy hFr hFl64 hW (lv_sub hl [0, 1, 3, 4, 5, 6] rfl)
                        · have c_106 : ¬ ((8 * k_56 + k_58) = (cpl f_43 n_42 i)) := fun hh9 => c_106 ((nI_eq (a := 8 * k_56 + k_58) (b := cpl f_43 n_42 i) (by omega) (by omega)).mpr hh9)
                          refine lv_goto (tgt := 179) hx hb dX12_takeRing_109 (by decide) ?_
                          refine lv_iinc (v := pd j_53) (lv' := [(5, .int (pd j_53)), (4, .int lf), (3, .int (nI i)), (2, .int r_47), (0, .ref o), (1, .int (nI k_36))]) hx hb dX12_takeRing_179 hl (k := 0) rfl (pd_dec _) (by decide) rfl (fun ls hl => ?_)
                          refine lv_goto (tgt := 64) hx hb dX12_takeRing_182 (by decide) ?_
                          exact ih64 j_53 lf gs2 mm _ _ _ ls (by omega) hRs2 hdg_ h0_ (by omega) (by omega) hTy hFr hFl64 hW (lv_sub hl [0, 1, 2, 3, 4, 5] rfl)
              exact loop ((k_50) + 1) k_50 r_47 gs k_50 _ _ _ ls (Nat.lt_succ_self _) hRs hdg_ ey_49.symm (by omega) (by omega) hTy hFr Fr.rf hW (lv_sub hl [0, 1, 2, 3, 4, 5] rfl)
        exact loop ((9 - 0) + 1) 0 f_32 _ _ _ ls (Nat.lt_succ_self _) (by omega) hS_x_1 hdg_ hTy hFr Fr.rf hW (lv_sub hl [0, 1, 2, 3] rfl)
      · have c_26 : n_42 = 0 := (nI_eq (a := n_42) (b := 0) (by omega) (by omega)).mp c_26
        refine lv_bipush (v := (-5)) hx hb dX12_takeRing_29 (by decide) ?_
        exact W.iret (v := (-5)) hx hb hr (fun t ht h9 => ⟨⟨(-5), S_40, rfl, ⟨hTy, hFr, ⟨(by rw [fld_i hS_o rfl hS_x_1]; exact hdg_), (by rw [fld_i hS_o rfl hS_x_3]; exact hda_)⟩⟩, by rw [ht]; exact hW.1, va_K.moved h9.alike hK, hW.2.1⟩, hW.2.2.F ht⟩) hW.2.2.2.2 dX12_takeRing_31

set_option maxHeartbeats 4000000 in
set_option maxRecDepth 100000 in
theorem m_couplesNow (l : Launch) (dC : Nat → ClassId) (dI : Nat → Nat → Nat) (cy : Nat → ClassId) (L : List Nat) (kap : Nat → Nat) (pr : Pr) (S : Nat → va_E) (sz : Nat) (o : Nat) (hTy : Ty cy L kap pr S) (hT_o : TK L kap o 12) : Met l yX12_couplesNow (wT yX12_couplesNow cX12_couplesNow 3 (some .int)) ({ frames := 0, cells := 0, slots := 0, locals := 0 }) (pcN dC dI [.ref o] sz (va_pl L S) (cyT cy) NLs []) (vp_Si (fun r => ∃ c, c ≤ 64 ∧ r = nI c ∧ c = cnt (psB (fld S o 22)) 64)) 0 0 (fun _ => False) := by
  refine Met.ofW (cc := cX12_couplesNow) (maxL := 3) (ret := (some .int)) (by decide) rfl ?_
  intro p e s m args below meth c s₁ B hml hv
  obtain ⟨rfl, hsz, hP, hK, hD0, hN, -⟩ := hv
  have hx := B.exec
  have hb := B.bytes
  have hr := B.returns
  have hT : ∀ wd ∈ TB, wd.before [.ref o].toArray s = true := fun wd h => atoms_spec (ws := wT yX12_couplesNow cX12_couplesNow 3 (some .int)) B.pre wd (List.mem_cons_of_mem _ h)
  have hown : s.vm.findClass RX12 = some m.cls := findClass_of_methodNamed B.named
  have hlocks := B.notSynchronized
  subst hsz
  have hW : PW dC dI L (AL L s.heap.size) s.heap S s.heap [] := ⟨hP, pl_self hD0, va_S.rf⟩
  have hFr : Fr kap [] S S := Fr.rf
  have hl := lv_entry ([.ref o]) (n := 3) (Nat.le_of_ble_eq_true rfl)
  rw [lg_entry_eq]
  generalize (lg_sl ([.ref o]) ++ List.replicate (3 - (lg_sl ([.ref o])).length) Slot.unset).toArray = ls at hl ⊢
  have hl : lv_has ls 3 [(0, .ref o)] := hl
  obtain ⟨x_1, x_2, x_3, x_4, x_5, x_6, x_7, x_8, x_9, x_10, x_11, x_12, x_13, x_14, x_15, x_16, x_17, x_18, x_19, x_20, x_21, x_22, x_23, x_24, x_25, x_26, x_27, x_28, x_29, x_30, x_31, hS_o, hT_x_1, hT_x_2, hT_x_3, hT_x_4, hT_x_5, hb_x_6, hb_x_7, hb_x_8, hT_x_10, hb_q2, hb_x_11, hb_x_12, hT_x_17, hT_x_18, hb_x_19, hT_x_20, hT_x_21, hT_x_22, hT_x_23, hT_x_24, hT_x_25, hT_x_26, hT_x_27, hT_x_28, hT_x_29, hT_x_30, hb_x_31⟩ := hTy.k12 hT_o
  have hb_q2 : pr.2 ≤ 900 := hb_q2
  have hS_o : S o = .inr (12, [.ref x_1, .ref x_2, .ref x_3, .ref x_4, .ref x_5, .int (nI x_6), .int (nI x_7), .int (nI x_8), .int x_9, .ref x_10, .int (nI (pr.2)), .int (nI x_11), .int (nI x_12), .int x_13, .int x_14, .int x_15, .int x_16, .ref x_17, .ref x_18, .int (nI x_19), .ref x_20, .ref x_21, .ref x_22, .ref x_23, .ref x_24, .ref x_25, .ref x_26, .ref x_27, .ref x_28, .ref x_29, .ref x_30, .int (nI x_31)]) := hS_o
  obtain ⟨f_32, hS_x_22⟩ := hTy.k60 hT_x_22
  have h22_ : fld S o 22 = f_32 := fld_i hS_o rfl hS_x_22
  refine lv_iconst (v := 0) hx hb dX12_couplesNow_0 (by decide) ?_
  refine lv_istore_n (lv' := [(1, .int 0), (0, .ref o)]) hx hb dX12_couplesNow_1 rfl hl (by decide) rfl (fun ls hl => ?_)
  refine lv_iconst (v := 0) hx hb dX12_couplesNow_2 (by decide) ?_
  refine lv_istore_n (lv' := [(2, .int 0), (1, .int 0), (0, .ref o)]) hx hb dX12_couplesNow_3 rfl hl (by decide) rfl (fun ls hl => ?_)
  have loop : ∀ (fuel : Nat) (i : Nat) (sm : Nat) (ls : Array Slot), 65 - i < fuel → (i ≤ 64) → (sm = cnt (psB f_32) i) → (sm ≤ i) → lv_has ls 3 [(2, .int (nI i)), (1, .int (nI sm)), (0, .ref o)] → W p l e (headSpec (wT yX12_couplesNow cX12_couplesNow 3 (some .int)) { frames := 0, cells := 0, slots := 0, locals := 0 }).room s m [.ref o].toArray below meth c s.heap [] 0 0 (MQ below (vp_Si (fun r => ∃ c, c ≤ 64 ∧ r = nI c ∧ c = cnt (psB (fld S o 22)) 64)) [.ref o].toArray s 0 0 (fun _ => False)) (F0 m 4 ls []) := by
    intro fuel
    induction fuel with
    | zero => intro i sm ls h; exact absurd h (Nat.not_lt_zero _)
    | succ fu4 ih4 =>
      intro i sm ls hm4 hb_i hsm hsl hl
      refine lv_iload_n hx hb dX12_couplesNow_4 rfl (lv_at hl 0 rfl) ?_
      refine lv_bipush (v := 64) hx hb dX12_couplesNow_5 (by decide) ?_
      refine lv_icmp_ge (tgt := 33) hx hb dX12_couplesNow_7 (by decide) (fun c_7 => ?_) (fun c_7 => ?_)
      · have c_7 : 64 ≤ i := (nI_leI (a := 64) (b := i) (by omega) (by omega)).mp c_7
        refine lv_iload_n hx hb dX12_couplesNow_33 rfl (lv_at hl 1 rfl) ?_
        exact W.iret (v := nI sm) hx hb hr (fun t ht h9 => ⟨nI sm, rfl, ⟨sm, by omega, rfl, by rw [h22_, show 64 = i from by omega]; exact hsm⟩, ht⟩) (fun q h => by cases h) dX12_couplesNow_34
      · have c_7 : ¬ (64 ≤ i) := fun hh9 => c_7 ((nI_leI (a := 64) (b := i) (by omega) (by omega)).mpr hh9)
        refine lv_iload_n hx hb dX12_couplesNow_10 rfl (lv_at hl 1 rfl) ?_
        refine lv_aload_n hx hb dX12_couplesNow_11 rfl (lv_at hl 2 rfl) ?_
        refine pl_get (ci := 12) (v := .ref x_22) (C := RX12) (T := TX12) (N := 32) hx hb hT iX12 hown hK hW hT_o.1 hS_o rfl 22 (by decide) w1104 rfl dX12_couplesNow_12 ?_
        refine lv_iload_n hx hb dX12_couplesNow_15 rfl (lv_at hl 0 rfl) ?_
        refine pl_iald hx hb hK hW hT_x_22.1 hS_x_22 (vp_in_nI (n := i) (N := 64) (by omega) (by omega)) dX12_couplesNow_16 ?_
        refine lv_topi (fun y_33 ey_33 => ?_)
        refine lv_if_le (tgt := 24) hx hb dX12_couplesNow_17 (by decide) (fun c_17 => ?_) (fun c_17 => ?_)
        · refine lv_iconst (v := 0) hx hb dX12_couplesNow_24 (by decide) ?_
          refine lv_iadd hx hb dX12_couplesNow_25 ?_
          refine lv_topi (fun z_34 ez_34 => ?_)
          obtain rfl : z_34 = nI (sm + 0) := ez_34.trans (nI_add (sm) (0))
          refine lv_istore_n (lv' := [(1, .int (nI (sm + 0))), (2, .int (nI i)), (0, .ref o)]) hx hb dX12_couplesNow_26 rfl hl (by decide) rfl (fun ls hl => ?_)
          refine lv_iinc (v := nI (i + 1)) (lv' := [(2, .int (nI (i + 1))), (1, .int (nI (sm + 0))), (0, .ref o)]) hx hb dX12_couplesNow_27 hl (k := 1) rfl (nI_add (i) 1) (by decide) rfl (fun ls hl => ?_)
          refine lv_goto (tgt := 4) hx hb dX12_couplesNow_30 (by decide) ?_
          exact ih4 (i + 1) (sm + 0) ls (by omega) (by omega) (cnt_F hsm (fun z => absurd (of_decide_eq_true z) (by have q := iposn c_17; rw [ey_33, nI_clamp (by omega)] at q; exact q))) (by omega) (lv_sub hl [0, 1, 2] rfl)
        · refine lv_iconst (v := 1) hx hb dX12_couplesNow_20 (by decide) ?_
          refine lv_goto (tgt := 25) hx hb dX12_couplesNow_21 (by decide) ?_
          refine lv_iadd hx hb dX12_couplesNow_25 ?_
          refine lv_topi (fun z_35 ez_35 => ?_)
          obtain rfl : z_35 = nI (sm + 1) := ez_35.trans (nI_add (sm) (1))
          refine lv_istore_n (lv' := [(1, .int (nI (sm + 1))), (2, .int (nI i)), (0, .ref o)]) hx hb dX12_couplesNow_26 rfl hl (by decide) rfl (fun ls hl => ?_)
          refine lv_iinc (v := nI (i + 1)) (lv' := [(2, .int (nI (i + 1))), (1, .int (nI (sm + 1))), (0, .ref o)]) hx hb dX12_couplesNow_27 hl (k := 1) rfl (nI_add (i) 1) (by decide) rfl (fun ls hl => ?_)
          refine lv_goto (tgt := 4) hx hb dX12_couplesNow_30 (by decide) ?_
          exact ih4 (i + 1) (sm + 1) ls (by omega) (by omega) (cnt_T hsm (decide_eq_true (by have q := ipos c_17; rw [ey_33, nI_clamp (by omega)] at q; exact q))) (by omega) (lv_sub hl [0, 1, 2] rfl)
  exact loop ((65 - 0) + 1) 0 0 ls (Nat.lt_succ_self _) (by omega) rfl (by omega) (lv_sub hl [0, 1, 2] rfl)

set_option maxHeartbeats 4000000 in
set_option maxRecDepth 100000 in
theorem m_press (l : Launch) (dC : Nat → ClassId) (dI : Nat → Nat → Nat) (cy : Nat → ClassId) (L : List Nat) (kap : Nat → Nat) (pr : Pr) (S : Nat → va_E) (sz : Nat) (o : Nat) (kd : Int32) (hTy : Ty cy L kap pr S) (hT_o : TK L kap o 12) (hdi : dg (fld S o 0) ∧ DGA (fld S o 2)) : Met l yX12_press (wT yX12_press cX12_press 4 (some .int)) ({ frames := 6, cells := 0, slots := 0, locals := 145 }) (pcN dC dI [.ref o, .int kd] sz (va_pl L S) (cyT cy) NLs []) (va_Qi (fun r S' => Ty cy L kap pr S' ∧ Fr kap [12, 50, 52, 56, 59, 60, 61, 62, 63, 64, 65, 66] S S' ∧ (dg (fld S' o 0) ∧ DGA (fld S' o 2))) (fun S' t => pB dC dI (AL L sz) (va_pl L S') (cyT cy) t) (AL L sz)) 0 0 (AL L sz) := by
  refine Met.ofW (cc := cX12_press) (maxL := 4) (ret := (some .int)) (by decide) rfl ?_
  intro p e s m args below meth c s₁ B hml hv
  obtain ⟨rfl, hsz, hP, hK, hD0, hN, -⟩ := hv
  have hx := B.exec
  have hb := B.bytes
  have hr := B.returns
  have hT : ∀ wd ∈ TB, wd.before [.ref o, .int kd].toArray s = true := fun wd h => atoms_spec (ws := wT yX12_press cX12_press 4 (some .int)) B.pre wd (List.mem_cons_of_mem _ h)
  have hown : s.vm.findClass RX12 = some m.cls := findClass_of_methodNamed B.named
  have hlocks := B.notSynchronized
  subst hsz
  have hW : PW dC dI L (AL L s.heap.size) s.heap S s.heap [] := ⟨hP, pl_self hD0, va_S.rf⟩
  have hA0 : ∀ q, q ∈ L → AL L s.heap.size q := fun _ h => Or.inl h
  have hA : ∀ q, s.heap.size ≤ q → AL L s.heap.size q := fun _ h => Or.inr h
  have hFr : Fr kap [12, 50, 52, 56, 59, 60, 61, 62, 63, 64, 65, 66] S S := Fr.rf
  have hl := lv_entry ([.ref o, .int kd]) (n := 4) (Nat.le_of_ble_eq_true rfl)
  rw [lg_entry_eq]
  generalize (lg_sl ([.ref o, .int kd]) ++ List.replicate (4 - (lg_sl ([.ref o, .int kd])).length) Slot.unset).toArray = ls at hl ⊢
  have hl : lv_has ls 4 [(0, .ref o), (1, .int kd)] := hl
  obtain ⟨x_1, x_2, x_3, x_4, x_5, x_6, x_7, x_8, x_9, x_10, x_11, x_12, x_13, x_14, x_15, x_16, x_17, x_18, x_19, x_20, x_21, x_22, x_23, x_24, x_25, x_26, x_27, x_28, x_29, x_30, x_31, hS_o, hT_x_1, hT_x_2, hT_x_3, hT_x_4, hT_x_5, hb_x_6, hb_x_7, hb_x_8, hT_x_10, hb_q2, hb_x_11, hb_x_12, hT_x_17, hT_x_18, hb_x_19, hT_x_20, hT_x_21, hT_x_22, hT_x_23, hT_x_24, hT_x_25, hT_x_26, hT_x_27, hT_x_28, hT_x_29, hT_x_30, hb_x_31⟩ := hTy.k12 hT_o
  have hb_q2 : pr.2 ≤ 900 := hb_q2
  have hS_o : S o = .inr (12, [.ref x_1, .ref x_2, .ref x_3, .ref x_4, .ref x_5, .int (nI x_6), .int (nI x_7), .int (nI x_8), .int x_9, .ref x_10, .int (nI (pr.2)), .int (nI x_11), .int (nI x_12), .int x_13, .int x_14, .int x_15, .int x_16, .ref x_17, .ref x_18, .int (nI x_19), .ref x_20, .ref x_21, .ref x_22, .ref x_23, .ref x_24, .ref x_25, .ref x_26, .ref x_27, .ref x_28, .ref x_29, .ref x_30, .int (nI x_31)]) := hS_o
  obtain ⟨f_32, hS_x_1, hi_f_32⟩ := hTy.k50 hT_x_1
  have hdg_ : dg f_32 := by have q := hdi.1; rw [fld_i hS_o rfl hS_x_1] at q; exact q
  obtain ⟨f_33, hS_x_3, hi_f_33⟩ := hTy.k52 hT_x_3
  have hda_ : DGA f_33 := by have q := hdi.2; rw [fld_i hS_o rfl hS_x_3] at q; exact q
  refine lv_aload_n hx hb dX12_press_0 rfl (lv_at hl 0 rfl) ?_
  refine lv_iconst (v := 0) hx hb dX12_press_1 (by decide) ?_
  refine pl_put (ci := 12) (v := .int 0) (ty := .int) (C := RX12) (T := TX12) (N := 32) (fs' := [.ref x_1, .ref x_2, .ref x_3, .ref x_4, .ref x_5, .int (nI x_6), .int (nI x_7), .int (nI x_8), .int 0, .ref x_10, .int (nI (pr.2)), .int (nI x_11), .int (nI x_12), .int x_13, .int x_14, .int x_15, .int x_16, .ref x_17, .ref x_18, .int (nI x_19), .ref x_20, .ref x_21, .ref x_22, .ref x_23, .ref x_24, .ref x_25, .ref x_26, .ref x_27, .ref x_28, .ref x_29, .ref x_30, .int (nI x_31)]) hx hb hT iX12 tyX12 tyX12_ok nmX12 hown hK hW hT_o.1 hS_o rfl 8 (by decide) w1090 rfl (by decide +kernel) rfl rfl (Nat.le_of_ble_eq_true rfl) rfl dX12_press_2 (fun H locs S_34 e1 hW => ?_)
  have hTy := hTy.u12 e1 hT_o ⟨x_1, x_2, x_3, x_4, x_5, x_6, x_7, x_8, 0, x_10, x_11, x_12, x_13, x_14, x_15, x_16, x_17, x_18, x_19, x_20, x_21, x_22, x_23, x_24, x_25, x_26, x_27, x_28, x_29, x_30, x_31, rfl, hT_x_1, hT_x_2, hT_x_3, hT_x_4, hT_x_5, (by omega), (by omega), (by omega), hT_x_10, (by show pr.2 ≤ 900; omega), (by omega), (by omega), hT_x_17, hT_x_18, (by omega), hT_x_20, hT_x_21, hT_x_22, hT_x_23, hT_x_24, hT_x_25, hT_x_26, hT_x_27, hT_x_28, hT_x_29, hT_x_30, (by omega)⟩
  have hS_x_1 := un e1 hT_x_1 hT_o (by decide) hS_x_1
  have hS_x_3 := un e1 hT_x_3 hT_o (by decide) hS_x_3
  have hws := (show wrs (.inr (12, [.ref x_1, .ref x_2, .ref x_3, .ref x_4, .ref x_5, .int (nI x_6), .int (nI x_7), .int (nI x_8), .int 0, .ref x_10, .int (nI (pr.2)), .int (nI x_11), .int (nI x_12), .int x_13, .int x_14, .int x_15, .int x_16, .ref x_17, .ref x_18, .int (nI x_19), .ref x_20, .ref x_21, .ref x_22, .ref x_23, .ref x_24, .ref x_25, .ref x_26, .ref x_27, .ref x_28, .ref x_29, .ref x_30, .int (nI x_31)])) = wrs (S o) from by rw [hS_o]; rfl)
  have hFr := ufs hFr e1 hT_o (by decide) hws
  have hS_o := us e1
  refine lv_aload_n hx hb dX12_press_5 rfl (lv_at hl 0 rfl) ?_
  refine lv_iload_n hx hb dX12_press_6 rfl (lv_at hl 1 rfl) ?_
  refine vp_callSi (va_Run.run (va_runV (As := [.int kd]) (rest := []) ⟨hx, hb, hml, hown, hT⟩ (m_isKind l dC dI cy L kap pr S_34 H.size o kd hTy hT_o) (cwV 1 hT (gV w1288 w1290 ws74 w14 w1291) rfl rfl rfl (by decide +kernel) ⟨(Nat.le_of_ble_eq_true rfl), (Nat.le_of_ble_eq_true rfl)⟩) ⟨pcN.blind, pl_recv hK hW hT_o.1 hS_o rfl, pcN.pre hW.1 hK hW.2.1 hN (fun q h => absurd h List.not_mem_nil)⟩ rfl rfl hl.1 rfl (lv_room (Nat.le_of_ble_eq_true rfl)) dX12_press_7 ⟨(Nat.le_of_ble_eq_true rfl), (Nat.le_of_ble_eq_true rfl)⟩)) (fun r_35 hr_35 => ?_)
  rcases hr_35 with hc_ | hc_
  · obtain rfl : r_35 = 0 := hc_
    refine lv_if_ne (tgt := 16) hx hb dX12_press_10 (by decide) (fun h => absurd (by decide) h) (fun _ => ?_)
    refine lv_bipush (v := (-2)) hx hb dX12_press_13 (by decide) ?_
    exact W.iret (v := (-2)) hx hb hr (fun t ht h9 => ⟨⟨(-2), S_34, rfl, ⟨hTy, hFr, ⟨(by rw [fld_i hS_o rfl hS_x_1]; exact hdg_), (by rw [fld_i hS_o rfl hS_x_3]; exact hda_)⟩⟩, by rw [ht]; exact hW.1, va_K.moved h9.alike hK, hW.2.1⟩, hW.2.2.F ht⟩) hW.2.2.2.2 dX12_press_15
  · obtain ⟨rfl, k_36, hb_k_36, rfl⟩ := hc_
    refine lv_if_ne (tgt := 16) hx hb dX12_press_10 (by decide) (fun _ => ?_) (fun h => absurd h (by decide))
    refine lv_aload_n hx hb dX12_press_16 rfl (lv_at hl 0 rfl) ?_
    refine lv_iload_n hx hb dX12_press_17 rfl (lv_at hl 1 rfl) ?_
    refine pl_calli (va_runV (As := [.int (nI k_36)]) (rest := []) ⟨hx, hb, hml, hown, hT⟩ (m_pressesFirst l dC dI cy L kap pr S_34 H.size o (nI k_36) hTy hT_o) (cwV 1 hT (gV w1491 w1493 ws101 w14 w1494) rfl rfl rfl (by decide +kernel) ⟨(Nat.le_of_ble_eq_true rfl), (Nat.le_of_ble_eq_true rfl)⟩) ⟨pcN.blind, pl_recv hK hW hT_o.1 hS_o rfl, pcN.pre hW.1 hK hW.2.1 hN (fun q h => absurd h List.not_mem_nil)⟩ rfl rfl hl.1 rfl (lv_room (Nat.le_of_ble_eq_true rfl)) dX12_press_18 ⟨(Nat.le_of_ble_eq_true rfl), (Nat.le_of_ble_eq_true rfl)⟩) hW hA0 hA (fun r_38 S_37 H locs hrel hW => ?_)
    obtain ⟨hTy, hF1, hx1⟩ := hrel
    have hFr := hFr.tr hF1 (by decide)
    have hS_o := hF1.at hT_o (by decide) hS_o
    have hS_x_1 := hF1.at hT_x_1 (by decide) hS_x_1
    have hS_x_3 := hF1.at hT_x_3 (by decide) hS_x_3
    have hdz9 := hx1
    obtain ⟨f_39, hS_x_22⟩ := hTy.k60 hT_x_22
    rw [fld_i (S := S_37) hS_o rfl hS_x_22] at hdz9
    refine lv_if_ne (tgt := 27) hx hb dX12_press_21 (by decide) (fun c_21 => ?_) (fun c_21 => ?_)
    · refine lv_aload_n hx hb dX12_press_27 rfl (lv_at hl 0 rfl) ?_
      refine vp_callSi (va_Run.run (va_runV (As := []) (rest := []) ⟨hx, hb, hml, hown, hT⟩ (m_couplesNow l dC dI cy L kap pr S_37 H.size o hTy hT_o) (cwV 0 hT (gV w1507 w1509 ws104 w14 w1510) rfl rfl rfl (by decide +kernel) ⟨(Nat.le_of_ble_eq_true rfl), (Nat.le_of_ble_eq_true rfl)⟩) ⟨pcN.blind, pl_recv hK hW hT_o.1 hS_o rfl, pcN.pre hW.1 hK hW.2.1 hN (fun q h => absurd h List.not_mem_nil)⟩ rfl rfl hl.1 rfl (lv_room (Nat.le_of_ble_eq_true rfl)) dX12_press_28 ⟨(Nat.le_of_ble_eq_true rfl), (Nat.le_of_ble_eq_true rfl)⟩)) (fun r_40 hr_40 => ?_)
      obtain ⟨cn9, hcn64, rfl, hcn9⟩ := hr_40
      rw [fld_i (S := S_37) hS_o rfl hS_x_22] at hcn9
      refine lv_istore_n (lv' := [(2, .int (nI cn9)), (0, .ref o), (1, .int (nI k_36))]) hx hb dX12_press_31 rfl hl (by decide) rfl (fun ls hl => ?_)
      refine lv_iconst (v := 0) hx hb dX12_press_32 (by decide) ?_
      refine lv_istore_n (lv' := [(3, .int 0), (2, .int (nI cn9)), (0, .ref o), (1, .int (nI k_36))]) hx hb dX12_press_33 rfl hl (by decide) rfl (fun ls hl => ?_)
      obtain ⟨mq, hmq, h0_⟩ := (hi_f_32 0 (by omega)).1 rfl
      have loop : ∀ (fuel : Nat) (i : Nat) (nn : Nat) (SS : Nat → va_E) (H : Heap) (locs : List Loc) (ls : Array Slot), 41 - i < fuel → (i ≤ 40) → (nn = cn9 + cnt (nfB f_32 (nI k_36)) i) → (nn ≤ 64 + i) → (i ≤ mq) → Ty cy L kap pr SS → Fr kap [12, 50, 52, 56, 59, 60, 61, 62, 63, 64, 65, 66] S SS → Fr kap [] S_37 SS → PW dC dI L (AL L s.heap.size) s.heap SS H locs → lv_has ls 4 [(3, .int (nI i)), (2, .int (nI nn)), (0, .ref o), (1, .int (nI k_36))] → W p l e (headSpec (wT yX12_press cX12_press 4 (some .int)) { frames := 6, cells := 0, slots := 0, locals := 145 }).room s m [.ref o, .int (nI k_36)].toArray below meth c H locs 0 0 (MQ below (va_Qi (fun r S' => Ty cy L kap pr S' ∧ Fr kap [12, 50, 52, 56, 59, 60, 61, 62, 63, 64, 65, 66] S S' ∧ (dg (fld S' o 0) ∧ DGA (fld S' o 2))) (fun S' t => pB dC dI (AL L s.heap.size) (va_pl L S') (cyT cy) t) (AL L s.heap.size)) [.ref o, .int (nI k_36)].toArray s 0 0 (AL L s.heap.size)) (F0 m 34 ls []) := by
        intro fuel
        induction fuel with
        | zero => intro i nn SS H locs ls h; exact absurd h (Nat.not_lt_zero _)
        | succ fu34 ih34 =>
          intro i nn S_41 H locs ls hm34 hb_i hnn hnb him hTy hFr hFl34 hW hl
          have hS_o := hFl34.at hT_o (by decide) hS_o
          have hS_x_1 := hFl34.at hT_x_1 (by decide) hS_x_1
          have hS_x_3 := hFl34.at hT_x_3 (by decide) hS_x_3
          have hS_x_22 := hFl34.at hT_x_22 (by decide) hS_x_22
          refine lv_iload_n hx hb dX12_press_34 rfl (lv_at hl 0 rfl) ?_
          refine lv_aload_n hx hb dX12_press_35 rfl (lv_at hl 2 rfl) ?_
          refine pl_get (ci := 12) (v := .ref x_1) (C := RX12) (T := TX12) (N := 32) hx hb hT iX12 hown hK hW hT_o.1 hS_o rfl 0 (by decide) w1082 rfl dX12_press_36 ?_
          refine lv_iconst (v := 0) hx hb dX12_press_39 (by decide) ?_
          refine pl_iald hx hb hK hW hT_x_1.1 hS_x_1 (vp_in_nI (n := 0) (N := 266) (by omega) (by omega)) dX12_press_40 ?_
          refine lv_topi (fun y_42 ey_42 => ?_)
          obtain rfl : y_42 = nI mq := ey_42.trans h0_
          refine lv_icmp_ge (tgt := 67) hx hb dX12_press_41 (by decide) (fun c_41 => ?_) (fun c_41 => ?_)
          · have c_41 : mq ≤ i := (nI_leI (a := mq) (b := i) (by omega) (by omega)).mp c_41
            have hi_m : i = mq := by omega
            rw [hi_m] at hnn
            refine lv_iload_n hx hb dX12_press_67 rfl (lv_at hl 1 rfl) ?_
            refine lv_bipush (v := 40) hx hb dX12_press_68 (by decide) ?_
            refine lv_icmp_le (tgt := 76) hx hb dX12_press_70 (by decide) (fun c_70 => ?_) (fun c_70 => ?_)
            · have c_70 : nn ≤ 40 := (nI_leI (a := nn) (b := 40) (by omega) (by omega)).mp c_70
              refine lv_aload_n hx hb dX12_press_76 rfl (lv_at hl 2 rfl) ?_
              refine pl_callv (va_runV (As := []) (rest := []) ⟨hx, hb, hml, hown, hT⟩ (m_remembers2 l dC dI cy L kap pr S_41 H.size o hTy hT_o (by rw [fld_i hS_o rfl hS_x_1]; exact hdg_) (by rw [fld_i hS_o rfl hS_x_3]; exact hda_)) (cwV 0 hT (gV w1293 w1295 ws75 w14 w1296) rfl rfl rfl (by decide +kernel) ⟨(Nat.le_of_ble_eq_true rfl), (Nat.le_of_ble_eq_true rfl)⟩) ⟨pcN.blind, pl_recv hK hW hT_o.1 hS_o rfl, pcN.pre hW.1 hK hW.2.1 hN (fun q h => absurd h List.not_mem_nil)⟩ rfl rfl hl.1 rfl (lv_room (Nat.le_of_ble_eq_true rfl)) dX12_press_77 ⟨(Nat.le_of_ble_eq_true rfl), (Nat.le_of_ble_eq_true rfl)⟩) hW hA0 hA (fun S_43 H locs hrel hW => ?_)
              obtain ⟨hTy, hF1, hx1⟩ := hrel
              have hFr := hFr.tr hF1 (by decide)
              have hS_x_1 := hF1.at hT_x_1 (by decide) hS_x_1
              have hS_x_22 := hF1.at hT_x_22 (by decide) hS_x_22
              obtain ⟨⟨n_44, hb_n_44, ho7_⟩, hda_⟩ := hx1
              have hS_o : S_43 o = .inr (12, [.ref x_1, .ref x_2, .ref x_3, .ref x_4, .ref x_5, .int (nI x_6), .int (nI x_7), .int (nI n_44), .int 0, .ref x_10, .int (nI (pr.2)), .int (nI x_11), .int (nI x_12), .int x_13, .int x_14, .int x_15, .int x_16, .ref x_17, .ref x_18, .int (nI x_19), .ref x_20, .ref x_21, .ref x_22, .ref x_23, .ref x_24, .ref x_25, .ref x_26, .ref x_27, .ref x_28, .ref x_29, .ref x_30, .int (nI x_31)]) := ho7_ _ hS_o
              obtain ⟨f_45, hS_x_3, hi_f_45⟩ := hTy.k52 hT_x_3
              have hda_ : DGA f_45 := by have q := hda_; rw [fld_i hS_o rfl hS_x_3] at q; exact q
              refine lv_aload_n hx hb dX12_press_80 rfl (lv_at hl 2 rfl) ?_
              refine pl_get (ci := 12) (v := .ref x_1) (C := RX12) (T := TX12) (N := 32) hx hb hT iX12 hown hK hW hT_o.1 hS_o rfl 0 (by decide) w1082 rfl dX12_press_81 ?_
              refine lv_iconst (v := 0) hx hb dX12_press_84 (by decide) ?_
              refine pl_iald hx hb hK hW hT_x_1.1 hS_x_1 (vp_in_nI (n := 0) (N := 266) (by omega) (by omega)) dX12_press_85 ?_
              refine lv_topi (fun y_46 ey_46 => ?_)
              obtain rfl : y_46 = nI mq := ey_46.trans h0_
              refine lv_iconst (v := 1) hx hb dX12_press_86 (by decide) ?_
              refine lv_isub hx hb dX12_press_87 ?_
              refine lv_topi (fun z_47 ez_47 => ?_)
              obtain rfl : z_47 = pd (mq) := ez_47
              refine lv_istore_n (lv' := [(3, .int (pd mq)), (2, .int (nI nn)), (0, .ref o), (1, .int (nI k_36))]) hx hb dX12_press_88 rfl hl (by decide) rfl (fun ls hl => ?_)
              have loop : ∀ (fuel : Nat) (t1 : Nat) (gs : Nat → Int32) (mm : Nat) (SS : Nat → va_E) (H : Heap) (locs : List Loc) (ls : Array Slot), t1 < fuel → (SS x_1 = .inl (cy 0, 266, .inl gs)) → (dg gs) → (gs 0 = nI mm) → (mm ≤ 40) → (t1 ≤ mm) → (mm + cnt (nfB f_32 (nI k_36)) t1 = t1 + cnt (nfB f_32 (nI k_36)) mq) → (∀ j, 1 ≤ j → j < 2 + 5 * t1 → gs j = f_32 j) → Ty cy L kap pr SS → Fr kap [12, 50, 52, 56, 59, 60, 61, 62, 63, 64, 65, 66] S SS → Fr kap [50] S_43 SS → PW dC dI L (AL L s.heap.size) s.heap SS H locs → lv_has ls 4 [(3, .int (pd t1)), (2, .int (nI nn)), (0, .ref o), (1, .int (nI k_36))] → W p l e (headSpec (wT yX12_press cX12_press 4 (some .int)) { frames := 6, cells := 0, slots := 0, locals := 145 }).room s m [.ref o, .int (nI k_36)].toArray below meth c H locs 0 0 (MQ below (va_Qi (fun r S' => Ty cy L kap pr S' ∧ Fr kap [12, 50, 52, 56, 59, 60, 61, 62, 63, 64, 65, 66] S S' ∧ (dg (fld S' o 0) ∧ DGA (fld S' o 2))) (fun S' t => pB dC dI (AL L s.heap.size) (va_pl L S') (cyT cy) t) (AL L s.heap.size)) [.ref o, .int (nI k_36)].toArray s 0 0 (AL L s.heap.size)) (F0 m 89 ls []) := by
                intro fuel
                induction fuel with
                | zero => intro t1 gs mm SS H locs ls h; exact absurd h (Nat.not_lt_zero _)
                | succ fu89 ih89 =>
                  intro t1 gs mm S_48 H locs ls hm89 hRs hDg h0m hmm htm hsum hbel hTy hFr hFl89 hW hl
                  have hS_x_22 := hFl89.at hT_x_22 (by decide) hS_x_22
                  have hS_o := hFl89.at hT_o (by decide) hS_o
                  have hS_x_3 := hFl89.at hT_x_3 (by decide) hS_x_3
                  have hi_gs := k50i hTy hT_x_1 hRs
                  have hdg_ := hDg
                  have h0_ := h0m
                  refine lv_iload_n hx hb dX12_press_89 rfl (lv_at hl 0 rfl) ?_
                  refine lv_if_lt (tgt := 113) hx hb dX12_press_90 (by decide) (fun c_90 => ?_) (fun c_90 => ?_)
                  · have c_90 : t1 = 0 := (pd_lt (by omega)).mp c_90
                    refine lv_iconst (v := 0) hx hb dX12_press_113 (by decide) ?_
                    refine lv_istore_n (lv' := [(3, .int 0), (2, .int (nI nn)), (0, .ref o), (1, .int (nI k_36))]) hx hb dX12_press_114 rfl hl (by decide) rfl (fun ls hl => ?_)
                    have hz0 : t1 = 0 := by omega
                    have hs0 : mm + cn9 ≤ 40 := by rw [hz0] at hsum; have q : cnt (nfB f_32 (nI k_36)) 0 = 0 := rfl; omega
                    have loop : ∀ (fuel : Nat) (k9 : Nat) (gs2 : Nat → Int32) (mn : Nat) (SS : Nat → va_E) (H : Heap) (locs : List Loc) (ls : Array Slot), 65 - k9 < fuel → (k9 ≤ 64) → (SS x_1 = .inl (cy 0, 266, .inl gs2)) → (dg gs2) → (gs2 0 = nI mn) → (mn ≤ 40) → (mn + cn9 ≤ 40 + cnt (psB f_39) k9) → Ty cy L kap pr SS → Fr kap [12, 50, 52, 56, 59, 60, 61, 62, 63, 64, 65, 66] S SS → Fr kap [50] S_48 SS → PW dC dI L (AL L s.heap.size) s.heap SS H locs → lv_has ls 4 [(3, .int (nI k9)), (2, .int (nI nn)), (0, .ref o), (1, .int (nI k_36))] → W p l e (headSpec (wT yX12_press cX12_press 4 (some .int)) { frames := 6, cells := 0, slots := 0, locals := 145 }).room s m [.ref o, .int (nI k_36)].toArray below meth c H locs 0 0 (MQ below (va_Qi (fun r S' => Ty cy L kap pr S' ∧ Fr kap [12, 50, 52, 56, 59, 60, 61, 62, 63, 64, 65, 66] S S' ∧ (dg (fld S' o 0) ∧ DGA (fld S' o 2))) (fun S' t => pB dC dI (AL L s.heap.size) (va_pl L S') (cyT cy) t) (AL L s.heap.size)) [.ref o, .int (nI k_36)].toArray s 0 0 (AL L s.heap.size)) (F0 m 115 ls []) := by
                      intro fuel
                      induction fuel with
                      | zero => intro k9 gs2 mn SS H locs ls h; exact absurd h (Nat.not_lt_zero _)
                      | succ fu115 ih115 =>
                        intro k9 gs2 mn S_50 H locs ls hm115 hb_k9 hRs2 hDg2 h0n hmn hms hTy hFr hFl115 hW hl
                        have hS_x_22 := hFl115.at hT_x_22 (by decide) hS_x_22
                        have hS_o := hFl115.at hT_o (by decide) hS_o
                        have hS_x_3 := hFl115.at hT_x_3 (by decide) hS_x_3
                        have hFl89 := hFl89.tr hFl115 (by decide)
                        have hi_gs2 := k50i hTy hT_x_1 hRs2
                        have hdg_ := hDg2
                        have h0_ := h0n
                        refine lv_iload_n hx hb dX12_press_115 rfl (lv_at hl 0 rfl) ?_
                        refine lv_bipush (v := 64) hx hb dX12_press_116 (by decide) ?_
                        refine lv_icmp_ge (tgt := 155) hx hb dX12_press_118 (by decide) (fun c_118 => ?_) (fun c_118 => ?_)
                        · have c_118 : 64 ≤ k9 := (nI_leI (a := 64) (b := k9) (by omega) (by omega)).mp c_118
                          refine lv_aload_n hx hb dX12_press_155 rfl (lv_at hl 2 rfl) ?_
                          refine pl_get (ci := 12) (v := .ref x_1) (C := RX12) (T := TX12) (N := 32) hx hb hT iX12 hown hK hW hT_o.1 hS_o rfl 0 (by decide) w1082 rfl dX12_press_156 ?_
                          refine lv_iconst (v := 0) hx hb dX12_press_159 (by decide) ?_
                          refine pl_iald hx hb hK hW hT_x_1.1 hRs2 (vp_in_nI (n := 0) (N := 266) (by omega) (by omega)) dX12_press_160 ?_
                          refine lv_topi (fun y_51 ey_51 => ?_)
                          obtain rfl : y_51 = nI mn := ey_51.trans h0_
                          exact W.iret (v := nI mn) hx hb hr (fun t ht h9 => ⟨⟨nI mn, S_50, rfl, ⟨hTy, hFr, ⟨(by rw [fld_i hS_o rfl hRs2]; exact hdg_), (by rw [fld_i hS_o rfl hS_x_3]; exact hda_)⟩⟩, by rw [ht]; exact hW.1, va_K.moved h9.alike hK, hW.2.1⟩, hW.2.2.F ht⟩) hW.2.2.2.2 dX12_press_161
                        · have c_118 : ¬ (64 ≤ k9) := fun hh9 => c_118 ((nI_leI (a := 64) (b := k9) (by omega) (by omega)).mpr hh9)
                          refine lv_aload_n hx hb dX12_press_121 rfl (lv_at hl 2 rfl) ?_
                          refine pl_get (ci := 12) (v := .ref x_22) (C := RX12) (T := TX12) (N := 32) hx hb hT iX12 hown hK hW hT_o.1 hS_o rfl 22 (by decide) w1104 rfl dX12_press_122 ?_
                          refine lv_iload_n hx hb dX12_press_125 rfl (lv_at hl 0 rfl) ?_
                          refine pl_iald hx hb hK hW hT_x_22.1 hS_x_22 (vp_in_nI (n := k9) (N := 64) (by omega) (by omega)) dX12_press_126 ?_
                          refine lv_topi (fun y_52 ey_52 => ?_)
                          refine lv_if_le (tgt := 149) hx hb dX12_press_127 (by decide) (fun c_127 => ?_) (fun c_127 => ?_)
                          · refine lv_iinc (v := nI (k9 + 1)) (lv' := [(3, .int (nI (k9 + 1))), (2, .int (nI nn)), (0, .ref o), (1, .int (nI k_36))]) hx hb dX12_press_149 hl (k := 0) rfl (nI_add (k9) 1) (by decide) rfl (fun ls hl => ?_)
                            refine lv_goto (tgt := 115) hx hb dX12_press_152 (by decide) ?_
                            exact ih115 (k9 + 1) gs2 mn _ _ _ ls (by omega) (by omega) hRs2 hdg_ h0_ (by omega) (by have q := cnt_F (P := psB f_39) (n := k9) rfl (fun z => absurd (of_decide_eq_true z) (by have q := iposn c_127; rw [ey_52, nI_clamp (by omega)] at q; exact q)); omega) hTy hFr hFl115 hW (lv_sub hl [0, 1, 2, 3] rfl)
                          · have hpos_ : 0 < f_39 k9 := by have q := ipos c_127; rw [ey_52, nI_clamp (by omega)] at q; exact q
                            have hcT_ := cnt_T (P := psB f_39) (n := k9) rfl (decide_eq_true hpos_)
                            have hcL_ := cnt_to (P := psB f_39) (m := k9 + 1) 64 (by omega)
                            have hab_ : k9 / 8 ≠ k9 % 8 := fun e_ => by have q := hdz9 (k9 / 8) (by omega); rw [show 8 * (k9 / 8) + k9 / 8 = k9 from by omega] at q; rw [q] at hpos_; exact absurd hpos_ (by decide)
                            refine lv_aload_n hx hb dX12_press_130 rfl (lv_at hl 2 rfl) ?_
                            refine lv_iload_n hx hb dX12_press_131 rfl (lv_at hl 0 rfl) ?_
                            refine lv_bipush (v := 8) hx hb dX12_press_132 (by decide) ?_
                            refine lv_idiv hx hb dX12_press_134 (nI_ne0 (n := 8) (by omega) (by omega)) ?_
                            refine lv_topi (fun z_53 ez_53 => ?_)
                            obtain rfl : z_53 = nI (k9 / 8) := ez_53.trans (pk_div (a := k9) (d := 8) (by omega) (by omega) (by omega))
                            refine lv_iload_n hx hb dX12_press_135 rfl (lv_at hl 0 rfl) ?_
                            refine lv_bipush (v := 8) hx hb dX12_press_136 (by decide) ?_
                            refine lv_irem hx hb dX12_press_138 (nI_ne0 (n := 8) (by omega) (by omega)) ?_
                            refine lv_topi (fun z_54 ez_54 => ?_)
                            obtain rfl : z_54 = nI (k9 % 8) := ez_54.trans (pk_rem (a := k9) (d := 8) (by omega) (by omega) (by omega))
                            refine lv_aload_n hx hb dX12_press_139 rfl (lv_at hl 2 rfl) ?_
                            refine pl_get (ci := 12) (v := .ref x_22) (C := RX12) (T := TX12) (N := 32) hx hb hT iX12 hown hK hW hT_o.1 hS_o rfl 22 (by decide) w1104 rfl dX12_press_140 ?_
                            refine lv_iload_n hx hb dX12_press_143 rfl (lv_at hl 0 rfl) ?_
                            refine pl_iald hx hb hK hW hT_x_22.1 hS_x_22 (vp_in_nI (n := k9) (N := 64) (by omega) (by omega)) dX12_press_144 ?_
                            refine lv_topi (fun y_55 ey_55 => ?_)
                            refine lv_iload_n hx hb dX12_press_145 rfl (lv_at hl 3 rfl) ?_
                            refine pl_callv (va_runV (As := [.int (nI (k9 / 8)), .int (nI (k9 % 8)), .int y_55, .int (nI k_36)]) (rest := []) ⟨hx, hb, hml, hown, hT⟩ (m_adds l dC dI cy L kap pr S_50 H.size o (k9 / 8) (k9 % 8) y_55 k_36 hTy hT_o (by omega) (by omega) (by omega) mn (mnyi hS_o rfl hRs2 h0_) (by omega) (by rw [fld_i hS_o rfl hRs2]; exact hdg_) hab_) (cwV 4 hT (gV w1268 w1270 ws71 w14 w1271) rfl rfl rfl (by decide +kernel) ⟨(Nat.le_of_ble_eq_true rfl), (Nat.le_of_ble_eq_true rfl)⟩) ⟨pcN.blind, pl_recv hK hW hT_o.1 hS_o rfl, pcN.pre hW.1 hK hW.2.1 hN (fun q h => absurd h List.not_mem_nil)⟩ rfl rfl hl.1 rfl (lv_room (Nat.le_of_ble_eq_true rfl)) dX12_press_146 ⟨(Nat.le_of_ble_eq_true rfl), (Nat.le_of_ble_eq_true rfl)⟩) hW hA0 hA (fun S_56 H locs hrel hW => ?_)
                            obtain ⟨hTy, hF1, hx1⟩ := hrel
                            have hFr := hFr.tr hF1 (by decide)
                            have hFl89 := hFl89.tr hF1 (by decide)
                            have hFl115 := hFl115.tr hF1 (by decide)
                            have hS_x_22 := hF1.at hT_x_22 (by decide) hS_x_22
                            have hS_o := hF1.at hT_o (by decide) hS_o
                            have hS_x_3 := hF1.at hT_x_3 (by decide) hS_x_3
                            obtain ⟨f_57, hS_x_1, hi_f_57⟩ := hTy.k50 hT_x_1
                            have h0_ : f_57 0 = nI (mn + 1) := mnye hx1.1 hS_o rfl hS_x_1
                            have hdg_ : dg f_57 := by have q := hx1.2; rw [fld_i hS_o rfl hS_x_1] at q; exact q
                            refine lv_iinc (v := nI (k9 + 1)) (lv' := [(3, .int (nI (k9 + 1))), (2, .int (nI nn)), (0, .ref o), (1, .int (nI k_36))]) hx hb dX12_press_149 hl (k := 0) rfl (nI_add (k9) 1) (by decide) rfl (fun ls hl => ?_)
                            refine lv_goto (tgt := 115) hx hb dX12_press_152 (by decide) ?_
                            exact ih115 (k9 + 1) f_57 (mn + 1) _ _ _ ls (by omega) (by omega) hS_x_1 hdg_ h0_ (by omega) (by omega) hTy hFr hFl115 hW (lv_sub hl [0, 1, 2, 3] rfl)
                    exact loop ((65 - 0) + 1) 0 gs mm _ _ _ ls (Nat.lt_succ_self _) (by omega) hRs hdg_ h0_ (by omega) hs0 hTy hFr Fr.rf hW (lv_sub hl [0, 1, 2, 3] rfl)
                  · have c_90 : 0 < t1 := pd_p (by omega) c_90
                    obtain ⟨j_49, rfl⟩ : ∃ w9, t1 = w9 + 1 := ⟨t1 - 1, by omega⟩
                    rw [pd_s] at hl
                    refine lv_aload_n hx hb dX12_press_93 rfl (lv_at hl 2 rfl) ?_
                    refine lv_iload_n hx hb dX12_press_94 rfl (lv_at hl 0 rfl) ?_
                    refine lv_iload_n hx hb dX12_press_95 rfl (lv_at hl 3 rfl) ?_
                    refine vp_callSi (va_Run.run (va_runV (As := [.int (nI j_49), .int (nI k_36)]) (rest := []) ⟨hx, hb, hml, hown, hT⟩ (m_isFree l dC dI cy L kap pr S_48 H.size o j_49 (nI k_36) hTy hT_o (by omega)) (cwV 2 hT (gV w1340 w1342 ws79 w14 w1343) rfl rfl rfl (by decide +kernel) ⟨(Nat.le_of_ble_eq_true rfl), (Nat.le_of_ble_eq_true rfl)⟩) ⟨pcN.blind, pl_recv hK hW hT_o.1 hS_o rfl, pcN.pre hW.1 hK hW.2.1 hN (fun q h => absurd h List.not_mem_nil)⟩ rfl rfl hl.1 rfl (lv_room (Nat.le_of_ble_eq_true rfl)) dX12_press_96 ⟨(Nat.le_of_ble_eq_true rfl), (Nat.le_of_ble_eq_true rfl)⟩)) (fun r_58 hr_58 => ?_)
                    have hfr_ := hr_58
                    rw [show af (S_48 (rf (S_48 o) 0)) = gs from fld_i (S := S_48) hS_o rfl hRs] at hfr_
                    refine lv_if_eq (tgt := 107) hx hb dX12_press_99 (by decide) (fun c_99 => ?_) (fun c_99 => ?_)
                    · have hfr_n := (hfr_.resolve_left (fun z => by rw [z.1] at c_99; exact absurd c_99 (by decide))).2
                      refine lv_iinc (v := pd j_49) (lv' := [(3, .int (pd j_49)), (2, .int (nI nn)), (0, .ref o), (1, .int (nI k_36))]) hx hb dX12_press_107 hl (k := 0) rfl (pd_dec _) (by decide) rfl (fun ls hl => ?_)
                      refine lv_goto (tgt := 89) hx hb dX12_press_110 (by decide) ?_
                      exact ih89 j_49 gs mm _ _ _ ls (by omega) hRs hdg_ h0_ (by omega) (by omega) (by have q := cnt_T (P := nfB f_32 (nI k_36)) (n := j_49) rfl (nfB_t (fun z => hfr_n ((fre_c hbel (by omega)).mpr z))); omega) (fun j h1 h2 => hbel j h1 (by omega)) hTy hFr hFl89 hW (lv_sub hl [0, 1, 2, 3] rfl)
                    · have hfr_p := (hfr_.resolve_right (fun z => c_99 z.1)).2
                      have h0go_ : fld S_48 o 0 = gs := fld_i hS_o rfl hRs
                      refine lv_aload_n hx hb dX12_press_102 rfl (lv_at hl 2 rfl) ?_
                      refine lv_iload_n hx hb dX12_press_103 rfl (lv_at hl 0 rfl) ?_
                      refine pl_callv (va_runV (As := [.int (nI j_49)]) (rest := []) ⟨hx, hb, hml, hown, hT⟩ (m_goes l dC dI cy L kap pr S_48 H.size o j_49 hTy hT_o (by omega) mm (mnyi hS_o rfl hRs h0_) (by omega) (by omega) (by rw [fld_i hS_o rfl hRs]; exact hdg_)) (cwV 1 hT (gV w1305 w1307 ws77 w14 w1308) rfl rfl rfl (by decide +kernel) ⟨(Nat.le_of_ble_eq_true rfl), (Nat.le_of_ble_eq_true rfl)⟩) ⟨pcN.blind, pl_recv hK hW hT_o.1 hS_o rfl, pcN.pre hW.1 hK hW.2.1 hN (fun q h => absurd h List.not_mem_nil)⟩ rfl rfl hl.1 rfl (lv_room (Nat.le_of_ble_eq_true rfl)) dX12_press_104 ⟨(Nat.le_of_ble_eq_true rfl), (Nat.le_of_ble_eq_true rfl)⟩) hW hA0 hA (fun S_59 H locs hrel hW => ?_)
                      obtain ⟨hTy, hF1, hx1⟩ := hrel
                      have hFr := hFr.tr hF1 (by decide)
                      have hFl89 := hFl89.tr hF1 (by decide)
                      have hS_x_22 := hF1.at hT_x_22 (by decide) hS_x_22
                      have hS_o := hF1.at hT_o (by decide) hS_o
                      have hS_x_3 := hF1.at hT_x_3 (by decide) hS_x_3
                      have hgo_ := hx1.2.1
                      obtain ⟨f_60, hS_x_1, hi_f_60⟩ := hTy.k50 hT_x_1
                      have h0_ : f_60 0 = nI (mm - 1) := mnye hx1.1 hS_o rfl hS_x_1
                      have hdg_ : dg f_60 := by have q := hx1.2.2; rw [fld_i hS_o rfl hS_x_1] at q; exact q
                      have hgo2_ : ∀ j, 1 ≤ j → j < 2 + 5 * j_49 → f_60 j = gs j := fun j h1 h2 => by have q : fld S_59 o 0 j = fld S_48 o 0 j := hgo_ j h1 h2; rw [h0go_, fld_i (S := S_59) hS_o rfl hS_x_1] at q; exact q
                      refine lv_iinc (v := pd j_49) (lv' := [(3, .int (pd j_49)), (2, .int (nI nn)), (0, .ref o), (1, .int (nI k_36))]) hx hb dX12_press_107 hl (k := 0) rfl (pd_dec _) (by decide) rfl (fun ls hl => ?_)
                      refine lv_goto (tgt := 89) hx hb dX12_press_110 (by decide) ?_
                      exact ih89 j_49 f_60 (mm - 1) _ _ _ ls (by omega) hS_x_1 hdg_ h0_ (by omega) (by omega) (by have q := cnt_F (P := nfB f_32 (nI k_36)) (n := j_49) rfl (nfB_f ((fre_c hbel (by omega)).mp hfr_p)); omega) (fun j h1 h2 => (hgo2_ j h1 (by omega)).trans (hbel j h1 (by omega))) hTy hFr hFl89 hW (lv_sub hl [0, 1, 2, 3] rfl)
              exact loop ((mq) + 1) mq f_32 mq _ _ _ ls (Nat.lt_succ_self _) hS_x_1 hdg_ h0_ (by omega) (by omega) (by omega) (fun _ _ _ => rfl) hTy hFr Fr.rf hW (lv_sub hl [0, 1, 2, 3] rfl)
            · have c_70 : ¬ (nn ≤ 40) := fun hh9 => c_70 ((nI_leI (a := nn) (b := 40) (by omega) (by omega)).mpr hh9)
              refine lv_bipush (v := (-4)) hx hb dX12_press_73 (by decide) ?_
              exact W.iret (v := (-4)) hx hb hr (fun t ht h9 => ⟨⟨(-4), S_41, rfl, ⟨hTy, hFr, ⟨(by rw [fld_i hS_o rfl hS_x_1]; exact hdg_), (by rw [fld_i hS_o rfl hS_x_3]; exact hda_)⟩⟩, by rw [ht]; exact hW.1, va_K.moved h9.alike hK, hW.2.1⟩, hW.2.2.F ht⟩) hW.2.2.2.2 dX12_press_75
          · have c_41 : ¬ (mq ≤ i) := fun hh9 => c_41 ((nI_leI (a := mq) (b := i) (by omega) (by omega)).mpr hh9)
            refine lv_iload_n hx hb dX12_press_44 rfl (lv_at hl 1 rfl) ?_
            refine lv_aload_n hx hb dX12_press_45 rfl (lv_at hl 2 rfl) ?_
            refine lv_iload_n hx hb dX12_press_46 rfl (lv_at hl 0 rfl) ?_
            refine lv_iload_n hx hb dX12_press_47 rfl (lv_at hl 3 rfl) ?_
            refine vp_callSi (va_Run.run (va_runV (As := [.int (nI i), .int (nI k_36)]) (rest := [.int (nI nn)]) ⟨hx, hb, hml, hown, hT⟩ (m_isFree l dC dI cy L kap pr S_41 H.size o i (nI k_36) hTy hT_o (by omega)) (cwV 2 hT (gV w1340 w1342 ws79 w14 w1343) rfl rfl rfl (by decide +kernel) ⟨(Nat.le_of_ble_eq_true rfl), (Nat.le_of_ble_eq_true rfl)⟩) ⟨pcN.blind, pl_recv hK hW hT_o.1 hS_o rfl, pcN.pre hW.1 hK hW.2.1 hN (fun q h => absurd h List.not_mem_nil)⟩ rfl rfl hl.1 rfl (lv_room (Nat.le_of_ble_eq_true rfl)) dX12_press_48 ⟨(Nat.le_of_ble_eq_true rfl), (Nat.le_of_ble_eq_true rfl)⟩)) (fun r_61 hr_61 => ?_)
            have hfr_ := hr_61
            rw [show af (S_41 (rf (S_41 o) 0)) = f_32 from fld_i (S := S_41) hS_o rfl hS_x_1] at hfr_
            refine lv_if_eq (tgt := 58) hx hb dX12_press_51 (by decide) (fun c_51 => ?_) (fun c_51 => ?_)
            · have hnf_ := (hfr_.resolve_left (fun z => by rw [z.1] at c_51; exact absurd c_51 (by decide))).2
              refine lv_iconst (v := 1) hx hb dX12_press_58 (by decide) ?_
              refine lv_iadd hx hb dX12_press_59 ?_
              refine lv_topi (fun z_62 ez_62 => ?_)
              obtain rfl : z_62 = nI (nn + 1) := ez_62.trans (nI_add (nn) (1))
              refine lv_istore_n (lv' := [(2, .int (nI (nn + 1))), (3, .int (nI i)), (0, .ref o), (1, .int (nI k_36))]) hx hb dX12_press_60 rfl hl (by decide) rfl (fun ls hl => ?_)
              refine lv_iinc (v := nI (i + 1)) (lv' := [(3, .int (nI (i + 1))), (2, .int (nI (nn + 1))), (0, .ref o), (1, .int (nI k_36))]) hx hb dX12_press_61 hl (k := 1) rfl (nI_add (i) 1) (by decide) rfl (fun ls hl => ?_)
              refine lv_goto (tgt := 34) hx hb dX12_press_64 (by decide) ?_
              exact ih34 (i + 1) (nn + 1) _ _ _ ls (by omega) (by omega) (by have q := cnt_T (P := nfB f_32 (nI k_36)) (n := i) rfl (nfB_t hnf_); omega) (by omega) (by omega) hTy hFr hFl34 hW (lv_sub hl [0, 1, 2, 3] rfl)
            · have hfr_ := (hfr_.resolve_right (fun z => c_51 z.1)).2
              refine lv_iconst (v := 0) hx hb dX12_press_54 (by decide) ?_
              refine lv_goto (tgt := 59) hx hb dX12_press_55 (by decide) ?_
              refine lv_iadd hx hb dX12_press_59 ?_
              refine lv_topi (fun z_63 ez_63 => ?_)
              obtain rfl : z_63 = nI (nn + 0) := ez_63.trans (nI_add (nn) (0))
              refine lv_istore_n (lv' := [(2, .int (nI (nn + 0))), (3, .int (nI i)), (0, .ref o), (1, .int (nI k_36))]) hx hb dX12_press_60 rfl hl (by decide) rfl (fun ls hl => ?_)
              refine lv_iinc (v := nI (i + 1)) (lv' := [(3, .int (nI (i + 1))), (2, .int (nI (nn + 0))), (0, .ref o), (1, .int (nI k_36))]) hx hb dX12_press_61 hl (k := 1) rfl (nI_add (i) 1) (by decide) rfl (fun ls hl => ?_)
              refine lv_goto (tgt := 34) hx hb dX12_press_64 (by decide) ?_
              exact ih34 (i + 1) (nn + 0) _ _ _ ls (by omega) (by omega) (by have q := cnt_F (P := nfB f_32 (nI k_36)) (n := i) rfl (nfB_f hfr_); omega) (by omega) (by omega) hTy hFr hFl34 hW (lv_sub hl [0, 1, 2, 3] rfl)
      exact loop ((41 - 0) + 1) 0 cn9 _ _ _ ls (Nat.lt_succ_self _) (by omega) rfl (by omega) (by omega) hTy hFr Fr.rf hW (lv_sub hl [0, 1, 2, 3] rfl)
    · refine lv_bipush (v := (-5)) hx hb dX12_press_24 (by decide) ?_
      exact W.iret (v := (-5)) hx hb hr (fun t ht h9 => ⟨⟨(-5), S_37, rfl, ⟨hTy, hFr, ⟨(by rw [fld_i hS_o rfl hS_x_1]; exact hdg_), (by rw [fld_i hS_o rfl hS_x_3]; exact hda_)⟩⟩, by rw [ht]; exact hW.1, va_K.moved h9.alike hK, hW.2.1⟩, hW.2.2.F ht⟩) hW.2.2.2.2 dX12_press_26

