theorem w1100 : (.fieldLink RX12 40 "SwapPressModel" "way" "[I" : Cond) ∈ TB := mTB (List.mem_of_getElem? (i := 1100) (by decide +kernel)) (by decide +kernel)
theorem w1101 : (.fieldLink RX12 265 "SwapPressModel" "ringMany" "I" : Cond) ∈ TB := mTB (List.mem_of_getElem? (i := 1101) (by decide +kernel)) (by decide +kernel)
theorem w1398 : (.methodLink RX12 261 yX12_goesRound : Cond) ∈ TB := mTB (List.mem_of_getElem? (i := 1398) (by decide +kernel)) (by decide +kernel)
theorem w1400 : (.instanceMethod yX12_goesRound : Cond) ∈ TB := mTB (List.mem_of_getElem? (i := 1400) (by decide +kernel)) (by decide +kernel)
theorem w1401 : (.code yX12_goesRound cX12_goesRound 6 (some .boolean) : Cond) ∈ TB := mTB (List.mem_of_getElem? (i := 1401) (by decide +kernel)) (by decide +kernel)
theorem w1406 : (.methodLink RX12 274 yX12_loadOf : Cond) ∈ TB := mTB (List.mem_of_getElem? (i := 1406) (by decide +kernel)) (by decide +kernel)
theorem w1408 : (.instanceMethod yX12_loadOf : Cond) ∈ TB := mTB (List.mem_of_getElem? (i := 1408) (by decide +kernel)) (by decide +kernel)
theorem w1409 : (.code yX12_loadOf cX12_loadOf 3 (some .int) : Cond) ∈ TB := mTB (List.mem_of_getElem? (i := 1409) (by decide +kernel)) (by decide +kernel)
theorem w1410 : (.methodLink RX12 268 yX12_coupleOf : Cond) ∈ TB := mTB (List.mem_of_getElem? (i := 1410) (by decide +kernel)) (by decide +kernel)
theorem w1412 : (.instanceMethod yX12_coupleOf : Cond) ∈ TB := mTB (List.mem_of_getElem? (i := 1412) (by decide +kernel)) (by decide +kernel)
theorem w1413 : (.code yX12_coupleOf cX12_coupleOf 2 (some .int) : Cond) ∈ TB := mTB (List.mem_of_getElem? (i := 1413) (by decide +kernel)) (by decide +kernel)
theorem ws87 : (.selects RX12 yX12_goesRound yX12_goesRound : Cond) ∈ TB := mSel (y := yX12_goesRound) (n := 32) (List.mem_of_getElem? (i := 87) (by decide +kernel)) (by decide +kernel)
theorem ws88 : (.selects RX12 yX12_loadOf yX12_loadOf : Cond) ∈ TB := mSel (y := yX12_loadOf) (n := 32) (List.mem_of_getElem? (i := 88) (by decide +kernel)) (by decide +kernel)
theorem ws89 : (.selects RX12 yX12_coupleOf yX12_coupleOf : Cond) ∈ TB := mSel (y := yX12_coupleOf) (n := 32) (List.mem_of_getElem? (i := 89) (by decide +kernel)) (by decide +kernel)
theorem dX12_coupleOf_0 : decode cX12_coupleOf 0 = .ok (.aload_n 0, 1) := by decide +kernel
theorem dX12_coupleOf_1 : decode cX12_coupleOf 1 = .ok (.getfield 40, 3) := by decide +kernel
theorem dX12_coupleOf_4 : decode cX12_coupleOf 4 = .ok (.iload_n 1, 1) := by decide +kernel
theorem dX12_coupleOf_5 : decode cX12_coupleOf 5 = .ok (.iaload, 1) := by decide +kernel
theorem dX12_coupleOf_6 : decode cX12_coupleOf 6 = .ok (.aload_n 0, 1) := by decide +kernel
theorem dX12_coupleOf_7 : decode cX12_coupleOf 7 = .ok (.getfield 40, 3) := by decide +kernel
theorem dX12_coupleOf_10 : decode cX12_coupleOf 10 = .ok (.iload_n 1, 1) := by decide +kernel
theorem dX12_coupleOf_11 : decode cX12_coupleOf 11 = .ok (.iconst 1, 1) := by decide +kernel
theorem dX12_coupleOf_12 : decode cX12_coupleOf 12 = .ok (.iadd, 1) := by decide +kernel
theorem dX12_coupleOf_13 : decode cX12_coupleOf 13 = .ok (.aload_n 0, 1) := by decide +kernel
theorem dX12_coupleOf_14 : decode cX12_coupleOf 14 = .ok (.getfield 265, 3) := by decide +kernel
theorem dX12_coupleOf_17 : decode cX12_coupleOf 17 = .ok (.irem, 1) := by decide +kernel
theorem dX12_coupleOf_18 : decode cX12_coupleOf 18 = .ok (.iaload, 1) := by decide +kernel
theorem dX12_coupleOf_19 : decode cX12_coupleOf 19 = .ok (.invokestatic 229, 3) := by decide +kernel
theorem dX12_coupleOf_22 : decode cX12_coupleOf 22 = .ok (.ireturn, 1) := by decide +kernel
theorem dX12_goesRound_0 : decode cX12_goesRound 0 = .ok (.aload_n 0, 1) := by decide +kernel
theorem dX12_goesRound_1 : decode cX12_goesRound 1 = .ok (.getfield 40, 3) := by decide +kernel
theorem dX12_goesRound_4 : decode cX12_goesRound 4 = .ok (.iload_n 1, 1) := by decide +kernel
theorem dX12_goesRound_5 : decode cX12_goesRound 5 = .ok (.iconst 1, 1) := by decide +kernel
theorem dX12_goesRound_6 : decode cX12_goesRound 6 = .ok (.isub, 1) := by decide +kernel
theorem dX12_goesRound_7 : decode cX12_goesRound 7 = .ok (.iaload, 1) := by decide +kernel
theorem dX12_goesRound_8 : decode cX12_goesRound 8 = .ok (.istore 4, 2) := by decide +kernel
theorem dX12_goesRound_10 : decode cX12_goesRound 10 = .ok (.iload_n 1, 1) := by decide +kernel
theorem dX12_goesRound_11 : decode cX12_goesRound 11 = .ok (.iload_n 2, 1) := by decide +kernel
theorem dX12_goesRound_12 : decode cX12_goesRound 12 = .ok (.if_icmp .ne 28, 3) := by decide +kernel
theorem dX12_goesRound_15 : decode cX12_goesRound 15 = .ok (.aload_n 0, 1) := by decide +kernel
theorem dX12_goesRound_16 : decode cX12_goesRound 16 = .ok (.getfield 37, 3) := by decide +kernel
theorem dX12_goesRound_19 : decode cX12_goesRound 19 = .ok (.iload 4, 2) := by decide +kernel
theorem dX12_goesRound_21 : decode cX12_goesRound 21 = .ok (.aload_n 0, 1) := by decide +kernel
theorem dX12_goesRound_22 : decode cX12_goesRound 22 = .ok (.getfield 40, 3) := by decide +kernel
theorem dX12_goesRound_25 : decode cX12_goesRound 25 = .ok (.iconst 0, 1) := by decide +kernel
theorem dX12_goesRound_26 : decode cX12_goesRound 26 = .ok (.iaload, 1) := by decide +kernel
theorem dX12_goesRound_27 : decode cX12_goesRound 27 = .ok (.invokestatic 229, 3) := by decide +kernel
theorem dX12_goesRound_30 : decode cX12_goesRound 30 = .ok (.iaload, 1) := by decide +kernel
theorem dX12_goesRound_31 : decode cX12_goesRound 31 = .ok (.ifCond .le 7, 3) := by decide +kernel
theorem dX12_goesRound_34 : decode cX12_goesRound 34 = .ok (.iconst 1, 1) := by decide +kernel
theorem dX12_goesRound_35 : decode cX12_goesRound 35 = .ok (.goto 4, 3) := by decide +kernel
theorem dX12_goesRound_38 : decode cX12_goesRound 38 = .ok (.iconst 0, 1) := by decide +kernel
theorem dX12_goesRound_39 : decode cX12_goesRound 39 = .ok (.ireturn, 1) := by decide +kernel
theorem dX12_goesRound_40 : decode cX12_goesRound 40 = .ok (.aload_n 0, 1) := by decide +kernel
theorem dX12_goesRound_41 : decode cX12_goesRound 41 = .ok (.getfield 40, 3) := by decide +kernel
theorem dX12_goesRound_44 : decode cX12_goesRound 44 = .ok (.iconst 0, 1) := by decide +kernel
theorem dX12_goesRound_45 : decode cX12_goesRound 45 = .ok (.iaload, 1) := by decide +kernel
theorem dX12_goesRound_46 : decode cX12_goesRound 46 = .ok (.iconst 1, 1) := by decide +kernel
theorem dX12_goesRound_47 : decode cX12_goesRound 47 = .ok (.iadd, 1) := by decide +kernel
theorem dX12_goesRound_48 : decode cX12_goesRound 48 = .ok (.istore 5, 2) := by decide +kernel
theorem dX12_goesRound_50 : decode cX12_goesRound 50 = .ok (.iload 5, 2) := by decide +kernel
theorem dX12_goesRound_52 : decode cX12_goesRound 52 = .ok (.aload_n 0, 1) := by decide +kernel
theorem dX12_goesRound_53 : decode cX12_goesRound 53 = .ok (.getfield 80, 3) := by decide +kernel
theorem dX12_goesRound_56 : decode cX12_goesRound 56 = .ok (.if_icmp .ge 64, 3) := by decide +kernel
theorem dX12_goesRound_59 : decode cX12_goesRound 59 = .ok (.iload_n 3, 1) := by decide +kernel
theorem dX12_goesRound_60 : decode cX12_goesRound 60 = .ok (.iload 5, 2) := by decide +kernel
theorem dX12_goesRound_62 : decode cX12_goesRound 62 = .ok (.ishr, 1) := by decide +kernel
theorem dX12_goesRound_63 : decode cX12_goesRound 63 = .ok (.iconst 1, 1) := by decide +kernel
theorem dX12_goesRound_64 : decode cX12_goesRound 64 = .ok (.iand, 1) := by decide +kernel
theorem dX12_goesRound_65 : decode cX12_goesRound 65 = .ok (.iconst 1, 1) := by decide +kernel
theorem dX12_goesRound_66 : decode cX12_goesRound 66 = .ok (.if_icmp .eq 48, 3) := by decide +kernel
theorem dX12_goesRound_69 : decode cX12_goesRound 69 = .ok (.aload_n 0, 1) := by decide +kernel
theorem dX12_goesRound_70 : decode cX12_goesRound 70 = .ok (.getfield 37, 3) := by decide +kernel
theorem dX12_goesRound_73 : decode cX12_goesRound 73 = .ok (.iload 4, 2) := by decide +kernel
theorem dX12_goesRound_75 : decode cX12_goesRound 75 = .ok (.iload 5, 2) := by decide +kernel
theorem dX12_goesRound_77 : decode cX12_goesRound 77 = .ok (.invokestatic 229, 3) := by decide +kernel
theorem dX12_goesRound_80 : decode cX12_goesRound 80 = .ok (.iaload, 1) := by decide +kernel
theorem dX12_goesRound_81 : decode cX12_goesRound 81 = .ok (.ifCond .ne 6, 3) := by decide +kernel
theorem dX12_goesRound_84 : decode cX12_goesRound 84 = .ok (.goto 30, 3) := by decide +kernel
theorem dX12_goesRound_87 : decode cX12_goesRound 87 = .ok (.aload_n 0, 1) := by decide +kernel
theorem dX12_goesRound_88 : decode cX12_goesRound 88 = .ok (.getfield 40, 3) := by decide +kernel
theorem dX12_goesRound_91 : decode cX12_goesRound 91 = .ok (.iload_n 1, 1) := by decide +kernel
theorem dX12_goesRound_92 : decode cX12_goesRound 92 = .ok (.iload 5, 2) := by decide +kernel
theorem dX12_goesRound_94 : decode cX12_goesRound 94 = .ok (.iastore, 1) := by decide +kernel
theorem dX12_goesRound_95 : decode cX12_goesRound 95 = .ok (.aload_n 0, 1) := by decide +kernel
theorem dX12_goesRound_96 : decode cX12_goesRound 96 = .ok (.iload_n 1, 1) := by decide +kernel
theorem dX12_goesRound_97 : decode cX12_goesRound 97 = .ok (.iconst 1, 1) := by decide +kernel
theorem dX12_goesRound_98 : decode cX12_goesRound 98 = .ok (.iadd, 1) := by decide +kernel
theorem dX12_goesRound_99 : decode cX12_goesRound 99 = .ok (.iload_n 2, 1) := by decide +kernel
theorem dX12_goesRound_100 : decode cX12_goesRound 100 = .ok (.iload_n 3, 1) := by decide +kernel
theorem dX12_goesRound_101 : decode cX12_goesRound 101 = .ok (.iconst 1, 1) := by decide +kernel
theorem dX12_goesRound_102 : decode cX12_goesRound 102 = .ok (.iload 5, 2) := by decide +kernel
theorem dX12_goesRound_104 : decode cX12_goesRound 104 = .ok (.ishl, 1) := by decide +kernel
theorem dX12_goesRound_105 : decode cX12_goesRound 105 = .ok (.ior, 1) := by decide +kernel
theorem dX12_goesRound_106 : decode cX12_goesRound 106 = .ok (.invokevirtual 261, 3) := by decide +kernel
theorem dX12_goesRound_109 : decode cX12_goesRound 109 = .ok (.ifCond .eq 5, 3) := by decide +kernel
theorem dX12_goesRound_112 : decode cX12_goesRound 112 = .ok (.iconst 1, 1) := by decide +kernel
theorem dX12_goesRound_113 : decode cX12_goesRound 113 = .ok (.ireturn, 1) := by decide +kernel
theorem dX12_goesRound_114 : decode cX12_goesRound 114 = .ok (.iinc 5 1, 3) := by decide +kernel
theorem dX12_goesRound_117 : decode cX12_goesRound 117 = .ok (.goto (-67), 3) := by decide +kernel
theorem dX12_goesRound_120 : decode cX12_goesRound 120 = .ok (.iconst 0, 1) := by decide +kernel
theorem dX12_goesRound_121 : decode cX12_goesRound 121 = .ok (.ireturn, 1) := by decide +kernel
theorem dX12_laysRing_0 : decode cX12_laysRing 0 = .ok (.iconst 2, 1) := by decide +kernel
theorem dX12_laysRing_1 : decode cX12_laysRing 1 = .ok (.istore_n 1, 1) := by decide +kernel
theorem dX12_laysRing_2 : decode cX12_laysRing 2 = .ok (.iload_n 1, 1) := by decide +kernel
theorem dX12_laysRing_3 : decode cX12_laysRing 3 = .ok (.aload_n 0, 1) := by decide +kernel
theorem dX12_laysRing_4 : decode cX12_laysRing 4 = .ok (.getfield 80, 3) := by decide +kernel
theorem dX12_laysRing_7 : decode cX12_laysRing 7 = .ok (.if_icmp .gt 51, 3) := by decide +kernel
theorem dX12_laysRing_10 : decode cX12_laysRing 10 = .ok (.iconst 0, 1) := by decide +kernel
theorem dX12_laysRing_11 : decode cX12_laysRing 11 = .ok (.istore_n 2, 1) := by decide +kernel
theorem dX12_laysRing_12 : decode cX12_laysRing 12 = .ok (.iload_n 2, 1) := by decide +kernel
theorem dX12_laysRing_13 : decode cX12_laysRing 13 = .ok (.aload_n 0, 1) := by decide +kernel
theorem dX12_laysRing_14 : decode cX12_laysRing 14 = .ok (.getfield 80, 3) := by decide +kernel
theorem dX12_laysRing_17 : decode cX12_laysRing 17 = .ok (.if_icmp .ge 35, 3) := by decide +kernel
theorem dX12_laysRing_20 : decode cX12_laysRing 20 = .ok (.aload_n 0, 1) := by decide +kernel
theorem dX12_laysRing_21 : decode cX12_laysRing 21 = .ok (.getfield 40, 3) := by decide +kernel
theorem dX12_laysRing_24 : decode cX12_laysRing 24 = .ok (.iconst 0, 1) := by decide +kernel
theorem dX12_laysRing_25 : decode cX12_laysRing 25 = .ok (.iload_n 2, 1) := by decide +kernel
theorem dX12_laysRing_26 : decode cX12_laysRing 26 = .ok (.iastore, 1) := by decide +kernel
theorem dX12_laysRing_27 : decode cX12_laysRing 27 = .ok (.aload_n 0, 1) := by decide +kernel
theorem dX12_laysRing_28 : decode cX12_laysRing 28 = .ok (.iload_n 1, 1) := by decide +kernel
theorem dX12_laysRing_29 : decode cX12_laysRing 29 = .ok (.putfield 265, 3) := by decide +kernel
theorem dX12_laysRing_32 : decode cX12_laysRing 32 = .ok (.aload_n 0, 1) := by decide +kernel
theorem dX12_laysRing_33 : decode cX12_laysRing 33 = .ok (.iconst 1, 1) := by decide +kernel
theorem dX12_laysRing_34 : decode cX12_laysRing 34 = .ok (.iload_n 1, 1) := by decide +kernel
theorem dX12_laysRing_35 : decode cX12_laysRing 35 = .ok (.iconst 1, 1) := by decide +kernel
theorem dX12_laysRing_36 : decode cX12_laysRing 36 = .ok (.iload_n 2, 1) := by decide +kernel
theorem dX12_laysRing_37 : decode cX12_laysRing 37 = .ok (.ishl, 1) := by decide +kernel
theorem dX12_laysRing_38 : decode cX12_laysRing 38 = .ok (.invokevirtual 261, 3) := by decide +kernel
theorem dX12_laysRing_41 : decode cX12_laysRing 41 = .ok (.ifCond .eq 5, 3) := by decide +kernel
theorem dX12_laysRing_44 : decode cX12_laysRing 44 = .ok (.iload_n 1, 1) := by decide +kernel
theorem dX12_laysRing_45 : decode cX12_laysRing 45 = .ok (.ireturn, 1) := by decide +kernel
theorem dX12_laysRing_46 : decode cX12_laysRing 46 = .ok (.iinc 2 1, 3) := by decide +kernel
theorem dX12_laysRing_49 : decode cX12_laysRing 49 = .ok (.goto (-37), 3) := by decide +kernel
theorem dX12_laysRing_52 : decode cX12_laysRing 52 = .ok (.iinc 1 1, 3) := by decide +kernel
theorem dX12_laysRing_55 : decode cX12_laysRing 55 = .ok (.goto (-53), 3) := by decide +kernel
theorem dX12_laysRing_58 : decode cX12_laysRing 58 = .ok (.aload_n 0, 1) := by decide +kernel
theorem dX12_laysRing_59 : decode cX12_laysRing 59 = .ok (.iconst 0, 1) := by decide +kernel
theorem dX12_laysRing_60 : decode cX12_laysRing 60 = .ok (.putfield 265, 3) := by decide +kernel
theorem dX12_laysRing_63 : decode cX12_laysRing 63 = .ok (.iconst 0, 1) := by decide +kernel
theorem dX12_laysRing_64 : decode cX12_laysRing 64 = .ok (.ireturn, 1) := by decide +kernel
theorem dX12_loadOf_0 : decode cX12_loadOf 0 = .ok (.aload_n 0, 1) := by decide +kernel
theorem dX12_loadOf_1 : decode cX12_loadOf 1 = .ok (.getfield 37, 3) := by decide +kernel
theorem dX12_loadOf_4 : decode cX12_loadOf 4 = .ok (.aload_n 0, 1) := by decide +kernel
theorem dX12_loadOf_5 : decode cX12_loadOf 5 = .ok (.iconst 0, 1) := by decide +kernel
theorem dX12_loadOf_6 : decode cX12_loadOf 6 = .ok (.invokevirtual 268, 3) := by decide +kernel
theorem dX12_loadOf_9 : decode cX12_loadOf 9 = .ok (.iaload, 1) := by decide +kernel
theorem dX12_loadOf_10 : decode cX12_loadOf 10 = .ok (.istore_n 1, 1) := by decide +kernel
theorem dX12_loadOf_11 : decode cX12_loadOf 11 = .ok (.iconst 1, 1) := by decide +kernel
theorem dX12_loadOf_12 : decode cX12_loadOf 12 = .ok (.istore_n 2, 1) := by decide +kernel
theorem dX12_loadOf_13 : decode cX12_loadOf 13 = .ok (.iload_n 2, 1) := by decide +kernel
theorem dX12_loadOf_14 : decode cX12_loadOf 14 = .ok (.aload_n 0, 1) := by decide +kernel
theorem dX12_loadOf_15 : decode cX12_loadOf 15 = .ok (.getfield 265, 3) := by decide +kernel
theorem dX12_loadOf_18 : decode cX12_loadOf 18 = .ok (.if_icmp .ge 38, 3) := by decide +kernel
theorem dX12_loadOf_21 : decode cX12_loadOf 21 = .ok (.aload_n 0, 1) := by decide +kernel
theorem dX12_loadOf_22 : decode cX12_loadOf 22 = .ok (.getfield 37, 3) := by decide +kernel
theorem dX12_loadOf_25 : decode cX12_loadOf 25 = .ok (.aload_n 0, 1) := by decide +kernel
theorem dX12_loadOf_26 : decode cX12_loadOf 26 = .ok (.iload_n 2, 1) := by decide +kernel
theorem dX12_loadOf_27 : decode cX12_loadOf 27 = .ok (.invokevirtual 268, 3) := by decide +kernel
theorem dX12_loadOf_30 : decode cX12_loadOf 30 = .ok (.iaload, 1) := by decide +kernel
theorem dX12_loadOf_31 : decode cX12_loadOf 31 = .ok (.iload_n 1, 1) := by decide +kernel
theorem dX12_loadOf_32 : decode cX12_loadOf 32 = .ok (.if_icmp .ge 16, 3) := by decide +kernel
theorem dX12_loadOf_35 : decode cX12_loadOf 35 = .ok (.aload_n 0, 1) := by decide +kernel
theorem dX12_loadOf_36 : decode cX12_loadOf 36 = .ok (.getfield 37, 3) := by decide +kernel
theorem dX12_loadOf_39 : decode cX12_loadOf 39 = .ok (.aload_n 0, 1) := by decide +kernel
theorem dX12_loadOf_40 : decode cX12_loadOf 40 = .ok (.iload_n 2, 1) := by decide +kernel
theorem dX12_loadOf_41 : decode cX12_loadOf 41 = .ok (.invokevirtual 268, 3) := by decide +kernel
theorem dX12_loadOf_44 : decode cX12_loadOf 44 = .ok (.iaload, 1) := by decide +kernel
theorem dX12_loadOf_45 : decode cX12_loadOf 45 = .ok (.goto 4, 3) := by decide +kernel
theorem dX12_loadOf_48 : decode cX12_loadOf 48 = .ok (.iload_n 1, 1) := by decide +kernel
theorem dX12_loadOf_49 : decode cX12_loadOf 49 = .ok (.istore_n 1, 1) := by decide +kernel
theorem dX12_loadOf_50 : decode cX12_loadOf 50 = .ok (.iinc 2 1, 3) := by decide +kernel
theorem dX12_loadOf_53 : decode cX12_loadOf 53 = .ok (.goto (-40), 3) := by decide +kernel
theorem dX12_loadOf_56 : decode cX12_loadOf 56 = .ok (.iload_n 1, 1) := by decide +kernel
theorem dX12_loadOf_57 : decode cX12_loadOf 57 = .ok (.ireturn, 1) := by decide +kernel
theorem dX12_ringGoes_0 : decode cX12_ringGoes 0 = .ok (.aload_n 0, 1) := by decide +kernel
theorem dX12_ringGoes_1 : decode cX12_ringGoes 1 = .ok (.invokevirtual 274, 3) := by decide +kernel
theorem dX12_ringGoes_4 : decode cX12_ringGoes 4 = .ok (.istore_n 1, 1) := by decide +kernel
theorem dX12_ringGoes_5 : decode cX12_ringGoes 5 = .ok (.iconst 0, 1) := by decide +kernel
theorem dX12_ringGoes_6 : decode cX12_ringGoes 6 = .ok (.istore_n 2, 1) := by decide +kernel
theorem dX12_ringGoes_7 : decode cX12_ringGoes 7 = .ok (.iload_n 2, 1) := by decide +kernel
theorem dX12_ringGoes_8 : decode cX12_ringGoes 8 = .ok (.aload_n 0, 1) := by decide +kernel
theorem dX12_ringGoes_9 : decode cX12_ringGoes 9 = .ok (.getfield 265, 3) := by decide +kernel
theorem dX12_ringGoes_12 : decode cX12_ringGoes 12 = .ok (.if_icmp .ge 23, 3) := by decide +kernel
theorem dX12_ringGoes_15 : decode cX12_ringGoes 15 = .ok (.aload_n 0, 1) := by decide +kernel
theorem dX12_ringGoes_16 : decode cX12_ringGoes 16 = .ok (.getfield 37, 3) := by decide +kernel
theorem dX12_ringGoes_19 : decode cX12_ringGoes 19 = .ok (.aload_n 0, 1) := by decide +kernel
theorem dX12_ringGoes_20 : decode cX12_ringGoes 20 = .ok (.iload_n 2, 1) := by decide +kernel
theorem dX12_ringGoes_21 : decode cX12_ringGoes 21 = .ok (.invokevirtual 268, 3) := by decide +kernel
theorem dX12_ringGoes_24 : decode cX12_ringGoes 24 = .ok (.dup2, 1) := by decide +kernel
theorem dX12_ringGoes_25 : decode cX12_ringGoes 25 = .ok (.iaload, 1) := by decide +kernel
theorem dX12_ringGoes_26 : decode cX12_ringGoes 26 = .ok (.iload_n 1, 1) := by decide +kernel
theorem dX12_ringGoes_27 : decode cX12_ringGoes 27 = .ok (.isub, 1) := by decide +kernel
theorem dX12_ringGoes_28 : decode cX12_ringGoes 28 = .ok (.iastore, 1) := by decide +kernel
theorem dX12_ringGoes_29 : decode cX12_ringGoes 29 = .ok (.iinc 2 1, 3) := by decide +kernel
theorem dX12_ringGoes_32 : decode cX12_ringGoes 32 = .ok (.goto (-25), 3) := by decide +kernel
theorem dX12_ringGoes_35 : decode cX12_ringGoes 35 = .ok (.return_, 1) := by decide +kernel
theorem k57i {cy : Nat → ClassId} {L : List Nat} {kap : Nat → Nat} {pr : Pr} {S : Nat → va_E} {a : Nat} {f : Nat → Int32} (h : Ty cy L kap pr S) (ha : TK L kap a 57) (he : S a = .inl (cy 0, 8, .inl f)) : ∀ j, j < 8 → ∃ k, k < 8 ∧ f j = nI k := by
  obtain ⟨g, hg, hi⟩ := h.k57 ha
  have e := hg.symm.trans he
  simp only [Sum.inl.injEq, Prod.mk.injEq, true_and] at e
  rw [← e]
  exact hi
theorem wa_b {f : Nat → Int32} (h : ∀ j, j < 8 → ∃ k, k < 8 ∧ f j = nI k) : ∀ i, i < 8 → wa f i < 8 := fun i hi => by
  obtain ⟨k, hk, e⟩ := h i hi
  rw [wa_n e (by omega)]
  exact hk
def PA (S : Nat → va_E) (o pa : Nat) : Prop := inf (S o) 5 = nI pa ∧ pa ≤ 8
theorem PAe {S : Nat → va_E} {o k x pa : Nat} {fs : List Value} (h : PA S o pa) (ho : S o = .inr (k, fs)) (h5 : fs[5]? = some (.int (nI x))) (hx : x ≤ 8) : pa = x := (nI_eq (by have := h.2; omega) (by omega)).mp (h.1.symm.trans (inf_i ho h5))
def o12 (S S' : Nat → va_E) (o n : Nat) : Prop := ∀ vs : List Value, S o = .inr (12, vs) → S' o = .inr (12, vs.set 19 (.int (nI n)))
theorem o12i {S S' : Nat → va_E} {o n : Nat} {vs vs' : List Value} (h : S o = .inr (12, vs)) (h' : S' o = .inr (12, vs')) (hv : vs' = vs.set 19 (.int (nI n))) : o12 S S' o n := fun ws e => by
  have e := h.symm.trans e
  simp only [Sum.inr.injEq, Prod.mk.injEq, true_and] at e
  rw [← e, h', hv]
set_option maxHeartbeats 4000000 in
set_option maxRecDepth 100000 in
theorem m_gr_8 (l : Launch) (dC : Nat → ClassId) (dI : Nat → Nat → Nat) (cy : Nat → ClassId) (L : List Nat) (kap : Nat → Nat) (pr : Pr) (S : Nat → va_E) (sz : Nat) (o : Nat) (mn : Nat) (so : Int32) (hTy : Ty cy L kap pr S) (hT_o : TK L kap o 12) (hb_mn : 8 ≤ mn ∧ mn ≤ 8) (pa : Nat) (hpa : PA S o pa) (hSN : SN (fld S o 18) so 8) : Met l yX12_goesRound (wT yX12_goesRound cX12_goesRound 6 (some .boolean)) ({ frames := 1, cells := 0, slots := 0, locals := 21 }) (pcN dC dI [.ref o, .int 8, .int (nI mn), .int so] sz (va_pl L S) (cyT cy) NLs []) (va_Qi (fun r S' => Ty cy L kap pr S' ∧ Fr kap [] S S' ∧ ((∀ j, j < 8 → fld S' o 18 j = fld S o 18 j) ∧ ((r = 1 ∧ RNG (fld S o 17) (fld S' o 18) 8 mn) ∨ (r = 0 ∧ NR (fld S o 17) pa (wa (fld S o 18) 0) (mn - 8) (wa (fld S o 18) 7) (fun q => bt so q = true))))) (fun S' t => pB dC dI (AL L sz) (va_pl L S') (cyT cy) t) (AL L sz)) 0 0 (AL L sz) := by
  refine Met.ofW (cc := cX12_goesRound) (maxL := 6) (ret := (some .boolean)) (by decide) rfl ?_
  intro p e s m args below meth c s₁ B hml hv
  obtain ⟨rfl, hsz, hP, hK, hD0, hN, -⟩ := hv
  have hx := B.exec
  have hb := B.bytes
  have hr := B.returns
  have hT : ∀ wd ∈ TB, wd.before [.ref o, .int 8, .int (nI mn), .int so].toArray s = true := fun wd h => atoms_spec (ws := wT yX12_goesRound cX12_goesRound 6 (some .boolean)) B.pre wd (List.mem_cons_of_mem _ h)
  have hown : s.vm.findClass RX12 = some m.cls := findClass_of_methodNamed B.named
  have hlocks := B.notSynchronized
  subst hsz
  have hW : PW dC dI L (AL L s.heap.size) s.heap S s.heap [] := ⟨hP, pl_self hD0, va_S.rf⟩
  have hA0 : ∀ q, q ∈ L → AL L s.heap.size q := fun _ h => Or.inl h
  have hA : ∀ q, s.heap.size ≤ q → AL L s.heap.size q := fun _ h => Or.inr h
  have hFr : Fr kap [] S S := Fr.rf
  have hl := lv_entry ([.ref o, .int 8, .int (nI mn), .int so]) (n := 6) (Nat.le_of_ble_eq_true rfl)
  rw [lg_entry_eq]
  generalize (lg_sl ([.ref o, .int 8, .int (nI mn), .int so]) ++ List.replicate (6 - (lg_sl ([.ref o, .int 8, .int (nI mn), .int so])).length) Slot.unset).toArray = ls at hl ⊢
  have hl : lv_has ls 6 [(0, .ref o), (1, .int 8), (2, .int (nI mn)), (3, .int so)] := hl
  obtain ⟨x_1, x_2, x_3, x_4, x_5, x_6, x_7, x_8, x_9, x_10, x_11, x_12, x_13, x_14, x_15, x_16, x_17, x_18, x_19, x_20, x_21, x_22, x_23, x_24, x_25, x_26, x_27, x_28, x_29, x_30, x_31, hS_o, hT_x_1, hT_x_2, hT_x_3, hT_x_4, hT_x_5, hb_x_6, hb_x_7, hb_x_8, hT_x_10, hb_q2, hb_x_11, hb_x_12, hT_x_17, hT_x_18, hb_x_19, hT_x_20, hT_x_21, hT_x_22, hT_x_23, hT_x_24, hT_x_25, hT_x_26, hT_x_27, hT_x_28, hT_x_29, hT_x_30, hb_x_31⟩ := hTy.k12 hT_o
  have hb_q2 : pr.2 ≤ 900 := hb_q2
  have hS_o : S o = .inr (12, [.ref x_1, .ref x_2, .ref x_3, .ref x_4, .ref x_5, .int (nI x_6), .int (nI x_7), .int (nI x_8), .int x_9, .ref x_10, .int (nI (pr.2)), .int (nI x_11), .int (nI x_12), .int x_13, .int x_14, .int x_15, .int x_16, .ref x_17, .ref x_18, .int (nI x_19), .ref x_20, .ref x_21, .ref x_22, .ref x_23, .ref x_24, .ref x_25, .ref x_26, .ref x_27, .ref x_28, .ref x_29, .ref x_30, .int (nI x_31)]) := hS_o
  obtain rfl : pa = x_6 := PAe hpa hS_o rfl (by omega)
  obtain ⟨f_32, hS_x_17⟩ := hTy.k56 hT_x_17
  obtain ⟨f_33, hS_x_18, hi_f_33⟩ := hTy.k57 hT_x_18
  have h17_ : fld S o 17 = f_32 := fld_i hS_o rfl hS_x_17
  have h18_ : fld S o 18 = f_33 := fld_i hS_o rfl hS_x_18
  rw [h18_] at hSN
  refine lv_aload_n hx hb dX12_goesRound_0 rfl (lv_at hl 0 rfl) ?_
  refine pl_get (ci := 12) (v := .ref x_18) (C := RX12) (T := TX12) (N := 32) hx hb hT iX12 hown hK hW hT_o.1 hS_o rfl 18 (by decide) w1100 rfl dX12_goesRound_1 ?_
  refine lv_iload_n hx hb dX12_goesRound_4 rfl (lv_at hl 1 rfl) ?_
  refine lv_iconst (v := 1) hx hb dX12_goesRound_5 (by decide) ?_
  refine lv_isub hx hb dX12_goesRound_6 ?_
  refine lv_topi (fun z_34 ez_34 => ?_)
  obtain rfl : z_34 = 7 := ez_34.trans (by decide)
  refine pl_iald hx hb hK hW hT_x_18.1 hS_x_18 (vp_in_nI (n := 7) (N := 8) (by omega) (by omega)) dX12_goesRound_7 ?_
  refine lv_topi (fun y_35 ey_35 => ?_)
  obtain ⟨k_36, hb_k_36, hq_k_36⟩ := hi_f_33 (7) (by omega)
  obtain rfl : y_35 = nI k_36 := ey_35.trans (by show f_33 (nI (7)).toNatClampNeg = _; rw [nI_clamp (by omega)]; exact hq_k_36)
  refine lv_istore (lv' := [(4, .int (nI k_36)), (0, .ref o), (1, .int 8), (2, .int (nI mn)), (3, .int so)]) hx hb dX12_goesRound_8 hl (by decide) rfl (fun ls hl => ?_)
  refine lv_iload_n hx hb dX12_goesRound_10 rfl (lv_at hl 2 rfl) ?_
  refine lv_iload_n hx hb dX12_goesRound_11 rfl (lv_at hl 3 rfl) ?_
  refine lv_icmp_ne (tgt := 40) hx hb dX12_goesRound_12 (by decide) (fun c_12 => ?_) (fun c_12 => ?_)
  · have c_12 : ¬ (8 = mn) := fun hh9 => c_12 ((nI_eq (a := 8) (b := mn) (by omega) (by omega)).mpr hh9)
    exfalso; omega
  · have c_12 : 8 = mn := (nI_eq (a := 8) (b := mn) (by omega) (by omega)).mp c_12
    refine lv_aload_n hx hb dX12_goesRound_15 rfl (lv_at hl 1 rfl) ?_
    refine pl_get (ci := 12) (v := .ref x_17) (C := RX12) (T := TX12) (N := 32) hx hb hT iX12 hown hK hW hT_o.1 hS_o rfl 17 (by decide) w1099 rfl dX12_goesRound_16 ?_
    refine lv_iload hx hb dX12_goesRound_19 (lv_at hl 0 rfl) ?_
    refine lv_aload_n hx hb dX12_goesRound_21 rfl (lv_at hl 1 rfl) ?_
    refine pl_get (ci := 12) (v := .ref x_18) (C := RX12) (T := TX12) (N := 32) hx hb hT iX12 hown hK hW hT_o.1 hS_o rfl 18 (by decide) w1100 rfl dX12_goesRound_22 ?_
    refine lv_iconst (v := 0) hx hb dX12_goesRound_25 (by decide) ?_
    refine pl_iald hx hb hK hW hT_x_18.1 hS_x_18 (vp_in_nI (n := 0) (N := 8) (by omega) (by omega)) dX12_goesRound_26 ?_
    refine lv_topi (fun y_37 ey_37 => ?_)
    obtain ⟨k_38, hb_k_38, hq_k_38⟩ := hi_f_33 (0) (by omega)
    obtain rfl : y_37 = nI k_38 := ey_37.trans (by show f_33 (nI (0)).toNatClampNeg = _; rw [nI_clamp (by omega)]; exact hq_k_38)
    refine vp_callSi (va_Run.run (va_runS (As := [.int (nI k_36), .int (nI k_38)]) (rest := [.ref x_17]) ⟨hx, hb, hml, hown, hT⟩ (m_couple l dC dI s.heap.size k_36 k_38 (by omega) (by omega)) (va_cwS 2 hT (gS w1348 w1349 w14 w1350) rfl rfl rfl (by decide +kernel) ⟨(Nat.le_of_ble_eq_true rfl), (Nat.le_of_ble_eq_true rfl)⟩) ⟨pcW.blind, pcW.pre (va_P0 _ _ _) (hK.sub (tys' := []) [] rfl) (va_D0 (fun _ => True))⟩ rfl rfl hl.1 rfl (lv_room (Nat.le_of_ble_eq_true rfl)) dX12_goesRound_27 ⟨(Nat.le_of_ble_eq_true rfl), (Nat.le_of_ble_eq_true rfl)⟩)) (fun r_39 hr_39 => ?_)
    obtain rfl : r_39 = nI (8 * k_36 + k_38) := hr_39
    refine pl_iald hx hb hK hW hT_x_17.1 hS_x_17 (vp_in_nI (n := 8 * k_36 + k_38) (N := 64) (by omega) (by omega)) dX12_goesRound_30 ?_
    refine lv_topi (fun y_40 ey_40 => ?_)
    refine lv_if_le (tgt := 38) hx hb dX12_goesRound_31 (by decide) (fun c_31 => ?_) (fun c_31 => ?_)
    · refine lv_iconst (v := 0) hx hb dX12_goesRound_38 (by decide) ?_
      exact W.zret (ty := .boolean) (v := 0) hx hb hr (by decide) (fun t ht h9 => ⟨⟨0, S, rfl, ⟨hTy, hFr, ⟨fun _ _ => rfl, Or.inr ⟨rfl, by rw [h17_, h18_, wa_n hq_k_38 (by omega), wa_n hq_k_36 (by omega)]; exact NR_z (by omega) (by have q := iposn c_31; rw [ey_40, nI_clamp (by omega)] at q; exact q)⟩⟩⟩, by rw [ht]; exact hW.1, va_K.moved h9.alike hK, hW.2.1⟩, hW.2.2.F ht⟩) hW.2.2.2.2 dX12_goesRound_39
    · refine lv_iconst (v := 1) hx hb dX12_goesRound_34 (by decide) ?_
      refine lv_goto (tgt := 39) hx hb dX12_goesRound_35 (by decide) ?_
      exact W.zret (ty := .boolean) (v := 1) hx hb hr (by decide) (fun t ht h9 => ⟨⟨1, S, rfl, ⟨hTy, hFr, ⟨fun _ _ => rfl, Or.inl ⟨rfl, by rw [h17_, fld_i (S := S) hS_o rfl hS_x_18, ← c_12]; exact RNG_0 (by rw [wa_n hq_k_36 (by omega), wa_n hq_k_38 (by omega)]; have q := ipos c_31; rw [ey_40, nI_clamp (by omega)] at q; exact q)⟩⟩⟩, by rw [ht]; exact hW.1, va_K.moved h9.alike hK, hW.2.1⟩, hW.2.2.F ht⟩) hW.2.2.2.2 dX12_goesRound_39

set_option maxHeartbeats 4000000 in
set_option maxRecDepth 100000 in
theorem m_gr_7 (l : Launch) (dC : Nat → ClassId) (dI : Nat → Nat → Nat) (cy : Nat → ClassId) (L : List Nat) (kap : Nat → Nat) (pr : Pr) (S : Nat → va_E) (sz : Nat) (o : Nat) (mn : Nat) (so : Int32) (hTy : Ty cy L kap pr S) (hT_o : TK L kap o 12) (hb_mn : 7 ≤ mn ∧ mn ≤ 8) (pa : Nat) (hpa : PA S o pa) (hSN : SN (fld S o 18) so 7) : Met l yX12_goesRound (wT yX12_goesRound cX12_goesRound 6 (some .boolean)) ({ frames := 2, cells := 0, slots := 0, locals := 46 }) (pcN dC dI [.ref o, .int 7, .int (nI mn), .int so] sz (va_pl L S) (cyT cy) NLs []) (va_Qi (fun r S' => Ty cy L kap pr S' ∧ Fr kap [57] S S' ∧ ((∀ j, j < 7 → fld S' o 18 j = fld S o 18 j) ∧ ((r = 1 ∧ RNG (fld S o 17) (fld S' o 18) 7 mn) ∨ (r = 0 ∧ NR (fld S o 17) pa (wa (fld S o 18) 0) (mn - 7) (wa (fld S o 18) 6) (fun q => bt so q = true))))) (fun S' t => pB dC dI (AL L sz) (va_pl L S') (cyT cy) t) (AL L sz)) 0 0 (AL L sz) := by
  refine Met.ofW (cc := cX12_goesRound) (maxL := 6) (ret := (some .boolean)) (by decide) rfl ?_
  intro p e s m args below meth c s₁ B hml hv
  obtain ⟨rfl, hsz, hP, hK, hD0, hN, -⟩ := hv
  have hx := B.exec
  have hb := B.bytes
  have hr := B.returns
  have hT : ∀ wd ∈ TB, wd.before [.ref o, .int 7, .int (nI mn), .int so].toArray s = true := fun wd h => atoms_spec (ws := wT yX12_goesRound cX12_goesRound 6 (some .boolean)) B.pre wd (List.mem_cons_of_mem _ h)
  have hown : s.vm.findClass RX12 = some m.cls := findClass_of_methodNamed B.named
  have hlocks := B.notSynchronized
  subst hsz
  have hW : PW dC dI L (AL L s.heap.size) s.heap S s.heap [] := ⟨hP, pl_self hD0, va_S.rf⟩
  have hA0 : ∀ q, q ∈ L → AL L s.heap.size q := fun _ h => Or.inl h
  have hA : ∀ q, s.heap.size ≤ q → AL L s.heap.size q := fun _ h => Or.inr h
  have hFr : Fr kap [57] S S := Fr.rf
  have hl := lv_entry ([.ref o, .int 7, .int (nI mn), .int so]) (n := 6) (Nat.le_of_ble_eq_true rfl)
  rw [lg_entry_eq]
  generalize (lg_sl ([.ref o, .int 7, .int (nI mn), .int so]) ++ List.replicate (6 - (lg_sl ([.ref o, .int 7, .int (nI mn), .int so])).length) Slot.unset).toArray = ls at hl ⊢
  have hl : lv_has ls 6 [(0, .ref o), (1, .int 7), (2, .int (nI mn)), (3, .int so)] := hl
  obtain ⟨x_1, x_2, x_3, x_4, x_5, x_6, x_7, x_8, x_9, x_10, x_11, x_12, x_13, x_14, x_15, x_16, x_17, x_18, x_19, x_20, x_21, x_22, x_23, x_24, x_25, x_26, x_27, x_28, x_29, x_30, x_31, hS_o, hT_x_1, hT_x_2, hT_x_3, hT_x_4, hT_x_5, hb_x_6, hb_x_7, hb_x_8, hT_x_10, hb_q2, hb_x_11, hb_x_12, hT_x_17, hT_x_18, hb_x_19, hT_x_20, hT_x_21, hT_x_22, hT_x_23, hT_x_24, hT_x_25, hT_x_26, hT_x_27, hT_x_28, hT_x_29, hT_x_30, hb_x_31⟩ := hTy.k12 hT_o
  have hb_q2 : pr.2 ≤ 900 := hb_q2
  have hS_o : S o = .inr (12, [.ref x_1, .ref x_2, .ref x_3, .ref x_4, .ref x_5, .int (nI x_6), .int (nI x_7), .int (nI x_8), .int x_9, .ref x_10, .int (nI (pr.2)), .int (nI x_11), .int (nI x_12), .int x_13, .int x_14, .int x_15, .int x_16, .ref x_17, .ref x_18, .int (nI x_19), .ref x_20, .ref x_21, .ref x_22, .ref x_23, .ref x_24, .ref x_25, .ref x_26, .ref x_27, .ref x_28, .ref x_29, .ref x_30, .int (nI x_31)]) := hS_o
  obtain rfl : pa = x_6 := PAe hpa hS_o rfl (by omega)
  obtain ⟨f_32, hS_x_17⟩ := hTy.k56 hT_x_17
  obtain ⟨f_33, hS_x_18, hi_f_33⟩ := hTy.k57 hT_x_18
  have h17_ : fld S o 17 = f_32 := fld_i hS_o rfl hS_x_17
  have h18_ : fld S o 18 = f_33 := fld_i hS_o rfl hS_x_18
  rw [h18_] at hSN
  refine lv_aload_n hx hb dX12_goesRound_0 rfl (lv_at hl 0 rfl) ?_
  refine pl_get (ci := 12) (v := .ref x_18) (C := RX12) (T := TX12) (N := 32) hx hb hT iX12 hown hK hW hT_o.1 hS_o rfl 18 (by decide) w1100 rfl dX12_goesRound_1 ?_
  refine lv_iload_n hx hb dX12_goesRound_4 rfl (lv_at hl 1 rfl) ?_
  refine lv_iconst (v := 1) hx hb dX12_goesRound_5 (by decide) ?_
  refine lv_isub hx hb dX12_goesRound_6 ?_
  refine lv_topi (fun z_34 ez_34 => ?_)
  obtain rfl : z_34 = 6 := ez_34.trans (by decide)
  refine pl_iald hx hb hK hW hT_x_18.1 hS_x_18 (vp_in_nI (n := 6) (N := 8) (by omega) (by omega)) dX12_goesRound_7 ?_
  refine lv_topi (fun y_35 ey_35 => ?_)
  obtain ⟨k_36, hb_k_36, hq_k_36⟩ := hi_f_33 (6) (by omega)
  obtain rfl : y_35 = nI k_36 := ey_35.trans (by show f_33 (nI (6)).toNatClampNeg = _; rw [nI_clamp (by omega)]; exact hq_k_36)
  refine lv_istore (lv' := [(4, .int (nI k_36)), (0, .ref o), (1, .int 7), (2, .int (nI mn)), (3, .int so)]) hx hb dX12_goesRound_8 hl (by decide) rfl (fun ls hl => ?_)
  refine lv_iload_n hx hb dX12_goesRound_10 rfl (lv_at hl 2 rfl) ?_
  refine lv_iload_n hx hb dX12_goesRound_11 rfl (lv_at hl 3 rfl) ?_
  refine lv_icmp_ne (tgt := 40) hx hb dX12_goesRound_12 (by decide) (fun c_12 => ?_) (fun c_12 => ?_)
  · have c_12 : ¬ (7 = mn) := fun hh9 => c_12 ((nI_eq (a := 7) (b := mn) (by omega) (by omega)).mpr hh9)
    refine lv_aload_n hx hb dX12_goesRound_40 rfl (lv_at hl 1 rfl) ?_
    refine pl_get (ci := 12) (v := .ref x_18) (C := RX12) (T := TX12) (N := 32) hx hb hT iX12 hown hK hW hT_o.1 hS_o rfl 18 (by decide) w1100 rfl dX12_goesRound_41 ?_
    refine lv_iconst (v := 0) hx hb dX12_goesRound_44 (by decide) ?_
    refine pl_iald hx hb hK hW hT_x_18.1 hS_x_18 (vp_in_nI (n := 0) (N := 8) (by omega) (by omega)) dX12_goesRound_45 ?_
    refine lv_topi (fun y_37 ey_37 => ?_)
    obtain ⟨k_38, hb_k_38, hq_k_38⟩ := hi_f_33 (0) (by omega)
    obtain rfl : y_37 = nI k_38 := ey_37.trans (by show f_33 (nI (0)).toNatClampNeg = _; rw [nI_clamp (by omega)]; exact hq_k_38)
    refine lv_iconst (v := 1) hx hb dX12_goesRound_46 (by decide) ?_
    refine lv_iadd hx hb dX12_goesRound_47 ?_
    refine lv_topi (fun z_39 ez_39 => ?_)
    obtain rfl : z_39 = nI (k_38 + 1) := ez_39.trans (nI_add (k_38) (1))
    refine lv_istore (lv' := [(5, .int (nI (k_38 + 1))), (4, .int (nI k_36)), (0, .ref o), (1, .int 7), (2, .int (nI mn)), (3, .int so)]) hx hb dX12_goesRound_48 hl (by decide) rfl (fun ls hl => ?_)
    have loop : ∀ (fuel : Nat) (i : Nat) (gw : Nat → Int32) (SS : Nat → va_E) (H : Heap) (locs : List Loc) (ls : Array Slot), 9 - i < fuel → (i ≤ 8) → (SS x_18 = .inl (cy 0, 8, .inl gw)) → (∀ j, j < 7 → gw j = f_33 j) → (k_38 < i) → (∀ p, k_38 < p → p < i → ¬ bt so p = true → f_32 (8 * k_36 + p) ≠ 0 → NR f_32 pa k_38 (mn - 8) p (fun q => bt so q = true ∨ q = p)) → Ty cy L kap pr SS → Fr kap [57] S SS → Fr kap [57] S SS → PW dC dI L (AL L s.heap.size) s.heap SS H locs → lv_has ls 6 [(5, .int (nI i)), (4, .int (nI k_36)), (0, .ref o), (1, .int 7), (2, .int (nI mn)), (3, .int so)] → W p l e (headSpec (wT yX12_goesRound cX12_goesRound 6 (some .boolean)) { frames := 2, cells := 0, slots := 0, locals := 46 }).room s m [.ref o, .int 7, .int (nI mn), .int so].toArray below meth c H locs 0 0 (MQ below (va_Qi (fun r S' => Ty cy L kap pr S' ∧ Fr kap [57] S S' ∧ ((∀ j, j < 7 → fld S' o 18 j = fld S o 18 j) ∧ ((r = 1 ∧ RNG (fld S o 17) (fld S' o 18) 7 mn) ∨ (r = 0 ∧ NR (fld S o 17) pa (wa (fld S o 18) 0) (mn - 7) (wa (fld S o 18) 6) (fun q => bt so q = true))))) (fun S' t => pB dC dI (AL L s.heap.size) (va_pl L S') (cyT cy) t) (AL L s.heap.size)) [.ref o, .int 7, .int (nI mn), .int so].toArray s 0 0 (AL L s.heap.size)) (F0 m 50 ls []) := by
      intro fuel
      induction fuel with
      | zero => intro i gw SS H locs ls h; exact absurd h (Nat.not_lt_zero _)
      | succ fu50 ih50 =>
        intro i gw S_40 H locs ls hm50 hb_i hWs hpre hiw hnr hTy hFr hFl50 hW hl
        have hS_o := hFl50.at hT_o (by decide) hS_o
        have hS_x_17 := hFl50.at hT_x_17 (by decide) hS_x_17
        have hi_gw := k57i hTy hT_x_18 hWs
        refine lv_iload hx hb dX12_goesRound_50 (lv_at hl 0 rfl) ?_
        refine lv_aload_n hx hb dX12_goesRound_52 rfl (lv_at hl 2 rfl) ?_
        refine pl_get (ci := 12) (v := .int (nI pa)) (C := RX12) (T := TX12) (N := 32) hx hb hT iX12 hown hK hW hT_o.1 hS_o rfl 5 (by decide) w1087 rfl dX12_goesRound_53 ?_
        refine lv_icmp_ge (tgt := 120) hx hb dX12_goesRound_56 (by decide) (fun c_56 => ?_) (fun c_56 => ?_)
        · have c_56 : pa ≤ i := (nI_leI (a := pa) (b := i) (by omega) (by omega)).mp c_56
          refine lv_iconst (v := 0) hx hb dX12_goesRound_120 (by decide) ?_
          exact W.zret (ty := .boolean) (v := 0) hx hb hr (by decide) (fun t ht h9 => ⟨⟨0, S_40, rfl, ⟨hTy, hFr, ⟨fun j hj => by rw [fld_i (S := S_40) hS_o rfl hWs, h18_]; exact hpre j hj, Or.inr ⟨rfl, by rw [h17_, h18_, wa_n hq_k_38 (by omega), wa_n hq_k_36 (by omega)]; exact NR_k (n := mn - 8) (by omega) (fun p h1 h2 h3 h4 => hnr p h1 (by omega) h3 h4)⟩⟩⟩, by rw [ht]; exact hW.1, va_K.moved h9.alike hK, hW.2.1⟩, hW.2.2.F ht⟩) hW.2.2.2.2 dX12_goesRound_121
        · have c_56 : ¬ (pa ≤ i) := fun hh9 => c_56 ((nI_leI (a := pa) (b := i) (by omega) (by omega)).mpr hh9)
          refine lv_iload_n hx hb dX12_goesRound_59 rfl (lv_at hl 5 rfl) ?_
          refine lv_iload hx hb dX12_goesRound_60 (lv_at hl 0 rfl) ?_
          refine lv_ishr hx hb dX12_goesRound_62 ?_
          refine lv_topi (fun z_41 ez_41 => ?_)
          refine lv_iconst (v := 1) hx hb dX12_goesRound_63 (by decide) ?_
          refine lv_iand hx hb dX12_goesRound_64 ?_
          refine lv_topi (fun z_42 ez_42 => ?_)
          refine lv_iconst (v := 1) hx hb dX12_goesRound_65 (by decide) ?_
          refine lv_icmp_eq (tgt := 114) hx hb dX12_goesRound_66 (by decide) (fun c_66 => ?_) (fun c_66 => ?_)
          · refine lv_iinc (v := nI (i + 1)) (lv' := [(5, .int (nI (i + 1))), (4, .int (nI k_36)), (0, .ref o), (1, .int 7), (2, .int (nI mn)), (3, .int so)]) hx hb dX12_goesRound_114 hl (k := 0) rfl (nI_add (i) 1) (by decide) rfl (fun ls hl => ?_)
            refine lv_goto (tgt := 50) hx hb dX12_goesRound_117 (by decide) ?_
            exact ih50 (i + 1) gw _ _ _ ls (by omega) (by omega) hWs hpre (by omega) (fun p h1 h2 h3 h4 => by by_cases e_ : p = i; exact absurd (by rw [e_]; exact sb_t (by omega) ez_41 ez_42 c_66) h3; exact hnr p h1 (by omega) h3 h4) hTy hFr hFl50 hW (lv_sub hl [0, 1, 2, 3, 4, 5] rfl)
          · refine lv_aload_n hx hb dX12_goesRound_69 rfl (lv_at hl 2 rfl) ?_
            refine pl_get (ci := 12) (v := .ref x_17) (C := RX12) (T := TX12) (N := 32) hx hb hT iX12 hown hK hW hT_o.1 hS_o rfl 17 (by decide) w1099 rfl dX12_goesRound_70 ?_
            refine lv_iload hx hb dX12_goesRound_73 (lv_at hl 1 rfl) ?_
            refine lv_iload hx hb dX12_goesRound_75 (lv_at hl 0 rfl) ?_
            refine vp_callSi (va_Run.run (va_runS (As := [.int (nI k_36), .int (nI i)]) (rest := [.ref x_17]) ⟨hx, hb, hml, hown, hT⟩ (m_couple l dC dI H.size k_36 i (by omega) (by omega)) (va_cwS 2 hT (gS w1348 w1349 w14 w1350) rfl rfl rfl (by decide +kernel) ⟨(Nat.le_of_ble_eq_true rfl), (Nat.le_of_ble_eq_true rfl)⟩) ⟨pcW.blind, pcW.pre (va_P0 _ _ _) (hK.sub (tys' := []) [] rfl) (va_D0 (fun _ => True))⟩ rfl rfl hl.1 rfl (lv_room (Nat.le_of_ble_eq_true rfl)) dX12_goesRound_77 ⟨(Nat.le_of_ble_eq_true rfl), (Nat.le_of_ble_eq_true rfl)⟩)) (fun r_43 hr_43 => ?_)
            obtain rfl : r_43 = nI (8 * k_36 + i) := hr_43
            refine pl_iald hx hb hK hW hT_x_17.1 hS_x_17 (vp_in_nI (n := 8 * k_36 + i) (N := 64) (by omega) (by omega)) dX12_goesRound_80 ?_
            refine lv_topi (fun y_44 ey_44 => ?_)
            refine lv_if_ne (tgt := 87) hx hb dX12_goesRound_81 (by decide) (fun c_81 => ?_) (fun c_81 => ?_)
            · refine lv_aload_n hx hb dX12_goesRound_87 rfl (lv_at hl 2 rfl) ?_
              refine pl_get (ci := 12) (v := .ref x_18) (C := RX12) (T := TX12) (N := 32) hx hb hT iX12 hown hK hW hT_o.1 hS_o rfl 18 (by decide) w1100 rfl dX12_goesRound_88 ?_
              refine lv_iload_n hx hb dX12_goesRound_91 rfl (lv_at hl 3 rfl) ?_
              refine lv_iload hx hb dX12_goesRound_92 (lv_at hl 0 rfl) ?_
              refine pl_iast hx hb hK hW hT_x_18.1 hWs (vp_in_nI (n := 7) (N := 8) (by omega) (by omega)) dX12_goesRound_94 (fun H locs f_46 S_45 ef_f_46 e1 hW => ?_)
              have hi_f_46 := inv_up hi_gw ef_f_46 ⟨i, by omega, rfl⟩
              have hTy := hTy.u57 e1 hT_x_18 ⟨f_46, rfl, hi_f_46⟩
              have hS_o := un e1 hT_o hT_x_18 (by decide) hS_o
              have hS_x_17 := un e1 hT_x_17 hT_x_18 (by decide) hS_x_17
              have hFr := uf hFr e1 hT_x_18 (by decide) (by decide)
              have hFl50 := uf hFl50 e1 hT_x_18 (by decide) (by decide)
              have hWs := us e1
              have ef_k : f_46 = upd gw 7 (nI i) := ef_f_46
              have hw1 : ∀ j, j < 7 → f_46 j = f_33 j := fun j hj => by rw [ef_k, pk_un (by omega)]; exact hpre j hj
              have hwk : f_46 7 = nI i := by rw [ef_k, pk_us]
              have hsf := sb_f (p := i) (by omega) ez_41 ez_42 c_66
              have hFne : f_32 (8 * k_36 + i) ≠ 0 := by have q := c_81; rw [ey_44, nI_clamp (by omega)] at q; exact q
              refine lv_aload_n hx hb dX12_goesRound_95 rfl (lv_at hl 2 rfl) ?_
              refine lv_iload_n hx hb dX12_goesRound_96 rfl (lv_at hl 3 rfl) ?_
              refine lv_iconst (v := 1) hx hb dX12_goesRound_97 (by decide) ?_
              refine lv_iadd hx hb dX12_goesRound_98 ?_
              refine lv_topi (fun z_47 ez_47 => ?_)
              obtain rfl : z_47 = 8 := ez_47.trans (by decide)
              refine lv_iload_n hx hb dX12_goesRound_99 rfl (lv_at hl 4 rfl) ?_
              refine lv_iload_n hx hb dX12_goesRound_100 rfl (lv_at hl 5 rfl) ?_
              refine lv_iconst (v := 1) hx hb dX12_goesRound_101 (by decide) ?_
              refine lv_iload hx hb dX12_goesRound_102 (lv_at hl 0 rfl) ?_
              refine lv_ishl hx hb dX12_goesRound_104 ?_
              refine lv_topi (fun z_48 ez_48 => ?_)
              refine lv_ior hx hb dX12_goesRound_105 ?_
              refine lv_topi (fun z_49 ez_49 => ?_)
              have h18b_ : fld S_45 o 18 = f_46 := fld_i hS_o rfl hWs
              have h17b_ : fld S_45 o 17 = f_32 := fld_i hS_o rfl hS_x_17
              refine pl_calli (va_runV (As := [.int 8, .int (nI mn), .int z_49]) (rest := []) ⟨hx, hb, hml, hown, hT⟩ (m_gr_8 l dC dI cy L kap pr S_45 H.size o mn z_49 hTy hT_o (by omega) pa ⟨inf_i hS_o rfl, by omega⟩ (by rw [h18b_]; exact SN_s hSN hw1 (fun i hi => wa_b hi_f_33 i (by omega)) (wa_n hwk (by omega)) (by omega) ez_48 ez_49)) (cwV 3 hT (gV w1398 w1400 ws87 w14 w1401) rfl rfl rfl (by decide +kernel) ⟨(Nat.le_of_ble_eq_true rfl), (Nat.le_of_ble_eq_true rfl)⟩) ⟨pcN.blind, pl_recv hK hW hT_o.1 hS_o rfl, pcN.pre hW.1 hK hW.2.1 hN (fun q h => absurd h List.not_mem_nil)⟩ rfl rfl hl.1 rfl (lv_room (Nat.le_of_ble_eq_true rfl)) dX12_goesRound_106 ⟨(Nat.le_of_ble_eq_true rfl), (Nat.le_of_ble_eq_true rfl)⟩) hW hA0 hA (fun r_51 S_50 H locs hrel hW => ?_)
              obtain ⟨hTy, hF1, hx1⟩ := hrel
              have hFr := hFr.tr hF1 (by decide)
              have hFl50 := hFl50.tr hF1 (by decide)
              have hS_o := hF1.at hT_o (by decide) hS_o
              have hS_x_17 := hF1.at hT_x_17 (by decide) hS_x_17
              have hWs := hF1.at hT_x_18 (by decide) hWs
              obtain ⟨hsm, hres⟩ := hx1
              rw [fld_i (S := S_50) hS_o rfl hWs, h18b_] at hsm
              rw [h17b_, h18b_, fld_i (S := S_50) hS_o rfl hWs] at hres
              have hpre2 : ∀ j, j < 7 → f_46 j = f_33 j := fun j hj => (hsm j (by omega)).trans (hw1 j hj)
              rcases hres with hc_ | hc_
              · obtain ⟨rfl, hrn⟩ := hc_
                have hRNG : RNG f_32 f_46 7 mn := RNG_s hrn (by omega) (by omega) hpre2 ((wa_c (hsm 7 (by omega))).trans (wa_n hwk (by omega))) ((wa_c (hpre2 6 (by omega))).trans (wa_n hq_k_36 (by omega))) hSN hsf hFne
                refine lv_if_eq (tgt := 114) hx hb dX12_goesRound_109 (by decide) (fun h => absurd h (by decide)) (fun _ => ?_)
                refine lv_iconst (v := 1) hx hb dX12_goesRound_112 (by decide) ?_
                exact W.zret (ty := .boolean) (v := 1) hx hb hr (by decide) (fun t ht h9 => ⟨⟨1, S_50, rfl, ⟨hTy, hFr, ⟨fun j hj => by rw [fld_i (S := S_50) hS_o rfl hWs, h18_]; exact hpre2 j hj, Or.inl ⟨rfl, by rw [h17_, fld_i (S := S_50) hS_o rfl hWs]; exact hRNG⟩⟩⟩, by rw [ht]; exact hW.1, va_K.moved h9.alike hK, hW.2.1⟩, hW.2.2.F ht⟩) hW.2.2.2.2 dX12_goesRound_113
              · obtain ⟨rfl, hrn⟩ := hc_
                rw [wa_n hwk (by omega), (wa_c (hw1 0 (by omega))).trans (wa_n hq_k_38 (by omega))] at hrn
                have hnri := NR_m (by omega) _ _ _ (fun q => bt so q = true ∨ q = i) (fun q hq hb => (sb_o (by omega) hq ez_48 ez_49).mp hb) hrn
                refine lv_if_eq (tgt := 114) hx hb dX12_goesRound_109 (by decide) (fun _ => ?_) (fun h => absurd (by decide) h)
                refine lv_iinc (v := nI (i + 1)) (lv' := [(5, .int (nI (i + 1))), (4, .int (nI k_36)), (0, .ref o), (1, .int 7), (2, .int (nI mn)), (3, .int so)]) hx hb dX12_goesRound_114 hl (k := 0) rfl (nI_add (i) 1) (by decide) rfl (fun ls hl => ?_)
                refine lv_goto (tgt := 50) hx hb dX12_goesRound_117 (by decide) ?_
                exact ih50 (i + 1) f_46 _ _ _ ls (by omega) (by omega) hWs hpre2 (by omega) (fun p h1 h2 h3 h4 => by by_cases e_ : p = i; rw [e_]; exact hnri; exact hnr p h1 (by omega) h3 h4) hTy hFr hFl50 hW (lv_sub hl [0, 1, 2, 3, 4, 5] rfl)
            · refine lv_goto (tgt := 114) hx hb dX12_goesRound_84 (by decide) ?_
              refine lv_iinc (v := nI (i + 1)) (lv' := [(5, .int (nI (i + 1))), (4, .int (nI k_36)), (0, .ref o), (1, .int 7), (2, .int (nI mn)), (3, .int so)]) hx hb dX12_goesRound_114 hl (k := 0) rfl (nI_add (i) 1) (by decide) rfl (fun ls hl => ?_)
              refine lv_goto (tgt := 50) hx hb dX12_goesRound_117 (by decide) ?_
              exact ih50 (i + 1) gw _ _ _ ls (by omega) (by omega) hWs hpre (by omega) (fun p h1 h2 h3 h4 => by by_cases e_ : p = i; exact absurd (by rw [e_]; have q := c_81; rw [ey_44, nI_clamp (by omega)] at q; exact q) h4; exact hnr p h1 (by omega) h3 h4) hTy hFr hFl50 hW (lv_sub hl [0, 1, 2, 3, 4, 5] rfl)
    exact loop ((9 - (k_38 + 1)) + 1) (k_38 + 1) f_33 _ _ _ ls (Nat.lt_succ_self _) (by omega) hS_x_18 (fun _ _ => rfl) (by omega) (fun p h1 h2 => by omega) hTy hFr Fr.rf hW (lv_sub hl [0, 1, 2, 3, 4, 5] rfl)
  · have c_12 : 7 = mn := (nI_eq (a := 7) (b := mn) (by omega) (by omega)).mp c_12
    refine lv_aload_n hx hb dX12_goesRound_15 rfl (lv_at hl 1 rfl) ?_
    refine pl_get (ci := 12) (v := .ref x_17) (C := RX12) (T := TX12) (N := 32) hx hb hT iX12 hown hK hW hT_o.1 hS_o rfl 17 (by decide) w1099 rfl dX12_goesRound_16 ?_
    refine lv_iload hx hb dX12_goesRound_19 (lv_at hl 0 rfl) ?_
    refine lv_aload_n hx hb dX12_goesRound_21 rfl (lv_at hl 1 rfl) ?_
    refine pl_get (ci := 12) (v := .ref x_18) (C := RX12) (T := TX12) (N := 32) hx hb hT iX12 hown hK hW hT_o.1 hS_o rfl 18 (by decide) w1100 rfl dX12_goesRound_22 ?_
    refine lv_iconst (v := 0) hx hb dX12_goesRound_25 (by decide) ?_
    refine pl_iald hx hb hK hW hT_x_18.1 hS_x_18 (vp_in_nI (n := 0) (N := 8) (by omega) (by omega)) dX12_goesRound_26 ?_
    refine lv_topi (fun y_52 ey_52 => ?_)
    obtain ⟨k_53, hb_k_53, hq_k_53⟩ := hi_f_33 (0) (by omega)
    obtain rfl : y_52 = nI k_53 := ey_52.trans (by show f_33 (nI (0)).toNatClampNeg = _; rw [nI_clamp (by omega)]; exact hq_k_53)
    refine vp_callSi (va_Run.run (va_runS (As := [.int (nI k_36), .int (nI k_53)]) (rest := [.ref x_17]) ⟨hx, hb, hml, hown, hT⟩ (m_couple l dC dI s.heap.size k_36 k_53 (by omega) (by omega)) (va_cwS 2 hT (gS w1348 w1349 w14 w1350) rfl rfl rfl (by decide +kernel) ⟨(Nat.le_of_ble_eq_true rfl), (Nat.le_of_ble_eq_true rfl)⟩) ⟨pcW.blind, pcW.pre (va_P0 _ _ _) (hK.sub (tys' := []) [] rfl) (va_D0 (fun _ => True))⟩ rfl rfl hl.1 rfl (lv_room (Nat.le_of_ble_eq_true rfl)) dX12_goesRound_27 ⟨(Nat.le_of_ble_eq_true rfl), (Nat.le_of_ble_eq_true rfl)⟩)) (fun r_54 hr_54 => ?_)
    obtain rfl : r_54 = nI (8 * k_36 + k_53) := hr_54
    refine pl_iald hx hb hK hW hT_x_17.1 hS_x_17 (vp_in_nI (n := 8 * k_36 + k_53) (N := 64) (by omega) (by omega)) dX12_goesRound_30 ?_
    refine lv_topi (fun y_55 ey_55 => ?_)
    refine lv_if_le (tgt := 38) hx hb dX12_goesRound_31 (by decide) (fun c_31 => ?_) (fun c_31 => ?_)
    · refine lv_iconst (v := 0) hx hb dX12_goesRound_38 (by decide) ?_
      exact W.zret (ty := .boolean) (v := 0) hx hb hr (by decide) (fun t ht h9 => ⟨⟨0, S, rfl, ⟨hTy, hFr, ⟨fun _ _ => rfl, Or.inr ⟨rfl, by rw [h17_, h18_, wa_n hq_k_53 (by omega), wa_n hq_k_36 (by omega)]; exact NR_z (by omega) (by have q := iposn c_31; rw [ey_55, nI_clamp (by omega)] at q; exact q)⟩⟩⟩, by rw [ht]; exact hW.1, va_K.moved h9.alike hK, hW.2.1⟩, hW.2.2.F ht⟩) hW.2.2.2.2 dX12_goesRound_39
    · refine lv_iconst (v := 1) hx hb dX12_goesRound_34 (by decide) ?_
      refine lv_goto (tgt := 39) hx hb dX12_goesRound_35 (by decide) ?_
      exact W.zret (ty := .boolean) (v := 1) hx hb hr (by decide) (fun t ht h9 => ⟨⟨1, S, rfl, ⟨hTy, hFr, ⟨fun _ _ => rfl, Or.inl ⟨rfl, by rw [h17_, fld_i (S := S) hS_o rfl hS_x_18, ← c_12]; exact RNG_0 (by rw [wa_n hq_k_36 (by omega), wa_n hq_k_53 (by omega)]; have q := ipos c_31; rw [ey_55, nI_clamp (by omega)] at q; exact q)⟩⟩⟩, by rw [ht]; exact hW.1, va_K.moved h9.alike hK, hW.2.1⟩, hW.2.2.F ht⟩) hW.2.2.2.2 dX12_goesRound_39

set_option maxHeartbeats 4000000 in
set_option maxRecDepth 100000 in
theorem m_gr_6 (l : Launch) (dC : Nat → ClassId) (dI : Nat → Nat → Nat) (cy : Nat → ClassId) (L : List Nat) (kap : Nat → Nat) (pr : Pr) (S : Nat → va_E) (sz : Nat) (o : Nat) (mn : Nat) (so : Int32) (hTy : Ty cy L kap pr S) (hT_o : TK L kap o 12) (hb_mn : 6 ≤ mn ∧ mn ≤ 8) (pa : Nat) (hpa : PA S o pa) (hSN : SN (fld S o 18) so 6) : Met l yX12_goesRound (wT yX12_goesRound cX12_goesRound 6 (some .boolean)) ({ frames := 3, cells := 0, slots := 0, locals := 71 }) (pcN dC dI [.ref o, .int 6, .int (nI mn), .int so] sz (va_pl L S) (cyT cy) NLs []) (va_Qi (fun r S' => Ty cy L kap pr S' ∧ Fr kap [57] S S' ∧ ((∀ j, j < 6 → fld S' o 18 j = fld S o 18 j) ∧ ((r = 1 ∧ RNG (fld S o 17) (fld S' o 18) 6 mn) ∨ (r = 0 ∧ NR (fld S o 17) pa (wa (fld S o 18) 0) (mn - 6) (wa (fld S o 18) 5) (fun q => bt so q = true))))) (fun S' t => pB dC dI (AL L sz) (va_pl L S') (cyT cy) t) (AL L sz)) 0 0 (AL L sz) := by
  refine Met.ofW (cc := cX12_goesRound) (maxL := 6) (ret := (some .boolean)) (by decide) rfl ?_
  intro p e s m args below meth c s₁ B hml hv
  obtain ⟨rfl, hsz, hP, hK, hD0, hN, -⟩ := hv
  have hx := B.exec
  have hb := B.bytes
  have hr := B.returns
  have hT : ∀ wd ∈ TB, wd.before [.ref o, .int 6, .int (nI mn), .int so].toArray s = true := fun wd h => atoms_spec (ws := wT yX12_goesRound cX12_goesRound 6 (some .boolean)) B.pre wd (List.mem_cons_of_mem _ h)
  have hown : s.vm.findClass RX12 = some m.cls := findClass_of_methodNamed B.named
  have hlocks := B.notSynchronized
  subst hsz
  have hW : PW dC dI L (AL L s.heap.size) s.heap S s.heap [] := ⟨hP, pl_self hD0, va_S.rf⟩
  have hA0 : ∀ q, q ∈ L → AL L s.heap.size q := fun _ h => Or.inl h
  have hA : ∀ q, s.heap.size ≤ q → AL L s.heap.size q := fun _ h => Or.inr h
  have hFr : Fr kap [57] S S := Fr.rf
  have hl := lv_entry ([.ref o, .int 6, .int (nI mn), .int so]) (n := 6) (Nat.le_of_ble_eq_true rfl)
  rw [lg_entry_eq]
  generalize (lg_sl ([.ref o, .int 6, .int (nI mn), .int so]) ++ List.replicate (6 - (lg_sl ([.ref o, .int 6, .int (nI mn), .int so])).length) Slot.unset).toArray = ls at hl ⊢
  have hl : lv_has ls 6 [(0, .ref o), (1, .int 6), (2, .int (nI mn)), (3, .int so)] := hl
  obtain ⟨x_1, x_2, x_3, x_4, x_5, x_6, x_7, x_8, x_9, x_10, x_11, x_12, x_13, x_14, x_15, x_16, x_17, x_18, x_19, x_20, x_21, x_22, x_23, x_24, x_25, x_26, x_27, x_28, x_29, x_30, x_31, hS_o, hT_x_1, hT_x_2, hT_x_3, hT_x_4, hT_x_5, hb_x_6, hb_x_7, hb_x_8, hT_x_10, hb_q2, hb_x_11, hb_x_12, hT_x_17, hT_x_18, hb_x_19, hT_x_20, hT_x_21, hT_x_22, hT_x_23, hT_x_24, hT_x_25, hT_x_26, hT_x_27, hT_x_28, hT_x_29, hT_x_30, hb_x_31⟩ := hTy.k12 hT_o
  have hb_q2 : pr.2 ≤ 900 := hb_q2
  have hS_o : S o = .inr (12, [.ref x_1, .ref x_2, .ref x_3, .ref x_4, .ref x_5, .int (nI x_6), .int (nI x_7), .int (nI x_8), .int x_9, .ref x_10, .int (nI (pr.2)), .int (nI x_11), .int (nI x_12), .int x_13, .int x_14, .int x_15, .int x_16, .ref x_17, .ref x_18, .int (nI x_19), .ref x_20, .ref x_21, .ref x_22, .ref x_23, .ref x_24, .ref x_25, .ref x_26, .ref x_27, .ref x_28, .ref x_29, .ref x_30, .int (nI x_31)]) := hS_o
  obtain rfl : pa = x_6 := PAe hpa hS_o rfl (by omega)
  obtain ⟨f_32, hS_x_17⟩ := hTy.k56 hT_x_17
  obtain ⟨f_33, hS_x_18, hi_f_33⟩ := hTy.k57 hT_x_18
  have h17_ : fld S o 17 = f_32 := fld_i hS_o rfl hS_x_17
  have h18_ : fld S o 18 = f_33 := fld_i hS_o rfl hS_x_18
  rw [h18_] at hSN
  refine lv_aload_n hx hb dX12_goesRound_0 rfl (lv_at hl 0 rfl) ?_
  refine pl_get (ci := 12) (v := .ref x_18) (C := RX12) (T := TX12) (N := 32) hx hb hT iX12 hown hK hW hT_o.1 hS_o rfl 18 (by decide) w1100 rfl dX12_goesRound_1 ?_
  refine lv_iload_n hx hb dX12_goesRound_4 rfl (lv_at hl 1 rfl) ?_
  refine lv_iconst (v := 1) hx hb dX12_goesRound_5 (by decide) ?_
  refine lv_isub hx hb dX12_goesRound_6 ?_
  refine lv_topi (fun z_34 ez_34 => ?_)
  obtain rfl : z_34 = 5 := ez_34.trans (by decide)
  refine pl_iald hx hb hK hW hT_x_18.1 hS_x_18 (vp_in_nI (n := 5) (N := 8) (by omega) (by omega)) dX12_goesRound_7 ?_
  refine lv_topi (fun y_35 ey_35 => ?_)
  obtain ⟨k_36, hb_k_36, hq_k_36⟩ := hi_f_33 (5) (by omega)
  obtain rfl : y_35 = nI k_36 := ey_35.trans (by show f_33 (nI (5)).toNatClampNeg = _; rw [nI_clamp (by omega)]; exact hq_k_36)
  refine lv_istore (lv' := [(4, .int (nI k_36)), (0, .ref o), (1, .int 6), (2, .int (nI mn)), (3, .int so)]) hx hb dX12_goesRound_8 hl (by decide) rfl (fun ls hl => ?_)
  refine lv_iload_n hx hb dX12_goesRound_10 rfl (lv_at hl 2 rfl) ?_
  refine lv_iload_n hx hb dX12_goesRound_11 rfl (lv_at hl 3 rfl) ?_
  refine lv_icmp_ne (tgt := 40) hx hb dX12_goesRound_12 (by decide) (fun c_12 => ?_) (fun c_12 => ?_)
  · have c_12 : ¬ (6 = mn) := fun hh9 => c_12 ((nI_eq (a := 6) (b := mn) (by omega) (by omega)).mpr hh9)
    refine lv_aload_n hx hb dX12_goesRound_40 rfl (lv_at hl 1 rfl) ?_
    refine pl_get (ci := 12) (v := .ref x_18) (C := RX12) (T := TX12) (N := 32) hx hb hT iX12 hown hK hW hT_o.1 hS_o rfl 18 (by decide) w1100 rfl dX12_goesRound_41 ?_
    refine lv_iconst (v := 0) hx hb dX12_goesRound_44 (by decide) ?_
    refine pl_iald hx hb hK hW hT_x_18.1 hS_x_18 (vp_in_nI (n := 0) (N := 8) (by omega) (by omega)) dX12_goesRound_45 ?_
    refine lv_topi (fun y_37 ey_37 => ?_)
    obtain ⟨k_38, hb_k_38, hq_k_38⟩ := hi_f_33 (0) (by omega)
    obtain rfl : y_37 = nI k_38 := ey_37.trans (by show f_33 (nI (0)).toNatClampNeg = _; rw [nI_clamp (by omega)]; exact hq_k_38)
    refine lv_iconst (v := 1) hx hb dX12_goesRound_46 (by decide) ?_
    refine lv_iadd hx hb dX12_goesRound_47 ?_
    refine lv_topi (fun z_39 ez_39 => ?_)
    obtain rfl : z_39 = nI (k_38 + 1) := ez_39.trans (nI_add (k_38) (1))
    refine lv_istore (lv' := [(5, .int (nI (k_38 + 1))), (4, .int (nI k_36)), (0, .ref o), (1, .int 6), (2, .int (nI mn)), (3, .int so)]) hx hb dX12_goesRound_48 hl (by decide) rfl (fun ls hl => ?_)
    have loop : ∀ (fuel : Nat) (i : Nat) (gw : Nat → Int32) (SS : Nat → va_E) (H : Heap) (locs : List Loc) (ls : Array Slot), 9 - i < fuel → (i ≤ 8) → (SS x_18 = .inl (cy 0, 8, .inl gw)) → (∀ j, j < 6 → gw j = f_33 j) → (k_38 < i) → (∀ p, k_38 < p → p < i → ¬ bt so p = true → f_32 (8 * k_36 + p) ≠ 0 → NR f_32 pa k_38 (mn - 7) p (fun q => bt so q = true ∨ q = p)) → Ty cy L kap pr SS → Fr kap [57] S SS → Fr kap [57] S SS → PW dC dI L (AL L s.heap.size) s.heap SS H locs → lv_has ls 6 [(5, .int (nI i)), (4, .int (nI k_36)), (0, .ref o), (1, .int 6), (2, .int (nI mn)), (3, .int so)] → W p l e (headSpec (wT yX12_goesRound cX12_goesRound 6 (some .boolean)) { frames := 3, cells := 0, slots := 0, locals := 71 }).room s m [.ref o, .int 6, .int (nI mn), .int so].toArray below meth c H locs 0 0 (MQ below (va_Qi (fun r S' => Ty cy L kap pr S' ∧ Fr kap [57] S S' ∧ ((∀ j, j < 6 → fld S' o 18 j = fld S o 18 j) ∧ ((r = 1 ∧ RNG (fld S o 17) (fld S' o 18) 6 mn) ∨ (r = 0 ∧ NR (fld S o 17) pa (wa (fld S o 18) 0) (mn - 6) (wa (fld S o 18) 5) (fun q => bt so q = true))))) (fun S' t => pB dC dI (AL L s.heap.size) (va_pl L S') (cyT cy) t) (AL L s.heap.size)) [.ref o, .int 6, .int (nI mn), .int so].toArray s 0 0 (AL L s.heap.size)) (F0 m 50 ls []) := by
      intro fuel
      induction fuel with
      | zero => intro i gw SS H locs ls h; exact absurd h (Nat.not_lt_zero _)
      | succ fu50 ih50 =>
        intro i gw S_40 H locs ls hm50 hb_i hWs hpre hiw hnr hTy hFr hFl50 hW hl
        have hS_o := hFl50.at hT_o (by decide) hS_o
        have hS_x_17 := hFl50.at hT_x_17 (by decide) hS_x_17
        have hi_gw := k57i hTy hT_x_18 hWs
        refine lv_iload hx hb dX12_goesRound_50 (lv_at hl 0 rfl) ?_
        refine lv_aload_n hx hb dX12_goesRound_52 rfl (lv_at hl 2 rfl) ?_
        refine pl_get (ci := 12) (v := .int (nI pa)) (C := RX12) (T := TX12) (N := 32) hx hb hT iX12 hown hK hW hT_o.1 hS_o rfl 5 (by decide) w1087 rfl dX12_goesRound_53 ?_
        refine lv_icmp_ge (tgt := 120) hx hb dX12_goesRound_56 (by decide) (fun c_56 => ?_) (fun c_56 => ?_)
        · have c_56 : pa ≤ i := (nI_leI (a := pa) (b := i) (by omega) (by omega)).mp c_56
          refine lv_iconst (v := 0) hx hb dX12_goesRound_120 (by decide) ?_
          exact W.zret (ty := .boolean) (v := 0) hx hb hr (by decide) (fun t ht h9 => ⟨⟨0, S_40, rfl, ⟨hTy, hFr, ⟨fun j hj => by rw [fld_i (S := S_40) hS_o rfl hWs, h18_]; exact hpre j hj, Or.inr ⟨rfl, by rw [h17_, h18_, wa_n hq_k_38 (by omega), wa_n hq_k_36 (by omega)]; exact NR_k (n := mn - 7) (by omega) (fun p h1 h2 h3 h4 => hnr p h1 (by omega) h3 h4)⟩⟩⟩, by rw [ht]; exact hW.1, va_K.moved h9.alike hK, hW.2.1⟩, hW.2.2.F ht⟩) hW.2.2.2.2 dX12_goesRound_121
        · have c_56 : ¬ (pa ≤ i) := fun hh9 => c_56 ((nI_leI (a := pa) (b := i) (by omega) (by omega)).mpr hh9)
          refine lv_iload_n hx hb dX12_goesRound_59 rfl (lv_at hl 5 rfl) ?_
          refine lv_iload hx hb dX12_goesRound_60 (lv_at hl 0 rfl) ?_
          refine lv_ishr hx hb dX12_goesRound_62 ?_
          refine lv_topi (fun z_41 ez_41 => ?_)
          refine lv_iconst (v := 1) hx hb dX12_goesRound_63 (by decide) ?_
          refine lv_iand hx hb dX12_goesRound_64 ?_
          refine lv_topi (fun z_42 ez_42 => ?_)
          refine lv_iconst (v := 1) hx hb dX12_goesRound_65 (by decide) ?_
          refine lv_icmp_eq (tgt := 114) hx hb dX12_goesRound_66 (by decide) (fun c_66 => ?_) (fun c_66 => ?_)
          · refine lv_iinc (v := nI (i + 1)) (lv' := [(5, .int (nI (i + 1))), (4, .int (nI k_36)), (0, .ref o), (1, .int 6), (2, .int (nI mn)), (3, .int so)]) hx hb dX12_goesRound_114 hl (k := 0) rfl (nI_add (i) 1) (by decide) rfl (fun ls hl => ?_)
            refine lv_goto (tgt := 50) hx hb dX12_goesRound_117 (by decide) ?_
            exact ih50 (i + 1) gw _ _ _ ls (by omega) (by omega) hWs hpre (by omega) (fun p h1 h2 h3 h4 => by by_cases e_ : p = i; exact absurd (by rw [e_]; exact sb_t (by omega) ez_41 ez_42 c_66) h3; exact hnr p h1 (by omega) h3 h4) hTy hFr hFl50 hW (lv_sub hl [0, 1, 2, 3, 4, 5] rfl)
          · refine lv_aload_n hx hb dX12_goesRound_69 rfl (lv_at hl 2 rfl) ?_
            refine pl_get (ci := 12) (v := .ref x_17) (C := RX12) (T := TX12) (N := 32) hx hb hT iX12 hown hK hW hT_o.1 hS_o rfl 17 (by decide) w1099 rfl dX12_goesRound_70 ?_
            refine lv_iload hx hb dX12_goesRound_73 (lv_at hl 1 rfl) ?_
            refine lv_iload hx hb dX12_goesRound_75 (lv_at hl 0 rfl) ?_
            refine vp_callSi (va_Run.run (va_runS (As := [.int (nI k_36), .int (nI i)]) (rest := [.ref x_17]) ⟨hx, hb, hml, hown, hT⟩ (m_couple l dC dI H.size k_36 i (by omega) (by omega)) (va_cwS 2 hT (gS w1348 w1349 w14 w1350) rfl rfl rfl (by decide +kernel) ⟨(Nat.le_of_ble_eq_true rfl), (Nat.le_of_ble_eq_true rfl)⟩) ⟨pcW.blind, pcW.pre (va_P0 _ _ _) (hK.sub (tys' := []) [] rfl) (va_D0 (fun _ => True))⟩ rfl rfl hl.1 rfl (lv_room (Nat.le_of_ble_eq_true rfl)) dX12_goesRound_77 ⟨(Nat.le_of_ble_eq_true rfl), (Nat.le_of_ble_eq_true rfl)⟩)) (fun r_43 hr_43 => ?_)
            obtain rfl : r_43 = nI (8 * k_36 + i) := hr_43
            refine pl_iald hx hb hK hW hT_x_17.1 hS_x_17 (vp_in_nI (n := 8 * k_36 + i) (N := 64) (by omega) (by omega)) dX12_goesRound_80 ?_
            refine lv_topi (fun y_44 ey_44 => ?_)
            refine lv_if_ne (tgt := 87) hx hb dX12_goesRound_81 (by decide) (fun c_81 => ?_) (fun c_81 => ?_)
            · refine lv_aload_n hx hb dX12_goesRound_87 rfl (lv_at hl 2 rfl) ?_
              refine pl_get (ci := 12) (v := .ref x_18) (C := RX12) (T := TX12) (N := 32) hx hb hT iX12 hown hK hW hT_o.1 hS_o rfl 18 (by decide) w1100 rfl dX12_goesRound_88 ?_
              refine lv_iload_n hx hb dX12_goesRound_91 rfl (lv_at hl 3 rfl) ?_
              refine lv_iload hx hb dX12_goesRound_92 (lv_at hl 0 rfl) ?_
              refine pl_iast hx hb hK hW hT_x_18.1 hWs (vp_in_nI (n := 6) (N := 8) (by omega) (by omega)) dX12_goesRound_94 (fun H locs f_46 S_45 ef_f_46 e1 hW => ?_)
              have hi_f_46 := inv_up hi_gw ef_f_46 ⟨i, by omega, rfl⟩
              have hTy := hTy.u57 e1 hT_x_18 ⟨f_46, rfl, hi_f_46⟩
              have hS_o := un e1 hT_o hT_x_18 (by decide) hS_o
              have hS_x_17 := un e1 hT_x_17 hT_x_18 (by decide) hS_x_17
              have hFr := uf hFr e1 hT_x_18 (by decide) (by decide)
              have hFl50 := uf hFl50 e1 hT_x_18 (by decide) (by decide)
              have hWs := us e1
              have ef_k : f_46 = upd gw 6 (nI i) := ef_f_46
              have hw1 : ∀ j, j < 6 → f_46 j = f_33 j := fun j hj => by rw [ef_k, pk_un (by omega)]; exact hpre j hj
              have hwk : f_46 6 = nI i := by rw [ef_k, pk_us]
              have hsf := sb_f (p := i) (by omega) ez_41 ez_42 c_66
              have hFne : f_32 (8 * k_36 + i) ≠ 0 := by have q := c_81; rw [ey_44, nI_clamp (by omega)] at q; exact q
              refine lv_aload_n hx hb dX12_goesRound_95 rfl (lv_at hl 2 rfl) ?_
              refine lv_iload_n hx hb dX12_goesRound_96 rfl (lv_at hl 3 rfl) ?_
              refine lv_iconst (v := 1) hx hb dX12_goesRound_97 (by decide) ?_
              refine lv_iadd hx hb dX12_goesRound_98 ?_
              refine lv_topi (fun z_47 ez_47 => ?_)
              obtain rfl : z_47 = 7 := ez_47.trans (by decide)
              refine lv_iload_n hx hb dX12_goesRound_99 rfl (lv_at hl 4 rfl) ?_
              refine lv_iload_n hx hb dX12_goesRound_100 rfl (lv_at hl 5 rfl) ?_
              refine lv_iconst (v := 1) hx hb dX12_goesRound_101 (by decide) ?_
              refine lv_iload hx hb dX12_goesRound_102 (lv_at hl 0 rfl) ?_
              refine lv_ishl hx hb dX12_goesRound_104 ?_
              refine lv_topi (fun z_48 ez_48 => ?_)
              refine lv_ior hx hb dX12_goesRound_105 ?_
              refine lv_topi (fun z_49 ez_49 => ?_)
              have h18b_ : fld S_45 o 18 = f_46 := fld_i hS_o rfl hWs
              have h17b_ : fld S_45 o 17 = f_32 := fld_i hS_o rfl hS_x_17
              refine pl_calli (va_runV (As := [.int 7, .int (nI mn), .int z_49]) (rest := []) ⟨hx, hb, hml, hown, hT⟩ (m_gr_7 l dC dI cy L kap pr S_45 H.size o mn z_49 hTy hT_o (by omega) pa ⟨inf_i hS_o rfl, by omega⟩ (by rw [h18b_]; exact SN_s hSN hw1 (fun i hi => wa_b hi_f_33 i (by omega)) (wa_n hwk (by omega)) (by omega) ez_48 ez_49)) (cwV 3 hT (gV w1398 w1400 ws87 w14 w1401) rfl rfl rfl (by decide +kernel) ⟨(Nat.le_of_ble_eq_true rfl), (Nat.le_of_ble_eq_true rfl)⟩) ⟨pcN.blind, pl_recv hK hW hT_o.1 hS_o rfl, pcN.pre hW.1 hK hW.2.1 hN (fun q h => absurd h List.not_mem_nil)⟩ rfl rfl hl.1 rfl (lv_room (Nat.le_of_ble_eq_true rfl)) dX12_goesRound_106 ⟨(Nat.le_of_ble_eq_true rfl), (Nat.le_of_ble_eq_true rfl)⟩) hW hA0 hA (fun r_51 S_50 H locs hrel hW => ?_)
              obtain ⟨hTy, hF1, hx1⟩ := hrel
              have hFr := hFr.tr hF1 (by decide)
              have hFl50 := hFl50.tr hF1 (by decide)
              have hS_o := hF1.at hT_o (by decide) hS_o
              have hS_x_17 := hF1.at hT_x_17 (by decide) hS_x_17
              obtain ⟨f_52, hS_x_18, hi_f_52⟩ := hTy.k57 hT_x_18
              obtain ⟨hsm, hres⟩ := hx1
              rw [fld_i (S := S_50) hS_o rfl hS_x_18, h18b_] at hsm
              rw [h17b_, h18b_, fld_i (S := S_50) hS_o rfl hS_x_18] at hres
              have hpre2 : ∀ j, j < 6 → f_52 j = f_33 j := fun j hj => (hsm j (by omega)).trans (hw1 j hj)
              rcases hres with hc_ | hc_
              · obtain ⟨rfl, hrn⟩ := hc_
                have hRNG : RNG f_32 f_52 6 mn := RNG_s hrn (by omega) (by omega) hpre2 ((wa_c (hsm 6 (by omega))).trans (wa_n hwk (by omega))) ((wa_c (hpre2 5 (by omega))).trans (wa_n hq_k_36 (by omega))) hSN hsf hFne
                refine lv_if_eq (tgt := 114) hx hb dX12_goesRound_109 (by decide) (fun h => absurd h (by decide)) (fun _ => ?_)
                refine lv_iconst (v := 1) hx hb dX12_goesRound_112 (by decide) ?_
                exact W.zret (ty := .boolean) (v := 1) hx hb hr (by decide) (fun t ht h9 => ⟨⟨1, S_50, rfl, ⟨hTy, hFr, ⟨fun j hj => by rw [fld_i (S := S_50) hS_o rfl hS_x_18, h18_]; exact hpre2 j hj, Or.inl ⟨rfl, by rw [h17_, fld_i (S := S_50) hS_o rfl hS_x_18]; exact hRNG⟩⟩⟩, by rw [ht]; exact hW.1, va_K.moved h9.alike hK, hW.2.1⟩, hW.2.2.F ht⟩) hW.2.2.2.2 dX12_goesRound_113
              · obtain ⟨rfl, hrn⟩ := hc_
                rw [wa_n hwk (by omega), (wa_c (hw1 0 (by omega))).trans (wa_n hq_k_38 (by omega))] at hrn
                have hnri := NR_m (by omega) _ _ _ (fun q => bt so q = true ∨ q = i) (fun q hq hb => (sb_o (by omega) hq ez_48 ez_49).mp hb) hrn
                refine lv_if_eq (tgt := 114) hx hb dX12_goesRound_109 (by decide) (fun _ => ?_) (fun h => absurd (by decide) h)
                refine lv_iinc (v := nI (i + 1)) (lv' := [(5, .int (nI (i + 1))), (4, .int (nI k_36)), (0, .ref o), (1, .int 6), (2, .int (nI mn)), (3, .int so)]) hx hb dX12_goesRound_114 hl (k := 0) rfl (nI_add (i) 1) (by decide) rfl (fun ls hl => ?_)
                refine lv_goto (tgt := 50) hx hb dX12_goesRound_117 (by decide) ?_
                exact ih50 (i + 1) f_52 _ _ _ ls (by omega) (by omega) hS_x_18 hpre2 (by omega) (fun p h1 h2 h3 h4 => by by_cases e_ : p = i; rw [e_]; exact hnri; exact hnr p h1 (by omega) h3 h4) hTy hFr hFl50 hW (lv_sub hl [0, 1, 2, 3, 4, 5] rfl)
            · refine lv_goto (tgt := 114) hx hb dX12_goesRound_84 (by decide) ?_
              refine lv_iinc (v := nI (i + 1)) (lv' := [(5, .int (nI (i + 1))), (4, .int (nI k_36)), (0, .ref o), (1, .int 6), (2, .int (nI mn)), (3, .int so)]) hx hb dX12_goesRound_114 hl (k := 0) rfl (nI_add (i) 1) (by decide) rfl (fun ls hl => ?_)
              refine lv_goto (tgt := 50) hx hb dX12_goesRound_117 (by decide) ?_
              exact ih50 (i + 1) gw _ _ _ ls (by omega) (by omega) hWs hpre (by omega) (fun p h1 h2 h3 h4 => by by_cases e_ : p = i; exact absurd (by rw [e_]; have q := c_81; rw [ey_44, nI_clamp (by omega)] at q; exact q) h4; exact hnr p h1 (by omega) h3 h4) hTy hFr hFl50 hW (lv_sub hl [0, 1, 2, 3, 4, 5] rfl)
    exact loop ((9 - (k_38 + 1)) + 1) (k_38 + 1) f_33 _ _ _ ls (Nat.lt_succ_self _) (by omega) hS_x_18 (fun _ _ => rfl) (by omega) (fun p h1 h2 => by omega) hTy hFr Fr.rf hW (lv_sub hl [0, 1, 2, 3, 4, 5] rfl)
  · have c_12 : 6 = mn := (nI_eq (a := 6) (b := mn) (by omega) (by omega)).mp c_12
    refine lv_aload_n hx hb dX12_goesRound_15 rfl (lv_at hl 1 rfl) ?_
    refine pl_get (ci := 12) (v := .ref x_17) (C := RX12) (T := TX12) (N := 32) hx hb hT iX12 hown hK hW hT_o.1 hS_o rfl 17 (by decide) w1099 rfl dX12_goesRound_16 ?_
    refine lv_iload hx hb dX12_goesRound_19 (lv_at hl 0 rfl) ?_
    refine lv_aload_n hx hb dX12_goesRound_21 rfl (lv_at hl 1 rfl) ?_
    refine pl_get (ci := 12) (v := .ref x_18) (C := RX12) (T := TX12) (N := 32) hx hb hT iX12 hown hK hW hT_o.1 hS_o rfl 18 (by decide) w1100 rfl dX12_goesRound_22 ?_
    refine lv_iconst (v := 0) hx hb dX12_goesRound_25 (by decide) ?_
    refine pl_iald hx hb hK hW hT_x_18.1 hS_x_18 (vp_in_nI (n := 0) (N := 8) (by omega) (by omega)) dX12_goesRound_26 ?_
    refine lv_topi (fun y_53 ey_53 => ?_)
    obtain ⟨k_54, hb_k_54, hq_k_54⟩ := hi_f_33 (0) (by omega)
    obtain rfl : y_53 = nI k_54 := ey_53.trans (by show f_33 (nI (0)).toNatClampNeg = _; rw [nI_clamp (by omega)]; exact hq_k_54)
    refine vp_callSi (va_Run.run (va_runS (As := [.int (nI k_36), .int (nI k_54)]) (rest := [.ref x_17]) ⟨hx, hb, hml, hown, hT⟩ (m_couple l dC dI s.heap.size k_36 k_54 (by omega) (by omega)) (va_cwS 2 hT (gS w1348 w1349 w14 w1350) rfl rfl rfl (by decide +kernel) ⟨(Nat.le_of_ble_eq_true rfl), (Nat.le_of_ble_eq_true rfl)⟩) ⟨pcW.blind, pcW.pre (va_P0 _ _ _) (hK.sub (tys' := []) [] rfl) (va_D0 (fun _ => True))⟩ rfl rfl hl.1 rfl (lv_room (Nat.le_of_ble_eq_true rfl)) dX12_goesRound_27 ⟨(Nat.le_of_ble_eq_true rfl), (Nat.le_of_ble_eq_true rfl)⟩)) (fun r_55 hr_55 => ?_)
    obtain rfl : r_55 = nI (8 * k_36 + k_54) := hr_55
    refine pl_iald hx hb hK hW hT_x_17.1 hS_x_17 (vp_in_nI (n := 8 * k_36 + k_54) (N := 64) (by omega) (by omega)) dX12_goesRound_30 ?_
    refine lv_topi (fun y_56 ey_56 => ?_)
    refine lv_if_le (tgt := 38) hx hb dX12_goesRound_31 (by decide) (fun c_31 => ?_) (fun c_31 => ?_)
    · refine lv_iconst (v := 0) hx hb dX12_goesRound_38 (by decide) ?_
      exact W.zret (ty := .boolean) (v := 0) hx hb hr (by decide) (fun t ht h9 => ⟨⟨0, S, rfl, ⟨hTy, hFr, ⟨fun _ _ => rfl, Or.inr ⟨rfl, by rw [h17_, h18_, wa_n hq_k_54 (by omega), wa_n hq_k_36 (by omega)]; exact NR_z (by omega) (by have q := iposn c_31; rw [ey_56, nI_clamp (by omega)] at q; exact q)⟩⟩⟩, by rw [ht]; exact hW.1, va_K.moved h9.alike hK, hW.2.1⟩, hW.2.2.F ht⟩) hW.2.2.2.2 dX12_goesRound_39
    · refine lv_iconst (v := 1) hx hb dX12_goesRound_34 (by decide) ?_
      refine lv_goto (tgt := 39) hx hb dX12_goesRound_35 (by decide) ?_
      exact W.zret (ty := .boolean) (v := 1) hx hb hr (by decide) (fun t ht h9 => ⟨⟨1, S, rfl, ⟨hTy, hFr, ⟨fun _ _ => rfl, Or.inl ⟨rfl, by rw [h17_, fld_i (S := S) hS_o rfl hS_x_18, ← c_12]; exact RNG_0 (by rw [wa_n hq_k_36 (by omega), wa_n hq_k_54 (by omega)]; have q := ipos c_31; rw [ey_56, nI_clamp (by omega)] at q; exact q)⟩⟩⟩, by rw [ht]; exact hW.1, va_K.moved h9.alike hK, hW.2.1⟩, hW.2.2.F ht⟩) hW.2.2.2.2 dX12_goesRound_39

set_option maxHeartbeats 4000000 in
set_option maxRecDepth 100000 in
theorem m_gr_5 (l : Launch) (dC : Nat → ClassId) (dI : Nat → Nat → Nat) (cy : Nat → ClassId) (L : List Nat) (kap : Nat → Nat) (pr : Pr) (S : Nat → va_E) (sz : Nat) (o : Nat) (mn : Nat) (so : Int32) (hTy : Ty cy L kap pr S) (hT_o : TK L kap o 12) (hb_mn : 5 ≤ mn ∧ mn ≤ 8) (pa : Nat) (hpa : PA S o pa) (hSN : SN (fld S o 18) so 5) : Met l yX12_goesRound (wT yX12_goesRound cX12_goesRound 6 (some .boolean)) ({ frames := 4, cells := 0, slots := 0, locals := 96 }) (pcN dC dI [.ref o, .int 5, .int (nI mn), .int so] sz (va_pl L S) (cyT cy) NLs []) (va_Qi (fun r S' => Ty cy L kap pr S' ∧ Fr kap [57] S S' ∧ ((∀ j, j < 5 → fld S' o 18 j = fld S o 18 j) ∧ ((r = 1 ∧ RNG (fld S o 17) (fld S' o 18) 5 mn) ∨ (r = 0 ∧ NR (fld S o 17) pa (wa (fld S o 18) 0) (mn - 5) (wa (fld S o 18) 4) (fun q => bt so q = true))))) (fun S' t => pB dC dI (AL L sz) (va_pl L S') (cyT cy) t) (AL L sz)) 0 0 (AL L sz) := by
  refine Met.ofW (cc := cX12_goesRound) (maxL := 6) (ret := (some .boolean)) (by decide) rfl ?_
  intro p e s m args below meth c s₁ B hml hv
  obtain ⟨rfl, hsz, hP, hK, hD0, hN, -⟩ := hv
  have hx := B.exec
  have hb := B.bytes
  have hr := B.returns
  have hT : ∀ wd ∈ TB, wd.before [.ref o, .int 5, .int (nI mn), .int so].toArray s = true := fun wd h => atoms_spec (ws := wT yX12_goesRound cX12_goesRound 6 (some .boolean)) B.pre wd (List.mem_cons_of_mem _ h)
  have hown : s.vm.findClass RX12 = some m.cls := findClass_of_methodNamed B.named
  have hlocks := B.notSynchronized
  subst hsz
  have hW : PW dC dI L (AL L s.heap.size) s.heap S s.heap [] := ⟨hP, pl_self hD0, va_S.rf⟩
  have hA0 : ∀ q, q ∈ L → AL L s.heap.size q := fun _ h => Or.inl h
  have hA : ∀ q, s.heap.size ≤ q → AL L s.heap.size q := fun _ h => Or.inr h
  have hFr : Fr kap [57] S S := Fr.rf
  have hl := lv_entry ([.ref o, .int 5, .int (nI mn), .int so]) (n := 6) (Nat.le_of_ble_eq_true rfl)
  rw [lg_entry_eq]
  generalize (lg_sl ([.ref o, .int 5, .int (nI mn), .int so]) ++ List.replicate (6 - (lg_sl ([.ref o, .int 5, .int (nI mn), .int so])).length) Slot.unset).toArray = ls at hl ⊢
  have hl : lv_has ls 6 [(0, .ref o), (1, .int 5), (2, .int (nI mn)), (3, .int so)] := hl
  obtain ⟨x_1, x_2, x_3, x_4, x_5, x_6, x_7, x_8, x_9, x_10, x_11, x_12, x_13, x_14, x_15, x_16, x_17, x_18, x_19, x_20, x_21, x_22, x_23, x_24, x_25, x_26, x_27, x_28, x_29, x_30, x_31, hS_o, hT_x_1, hT_x_2, hT_x_3, hT_x_4, hT_x_5, hb_x_6, hb_x_7, hb_x_8, hT_x_10, hb_q2, hb_x_11, hb_x_12, hT_x_17, hT_x_18, hb_x_19, hT_x_20, hT_x_21, hT_x_22, hT_x_23, hT_x_24, hT_x_25, hT_x_26, hT_x_27, hT_x_28, hT_x_29, hT_x_30, hb_x_31⟩ := hTy.k12 hT_o
  have hb_q2 : pr.2 ≤ 900 := hb_q2
  have hS_o : S o = .inr (12, [.ref x_1, .ref x_2, .ref x_3, .ref x_4, .ref x_5, .int (nI x_6), .int (nI x_7), .int (nI x_8), .int x_9, .ref x_10, .int (nI (pr.2)), .int (nI x_11), .int (nI x_12), .int x_13, .int x_14, .int x_15, .int x_16, .ref x_17, .ref x_18, .int (nI x_19), .ref x_20, .ref x_21, .ref x_22, .ref x_23, .ref x_24, .ref x_25, .ref x_26, .ref x_27, .ref x_28, .ref x_29, .ref x_30, .int (nI x_31)]) := hS_o
  obtain rfl : pa = x_6 := PAe hpa hS_o rfl (by omega)
  obtain ⟨f_32, hS_x_17⟩ := hTy.k56 hT_x_17
  obtain ⟨f_33, hS_x_18, hi_f_33⟩ := hTy.k57 hT_x_18
  have h17_ : fld S o 17 = f_32 := fld_i hS_o rfl hS_x_17
  have h18_ : fld S o 18 = f_33 := fld_i hS_o rfl hS_x_18
  rw [h18_] at hSN
  refine lv_aload_n hx hb dX12_goesRound_0 rfl (lv_at hl 0 rfl) ?_
  refine pl_get (ci := 12) (v := .ref x_18) (C := RX12) (T := TX12) (N := 32) hx hb hT iX12 hown hK hW hT_o.1 hS_o rfl 18 (by decide) w1100 rfl dX12_goesRound_1 ?_
  refine lv_iload_n hx hb dX12_goesRound_4 rfl (lv_at hl 1 rfl) ?_
  refine lv_iconst (v := 1) hx hb dX12_goesRound_5 (by decide) ?_
  refine lv_isub hx hb dX12_goesRound_6 ?_
  refine lv_topi (fun z_34 ez_34 => ?_)
  obtain rfl : z_34 = 4 := ez_34.trans (by decide)
  refine pl_iald hx hb hK hW hT_x_18.1 hS_x_18 (vp_in_nI (n := 4) (N := 8) (by omega) (by omega)) dX12_goesRound_7 ?_
  refine lv_topi (fun y_35 ey_35 => ?_)
  obtain ⟨k_36, hb_k_36, hq_k_36⟩ := hi_f_33 (4) (by omega)
  obtain rfl : y_35 = nI k_36 := ey_35.trans (by show f_33 (nI (4)).toNatClampNeg = _; rw [nI_clamp (by omega)]; exact hq_k_36)
  refine lv_istore (lv' := [(4, .int (nI k_36)), (0, .ref o), (1, .int 5), (2, .int (nI mn)), (3, .int so)]) hx hb dX12_goesRound_8 hl (by decide) rfl (fun ls hl => ?_)
  refine lv_iload_n hx hb dX12_goesRound_10 rfl (lv_at hl 2 rfl) ?_
  refine lv_iload_n hx hb dX12_goesRound_11 rfl (lv_at hl 3 rfl) ?_
  refine lv_icmp_ne (tgt := 40) hx hb dX12_goesRound_12 (by decide) (fun c_12 => ?_) (fun c_12 => ?_)
  · have c_12 : ¬ (5 = mn) := fun hh9 => c_12 ((nI_eq (a := 5) (b := mn) (by omega) (by omega)).mpr hh9)
    refine lv_aload_n hx hb dX12_goesRound_40 rfl (lv_at hl 1 rfl) ?_
    refine pl_get (ci := 12) (v := .ref x_18) (C := RX12) (T := TX12) (N := 32) hx hb hT iX12 hown hK hW hT_o.1 hS_o rfl 18 (by decide) w1100 rfl dX12_goesRound_41 ?_
    refine lv_iconst (v := 0) hx hb dX12_goesRound_44 (by decide) ?_
    refine pl_iald hx hb hK hW hT_x_18.1 hS_x_18 (vp_in_nI (n := 0) (N := 8) (by omega) (by omega)) dX12_goesRound_45 ?_
    refine lv_topi (fun y_37 ey_37 => ?_)
    obtain ⟨k_38, hb_k_38, hq_k_38⟩ := hi_f_33 (0) (by omega)
    obtain rfl : y_37 = nI k_38 := ey_37.trans (by show f_33 (nI (0)).toNatClampNeg = _; rw [nI_clamp (by omega)]; exact hq_k_38)
    refine lv_iconst (v := 1) hx hb dX12_goesRound_46 (by decide) ?_
    refine lv_iadd hx hb dX12_goesRound_47 ?_
    refine lv_topi (fun z_39 ez_39 => ?_)
    obtain rfl : z_39 = nI (k_38 + 1) := ez_39.trans (nI_add (k_38) (1))
    refine lv_istore (lv' := [(5, .int (nI (k_38 + 1))), (4, .int (nI k_36)), (0, .ref o), (1, .int 5), (2, .int (nI mn)), (3, .int so)]) hx hb dX12_goesRound_48 hl (by decide) rfl (fun ls hl => ?_)
    have loop : ∀ (fuel : Nat) (i : Nat) (gw : Nat → Int32) (SS : Nat → va_E) (H : Heap) (locs : List Loc) (ls : Array Slot), 9 - i < fuel → (i ≤ 8) → (SS x_18 = .inl (cy 0, 8, .inl gw)) → (∀ j, j < 5 → gw j = f_33 j) → (k_38 < i) → (∀ p, k_38 < p → p < i → ¬ bt so p = true → f_32 (8 * k_36 + p) ≠ 0 → NR f_32 pa k_38 (mn - 6) p (fun q => bt so q = true ∨ q = p)) → Ty cy L kap pr SS → Fr kap [57] S SS → Fr kap [57] S SS → PW dC dI L (AL L s.heap.size) s.heap SS H locs → lv_has ls 6 [(5, .int (nI i)), (4, .int (nI k_36)), (0, .ref o), (1, .int 5), (2, .int (nI mn)), (3, .int so)] → W p l e (headSpec (wT yX12_goesRound cX12_goesRound 6 (some .boolean)) { frames := 4, cells := 0, slots := 0, locals := 96 }).room s m [.ref o, .int 5, .int (nI mn), .int so].toArray below meth c H locs 0 0 (MQ below (va_Qi (fun r S' => Ty cy L kap pr S' ∧ Fr kap [57] S S' ∧ ((∀ j, j < 5 → fld S' o 18 j = fld S o 18 j) ∧ ((r = 1 ∧ RNG (fld S o 17) (fld S' o 18) 5 mn) ∨ (r = 0 ∧ NR (fld S o 17) pa (wa (fld S o 18) 0) (mn - 5) (wa (fld S o 18) 4) (fun q => bt so q = true))))) (fun S' t => pB dC dI (AL L s.heap.size) (va_pl L S') (cyT cy) t) (AL L s.heap.size)) [.ref o, .int 5, .int (nI mn), .int so].toArray s 0 0 (AL L s.heap.size)) (F0 m 50 ls []) := by
      intro fuel
      induction fuel with
      | zero => intro i gw SS H locs ls h; exact absurd h (Nat.not_lt_zero _)
      | succ fu50 ih50 =>
        intro i gw S_40 H locs ls hm50 hb_i hWs hpre hiw hnr hTy hFr hFl50 hW hl
        have hS_o := hFl50.at hT_o (by decide) hS_o
        have hS_x_17 := hFl50.at hT_x_17 (by decide) hS_x_17
        have hi_gw := k57i hTy hT_x_18 hWs
        refine lv_iload hx hb dX12_goesRound_50 (lv_at hl 0 rfl) ?_
        refine lv_aload_n hx hb dX12_goesRound_52 rfl (lv_at hl 2 rfl) ?_
        refine pl_get (ci := 12) (v := .int (nI pa)) (C := RX12) (T := TX12) (N := 32) hx hb hT iX12 hown hK hW hT_o.1 hS_o rfl 5 (by decide) w1087 rfl dX12_goesRound_53 ?_
        refine lv_icmp_ge (tgt := 120) hx hb dX12_goesRound_56 (by decide) (fun c_56 => ?_) (fun c_56 => ?_)
        · have c_56 : pa ≤ i := (nI_leI (a := pa) (b := i) (by omega) (by omega)).mp c_56
          refine lv_iconst (v := 0) hx hb dX12_goesRound_120 (by decide) ?_
          exact W.zret (ty := .boolean) (v := 0) hx hb hr (by decide) (fun t ht h9 => ⟨⟨0, S_40, rfl, ⟨hTy, hFr, ⟨fun j hj => by rw [fld_i (S := S_40) hS_o rfl hWs, h18_]; exact hpre j hj, Or.inr ⟨rfl, by rw [h17_, h18_, wa_n hq_k_38 (by omega), wa_n hq_k_36 (by omega)]; exact NR_k (n := mn - 6) (by omega) (fun p h1 h2 h3 h4 => hnr p h1 (by omega) h3 h4)⟩⟩⟩, by rw [ht]; exact hW.1, va_K.moved h9.alike hK, hW.2.1⟩, hW.2.2.F ht⟩) hW.2.2.2.2 dX12_goesRound_121
        · have c_56 : ¬ (pa ≤ i) := fun hh9 => c_56 ((nI_leI (a := pa) (b := i) (by omega) (by omega)).mpr hh9)
          refine lv_iload_n hx hb dX12_goesRound_59 rfl (lv_at hl 5 rfl) ?_
          refine lv_iload hx hb dX12_goesRound_60 (lv_at hl 0 rfl) ?_
          refine lv_ishr hx hb dX12_goesRound_62 ?_
          refine lv_topi (fun z_41 ez_41 => ?_)
          refine lv_iconst (v := 1) hx hb dX12_goesRound_63 (by decide) ?_
          refine lv_iand hx hb dX12_goesRound_64 ?_
          refine lv_topi (fun z_42 ez_42 => ?_)
          refine lv_iconst (v := 1) hx hb dX12_goesRound_65 (by decide) ?_
          refine lv_icmp_eq (tgt := 114) hx hb dX12_goesRound_66 (by decide) (fun c_66 => ?_) (fun c_66 => ?_)
          · refine lv_iinc (v := nI (i + 1)) (lv' := [(5, .int (nI (i + 1))), (4, .int (nI k_36)), (0, .ref o), (1, .int 5), (2, .int (nI mn)), (3, .int so)]) hx hb dX12_goesRound_114 hl (k := 0) rfl (nI_add (i) 1) (by decide) rfl (fun ls hl => ?_)
            refine lv_goto (tgt := 50) hx hb dX12_goesRound_117 (by decide) ?_
            exact ih50 (i + 1) gw _ _ _ ls (by omega) (by omega) hWs hpre (by omega) (fun p h1 h2 h3 h4 => by by_cases e_ : p = i; exact absurd (by rw [e_]; exact sb_t (by omega) ez_41 ez_42 c_66) h3; exact hnr p h1 (by omega) h3 h4) hTy hFr hFl50 hW (lv_sub hl [0, 1, 2, 3, 4, 5] rfl)
          · refine lv_aload_n hx hb dX12_goesRound_69 rfl (lv_at hl 2 rfl) ?_
            refine pl_get (ci := 12) (v := .ref x_17) (C := RX12) (T := TX12) (N := 32) hx hb hT iX12 hown hK hW hT_o.1 hS_o rfl 17 (by decide) w1099 rfl dX12_goesRound_70 ?_
            refine lv_iload hx hb dX12_goesRound_73 (lv_at hl 1 rfl) ?_
            refine lv_iload hx hb dX12_goesRound_75 (lv_at hl 0 rfl) ?_
            refine vp_callSi (va_Run.run (va_runS (As := [.int (nI k_36), .int (nI i)]) (rest := [.ref x_17]) ⟨hx, hb, hml, hown, hT⟩ (m_couple l dC dI H.size k_36 i (by omega) (by omega)) (va_cwS 2 hT (gS w1348 w1349 w14 w1350) rfl rfl rfl (by decide +kernel) ⟨(Nat.le_of_ble_eq_true rfl), (Nat.le_of_ble_eq_true rfl)⟩) ⟨pcW.blind, pcW.pre (va_P0 _ _ _) (hK.sub (tys' := []) [] rfl) (va_D0 (fun _ => True))⟩ rfl rfl hl.1 rfl (lv_room (Nat.le_of_ble_eq_true rfl)) dX12_goesRound_77 ⟨(Nat.le_of_ble_eq_true rfl), (Nat.le_of_ble_eq_true rfl)⟩)) (fun r_43 hr_43 => ?_)
            obtain rfl : r_43 = nI (8 * k_36 + i) := hr_43
            refine pl_iald hx hb hK hW hT_x_17.1 hS_x_17 (vp_in_nI (n := 8 * k_36 + i) (N := 64) (by omega) (by omega)) dX12_goesRound_80 ?_
            refine lv_topi (fun y_44 ey_44 => ?_)
            refine lv_if_ne (tgt := 87) hx hb dX12_goesRound_81 (by decide) (fun c_81 => ?_) (fun c_81 => ?_)
            · refine lv_aload_n hx hb dX12_goesRound_87 rfl (lv_at hl 2 rfl) ?_
              refine pl_get (ci := 12) (v := .ref x_18) (C := RX12) (T := TX12) (N := 32) hx hb hT iX12 hown hK hW hT_o.1 hS_o rfl 18 (by decide) w1100 rfl dX12_goesRound_88 ?_
              refine lv_iload_n hx hb dX12_goesRound_91 rfl (lv_at hl 3 rfl) ?_
              refine lv_iload hx hb dX12_goesRound_92 (lv_at hl 0 rfl) ?_
              refine pl_iast hx hb hK hW hT_x_18.1 hWs (vp_in_nI (n := 5) (N := 8) (by omega) (by omega)) dX12_goesRound_94 (fun H locs f_46 S_45 ef_f_46 e1 hW => ?_)
              have hi_f_46 := inv_up hi_gw ef_f_46 ⟨i, by omega, rfl⟩
              have hTy := hTy.u57 e1 hT_x_18 ⟨f_46, rfl, hi_f_46⟩
              have hS_o := un e1 hT_o hT_x_18 (by decide) hS_o
              have hS_x_17 := un e1 hT_x_17 hT_x_18 (by decide) hS_x_17
              have hFr := uf hFr e1 hT_x_18 (by decide) (by decide)
              have hFl50 := uf hFl50 e1 hT_x_18 (by decide) (by decide)
              have hWs := us e1
              have ef_k : f_46 = upd gw 5 (nI i) := ef_f_46
              have hw1 : ∀ j, j < 5 → f_46 j = f_33 j := fun j hj => by rw [ef_k, pk_un (by omega)]; exact hpre j hj
              have hwk : f_46 5 = nI i := by rw [ef_k, pk_us]
              have hsf := sb_f (p := i) (by omega) ez_41 ez_42 c_66
              have hFne : f_32 (8 * k_36 + i) ≠ 0 := by have q := c_81; rw [ey_44, nI_clamp (by omega)] at q; exact q
              refine lv_aload_n hx hb dX12_goesRound_95 rfl (lv_at hl 2 rfl) ?_
              refine lv_iload_n hx hb dX12_goesRound_96 rfl (lv_at hl 3 rfl) ?_
              refine lv_iconst (v := 1) hx hb dX12_goesRound_97 (by decide) ?_
              refine lv_iadd hx hb dX12_goesRound_98 ?_
              refine lv_topi (fun z_47 ez_47 => ?_)
              obtain rfl : z_47 = 6 := ez_47.trans (by decide)
              refine lv_iload_n hx hb dX12_goesRound_99 rfl (lv_at hl 4 rfl) ?_
              refine lv_iload_n hx hb dX12_goesRound_100 rfl (lv_at hl 5 rfl) ?_
              refine lv_iconst (v := 1) hx hb dX12_goesRound_101 (by decide) ?_
              refine lv_iload hx hb dX12_goesRound_102 (lv_at hl 0 rfl) ?_
              refine lv_ishl hx hb dX12_goesRound_104 ?_
              refine lv_topi (fun z_48 ez_48 => ?_)
              refine lv_ior hx hb dX12_goesRound_105 ?_
              refine lv_topi (fun z_49 ez_49 => ?_)
              have h18b_ : fld S_45 o 18 = f_46 := fld_i hS_o rfl hWs
              have h17b_ : fld S_45 o 17 = f_32 := fld_i hS_o rfl hS_x_17
              refine pl_calli (va_runV (As := [.int 6, .int (nI mn), .int z_49]) (rest := []) ⟨hx, hb, hml, hown, hT⟩ (m_gr_6 l dC dI cy L kap pr S_45 H.size o mn z_49 hTy hT_o (by omega) pa ⟨inf_i hS_o rfl, by omega⟩ (by rw [h18b_]; exact SN_s hSN hw1 (fun i hi => wa_b hi_f_33 i (by omega)) (wa_n hwk (by omega)) (by omega) ez_48 ez_49)) (cwV 3 hT (gV w1398 w1400 ws87 w14 w1401) rfl rfl rfl (by decide +kernel) ⟨(Nat.le_of_ble_eq_true rfl), (Nat.le_of_ble_eq_true rfl)⟩) ⟨pcN.blind, pl_recv hK hW hT_o.1 hS_o rfl, pcN.pre hW.1 hK hW.2.1 hN (fun q h => absurd h List.not_mem_nil)⟩ rfl rfl hl.1 rfl (lv_room (Nat.le_of_ble_eq_true rfl)) dX12_goesRound_106 ⟨(Nat.le_of_ble_eq_true rfl), (Nat.le_of_ble_eq_true rfl)⟩) hW hA0 hA (fun r_51 S_50 H locs hrel hW => ?_)
              obtain ⟨hTy, hF1, hx1⟩ := hrel
              have hFr := hFr.tr hF1 (by decide)
              have hFl50 := hFl50.tr hF1 (by decide)
              have hS_o := hF1.at hT_o (by decide) hS_o
              have hS_x_17 := hF1.at hT_x_17 (by decide) hS_x_17
              obtain ⟨f_52, hS_x_18, hi_f_52⟩ := hTy.k57 hT_x_18
              obtain ⟨hsm, hres⟩ := hx1
              rw [fld_i (S := S_50) hS_o rfl hS_x_18, h18b_] at hsm
              rw [h17b_, h18b_, fld_i (S := S_50) hS_o rfl hS_x_18] at hres
              have hpre2 : ∀ j, j < 5 → f_52 j = f_33 j := fun j hj => (hsm j (by omega)).trans (hw1 j hj)
              rcases hres with hc_ | hc_
              · obtain ⟨rfl, hrn⟩ := hc_
                have hRNG : RNG f_32 f_52 5 mn := RNG_s hrn (by omega) (by omega) hpre2 ((wa_c (hsm 5 (by omega))).trans (wa_n hwk (by omega))) ((wa_c (hpre2 4 (by omega))).trans (wa_n hq_k_36 (by omega))) hSN hsf hFne
                refine lv_if_eq (tgt := 114) hx hb dX12_goesRound_109 (by decide) (fun h => absurd h (by decide)) (fun _ => ?_)
                refine lv_iconst (v := 1) hx hb dX12_goesRound_112 (by decide) ?_
                exact W.zret (ty := .boolean) (v := 1) hx hb hr (by decide) (fun t ht h9 => ⟨⟨1, S_50, rfl, ⟨hTy, hFr, ⟨fun j hj => by rw [fld_i (S := S_50) hS_o rfl hS_x_18, h18_]; exact hpre2 j hj, Or.inl ⟨rfl, by rw [h17_, fld_i (S := S_50) hS_o rfl hS_x_18]; exact hRNG⟩⟩⟩, by rw [ht]; exact hW.1, va_K.moved h9.alike hK, hW.2.1⟩, hW.2.2.F ht⟩) hW.2.2.2.2 dX12_goesRound_113
              · obtain ⟨rfl, hrn⟩ := hc_
                rw [wa_n hwk (by omega), (wa_c (hw1 0 (by omega))).trans (wa_n hq_k_38 (by omega))] at hrn
                have hnri := NR_m (by omega) _ _ _ (fun q => bt so q = true ∨ q = i) (fun q hq hb => (sb_o (by omega) hq ez_48 ez_49).mp hb) hrn
                refine lv_if_eq (tgt := 114) hx hb dX12_goesRound_109 (by decide) (fun _ => ?_) (fun h => absurd (by decide) h)
                refine lv_iinc (v := nI (i + 1)) (lv' := [(5, .int (nI (i + 1))), (4, .int (nI k_36)), (0, .ref o), (1, .int 5), (2, .int (nI mn)), (3, .int so)]) hx hb dX12_goesRound_114 hl (k := 0) rfl (nI_add (i) 1) (by decide) rfl (fun ls hl => ?_)
                refine lv_goto (tgt := 50) hx hb dX12_goesRound_117 (by decide) ?_
                exact ih50 (i + 1) f_52 _ _ _ ls (by omega) (by omega) hS_x_18 hpre2 (by omega) (fun p h1 h2 h3 h4 => by by_cases e_ : p = i; rw [e_]; exact hnri; exact hnr p h1 (by omega) h3 h4) hTy hFr hFl50 hW (lv_sub hl [0, 1, 2, 3, 4, 5] rfl)
            · refine lv_goto (tgt := 114) hx hb dX12_goesRound_84 (by decide) ?_
              refine lv_iinc (v := nI (i + 1)) (lv' := [(5, .int (nI (i + 1))), (4, .int (nI k_36)), (0, .ref o), (1, .int 5), (2, .int (nI mn)), (3, .int so)]) hx hb dX12_goesRound_114 hl (k := 0) rfl (nI_add (i) 1) (by decide) rfl (fun ls hl => ?_)
              refine lv_goto (tgt := 50) hx hb dX12_goesRound_117 (by decide) ?_
              exact ih50 (i + 1) gw _ _ _ ls (by omega) (by omega) hWs hpre (by omega) (fun p h1 h2 h3 h4 => by by_cases e_ : p = i; exact absurd (by rw [e_]; have q := c_81; rw [ey_44, nI_clamp (by omega)] at q; exact q) h4; exact hnr p h1 (by omega) h3 h4) hTy hFr hFl50 hW (lv_sub hl [0, 1, 2, 3, 4, 5] rfl)
    exact loop ((9 - (k_38 + 1)) + 1) (k_38 + 1) f_33 _ _ _ ls (Nat.lt_succ_self _) (by omega) hS_x_18 (fun _ _ => rfl) (by omega) (fun p h1 h2 => by omega) hTy hFr Fr.rf hW (lv_sub hl [0, 1, 2, 3, 4, 5] rfl)
  · have c_12 : 5 = mn := (nI_eq (a := 5) (b := mn) (by omega) (by omega)).mp c_12
    refine lv_aload_n hx hb dX12_goesRound_15 rfl (lv_at hl 1 rfl) ?_
    refine pl_get (ci := 12) (v := .ref x_17) (C := RX12) (T := TX12) (N := 32) hx hb hT iX12 hown hK hW hT_o.1 hS_o rfl 17 (by decide) w1099 rfl dX12_goesRound_16 ?_
    refine lv_iload hx hb dX12_goesRound_19 (lv_at hl 0 rfl) ?_
    refine lv_aload_n hx hb dX12_goesRound_21 rfl (lv_at hl 1 rfl) ?_
    refine pl_get (ci := 12) (v := .ref x_18) (C := RX12) (T := TX12) (N := 32) hx hb hT iX12 hown hK hW hT_o.1 hS_o rfl 18 (by decide) w1100 rfl dX12_goesRound_22 ?_
    refine lv_iconst (v := 0) hx hb dX12_goesRound_25 (by decide) ?_
    refine pl_iald hx hb hK hW hT_x_18.1 hS_x_18 (vp_in_nI (n := 0) (N := 8) (by omega) (by omega)) dX12_goesRound_26 ?_
    refine lv_topi (fun y_53 ey_53 => ?_)
    obtain ⟨k_54, hb_k_54, hq_k_54⟩ := hi_f_33 (0) (by omega)
    obtain rfl : y_53 = nI k_54 := ey_53.trans (by show f_33 (nI (0)).toNatClampNeg = _; rw [nI_clamp (by omega)]; exact hq_k_54)
    refine vp_callSi (va_Run.run (va_runS (As := [.int (nI k_36), .int (nI k_54)]) (rest := [.ref x_17]) ⟨hx, hb, hml, hown, hT⟩ (m_couple l dC dI s.heap.size k_36 k_54 (by omega) (by omega)) (va_cwS 2 hT (gS w1348 w1349 w14 w1350) rfl rfl rfl (by decide +kernel) ⟨(Nat.le_of_ble_eq_true rfl), (Nat.le_of_ble_eq_true rfl)⟩) ⟨pcW.blind, pcW.pre (va_P0 _ _ _) (hK.sub (tys' := []) [] rfl) (va_D0 (fun _ => True))⟩ rfl rfl hl.1 rfl (lv_room (Nat.le_of_ble_eq_true rfl)) dX12_goesRound_27 ⟨(Nat.le_of_ble_eq_true rfl), (Nat.le_of_ble_eq_true rfl)⟩)) (fun r_55 hr_55 => ?_)
    obtain rfl : r_55 = nI (8 * k_36 + k_54) := hr_55
    refine pl_iald hx hb hK hW hT_x_17.1 hS_x_17 (vp_in_nI (n := 8 * k_36 + k_54) (N := 64) (by omega) (by omega)) dX12_goesRound_30 ?_
    refine lv_topi (fun y_56 ey_56 => ?_)
    refine lv_if_le (tgt := 38) hx hb dX12_goesRound_31 (by decide) (fun c_31 => ?_) (fun c_31 => ?_)
    · refine lv_iconst (v := 0) hx hb dX12_goesRound_38 (by decide) ?_
      exact W.zret (ty := .boolean) (v := 0) hx hb hr (by decide) (fun t ht h9 => ⟨⟨0, S, rfl, ⟨hTy, hFr, ⟨fun _ _ => rfl, Or.inr ⟨rfl, by rw [h17_, h18_, wa_n hq_k_54 (by omega), wa_n hq_k_36 (by omega)]; exact NR_z (by omega) (by have q := iposn c_31; rw [ey_56, nI_clamp (by omega)] at q; exact q)⟩⟩⟩, by rw [ht]; exact hW.1, va_K.moved h9.alike hK, hW.2.1⟩, hW.2.2.F ht⟩) hW.2.2.2.2 dX12_goesRound_39
    · refine lv_iconst (v := 1) hx hb dX12_goesRound_34 (by decide) ?_
      refine lv_goto (tgt := 39) hx hb dX12_goesRound_35 (by decide) ?_
      exact W.zret (ty := .boolean) (v := 1) hx hb hr (by decide) (fun t ht h9 => ⟨⟨1, S, rfl, ⟨hTy, hFr, ⟨fun _ _ => rfl, Or.inl ⟨rfl, by rw [h17_, fld_i (S := S) hS_o rfl hS_x_18, ← c_12]; exact RNG_0 (by rw [wa_n hq_k_36 (by omega), wa_n hq_k_54 (by omega)]; have q := ipos c_31; rw [ey_56, nI_clamp (by omega)] at q; exact q)⟩⟩⟩, by rw [ht]; exact hW.1, va_K.moved h9.alike hK, hW.2.1⟩, hW.2.2.F ht⟩) hW.2.2.2.2 dX12_goesRound_39

set_option maxHeartbeats 4000000 in
set_option maxRecDepth 100000 in
theorem m_gr_4 (l : Launch) (dC : Nat → ClassId) (dI : Nat → Nat → Nat) (cy : Nat → ClassId) (L : List Nat) (kap : Nat → Nat) (pr : Pr) (S : Nat → va_E) (sz : Nat) (o : Nat) (mn : Nat) (so : Int32) (hTy : Ty cy L kap pr S) (hT_o : TK L kap o 12) (hb_mn : 4 ≤ mn ∧ mn ≤ 8) (pa : Nat) (hpa : PA S o pa) (hSN : SN (fld S o 18) so 4) : Met l yX12_goesRound (wT yX12_goesRound cX12_goesRound 6 (some .boolean)) ({ frames := 5, cells := 0, slots := 0, locals := 121 }) (pcN dC dI [.ref o, .int 4, .int (nI mn), .int so] sz (va_pl L S) (cyT cy) NLs []) (va_Qi (fun r S' => Ty cy L kap pr S' ∧ Fr kap [57] S S' ∧ ((∀ j, j < 4 → fld S' o 18 j = fld S o 18 j) ∧ ((r = 1 ∧ RNG (fld S o 17) (fld S' o 18) 4 mn) ∨ (r = 0 ∧ NR (fld S o 17) pa (wa (fld S o 18) 0) (mn - 4) (wa (fld S o 18) 3) (fun q => bt so q = true))))) (fun S' t => pB dC dI (AL L sz) (va_pl L S') (cyT cy) t) (AL L sz)) 0 0 (AL L sz) := by
  refine Met.ofW (cc := cX12_goesRound) (maxL := 6) (ret := (some .boolean)) (by decide) rfl ?_
  intro p e s m args below meth c s₁ B hml hv
  obtain ⟨rfl, hsz, hP, hK, hD0, hN, -⟩ := hv
  have hx := B.exec
  have hb := B.bytes
  have hr := B.returns
  have hT : ∀ wd ∈ TB, wd.before [.ref o, .int 4, .int (nI mn), .int so].toArray s = true := fun wd h => atoms_spec (ws := wT yX12_goesRound cX12_goesRound 6 (some .boolean)) B.pre wd (List.mem_cons_of_mem _ h)
  have hown : s.vm.findClass RX12 = some m.cls := findClass_of_methodNamed B.named
  have hlocks := B.notSynchronized
  subst hsz
  have hW : PW dC dI L (AL L s.heap.size) s.heap S s.heap [] := ⟨hP, pl_self hD0, va_S.rf⟩
  have hA0 : ∀ q, q ∈ L → AL L s.heap.size q := fun _ h => Or.inl h
  have hA : ∀ q, s.heap.size ≤ q → AL L s.heap.size q := fun _ h => Or.inr h
  have hFr : Fr kap [57] S S := Fr.rf
  have hl := lv_entry ([.ref o, .int 4, .int (nI mn), .int so]) (n := 6) (Nat.le_of_ble_eq_true rfl)
  rw [lg_entry_eq]
  generalize (lg_sl ([.ref o, .int 4, .int (nI mn), .int so]) ++ List.replicate (6 - (lg_sl ([.ref o, .int 4, .int (nI mn), .int so])).length) Slot.unset).toArray = ls at hl ⊢
  have hl : lv_has ls 6 [(0, .ref o), (1, .int 4), (2, .int (nI mn)), (3, .int so)] := hl
  obtain ⟨x_1, x_2, x_3, x_4, x_5, x_6, x_7, x_8, x_9, x_10, x_11, x_12, x_13, x_14, x_15, x_16, x_17, x_18, x_19, x_20, x_21, x_22, x_23, x_24, x_25, x_26, x_27, x_28, x_29, x_30, x_31, hS_o, hT_x_1, hT_x_2, hT_x_3, hT_x_4, hT_x_5, hb_x_6, hb_x_7, hb_x_8, hT_x_10, hb_q2, hb_x_11, hb_x_12, hT_x_17, hT_x_18, hb_x_19, hT_x_20, hT_x_21, hT_x_22, hT_x_23, hT_x_24, hT_x_25, hT_x_26, hT_x_27, hT_x_28, hT_x_29, hT_x_30, hb_x_31⟩ := hTy.k12 hT_o
  have hb_q2 : pr.2 ≤ 900 := hb_q2
  have hS_o : S o = .inr (12, [.ref x_1, .ref x_2, .ref x_3, .ref x_4, .ref x_5, .int (nI x_6), .int (nI x_7), .int (nI x_8), .int x_9, .ref x_10, .int (nI (pr.2)), .int (nI x_11), .int (nI x_12), .int x_13, .int x_14, .int x_15, .int x_16, .ref x_17, .ref x_18, .int (nI x_19), .ref x_20, .ref x_21, .ref x_22, .ref x_23, .ref x_24, .ref x_25, .ref x_26, .ref x_27, .ref x_28, .ref x_29, .ref x_30, .int (nI x_31)]) := hS_o
  obtain rfl : pa = x_6 := PAe hpa hS_o rfl (by omega)
  obtain ⟨f_32, hS_x_17⟩ := hTy.k56 hT_x_17
  obtain ⟨f_33, hS_x_18, hi_f_33⟩ := hTy.k57 hT_x_18
  have h17_ : fld S o 17 = f_32 := fld_i hS_o rfl hS_x_17
  have h18_ : fld S o 18 = f_33 := fld_i hS_o rfl hS_x_18
  rw [h18_] at hSN
  refine lv_aload_n hx hb dX12_goesRound_0 rfl (lv_at hl 0 rfl) ?_
  refine pl_get (ci := 12) (v := .ref x_18) (C := RX12) (T := TX12) (N := 32) hx hb hT iX12 hown hK hW hT_o.1 hS_o rfl 18 (by decide) w1100 rfl dX12_goesRound_1 ?_
  refine lv_iload_n hx hb dX12_goesRound_4 rfl (lv_at hl 1 rfl) ?_
  refine lv_iconst (v := 1) hx hb dX12_goesRound_5 (by decide) ?_
  refine lv_isub hx hb dX12_goesRound_6 ?_
  refine lv_topi (fun z_34 ez_34 => ?_)
  obtain rfl : z_34 = 3 := ez_34.trans (by decide)
  refine pl_iald hx hb hK hW hT_x_18.1 hS_x_18 (vp_in_nI (n := 3) (N := 8) (by omega) (by omega)) dX12_goesRound_7 ?_
  refine lv_topi (fun y_35 ey_35 => ?_)
  obtain ⟨k_36, hb_k_36, hq_k_36⟩ := hi_f_33 (3) (by omega)
  obtain rfl : y_35 = nI k_36 := ey_35.trans (by show f_33 (nI (3)).toNatClampNeg = _; rw [nI_clamp (by omega)]; exact hq_k_36)
  refine lv_istore (lv' := [(4, .int (nI k_36)), (0, .ref o), (1, .int 4), (2, .int (nI mn)), (3, .int so)]) hx hb dX12_goesRound_8 hl (by decide) rfl (fun ls hl => ?_)
  refine lv_iload_n hx hb dX12_goesRound_10 rfl (lv_at hl 2 rfl) ?_
  refine lv_iload_n hx hb dX12_goesRound_11 rfl (lv_at hl 3 rfl) ?_
  refine lv_icmp_ne (tgt := 40) hx hb dX12_goesRound_12 (by decide) (fun c_12 => ?_) (fun c_12 => ?_)
  · have c_12 : ¬ (4 = mn) := fun hh9 => c_12 ((nI_eq (a := 4) (b := mn) (by omega) (by omega)).mpr hh9)
    refine lv_aload_n hx hb dX12_goesRound_40 rfl (lv_at hl 1 rfl) ?_
    refine pl_get (ci := 12) (v := .ref x_18) (C := RX12) (T := TX12) (N := 32) hx hb hT iX12 hown hK hW hT_o.1 hS_o rfl 18 (by decide) w1100 rfl dX12_goesRound_41 ?_
    refine lv_iconst (v := 0) hx hb dX12_goesRound_44 (by decide) ?_
    refine pl_iald hx hb hK hW hT_x_18.1 hS_x_18 (vp_in_nI (n := 0) (N := 8) (by omega) (by omega)) dX12_goesRound_45 ?_
    refine lv_topi (fun y_37 ey_37 => ?_)
    obtain ⟨k_38, hb_k_38, hq_k_38⟩ := hi_f_33 (0) (by omega)
    obtain rfl : y_37 = nI k_38 := ey_37.trans (by show f_33 (nI (0)).toNatClampNeg = _; rw [nI_clamp (by omega)]; exact hq_k_38)
    refine lv_iconst (v := 1) hx hb dX12_goesRound_46 (by decide) ?_
    refine lv_iadd hx hb dX12_goesRound_47 ?_
    refine lv_topi (fun z_39 ez_39 => ?_)
    obtain rfl : z_39 = nI (k_38 + 1) := ez_39.trans (nI_add (k_38) (1))
    refine lv_istore (lv' := [(5, .int (nI (k_38 + 1))), (4, .int (nI k_36)), (0, .ref o), (1, .int 4), (2, .int (nI mn)), (3, .int so)]) hx hb dX12_goesRound_48 hl (by decide) rfl (fun ls hl => ?_)
    have loop : ∀ (fuel : Nat) (i : Nat) (gw : Nat → Int32) (SS : Nat → va_E) (H : Heap) (locs : List Loc) (ls : Array Slot), 9 - i < fuel → (i ≤ 8) → (SS x_18 = .inl (cy 0, 8, .inl gw)) → (∀ j, j < 4 → gw j = f_33 j) → (k_38 < i) → (∀ p, k_38 < p → p < i → ¬ bt so p = true → f_32 (8 * k_36 + p) ≠ 0 → NR f_32 pa k_38 (mn - 5) p (fun q => bt so q = true ∨ q = p)) → Ty cy L kap pr SS → Fr kap [57] S SS → Fr kap [57] S SS → PW dC dI L (AL L s.heap.size) s.heap SS H locs → lv_has ls 6 [(5, .int (nI i)), (4, .int (nI k_36)), (0, .ref o), (1, .int 4), (2, .int (nI mn)), (3, .int so)] → W p l e (headSpec (wT yX12_goesRound cX12_goesRound 6 (some .boolean)) { frames := 5, cells := 0, slots := 0, locals := 121 }).room s m [.ref o, .int 4, .int (nI mn), .int so].toArray below meth c H locs 0 0 (MQ below (va_Qi (fun r S' => Ty cy L kap pr S' ∧ Fr kap [57] S S' ∧ ((∀ j, j < 4 → fld S' o 18 j = fld S o 18 j) ∧ ((r = 1 ∧ RNG (fld S o 17) (fld S' o 18) 4 mn) ∨ (r = 0 ∧ NR (fld S o 17) pa (wa (fld S o 18) 0) (mn - 4) (wa (fld S o 18) 3) (fun q => bt so q = true))))) (fun S' t => pB dC dI (AL L s.heap.size) (va_pl L S') (cyT cy) t) (AL L s.heap.size)) [.ref o, .int 4, .int (nI mn), .int so].toArray s 0 0 (AL L s.heap.size)) (F0 m 50 ls []) := by
      intro fuel
      induction fuel with
      | zero => intro i gw SS H locs ls h; exact absurd h (Nat.not_lt_zero _)
      | succ fu50 ih50 =>
        intro i gw S_40 H locs ls hm50 hb_i hWs hpre hiw hnr hTy hFr hFl50 hW hl
        have hS_o := hFl50.at hT_o (by decide) hS_o
        have hS_x_17 := hFl50.at hT_x_17 (by decide) hS_x_17
        have hi_gw := k57i hTy hT_x_18 hWs
        refine lv_iload hx hb dX12_goesRound_50 (lv_at hl 0 rfl) ?_
        refine lv_aload_n hx hb dX12_goesRound_52 rfl (lv_at hl 2 rfl) ?_
        refine pl_get (ci := 12) (v := .int (nI pa)) (C := RX12) (T := TX12) (N := 32) hx hb hT iX12 hown hK hW hT_o.1 hS_o rfl 5 (by decide) w1087 rfl dX12_goesRound_53 ?_
        refine lv_icmp_ge (tgt := 120) hx hb dX12_goesRound_56 (by decide) (fun c_56 => ?_) (fun c_56 => ?_)
        · have c_56 : pa ≤ i := (nI_leI (a := pa) (b := i) (by omega) (by omega)).mp c_56
          refine lv_iconst (v := 0) hx hb dX12_goesRound_120 (by decide) ?_
          exact W.zret (ty := .boolean) (v := 0) hx hb hr (by decide) (fun t ht h9 => ⟨⟨0, S_40, rfl, ⟨hTy, hFr, ⟨fun j hj => by rw [fld_i (S := S_40) hS_o rfl hWs, h18_]; exact hpre j hj, Or.inr ⟨rfl, by rw [h17_, h18_, wa_n hq_k_38 (by omega), wa_n hq_k_36 (by omega)]; exact NR_k (n := mn - 5) (by omega) (fun p h1 h2 h3 h4 => hnr p h1 (by omega) h3 h4)⟩⟩⟩, by rw [ht]; exact hW.1, va_K.moved h9.alike hK, hW.2.1⟩, hW.2.2.F ht⟩) hW.2.2.2.2 dX12_goesRound_121
        · have c_56 : ¬ (pa ≤ i) := fun hh9 => c_56 ((nI_leI (a := pa) (b := i) (by omega) (by omega)).mpr hh9)
          refine lv_iload_n hx hb dX12_goesRound_59 rfl (lv_at hl 5 rfl) ?_
          refine lv_iload hx hb dX12_goesRound_60 (lv_at hl 0 rfl) ?_
          refine lv_ishr hx hb dX12_goesRound_62 ?_
          refine lv_topi (fun z_41 ez_41 => ?_)
          refine lv_iconst (v := 1) hx hb dX12_goesRound_63 (by decide) ?_
          refine lv_iand hx hb dX12_goesRound_64 ?_
          refine lv_topi (fun z_42 ez_42 => ?_)
          refine lv_iconst (v := 1) hx hb dX12_goesRound_65 (by decide) ?_
          refine lv_icmp_eq (tgt := 114) hx hb dX12_goesRound_66 (by decide) (fun c_66 => ?_) (fun c_66 => ?_)
          · refine lv_iinc (v := nI (i + 1)) (lv' := [(5, .int (nI (i + 1))), (4, .int (nI k_36)), (0, .ref o), (1, .int 4), (2, .int (nI mn)), (3, .int so)]) hx hb dX12_goesRound_114 hl (k := 0) rfl (nI_add (i) 1) (by decide) rfl (fun ls hl => ?_)
            refine lv_goto (tgt := 50) hx hb dX12_goesRound_117 (by decide) ?_
            exact ih50 (i + 1) gw _ _ _ ls (by omega) (by omega) hWs hpre (by omega) (fun p h1 h2 h3 h4 => by by_cases e_ : p = i; exact absurd (by rw [e_]; exact sb_t (by omega) ez_41 ez_42 c_66) h3; exact hnr p h1 (by omega) h3 h4) hTy hFr hFl50 hW (lv_sub hl [0, 1, 2, 3, 4, 5] rfl)
          · refine lv_aload_n hx hb dX12_goesRound_69 rfl (lv_at hl 2 rfl) ?_
            refine pl_get (ci := 12) (v := .ref x_17) (C := RX12) (T := TX12) (N := 32) hx hb hT iX12 hown hK hW hT_o.1 hS_o rfl 17 (by decide) w1099 rfl dX12_goesRound_70 ?_
            refine lv_iload hx hb dX12_goesRound_73 (lv_at hl 1 rfl) ?_
            refine lv_iload hx hb dX12_goesRound_75 (lv_at hl 0 rfl) ?_
            refine vp_callSi (va_Run.run (va_runS (As := [.int (nI k_36), .int (nI i)]) (rest := [.ref x_17]) ⟨hx, hb, hml, hown, hT⟩ (m_couple l dC dI H.size k_36 i (by omega) (by omega)) (va_cwS 2 hT (gS w1348 w1349 w14 w1350) rfl rfl rfl (by decide +kernel) ⟨(Nat.le_of_ble_eq_true rfl), (Nat.le_of_ble_eq_true rfl)⟩) ⟨pcW.blind, pcW.pre (va_P0 _ _ _) (hK.sub (tys' := []) [] rfl) (va_D0 (fun _ => True))⟩ rfl rfl hl.1 rfl (lv_room (Nat.le_of_ble_eq_true rfl)) dX12_goesRound_77 ⟨(Nat.le_of_ble_eq_true rfl), (Nat.le_of_ble_eq_true rfl)⟩)) (fun r_43 hr_43 => ?_)
            obtain rfl : r_43 = nI (8 * k_36 + i) := hr_43
            refine pl_iald hx hb hK hW hT_x_17.1 hS_x_17 (vp_in_nI (n := 8 * k_36 + i) (N := 64) (by omega) (by omega)) dX12_goesRound_80 ?_
            refine lv_topi (fun y_44 ey_44 => ?_)
            refine lv_if_ne (tgt := 87) hx hb dX12_goesRound_81 (by decide) (fun c_81 => ?_) (fun c_81 => ?_)
            · refine lv_aload_n hx hb dX12_goesRound_87 rfl (lv_at hl 2 rfl) ?_
              refine pl_get (ci := 12) (v := .ref x_18) (C := RX12) (T := TX12) (N := 32) hx hb hT iX12 hown hK hW hT_o.1 hS_o rfl 18 (by decide) w1100 rfl dX12_goesRound_88 ?_
              refine lv_iload_n hx hb dX12_goesRound_91 rfl (lv_at hl 3 rfl) ?_
              refine lv_iload hx hb dX12_goesRound_92 (lv_at hl 0 rfl) ?_
              refine pl_iast hx hb hK hW hT_x_18.1 hWs (vp_in_nI (n := 4) (N := 8) (by omega) (by omega)) dX12_goesRound_94 (fun H locs f_46 S_45 ef_f_46 e1 hW => ?_)
              have hi_f_46 := inv_up hi_gw ef_f_46 ⟨i, by omega, rfl⟩
              have hTy := hTy.u57 e1 hT_x_18 ⟨f_46, rfl, hi_f_46⟩
              have hS_o := un e1 hT_o hT_x_18 (by decide) hS_o
              have hS_x_17 := un e1 hT_x_17 hT_x_18 (by decide) hS_x_17
              have hFr := uf hFr e1 hT_x_18 (by decide) (by decide)
              have hFl50 := uf hFl50 e1 hT_x_18 (by decide) (by decide)
              have hWs := us e1
              have ef_k : f_46 = upd gw 4 (nI i) := ef_f_46
              have hw1 : ∀ j, j < 4 → f_46 j = f_33 j := fun j hj => by rw [ef_k, pk_un (by omega)]; exact hpre j hj
              have hwk : f_46 4 = nI i := by rw [ef_k, pk_us]
              have hsf := sb_f (p := i) (by omega) ez_41 ez_42 c_66
              have hFne : f_32 (8 * k_36 + i) ≠ 0 := by have q := c_81; rw [ey_44, nI_clamp (by omega)] at q; exact q
              refine lv_aload_n hx hb dX12_goesRound_95 rfl (lv_at hl 2 rfl) ?_
              refine lv_iload_n hx hb dX12_goesRound_96 rfl (lv_at hl 3 rfl) ?_
              refine lv_iconst (v := 1) hx hb dX12_goesRound_97 (by decide) ?_
              refine lv_iadd hx hb dX12_goesRound_98 ?_
              refine lv_topi (fun z_47 ez_47 => ?_)
              obtain rfl : z_47 = 5 := ez_47.trans (by decide)
              refine lv_iload_n hx hb dX12_goesRound_99 rfl (lv_at hl 4 rfl) ?_
              refine lv_iload_n hx hb dX12_goesRound_100 rfl (lv_at hl 5 rfl) ?_
              refine lv_iconst (v := 1) hx hb dX12_goesRound_101 (by decide) ?_
              refine lv_iload hx hb dX12_goesRound_102 (lv_at hl 0 rfl) ?_
              refine lv_ishl hx hb dX12_goesRound_104 ?_
              refine lv_topi (fun z_48 ez_48 => ?_)
              refine lv_ior hx hb dX12_goesRound_105 ?_
              refine lv_topi (fun z_49 ez_49 => ?_)
              have h18b_ : fld S_45 o 18 = f_46 := fld_i hS_o rfl hWs
              have h17b_ : fld S_45 o 17 = f_32 := fld_i hS_o rfl hS_x_17
              refine pl_calli (va_runV (As := [.int 5, .int (nI mn), .int z_49]) (rest := []) ⟨hx, hb, hml, hown, hT⟩ (m_gr_5 l dC dI cy L kap pr S_45 H.size o mn z_49 hTy hT_o (by omega) pa ⟨inf_i hS_o rfl, by omega⟩ (by rw [h18b_]; exact SN_s hSN hw1 (fun i hi => wa_b hi_f_33 i (by omega)) (wa_n hwk (by omega)) (by omega) ez_48 ez_49)) (cwV 3 hT (gV w1398 w1400 ws87 w14 w1401) rfl rfl rfl (by decide +kernel) ⟨(Nat.le_of_ble_eq_true rfl), (Nat.le_of_ble_eq_true rfl)⟩) ⟨pcN.blind, pl_recv hK hW hT_o.1 hS_o rfl, pcN.pre hW.1 hK hW.2.1 hN (fun q h => absurd h List.not_mem_nil)⟩ rfl rfl hl.1 rfl (lv_room (Nat.le_of_ble_eq_true rfl)) dX12_goesRound_106 ⟨(Nat.le_of_ble_eq_true rfl), (Nat.le_of_ble_eq_true rfl)⟩) hW hA0 hA (fun r_51 S_50 H locs hrel hW => ?_)
              obtain ⟨hTy, hF1, hx1⟩ := hrel
              have hFr := hFr.tr hF1 (by decide)
              have hFl50 := hFl50.tr hF1 (by decide)
              have hS_o := hF1.at hT_o (by decide) hS_o
              have hS_x_17 := hF1.at hT_x_17 (by decide) hS_x_17
              obtain ⟨f_52, hS_x_18, hi_f_52⟩ := hTy.k57 hT_x_18
              obtain ⟨hsm, hres⟩ := hx1
              rw [fld_i (S := S_50) hS_o rfl hS_x_18, h18b_] at hsm
              rw [h17b_, h18b_, fld_i (S := S_50) hS_o rfl hS_x_18] at hres
              have hpre2 : ∀ j, j < 4 → f_52 j = f_33 j := fun j hj => (hsm j (by omega)).trans (hw1 j hj)
              rcases hres with hc_ | hc_
              · obtain ⟨rfl, hrn⟩ := hc_
                have hRNG : RNG f_32 f_52 4 mn := RNG_s hrn (by omega) (by omega) hpre2 ((wa_c (hsm 4 (by omega))).trans (wa_n hwk (by omega))) ((wa_c (hpre2 3 (by omega))).trans (wa_n hq_k_36 (by omega))) hSN hsf hFne
                refine lv_if_eq (tgt := 114) hx hb dX12_goesRound_109 (by decide) (fun h => absurd h (by decide)) (fun _ => ?_)
                refine lv_iconst (v := 1) hx hb dX12_goesRound_112 (by decide) ?_
                exact W.zret (ty := .boolean) (v := 1) hx hb hr (by decide) (fun t ht h9 => ⟨⟨1, S_50, rfl, ⟨hTy, hFr, ⟨fun j hj => by rw [fld_i (S := S_50) hS_o rfl hS_x_18, h18_]; exact hpre2 j hj, Or.inl ⟨rfl, by rw [h17_, fld_i (S := S_50) hS_o rfl hS_x_18]; exact hRNG⟩⟩⟩, by rw [ht]; exact hW.1, va_K.moved h9.alike hK, hW.2.1⟩, hW.2.2.F ht⟩) hW.2.2.2.2 dX12_goesRound_113
              · obtain ⟨rfl, hrn⟩ := hc_
                rw [wa_n hwk (by omega), (wa_c (hw1 0 (by omega))).trans (wa_n hq_k_38 (by omega))] at hrn
                have hnri := NR_m (by omega) _ _ _ (fun q => bt so q = true ∨ q = i) (fun q hq hb => (sb_o (by omega) hq ez_48 ez_49).mp hb) hrn
                refine lv_if_eq (tgt := 114) hx hb dX12_goesRound_109 (by decide) (fun _ => ?_) (fun h => absurd (by decide) h)
                refine lv_iinc (v := nI (i + 1)) (lv' := [(5, .int (nI (i + 1))), (4, .int (nI k_36)), (0, .ref o), (1, .int 4), (2, .int (nI mn)), (3, .int so)]) hx hb dX12_goesRound_114 hl (k := 0) rfl (nI_add (i) 1) (by decide) rfl (fun ls hl => ?_)
                refine lv_goto (tgt := 50) hx hb dX12_goesRound_117 (by decide) ?_
                exact ih50 (i + 1) f_52 _ _ _ ls (by omega) (by omega) hS_x_18 hpre2 (by omega) (fun p h1 h2 h3 h4 => by by_cases e_ : p = i; rw [e_]; exact hnri; exact hnr p h1 (by omega) h3 h4) hTy hFr hFl50 hW (lv_sub hl [0, 1, 2, 3, 4, 5] rfl)
            · refine lv_goto (tgt := 114) hx hb dX12_goesRound_84 (by decide) ?_
              refine lv_iinc (v := nI (i + 1)) (lv' := [(5, .int (nI (i + 1))), (4, .int (nI k_36)), (0, .ref o), (1, .int 4), (2, .int (nI mn)), (3, .int so)]) hx hb dX12_goesRound_114 hl (k := 0) rfl (nI_add (i) 1) (by decide) rfl (fun ls hl => ?_)
              refine lv_goto (tgt := 50) hx hb dX12_goesRound_117 (by decide) ?_
              exact ih50 (i + 1) gw _ _ _ ls (by omega) (by omega) hWs hpre (by omega) (fun p h1 h2 h3 h4 => by by_cases e_ : p = i; exact absurd (by rw [e_]; have q := c_81; rw [ey_44, nI_clamp (by omega)] at q; exact q) h4; exact hnr p h1 (by omega) h3 h4) hTy hFr hFl50 hW (lv_sub hl [0, 1, 2, 3, 4, 5] rfl)
    exact loop ((9 - (k_38 + 1)) + 1) (k_38 + 1) f_33 _ _ _ ls (Nat.lt_succ_self _) (by omega) hS_x_18 (fun _ _ => rfl) (by omega) (fun p h1 h2 => by omega) hTy hFr Fr.rf hW (lv_sub hl [0, 1, 2, 3, 4, 5] rfl)
  · have c_12 : 4 = mn := (nI_eq (a := 4) (b := mn) (by omega) (by omega)).mp c_12
    refine lv_aload_n hx hb dX12_goesRound_15 rfl (lv_at hl 1 rfl) ?_
    refine pl_get (ci := 12) (v := .ref x_17) (C := RX12) (T := TX12) (N := 32) hx hb hT iX12 hown hK hW hT_o.1 hS_o rfl 17 (by decide) w1099 rfl dX12_goesRound_16 ?_
    refine lv_iload hx hb dX12_goesRound_19 (lv_at hl 0 rfl) ?_
    refine lv_aload_n hx hb dX12_goesRound_21 rfl (lv_at hl 1 rfl) ?_
    refine pl_get (ci := 12) (v := .ref x_18) (C := RX12) (T := TX12) (N := 32) hx hb hT iX12 hown hK hW hT_o.1 hS_o rfl 18 (by decide) w1100 rfl dX12_goesRound_22 ?_
    refine lv_iconst (v := 0) hx hb dX12_goesRound_25 (by decide) ?_
    refine pl_iald hx hb hK hW hT_x_18.1 hS_x_18 (vp_in_nI (n := 0) (N := 8) (by omega) (by omega)) dX12_goesRound_26 ?_
    refine lv_topi (fun y_53 ey_53 => ?_)
    obtain ⟨k_54, hb_k_54, hq_k_54⟩ := hi_f_33 (0) (by omega)
    obtain rfl : y_53 = nI k_54 := ey_53.trans (by show f_33 (nI (0)).toNatClampNeg = _; rw [nI_clamp (by omega)]; exact hq_k_54)
    refine vp_callSi (va_Run.run (va_runS (As := [.int (nI k_36), .int (nI k_54)]) (rest := [.ref x_17]) ⟨hx, hb, hml, hown, hT⟩ (m_couple l dC dI s.heap.size k_36 k_54 (by omega) (by omega)) (va_cwS 2 hT (gS w1348 w1349 w14 w1350) rfl rfl rfl (by decide +kernel) ⟨(Nat.le_of_ble_eq_true rfl), (Nat.le_of_ble_eq_true rfl)⟩) ⟨pcW.blind, pcW.pre (va_P0 _ _ _) (hK.sub (tys' := []) [] rfl) (va_D0 (fun _ => True))⟩ rfl rfl hl.1 rfl (lv_room (Nat.le_of_ble_eq_true rfl)) dX12_goesRound_27 ⟨(Nat.le_of_ble_eq_true rfl), (Nat.le_of_ble_eq_true rfl)⟩)) (fun r_55 hr_55 => ?_)
    obtain rfl : r_55 = nI (8 * k_36 + k_54) := hr_55
    refine pl_iald hx hb hK hW hT_x_17.1 hS_x_17 (vp_in_nI (n := 8 * k_36 + k_54) (N := 64) (by omega) (by omega)) dX12_goesRound_30 ?_
    refine lv_topi (fun y_56 ey_56 => ?_)
    refine lv_if_le (tgt := 38) hx hb dX12_goesRound_31 (by decide) (fun c_31 => ?_) (fun c_31 => ?_)
    · refine lv_iconst (v := 0) hx hb dX12_goesRound_38 (by decide) ?_
      exact W.zret (ty := .boolean) (v := 0) hx hb hr (by decide) (fun t ht h9 => ⟨⟨0, S, rfl, ⟨hTy, hFr, ⟨fun _ _ => rfl, Or.inr ⟨rfl, by rw [h17_, h18_, wa_n hq_k_54 (by omega), wa_n hq_k_36 (by omega)]; exact NR_z (by omega) (by have q := iposn c_31; rw [ey_56, nI_clamp (by omega)] at q; exact q)⟩⟩⟩, by rw [ht]; exact hW.1, va_K.moved h9.alike hK, hW.2.1⟩, hW.2.2.F ht⟩) hW.2.2.2.2 dX12_goesRound_39
    · refine lv_iconst (v := 1) hx hb dX12_goesRound_34 (by decide) ?_
      refine lv_goto (tgt := 39) hx hb dX12_goesRound_35 (by decide) ?_
      exact W.zret (ty := .boolean) (v := 1) hx hb hr (by decide) (fun t ht h9 => ⟨⟨1, S, rfl, ⟨hTy, hFr, ⟨fun _ _ => rfl, Or.inl ⟨rfl, by rw [h17_, fld_i (S := S) hS_o rfl hS_x_18, ← c_12]; exact RNG_0 (by rw [wa_n hq_k_36 (by omega), wa_n hq_k_54 (by omega)]; have q := ipos c_31; rw [ey_56, nI_clamp (by omega)] at q; exact q)⟩⟩⟩, by rw [ht]; exact hW.1, va_K.moved h9.alike hK, hW.2.1⟩, hW.2.2.F ht⟩) hW.2.2.2.2 dX12_goesRound_39

set_option maxHeartbeats 4000000 in
set_option maxRecDepth 100000 in
theorem m_gr_3 (l : Launch) (dC : Nat → ClassId) (dI : Nat → Nat → Nat) (cy : Nat → ClassId) (L : List Nat) (kap : Nat → Nat) (pr : Pr) (S : Nat → va_E) (sz : Nat) (o : Nat) (mn : Nat) (so : Int32) (hTy : Ty cy L kap pr S) (hT_o : TK L kap o 12) (hb_mn : 3 ≤ mn ∧ mn ≤ 8) (pa : Nat) (hpa : PA S o pa) (hSN : SN (fld S o 18) so 3) : Met l yX12_goesRound (wT yX12_goesRound cX12_goesRound 6 (some .boolean)) ({ frames := 6, cells := 0, slots := 0, locals := 146 }) (pcN dC dI [.ref o, .int 3, .int (nI mn), .int so] sz (va_pl L S) (cyT cy) NLs []) (va_Qi (fun r S' => Ty cy L kap pr S' ∧ Fr kap [57] S S' ∧ ((∀ j, j < 3 → fld S' o 18 j = fld S o 18 j) ∧ ((r = 1 ∧ RNG (fld S o 17) (fld S' o 18) 3 mn) ∨ (r = 0 ∧ NR (fld S o 17) pa (wa (fld S o 18) 0) (mn - 3) (wa (fld S o 18) 2) (fun q => bt so q = true))))) (fun S' t => pB dC dI (AL L sz) (va_pl L S') (cyT cy) t) (AL L sz)) 0 0 (AL L sz) := by
  refine Met.ofW (cc := cX12_goesRound) (maxL := 6) (ret := (some .boolean)) (by decide) rfl ?_
  intro p e s m args below meth c s₁ B hml hv
  obtain ⟨rfl, hsz, hP, hK, hD0, hN, -⟩ := hv
  have hx := B.exec
  have hb := B.bytes
  have hr := B.returns
  have hT : ∀ wd ∈ TB, wd.before [.ref o, .int 3, .int (nI mn), .int so].toArray s = true := fun wd h => atoms_spec (ws := wT yX12_goesRound cX12_goesRound 6 (some .boolean)) B.pre wd (List.mem_cons_of_mem _ h)
  have hown : s.vm.findClass RX12 = some m.cls := findClass_of_methodNamed B.named
  have hlocks := B.notSynchronized
  subst hsz
  have hW : PW dC dI L (AL L s.heap.size) s.heap S s.heap [] := ⟨hP, pl_self hD0, va_S.rf⟩
  have hA0 : ∀ q, q ∈ L → AL L s.heap.size q := fun _ h => Or.inl h
  have hA : ∀ q, s.heap.size ≤ q → AL L s.heap.size q := fun _ h => Or.inr h
  have hFr : Fr kap [57] S S := Fr.rf
  have hl := lv_entry ([.ref o, .int 3, .int (nI mn), .int so]) (n := 6) (Nat.le_of_ble_eq_true rfl)
  rw [lg_entry_eq]
  generalize (lg_sl ([.ref o, .int 3, .int (nI mn), .int so]) ++ List.replicate (6 - (lg_sl ([.ref o, .int 3, .int (nI mn), .int so])).length) Slot.unset).toArray = ls at hl ⊢
  have hl : lv_has ls 6 [(0, .ref o), (1, .int 3), (2, .int (nI mn)), (3, .int so)] := hl
  obtain ⟨x_1, x_2, x_3, x_4, x_5, x_6, x_7, x_8, x_9, x_10, x_11, x_12, x_13, x_14, x_15, x_16, x_17, x_18, x_19, x_20, x_21, x_22, x_23, x_24, x_25, x_26, x_27, x_28, x_29, x_30, x_31, hS_o, hT_x_1, hT_x_2, hT_x_3, hT_x_4, hT_x_5, hb_x_6, hb_x_7, hb_x_8, hT_x_10, hb_q2, hb_x_11, hb_x_12, hT_x_17, hT_x_18, hb_x_19, hT_x_20, hT_x_21, hT_x_22, hT_x_23, hT_x_24, hT_x_25, hT_x_26, hT_x_27, hT_x_28, hT_x_29, hT_x_30, hb_x_31⟩ := hTy.k12 hT_o
  have hb_q2 : pr.2 ≤ 900 := hb_q2
  have hS_o : S o = .inr (12, [.ref x_1, .ref x_2, .ref x_3, .ref x_4, .ref x_5, .int (nI x_6), .int (nI x_7), .int (nI x_8), .int x_9, .ref x_10, .int (nI (pr.2)), .int (nI x_11), .int (nI x_12), .int x_13, .int x_14, .int x_15, .int x_16, .ref x_17, .ref x_18, .int (nI x_19), .ref x_20, .ref x_21, .ref x_22, .ref x_23, .ref x_24, .ref x_25, .ref x_26, .ref x_27, .ref x_28, .ref x_29, .ref x_30, .int (nI x_31)]) := hS_o
  obtain rfl : pa = x_6 := PAe hpa hS_o rfl (by omega)
  obtain ⟨f_32, hS_x_17⟩ := hTy.k56 hT_x_17
  obtain ⟨f_33, hS_x_18, hi_f_33⟩ := hTy.k57 hT_x_18
  have h17_ : fld S o 17 = f_32 := fld_i hS_o rfl hS_x_17
  have h18_ : fld S o 18 = f_33 := fld_i hS_o rfl hS_x_18
  rw [h18_] at hSN
  refine lv_aload_n hx hb dX12_goesRound_0 rfl (lv_at hl 0 rfl) ?_
  refine pl_get (ci := 12) (v := .ref x_18) (C := RX12) (T := TX12) (N := 32) hx hb hT iX12 hown hK hW hT_o.1 hS_o rfl 18 (by decide) w1100 rfl dX12_goesRound_1 ?_
  refine lv_iload_n hx hb dX12_goesRound_4 rfl (lv_at hl 1 rfl) ?_
  refine lv_iconst (v := 1) hx hb dX12_goesRound_5 (by decide) ?_
  refine lv_isub hx hb dX12_goesRound_6 ?_
  refine lv_topi (fun z_34 ez_34 => ?_)
  obtain rfl : z_34 = 2 := ez_34.trans (by decide)
  refine pl_iald hx hb hK hW hT_x_18.1 hS_x_18 (vp_in_nI (n := 2) (N := 8) (by omega) (by omega)) dX12_goesRound_7 ?_
  refine lv_topi (fun y_35 ey_35 => ?_)
  obtain ⟨k_36, hb_k_36, hq_k_36⟩ := hi_f_33 (2) (by omega)
  obtain rfl : y_35 = nI k_36 := ey_35.trans (by show f_33 (nI (2)).toNatClampNeg = _; rw [nI_clamp (by omega)]; exact hq_k_36)
  refine lv_istore (lv' := [(4, .int (nI k_36)), (0, .ref o), (1, .int 3), (2, .int (nI mn)), (3, .int so)]) hx hb dX12_goesRound_8 hl (by decide) rfl (fun ls hl => ?_)
  refine lv_iload_n hx hb dX12_goesRound_10 rfl (lv_at hl 2 rfl) ?_
  refine lv_iload_n hx hb dX12_goesRound_11 rfl (lv_at hl 3 rfl) ?_
  refine lv_icmp_ne (tgt := 40) hx hb dX12_goesRound_12 (by decide) (fun c_12 => ?_) (fun c_12 => ?_)
  · have c_12 : ¬ (3 = mn) := fun hh9 => c_12 ((nI_eq (a := 3) (b := mn) (by omega) (by omega)).mpr hh9)
    refine lv_aload_n hx hb dX12_goesRound_40 rfl (lv_at hl 1 rfl) ?_
    refine pl_get (ci := 12) (v := .ref x_18) (C := RX12) (T := TX12) (N := 32) hx hb hT iX12 hown hK hW hT_o.1 hS_o rfl 18 (by decide) w1100 rfl dX12_goesRound_41 ?_
    refine lv_iconst (v := 0) hx hb dX12_goesRound_44 (by decide) ?_
    refine pl_iald hx hb hK hW hT_x_18.1 hS_x_18 (vp_in_nI (n := 0) (N := 8) (by omega) (by omega)) dX12_goesRound_45 ?_
    refine lv_topi (fun y_37 ey_37 => ?_)
    obtain ⟨k_38, hb_k_38, hq_k_38⟩ := hi_f_33 (0) (by omega)
    obtain rfl : y_37 = nI k_38 := ey_37.trans (by show f_33 (nI (0)).toNatClampNeg = _; rw [nI_clamp (by omega)]; exact hq_k_38)
    refine lv_iconst (v := 1) hx hb dX12_goesRound_46 (by decide) ?_
    refine lv_iadd hx hb dX12_goesRound_47 ?_
    refine lv_topi (fun z_39 ez_39 => ?_)
    obtain rfl : z_39 = nI (k_38 + 1) := ez_39.trans (nI_add (k_38) (1))
    refine lv_istore (lv' := [(5, .int (nI (k_38 + 1))), (4, .int (nI k_36)), (0, .ref o), (1, .int 3), (2, .int (nI mn)), (3, .int so)]) hx hb dX12_goesRound_48 hl (by decide) rfl (fun ls hl => ?_)
    have loop : ∀ (fuel : Nat) (i : Nat) (gw : Nat → Int32) (SS : Nat → va_E) (H : Heap) (locs : List Loc) (ls : Array Slot), 9 - i < fuel → (i ≤ 8) → (SS x_18 = .inl (cy 0, 8, .inl gw)) → (∀ j, j < 3 → gw j = f_33 j) → (k_38 < i) → (∀ p, k_38 < p → p < i → ¬ bt so p = true → f_32 (8 * k_36 + p) ≠ 0 → NR f_32 pa k_38 (mn - 4) p (fun q => bt so q = true ∨ q = p)) → Ty cy L kap pr SS → Fr kap [57] S SS → Fr kap [57] S SS → PW dC dI L (AL L s.heap.size) s.heap SS H locs → lv_has ls 6 [(5, .int (nI i)), (4, .int (nI k_36)), (0, .ref o), (1, .int 3), (2, .int (nI mn)), (3, .int so)] → W p l e (headSpec (wT yX12_goesRound cX12_goesRound 6 (some .boolean)) { frames := 6, cells := 0, slots := 0, locals := 146 }).room s m [.ref o, .int 3, .int (nI mn), .int so].toArray below meth c H locs 0 0 (MQ below (va_Qi (fun r S' => Ty cy L kap pr S' ∧ Fr kap [57] S S' ∧ ((∀ j, j < 3 → fld S' o 18 j = fld S o 18 j) ∧ ((r = 1 ∧ RNG (fld S o 17) (fld S' o 18) 3 mn) ∨ (r = 0 ∧ NR (fld S o 17) pa (wa (fld S o 18) 0) (mn - 3) (wa (fld S o 18) 2) (fun q => bt so q = true))))) (fun S' t => pB dC dI (AL L s.heap.size) (va_pl L S') (cyT cy) t) (AL L s.heap.size)) [.ref o, .int 3, .int (nI mn), .int so].toArray s 0 0 (AL L s.heap.size)) (F0 m 50 ls []) := by
      intro fuel
      induction fuel with
      | zero => intro i gw SS H locs ls h; exact absurd h (Nat.not_lt_zero _)
      | succ fu50 ih50 =>
        intro i gw S_40 H locs ls hm50 hb_i hWs hpre hiw hnr hTy hFr hFl50 hW hl
        have hS_o := hFl50.at hT_o (by decide) hS_o
        have hS_x_17 := hFl50.at hT_x_17 (by decide) hS_x_17
        have hi_gw := k57i hTy hT_x_18 hWs
        refine lv_iload hx hb dX12_goesRound_50 (lv_at hl 0 rfl) ?_
        refine lv_aload_n hx hb dX12_goesRound_52 rfl (lv_at hl 2 rfl) ?_
        refine pl_get (ci := 12) (v := .int (nI pa)) (C := RX12) (T := TX12) (N := 32) hx hb hT iX12 hown hK hW hT_o.1 hS_o rfl 5 (by decide) w1087 rfl dX12_goesRound_53 ?_
        refine lv_icmp_ge (tgt := 120) hx hb dX12_goesRound_56 (by decide) (fun c_56 => ?_) (fun c_56 => ?_)
        · have c_56 : pa ≤ i := (nI_leI (a := pa) (b := i) (by omega) (by omega)).mp c_56
          refine lv_iconst (v := 0) hx hb dX12_goesRound_120 (by decide) ?_
          exact W.zret (ty := .boolean) (v := 0) hx hb hr (by decide) (fun t ht h9 => ⟨⟨0, S_40, rfl, ⟨hTy, hFr, ⟨fun j hj => by rw [fld_i (S := S_40) hS_o rfl hWs, h18_]; exact hpre j hj, Or.inr ⟨rfl, by rw [h17_, h18_, wa_n hq_k_38 (by omega), wa_n hq_k_36 (by omega)]; exact NR_k (n := mn - 4) (by omega) (fun p h1 h2 h3 h4 => hnr p h1 (by omega) h3 h4)⟩⟩⟩, by rw [ht]; exact hW.1, va_K.moved h9.alike hK, hW.2.1⟩, hW.2.2.F ht⟩) hW.2.2.2.2 dX12_goesRound_121
        · have c_56 : ¬ (pa ≤ i) := fun hh9 => c_56 ((nI_leI (a := pa) (b := i) (by omega) (by omega)).mpr hh9)
          refine lv_iload_n hx hb dX12_goesRound_59 rfl (lv_at hl 5 rfl) ?_
          refine lv_iload hx hb dX12_goesRound_60 (lv_at hl 0 rfl) ?_
          refine lv_ishr hx hb dX12_goesRound_62 ?_
          refine lv_topi (fun z_41 ez_41 => ?_)
          refine lv_iconst (v := 1) hx hb dX12_goesRound_63 (by decide) ?_
          refine lv_iand hx hb dX12_goesRound_64 ?_
          refine lv_topi (fun z_42 ez_42 => ?_)
          refine lv_iconst (v := 1) hx hb dX12_goesRound_65 (by decide) ?_
          refine lv_icmp_eq (tgt := 114) hx hb dX12_goesRound_66 (by decide) (fun c_66 => ?_) (fun c_66 => ?_)
          · refine lv_iinc (v := nI (i + 1)) (lv' := [(5, .int (nI (i + 1))), (4, .int (nI k_36)), (0, .ref o), (1, .int 3), (2, .int (nI mn)), (3, .int so)]) hx hb dX12_goesRound_114 hl (k := 0) rfl (nI_add (i) 1) (by decide) rfl (fun ls hl => ?_)
            refine lv_goto (tgt := 50) hx hb dX12_goesRound_117 (by decide) ?_
            exact ih50 (i + 1) gw _ _ _ ls (by omega) (by omega) hWs hpre (by omega) (fun p h1 h2 h3 h4 => by by_cases e_ : p = i; exact absurd (by rw [e_]; exact sb_t (by omega) ez_41 ez_42 c_66) h3; exact hnr p h1 (by omega) h3 h4) hTy hFr hFl50 hW (lv_sub hl [0, 1, 2, 3, 4, 5] rfl)
          · refine lv_aload_n hx hb dX12_goesRound_69 rfl (lv_at hl 2 rfl) ?_
            refine pl_get (ci := 12) (v := .ref x_17) (C := RX12) (T := TX12) (N := 32) hx hb hT iX12 hown hK hW hT_o.1 hS_o rfl 17 (by decide) w1099 rfl dX12_goesRound_70 ?_
            refine lv_iload hx hb dX12_goesRound_73 (lv_at hl 1 rfl) ?_
            refine lv_iload hx hb dX12_goesRound_75 (lv_at hl 0 rfl) ?_
            refine vp_callSi (va_Run.run (va_runS (As := [.int (nI k_36), .int (nI i)]) (rest := [.ref x_17]) ⟨hx, hb, hml, hown, hT⟩ (m_couple l dC dI H.size k_36 i (by omega) (by omega)) (va_cwS 2 hT (gS w1348 w1349 w14 w1350) rfl rfl rfl (by decide +kernel) ⟨(Nat.le_of_ble_eq_true rfl), (Nat.le_of_ble_eq_true rfl)⟩) ⟨pcW.blind, pcW.pre (va_P0 _ _ _) (hK.sub (tys' := []) [] rfl) (va_D0 (fun _ => True))⟩ rfl rfl hl.1 rfl (lv_room (Nat.le_of_ble_eq_true rfl)) dX12_goesRound_77 ⟨(Nat.le_of_ble_eq_true rfl), (Nat.le_of_ble_eq_true rfl)⟩)) (fun r_43 hr_43 => ?_)
            obtain rfl : r_43 = nI (8 * k_36 + i) := hr_43
            refine pl_iald hx hb hK hW hT_x_17.1 hS_x_17 (vp_in_nI (n := 8 * k_36 + i) (N := 64) (by omega) (by omega)) dX12_goesRound_80 ?_
            refine lv_topi (fun y_44 ey_44 => ?_)
            refine lv_if_ne (tgt := 87) hx hb dX12_goesRound_81 (by decide) (fun c_81 => ?_) (fun c_81 => ?_)
            · refine lv_aload_n hx hb dX12_goesRound_87 rfl (lv_at hl 2 rfl) ?_
              refine pl_get (ci := 12) (v := .ref x_18) (C := RX12) (T := TX12) (N := 32) hx hb hT iX12 hown hK hW hT_o.1 hS_o rfl 18 (by decide) w1100 rfl dX12_goesRound_88 ?_
              refine lv_iload_n hx hb dX12_goesRound_91 rfl (lv_at hl 3 rfl) ?_
              refine lv_iload hx hb dX12_goesRound_92 (lv_at hl 0 rfl) ?_
              refine pl_iast hx hb hK hW hT_x_18.1 hWs (vp_in_nI (n := 3) (N := 8) (by omega) (by omega)) dX12_goesRound_94 (fun H locs f_46 S_45 ef_f_46 e1 hW => ?_)
              have hi_f_46 := inv_up hi_gw ef_f_46 ⟨i, by omega, rfl⟩
              have hTy := hTy.u57 e1 hT_x_18 ⟨f_46, rfl, hi_f_46⟩
              have hS_o := un e1 hT_o hT_x_18 (by decide) hS_o
              have hS_x_17 := un e1 hT_x_17 hT_x_18 (by decide) hS_x_17
              have hFr := uf hFr e1 hT_x_18 (by decide) (by decide)
              have hFl50 := uf hFl50 e1 hT_x_18 (by decide) (by decide)
              have hWs := us e1
              have ef_k : f_46 = upd gw 3 (nI i) := ef_f_46
              have hw1 : ∀ j, j < 3 → f_46 j = f_33 j := fun j hj => by rw [ef_k, pk_un (by omega)]; exact hpre j hj
              have hwk : f_46 3 = nI i := by rw [ef_k, pk_us]
              have hsf := sb_f (p := i) (by omega) ez_41 ez_42 c_66
              have hFne : f_32 (8 * k_36 + i) ≠ 0 := by have q := c_81; rw [ey_44, nI_clamp (by omega)] at q; exact q
              refine lv_aload_n hx hb dX12_goesRound_95 rfl (lv_at hl 2 rfl) ?_
              refine lv_iload_n hx hb dX12_goesRound_96 rfl (lv_at hl 3 rfl) ?_
              refine lv_iconst (v := 1) hx hb dX12_goesRound_97 (by decide) ?_
              refine lv_iadd hx hb dX12_goesRound_98 ?_
              refine lv_topi (fun z_47 ez_47 => ?_)
              obtain rfl : z_47 = 4 := ez_47.trans (by decide)
              refine lv_iload_n hx hb dX12_goesRound_99 rfl (lv_at hl 4 rfl) ?_
              refine lv_iload_n hx hb dX12_goesRound_100 rfl (lv_at hl 5 rfl) ?_
              refine lv_iconst (v := 1) hx hb dX12_goesRound_101 (by decide) ?_
              refine lv_iload hx hb dX12_goesRound_102 (lv_at hl 0 rfl) ?_
              refine lv_ishl hx hb dX12_goesRound_104 ?_
              refine lv_topi (fun z_48 ez_48 => ?_)
              refine lv_ior hx hb dX12_goesRound_105 ?_
              refine lv_topi (fun z_49 ez_49 => ?_)
              have h18b_ : fld S_45 o 18 = f_46 := fld_i hS_o rfl hWs
              have h17b_ : fld S_45 o 17 = f_32 := fld_i hS_o rfl hS_x_17
              refine pl_calli (va_runV (As := [.int 4, .int (nI mn), .int z_49]) (rest := []) ⟨hx, hb, hml, hown, hT⟩ (m_gr_4 l dC dI cy L kap pr S_45 H.size o mn z_49 hTy hT_o (by omega) pa ⟨inf_i hS_o rfl, by omega⟩ (by rw [h18b_]; exact SN_s hSN hw1 (fun i hi => wa_b hi_f_33 i (by omega)) (wa_n hwk (by omega)) (by omega) ez_48 ez_49)) (cwV 3 hT (gV w1398 w1400 ws87 w14 w1401) rfl rfl rfl (by decide +kernel) ⟨(Nat.le_of_ble_eq_true rfl), (Nat.le_of_ble_eq_true rfl)⟩) ⟨pcN.blind, pl_recv hK hW hT_o.1 hS_o rfl, pcN.pre hW.1 hK hW.2.1 hN (fun q h => absurd h List.not_mem_nil)⟩ rfl rfl hl.1 rfl (lv_room (Nat.le_of_ble_eq_true rfl)) dX12_goesRound_106 ⟨(Nat.le_of_ble_eq_true rfl), (Nat.le_of_ble_eq_true rfl)⟩) hW hA0 hA (fun r_51 S_50 H locs hrel hW => ?_)
              obtain ⟨hTy, hF1, hx1⟩ := hrel
              have hFr := hFr.tr hF1 (by decide)
              have hFl50 := hFl50.tr hF1 (by decide)
              have hS_o := hF1.at hT_o (by decide) hS_o
              have hS_x_17 := hF1.at hT_x_17 (by decide) hS_x_17
              obtain ⟨f_52, hS_x_18, hi_f_52⟩ := hTy.k57 hT_x_18
              obtain ⟨hsm, hres⟩ := hx1
              rw [fld_i (S := S_50) hS_o rfl hS_x_18, h18b_] at hsm
              rw [h17b_, h18b_, fld_i (S := S_50) hS_o rfl hS_x_18] at hres
              have hpre2 : ∀ j, j < 3 → f_52 j = f_33 j := fun j hj => (hsm j (by omega)).trans (hw1 j hj)
              rcases hres with hc_ | hc_
              · obtain ⟨rfl, hrn⟩ := hc_
                have hRNG : RNG f_32 f_52 3 mn := RNG_s hrn (by omega) (by omega) hpre2 ((wa_c (hsm 3 (by omega))).trans (wa_n hwk (by omega))) ((wa_c (hpre2 2 (by omega))).trans (wa_n hq_k_36 (by omega))) hSN hsf hFne
                refine lv_if_eq (tgt := 114) hx hb dX12_goesRound_109 (by decide) (fun h => absurd h (by decide)) (fun _ => ?_)
                refine lv_iconst (v := 1) hx hb dX12_goesRound_112 (by decide) ?_
                exact W.zret (ty := .boolean) (v := 1) hx hb hr (by decide) (fun t ht h9 => ⟨⟨1, S_50, rfl, ⟨hTy, hFr, ⟨fun j hj => by rw [fld_i (S := S_50) hS_o rfl hS_x_18, h18_]; exact hpre2 j hj, Or.inl ⟨rfl, by rw [h17_, fld_i (S := S_50) hS_o rfl hS_x_18]; exact hRNG⟩⟩⟩, by rw [ht]; exact hW.1, va_K.moved h9.alike hK, hW.2.1⟩, hW.2.2.F ht⟩) hW.2.2.2.2 dX12_goesRound_113
              · obtain ⟨rfl, hrn⟩ := hc_
                rw [wa_n hwk (by omega), (wa_c (hw1 0 (by omega))).trans (wa_n hq_k_38 (by omega))] at hrn
                have hnri := NR_m (by omega) _ _ _ (fun q => bt so q = true ∨ q = i) (fun q hq hb => (sb_o (by omega) hq ez_48 ez_49).mp hb) hrn
                refine lv_if_eq (tgt := 114) hx hb dX12_goesRound_109 (by decide) (fun _ => ?_) (fun h => absurd (by decide) h)
                refine lv_iinc (v := nI (i + 1)) (lv' := [(5, .int (nI (i + 1))), (4, .int (nI k_36)), (0, .ref o), (1, .int 3), (2, .int (nI mn)), (3, .int so)]) hx hb dX12_goesRound_114 hl (k := 0) rfl (nI_add (i) 1) (by decide) rfl (fun ls hl => ?_)
                refine lv_goto (tgt := 50) hx hb dX12_goesRound_117 (by decide) ?_
                exact ih50 (i + 1) f_52 _ _ _ ls (by omega) (by omega) hS_x_18 hpre2 (by omega) (fun p h1 h2 h3 h4 => by by_cases e_ : p = i; rw [e_]; exact hnri; exact hnr p h1 (by omega) h3 h4) hTy hFr hFl50 hW (lv_sub hl [0, 1, 2, 3, 4, 5] rfl)
            · refine lv_goto (tgt := 114) hx hb dX12_goesRound_84 (by decide) ?_
              refine lv_iinc (v := nI (i + 1)) (lv' := [(5, .int (nI (i + 1))), (4, .int (nI k_36)), (0, .ref o), (1, .int 3), (2, .int (nI mn)), (3, .int so)]) hx hb dX12_goesRound_114 hl (k := 0) rfl (nI_add (i) 1) (by decide) rfl (fun ls hl => ?_)
              refine lv_goto (tgt := 50) hx hb dX12_goesRound_117 (by decide) ?_
              exact ih50 (i + 1) gw _ _ _ ls (by omega) (by omega) hWs hpre (by omega) (fun p h1 h2 h3 h4 => by by_cases e_ : p = i; exact absurd (by rw [e_]; have q := c_81; rw [ey_44, nI_clamp (by omega)] at q; exact q) h4; exact hnr p h1 (by omega) h3 h4) hTy hFr hFl50 hW (lv_sub hl [0, 1, 2, 3, 4, 5] rfl)
    exact loop ((9 - (k_38 + 1)) + 1) (k_38 + 1) f_33 _ _ _ ls (Nat.lt_succ_self _) (by omega) hS_x_18 (fun _ _ => rfl) (by omega) (fun p h1 h2 => by omega) hTy hFr Fr.rf hW (lv_sub hl [0, 1, 2, 3, 4, 5] rfl)
  · have c_12 : 3 = mn := (nI_eq (a := 3) (b := mn) (by omega) (by omega)).mp c_12
    refine lv_aload_n hx hb dX12_goesRound_15 rfl (lv_at hl 1 rfl) ?_
    refine pl_get (ci := 12) (v := .ref x_17) (C := RX12) (T := TX12) (N := 32) hx hb hT iX12 hown hK hW hT_o.1 hS_o rfl 17 (by decide) w1099 rfl dX12_goesRound_16 ?_
    refine lv_iload hx hb dX12_goesRound_19 (lv_at hl 0 rfl) ?_
    refine lv_aload_n hx hb dX12_goesRound_21 rfl (lv_at hl 1 rfl) ?_
    refine pl_get (ci := 12) (v := .ref x_18) (C := RX12) (T := TX12) (N := 32) hx hb hT iX12 hown hK hW hT_o.1 hS_o rfl 18 (by decide) w1100 rfl dX12_goesRound_22 ?_
    refine lv_iconst (v := 0) hx hb dX12_goesRound_25 (by decide) ?_
    refine pl_iald hx hb hK hW hT_x_18.1 hS_x_18 (vp_in_nI (n := 0) (N := 8) (by omega) (by omega)) dX12_goesRound_26 ?_
    refine lv_topi (fun y_53 ey_53 => ?_)
    obtain ⟨k_54, hb_k_54, hq_k_54⟩ := hi_f_33 (0) (by omega)
    obtain rfl : y_53 = nI k_54 := ey_53.trans (by show f_33 (nI (0)).toNatClampNeg = _; rw [nI_clamp (by omega)]; exact hq_k_54)
    refine vp_callSi (va_Run.run (va_runS (As := [.int (nI k_36), .int (nI k_54)]) (rest := [.ref x_17]) ⟨hx, hb, hml, hown, hT⟩ (m_couple l dC dI s.heap.size k_36 k_54 (by omega) (by omega)) (va_cwS 2 hT (gS w1348 w1349 w14 w1350) rfl rfl rfl (by decide +kernel) ⟨(Nat.le_of_ble_eq_true rfl), (Nat.le_of_ble_eq_true rfl)⟩) ⟨pcW.blind, pcW.pre (va_P0 _ _ _) (hK.sub (tys' := []) [] rfl) (va_D0 (fun _ => True))⟩ rfl rfl hl.1 rfl (lv_room (Nat.le_of_ble_eq_true rfl)) dX12_goesRound_27 ⟨(Nat.le_of_ble_eq_true rfl), (Nat.le_of_ble_eq_true rfl)⟩)) (fun r_55 hr_55 => ?_)
    obtain rfl : r_55 = nI (8 * k_36 + k_54) := hr_55
    refine pl_iald hx hb hK hW hT_x_17.1 hS_x_17 (vp_in_nI (n := 8 * k_36 + k_54) (N := 64) (by omega) (by omega)) dX12_goesRound_30 ?_
    refine lv_topi (fun y_56 ey_56 => ?_)
    refine lv_if_le (tgt := 38) hx hb dX12_goesRound_31 (by decide) (fun c_31 => ?_) (fun c_31 => ?_)
    · refine lv_iconst (v := 0) hx hb dX12_goesRound_38 (by decide) ?_
      exact W.zret (ty := .boolean) (v := 0) hx hb hr (by decide) (fun t ht h9 => ⟨⟨0, S, rfl, ⟨hTy, hFr, ⟨fun _ _ => rfl, Or.inr ⟨rfl, by rw [h17_, h18_, wa_n hq_k_54 (by omega), wa_n hq_k_36 (by omega)]; exact NR_z (by omega) (by have q := iposn c_31; rw [ey_56, nI_clamp (by omega)] at q; exact q)⟩⟩⟩, by rw [ht]; exact hW.1, va_K.moved h9.alike hK, hW.2.1⟩, hW.2.2.F ht⟩) hW.2.2.2.2 dX12_goesRound_39
    · refine lv_iconst (v := 1) hx hb dX12_goesRound_34 (by decide) ?_
      refine lv_goto (tgt := 39) hx hb dX12_goesRound_35 (by decide) ?_
      exact W.zret (ty := .boolean) (v := 1) hx hb hr (by decide) (fun t ht h9 => ⟨⟨1, S, rfl, ⟨hTy, hFr, ⟨fun _ _ => rfl, Or.inl ⟨rfl, by rw [h17_, fld_i (S := S) hS_o rfl hS_x_18, ← c_12]; exact RNG_0 (by rw [wa_n hq_k_36 (by omega), wa_n hq_k_54 (by omega)]; have q := ipos c_31; rw [ey_56, nI_clamp (by omega)] at q; exact q)⟩⟩⟩, by rw [ht]; exact hW.1, va_K.moved h9.alike hK, hW.2.1⟩, hW.2.2.F ht⟩) hW.2.2.2.2 dX12_goesRound_39

set_option maxHeartbeats 4000000 in
set_option maxRecDepth 100000 in
theorem m_gr_2 (l : Launch) (dC : Nat → ClassId) (dI : Nat → Nat → Nat) (cy : Nat → ClassId) (L : List Nat) (kap : Nat → Nat) (pr : Pr) (S : Nat → va_E) (sz : Nat) (o : Nat) (mn : Nat) (so : Int32) (hTy : Ty cy L kap pr S) (hT_o : TK L kap o 12) (hb_mn : 2 ≤ mn ∧ mn ≤ 8) (pa : Nat) (hpa : PA S o pa) (hSN : SN (fld S o 18) so 2) : Met l yX12_goesRound (wT yX12_goesRound cX12_goesRound 6 (some .boolean)) ({ frames := 7, cells := 0, slots := 0, locals := 171 }) (pcN dC dI [.ref o, .int 2, .int (nI mn), .int so] sz (va_pl L S) (cyT cy) NLs []) (va_Qi (fun r S' => Ty cy L kap pr S' ∧ Fr kap [57] S S' ∧ ((∀ j, j < 2 → fld S' o 18 j = fld S o 18 j) ∧ ((r = 1 ∧ RNG (fld S o 17) (fld S' o 18) 2 mn) ∨ (r = 0 ∧ NR (fld S o 17) pa (wa (fld S o 18) 0) (mn - 2) (wa (fld S o 18) 1) (fun q => bt so q = true))))) (fun S' t => pB dC dI (AL L sz) (va_pl L S') (cyT cy) t) (AL L sz)) 0 0 (AL L sz) := by
  refine Met.ofW (cc := cX12_goesRound) (maxL := 6) (ret := (some .boolean)) (by decide) rfl ?_
  intro p e s m args below meth c s₁ B hml hv
  obtain ⟨rfl, hsz, hP, hK, hD0, hN, -⟩ := hv
  have hx := B.exec
  have hb := B.bytes
  have hr := B.returns
  have hT : ∀ wd ∈ TB, wd.before [.ref o, .int 2, .int (nI mn), .int so].toArray s = true := fun wd h => atoms_spec (ws := wT yX12_goesRound cX12_goesRound 6 (some .boolean)) B.pre wd (List.mem_cons_of_mem _ h)
  have hown : s.vm.findClass RX12 = some m.cls := findClass_of_methodNamed B.named
  have hlocks := B.notSynchronized
  subst hsz
  have hW : PW dC dI L (AL L s.heap.size) s.heap S s.heap [] := ⟨hP, pl_self hD0, va_S.rf⟩
  have hA0 : ∀ q, q ∈ L → AL L s.heap.size q := fun _ h => Or.inl h
  have hA : ∀ q, s.heap.size ≤ q → AL L s.heap.size q := fun _ h => Or.inr h
  have hFr : Fr kap [57] S S := Fr.rf
  have hl := lv_entry ([.ref o, .int 2, .int (nI mn), .int so]) (n := 6) (Nat.le_of_ble_eq_true rfl)
  rw [lg_entry_eq]
  generalize (lg_sl ([.ref o, .int 2, .int (nI mn), .int so]) ++ List.replicate (6 - (lg_sl ([.ref o, .int 2, .int (nI mn), .int so])).length) Slot.unset).toArray = ls at hl ⊢
  have hl : lv_has ls 6 [(0, .ref o), (1, .int 2), (2, .int (nI mn)), (3, .int so)] := hl
  obtain ⟨x_1, x_2, x_3, x_4, x_5, x_6, x_7, x_8, x_9, x_10, x_11, x_12, x_13, x_14, x_15, x_16, x_17, x_18, x_19, x_20, x_21, x_22, x_23, x_24, x_25, x_26, x_27, x_28, x_29, x_30, x_31, hS_o, hT_x_1, hT_x_2, hT_x_3, hT_x_4, hT_x_5, hb_x_6, hb_x_7, hb_x_8, hT_x_10, hb_q2, hb_x_11, hb_x_12, hT_x_17, hT_x_18, hb_x_19, hT_x_20, hT_x_21, hT_x_22, hT_x_23, hT_x_24, hT_x_25, hT_x_26, hT_x_27, hT_x_28, hT_x_29, hT_x_30, hb_x_31⟩ := hTy.k12 hT_o
  have hb_q2 : pr.2 ≤ 900 := hb_q2
  have hS_o : S o = .inr (12, [.ref x_1, .ref x_2, .ref x_3, .ref x_4, .ref x_5, .int (nI x_6), .int (nI x_7), .int (nI x_8), .int x_9, .ref x_10, .int (nI (pr.2)), .int (nI x_11), .int (nI x_12), .int x_13, .int x_14, .int x_15, .int x_16, .ref x_17, .ref x_18, .int (nI x_19), .ref x_20, .ref x_21, .ref x_22, .ref x_23, .ref x_24, .ref x_25, .ref x_26, .ref x_27, .ref x_28, .ref x_29, .ref x_30, .int (nI x_31)]) := hS_o
  obtain rfl : pa = x_6 := PAe hpa hS_o rfl (by omega)
  obtain ⟨f_32, hS_x_17⟩ := hTy.k56 hT_x_17
  obtain ⟨f_33, hS_x_18, hi_f_33⟩ := hTy.k57 hT_x_18
  have h17_ : fld S o 17 = f_32 := fld_i hS_o rfl hS_x_17
  have h18_ : fld S o 18 = f_33 := fld_i hS_o rfl hS_x_18
  rw [h18_] at hSN
  refine lv_aload_n hx hb dX12_goesRound_0 rfl (lv_at hl 0 rfl) ?_
  refine pl_get (ci := 12) (v := .ref x_18) (C := RX12) (T := TX12) (N := 32) hx hb hT iX12 hown hK hW hT_o.1 hS_o rfl 18 (by decide) w1100 rfl dX12_goesRound_1 ?_
  refine lv_iload_n hx hb dX12_goesRound_4 rfl (lv_at hl 1 rfl) ?_
  refine lv_iconst (v := 1) hx hb dX12_goesRound_5 (by decide) ?_
  refine lv_isub hx hb dX12_goesRound_6 ?_
  refine lv_topi (fun z_34 ez_34 => ?_)
  obtain rfl : z_34 = 1 := ez_34.trans (by decide)
  refine pl_iald hx hb hK hW hT_x_18.1 hS_x_18 (vp_in_nI (n := 1) (N := 8) (by omega) (by omega)) dX12_goesRound_7 ?_
  refine lv_topi (fun y_35 ey_35 => ?_)
  obtain ⟨k_36, hb_k_36, hq_k_36⟩ := hi_f_33 (1) (by omega)
  obtain rfl : y_35 = nI k_36 := ey_35.trans (by show f_33 (nI (1)).toNatClampNeg = _; rw [nI_clamp (by omega)]; exact hq_k_36)
  refine lv_istore (lv' := [(4, .int (nI k_36)), (0, .ref o), (1, .int 2), (2, .int (nI mn)), (3, .int so)]) hx hb dX12_goesRound_8 hl (by decide) rfl (fun ls hl => ?_)
  refine lv_iload_n hx hb dX12_goesRound_10 rfl (lv_at hl 2 rfl) ?_
  refine lv_iload_n hx hb dX12_goesRound_11 rfl (lv_at hl 3 rfl) ?_
  refine lv_icmp_ne (tgt := 40) hx hb dX12_goesRound_12 (by decide) (fun c_12 => ?_) (fun c_12 => ?_)
  · have c_12 : ¬ (2 = mn) := fun hh9 => c_12 ((nI_eq (a := 2) (b := mn) (by omega) (by omega)).mpr hh9)
    refine lv_aload_n hx hb dX12_goesRound_40 rfl (lv_at hl 1 rfl) ?_
    refine pl_get (ci := 12) (v := .ref x_18) (C := RX12) (T := TX12) (N := 32) hx hb hT iX12 hown hK hW hT_o.1 hS_o rfl 18 (by decide) w1100 rfl dX12_goesRound_41 ?_
    refine lv_iconst (v := 0) hx hb dX12_goesRound_44 (by decide) ?_
    refine pl_iald hx hb hK hW hT_x_18.1 hS_x_18 (vp_in_nI (n := 0) (N := 8) (by omega) (by omega)) dX12_goesRound_45 ?_
    refine lv_topi (fun y_37 ey_37 => ?_)
    obtain ⟨k_38, hb_k_38, hq_k_38⟩ := hi_f_33 (0) (by omega)
    obtain rfl : y_37 = nI k_38 := ey_37.trans (by show f_33 (nI (0)).toNatClampNeg = _; rw [nI_clamp (by omega)]; exact hq_k_38)
    refine lv_iconst (v := 1) hx hb dX12_goesRound_46 (by decide) ?_
    refine lv_iadd hx hb dX12_goesRound_47 ?_
    refine lv_topi (fun z_39 ez_39 => ?_)
    obtain rfl : z_39 = nI (k_38 + 1) := ez_39.trans (nI_add (k_38) (1))
    refine lv_istore (lv' := [(5, .int (nI (k_38 + 1))), (4, .int (nI k_36)), (0, .ref o), (1, .int 2), (2, .int (nI mn)), (3, .int so)]) hx hb dX12_goesRound_48 hl (by decide) rfl (fun ls hl => ?_)
    have loop : ∀ (fuel : Nat) (i : Nat) (gw : Nat → Int32) (SS : Nat → va_E) (H : Heap) (locs : List Loc) (ls : Array Slot), 9 - i < fuel → (i ≤ 8) → (SS x_18 = .inl (cy 0, 8, .inl gw)) → (∀ j, j < 2 → gw j = f_33 j) → (k_38 < i) → (∀ p, k_38 < p → p < i → ¬ bt so p = true → f_32 (8 * k_36 + p) ≠ 0 → NR f_32 pa k_38 (mn - 3) p (fun q => bt so q = true ∨ q = p)) → Ty cy L kap pr SS → Fr kap [57] S SS → Fr kap [57] S SS → PW dC dI L (AL L s.heap.size) s.heap SS H locs → lv_has ls 6 [(5, .int (nI i)), (4, .int (nI k_36)), (0, .ref o), (1, .int 2), (2, .int (nI mn)), (3, .int so)] → W p l e (headSpec (wT yX12_goesRound cX12_goesRound 6 (some .boolean)) { frames := 7, cells := 0, slots := 0, locals := 171 }).room s m [.ref o, .int 2, .int (nI mn), .int so].toArray below meth c H locs 0 0 (MQ below (va_Qi (fun r S' => Ty cy L kap pr S' ∧ Fr kap [57] S S' ∧ ((∀ j, j < 2 → fld S' o 18 j = fld S o 18 j) ∧ ((r = 1 ∧ RNG (fld S o 17) (fld S' o 18) 2 mn) ∨ (r = 0 ∧ NR (fld S o 17) pa (wa (fld S o 18) 0) (mn - 2) (wa (fld S o 18) 1) (fun q => bt so q = true))))) (fun S' t => pB dC dI (AL L s.heap.size) (va_pl L S') (cyT cy) t) (AL L s.heap.size)) [.ref o, .int 2, .int (nI mn), .int so].toArray s 0 0 (AL L s.heap.size)) (F0 m 50 ls []) := by
      intro fuel
      induction fuel with
      | zero => intro i gw SS H locs ls h; exact absurd h (Nat.not_lt_zero _)
      | succ fu50 ih50 =>
        intro i gw S_40 H locs ls hm50 hb_i hWs hpre hiw hnr hTy hFr hFl50 hW hl
        have hS_o := hFl50.at hT_o (by decide) hS_o
        have hS_x_17 := hFl50.at hT_x_17 (by decide) hS_x_17
        have hi_gw := k57i hTy hT_x_18 hWs
        refine lv_iload hx hb dX12_goesRound_50 (lv_at hl 0 rfl) ?_
        refine lv_aload_n hx hb dX12_goesRound_52 rfl (lv_at hl 2 rfl) ?_
        refine pl_get (ci := 12) (v := .int (nI pa)) (C := RX12) (T := TX12) (N := 32) hx hb hT iX12 hown hK hW hT_o.1 hS_o rfl 5 (by decide) w1087 rfl dX12_goesRound_53 ?_
        refine lv_icmp_ge (tgt := 120) hx hb dX12_goesRound_56 (by decide) (fun c_56 => ?_) (fun c_56 => ?_)
        · have c_56 : pa ≤ i := (nI_leI (a := pa) (b := i) (by omega) (by omega)).mp c_56
          refine lv_iconst (v := 0) hx hb dX12_goesRound_120 (by decide) ?_
          exact W.zret (ty := .boolean) (v := 0) hx hb hr (by decide) (fun t ht h9 => ⟨⟨0, S_40, rfl, ⟨hTy, hFr, ⟨fun j hj => by rw [fld_i (S := S_40) hS_o rfl hWs, h18_]; exact hpre j hj, Or.inr ⟨rfl, by rw [h17_, h18_, wa_n hq_k_38 (by omega), wa_n hq_k_36 (by omega)]; exact NR_k (n := mn - 3) (by omega) (fun p h1 h2 h3 h4 => hnr p h1 (by omega) h3 h4)⟩⟩⟩, by rw [ht]; exact hW.1, va_K.moved h9.alike hK, hW.2.1⟩, hW.2.2.F ht⟩) hW.2.2.2.2 dX12_goesRound_121
        · have c_56 : ¬ (pa ≤ i) := fun hh9 => c_56 ((nI_leI (a := pa) (b := i) (by omega) (by omega)).mpr hh9)
          refine lv_iload_n hx hb dX12_goesRound_59 rfl (lv_at hl 5 rfl) ?_
          refine lv_iload hx hb dX12_goesRound_60 (lv_at hl 0 rfl) ?_
          refine lv_ishr hx hb dX12_goesRound_62 ?_
          refine lv_topi (fun z_41 ez_41 => ?_)
          refine lv_iconst (v := 1) hx hb dX12_goesRound_63 (by decide) ?_
          refine lv_iand hx hb dX12_goesRound_64 ?_
          refine lv_topi (fun z_42 ez_42 => ?_)
          refine lv_iconst (v := 1) hx hb dX12_goesRound_65 (by decide) ?_
          refine lv_icmp_eq (tgt := 114) hx hb dX12_goesRound_66 (by decide) (fun c_66 => ?_) (fun c_66 => ?_)
          · refine lv_iinc (v := nI (i + 1)) (lv' := [(5, .int (nI (i + 1))), (4, .int (nI k_36)), (0, .ref o), (1, .int 2), (2, .int (nI mn)), (3, .int so)]) hx hb dX12_goesRound_114 hl (k := 0) rfl (nI_add (i) 1) (by decide) rfl (fun ls hl => ?_)
            refine lv_goto (tgt := 50) hx hb dX12_goesRound_117 (by decide) ?_
            exact ih50 (i + 1) gw _ _ _ ls (by omega) (by omega) hWs hpre (by omega) (fun p h1 h2 h3 h4 => by by_cases e_ : p = i; exact absurd (by rw [e_]; exact sb_t (by omega) ez_41 ez_42 c_66) h3; exact hnr p h1 (by omega) h3 h4) hTy hFr hFl50 hW (lv_sub hl [0, 1, 2, 3, 4, 5] rfl)
          · refine lv_aload_n hx hb dX12_goesRound_69 rfl (lv_at hl 2 rfl) ?_
            refine pl_get (ci := 12) (v := .ref x_17) (C := RX12) (T := TX12) (N := 32) hx hb hT iX12 hown hK hW hT_o.1 hS_o rfl 17 (by decide) w1099 rfl dX12_goesRound_70 ?_
            refine lv_iload hx hb dX12_goesRound_73 (lv_at hl 1 rfl) ?_
            refine lv_iload hx hb dX12_goesRound_75 (lv_at hl 0 rfl) ?_
            refine vp_callSi (va_Run.run (va_runS (As := [.int (nI k_36), .int (nI i)]) (rest := [.ref x_17]) ⟨hx, hb, hml, hown, hT⟩ (m_couple l dC dI H.size k_36 i (by omega) (by omega)) (va_cwS 2 hT (gS w1348 w1349 w14 w1350) rfl rfl rfl (by decide +kernel) ⟨(Nat.le_of_ble_eq_true rfl), (Nat.le_of_ble_eq_true rfl)⟩) ⟨pcW.blind, pcW.pre (va_P0 _ _ _) (hK.sub (tys' := []) [] rfl) (va_D0 (fun _ => True))⟩ rfl rfl hl.1 rfl (lv_room (Nat.le_of_ble_eq_true rfl)) dX12_goesRound_77 ⟨(Nat.le_of_ble_eq_true rfl), (Nat.le_of_ble_eq_true rfl)⟩)) (fun r_43 hr_43 => ?_)
            obtain rfl : r_43 = nI (8 * k_36 + i) := hr_43
            refine pl_iald hx hb hK hW hT_x_17.1 hS_x_17 (vp_in_nI (n := 8 * k_36 + i) (N := 64) (by omega) (by omega)) dX12_goesRound_80 ?_
            refine lv_topi (fun y_44 ey_44 => ?_)
            refine lv_if_ne (tgt := 87) hx hb dX12_goesRound_81 (by decide) (fun c_81 => ?_) (fun c_81 => ?_)
            · refine lv_aload_n hx hb dX12_goesRound_87 rfl (lv_at hl 2 rfl) ?_
              refine pl_get (ci := 12) (v := .ref x_18) (C := RX12) (T := TX12) (N := 32) hx hb hT iX12 hown hK hW hT_o.1 hS_o rfl 18 (by decide) w1100 rfl dX12_goesRound_88 ?_
              refine lv_iload_n hx hb dX12_goesRound_91 rfl (lv_at hl 3 rfl) ?_
              refine lv_iload hx hb dX12_goesRound_92 (lv_at hl 0 rfl) ?_
              refine pl_iast hx hb hK hW hT_x_18.1 hWs (vp_in_nI (n := 2) (N := 8) (by omega) (by omega)) dX12_goesRound_94 (fun H locs f_46 S_45 ef_f_46 e1 hW => ?_)
              have hi_f_46 := inv_up hi_gw ef_f_46 ⟨i, by omega, rfl⟩
              have hTy := hTy.u57 e1 hT_x_18 ⟨f_46, rfl, hi_f_46⟩
              have hS_o := un e1 hT_o hT_x_18 (by decide) hS_o
              have hS_x_17 := un e1 hT_x_17 hT_x_18 (by decide) hS_x_17
              have hFr := uf hFr e1 hT_x_18 (by decide) (by decide)
              have hFl50 := uf hFl50 e1 hT_x_18 (by decide) (by decide)
              have hWs := us e1
              have ef_k : f_46 = upd gw 2 (nI i) := ef_f_46
              have hw1 : ∀ j, j < 2 → f_46 j = f_33 j := fun j hj => by rw [ef_k, pk_un (by omega)]; exact hpre j hj
              have hwk : f_46 2 = nI i := by rw [ef_k, pk_us]
              have hsf := sb_f (p := i) (by omega) ez_41 ez_42 c_66
              have hFne : f_32 (8 * k_36 + i) ≠ 0 := by have q := c_81; rw [ey_44, nI_clamp (by omega)] at q; exact q
              refine lv_aload_n hx hb dX12_goesRound_95 rfl (lv_at hl 2 rfl) ?_
              refine lv_iload_n hx hb dX12_goesRound_96 rfl (lv_at hl 3 rfl) ?_
              refine lv_iconst (v := 1) hx hb dX12_goesRound_97 (by decide) ?_
              refine lv_iadd hx hb dX12_goesRound_98 ?_
              refine lv_topi (fun z_47 ez_47 => ?_)
              obtain rfl : z_47 = 3 := ez_47.trans (by decide)
              refine lv_iload_n hx hb dX12_goesRound_99 rfl (lv_at hl 4 rfl) ?_
              refine lv_iload_n hx hb dX12_goesRound_100 rfl (lv_at hl 5 rfl) ?_
              refine lv_iconst (v := 1) hx hb dX12_goesRound_101 (by decide) ?_
              refine lv_iload hx hb dX12_goesRound_102 (lv_at hl 0 rfl) ?_
              refine lv_ishl hx hb dX12_goesRound_104 ?_
              refine lv_topi (fun z_48 ez_48 => ?_)
              refine lv_ior hx hb dX12_goesRound_105 ?_
              refine lv_topi (fun z_49 ez_49 => ?_)
              have h18b_ : fld S_45 o 18 = f_46 := fld_i hS_o rfl hWs
              have h17b_ : fld S_45 o 17 = f_32 := fld_i hS_o rfl hS_x_17
              refine pl_calli (va_runV (As := [.int 3, .int (nI mn), .int z_49]) (rest := []) ⟨hx, hb, hml, hown, hT⟩ (m_gr_3 l dC dI cy L kap pr S_45 H.size o mn z_49 hTy hT_o (by omega) pa ⟨inf_i hS_o rfl, by omega⟩ (by rw [h18b_]; exact SN_s hSN hw1 (fun i hi => wa_b hi_f_33 i (by omega)) (wa_n hwk (by omega)) (by omega) ez_48 ez_49)) (cwV 3 hT (gV w1398 w1400 ws87 w14 w1401) rfl rfl rfl (by decide +kernel) ⟨(Nat.le_of_ble_eq_true rfl), (Nat.le_of_ble_eq_true rfl)⟩) ⟨pcN.blind, pl_recv hK hW hT_o.1 hS_o rfl, pcN.pre hW.1 hK hW.2.1 hN (fun q h => absurd h List.not_mem_nil)⟩ rfl rfl hl.1 rfl (lv_room (Nat.le_of_ble_eq_true rfl)) dX12_goesRound_106 ⟨(Nat.le_of_ble_eq_true rfl), (Nat.le_of_ble_eq_true rfl)⟩) hW hA0 hA (fun r_51 S_50 H locs hrel hW => ?_)
              obtain ⟨hTy, hF1, hx1⟩ := hrel
              have hFr := hFr.tr hF1 (by decide)
              have hFl50 := hFl50.tr hF1 (by decide)
              have hS_o := hF1.at hT_o (by decide) hS_o
              have hS_x_17 := hF1.at hT_x_17 (by decide) hS_x_17
              obtain ⟨f_52, hS_x_18, hi_f_52⟩ := hTy.k57 hT_x_18
              obtain ⟨hsm, hres⟩ := hx1
              rw [fld_i (S := S_50) hS_o rfl hS_x_18, h18b_] at hsm
              rw [h17b_, h18b_, fld_i (S := S_50) hS_o rfl hS_x_18] at hres
              have hpre2 : ∀ j, j < 2 → f_52 j = f_33 j := fun j hj => (hsm j (by omega)).trans (hw1 j hj)
              rcases hres with hc_ | hc_
              · obtain ⟨rfl, hrn⟩ := hc_
                have hRNG : RNG f_32 f_52 2 mn := RNG_s hrn (by omega) (by omega) hpre2 ((wa_c (hsm 2 (by omega))).trans (wa_n hwk (by omega))) ((wa_c (hpre2 1 (by omega))).trans (wa_n hq_k_36 (by omega))) hSN hsf hFne
                refine lv_if_eq (tgt := 114) hx hb dX12_goesRound_109 (by decide) (fun h => absurd h (by decide)) (fun _ => ?_)
                refine lv_iconst (v := 1) hx hb dX12_goesRound_112 (by decide) ?_
                exact W.zret (ty := .boolean) (v := 1) hx hb hr (by decide) (fun t ht h9 => ⟨⟨1, S_50, rfl, ⟨hTy, hFr, ⟨fun j hj => by rw [fld_i (S := S_50) hS_o rfl hS_x_18, h18_]; exact hpre2 j hj, Or.inl ⟨rfl, by rw [h17_, fld_i (S := S_50) hS_o rfl hS_x_18]; exact hRNG⟩⟩⟩, by rw [ht]; exact hW.1, va_K.moved h9.alike hK, hW.2.1⟩, hW.2.2.F ht⟩) hW.2.2.2.2 dX12_goesRound_113
              · obtain ⟨rfl, hrn⟩ := hc_
                rw [wa_n hwk (by omega), (wa_c (hw1 0 (by omega))).trans (wa_n hq_k_38 (by omega))] at hrn
                have hnri := NR_m (by omega) _ _ _ (fun q => bt so q = true ∨ q = i) (fun q hq hb => (sb_o (by omega) hq ez_48 ez_49).mp hb) hrn
                refine lv_if_eq (tgt := 114) hx hb dX12_goesRound_109 (by decide) (fun _ => ?_) (fun h => absurd (by decide) h)
                refine lv_iinc (v := nI (i + 1)) (lv' := [(5, .int (nI (i + 1))), (4, .int (nI k_36)), (0, .ref o), (1, .int 2), (2, .int (nI mn)), (3, .int so)]) hx hb dX12_goesRound_114 hl (k := 0) rfl (nI_add (i) 1) (by decide) rfl (fun ls hl => ?_)
                refine lv_goto (tgt := 50) hx hb dX12_goesRound_117 (by decide) ?_
                exact ih50 (i + 1) f_52 _ _ _ ls (by omega) (by omega) hS_x_18 hpre2 (by omega) (fun p h1 h2 h3 h4 => by by_cases e_ : p = i; rw [e_]; exact hnri; exact hnr p h1 (by omega) h3 h4) hTy hFr hFl50 hW (lv_sub hl [0, 1, 2, 3, 4, 5] rfl)
            · refine lv_goto (tgt := 114) hx hb dX12_goesRound_84 (by decide) ?_
              refine lv_iinc (v := nI (i + 1)) (lv' := [(5, .int (nI (i + 1))), (4, .int (nI k_36)), (0, .ref o), (1, .int 2), (2, .int (nI mn)), (3, .int so)]) hx hb dX12_goesRound_114 hl (k := 0) rfl (nI_add (i) 1) (by decide) rfl (fun ls hl => ?_)
              refine lv_goto (tgt := 50) hx hb dX12_goesRound_117 (by decide) ?_
              exact ih50 (i + 1) gw _ _ _ ls (by omega) (by omega) hWs hpre (by omega) (fun p h1 h2 h3 h4 => by by_cases e_ : p = i; exact absurd (by rw [e_]; have q := c_81; rw [ey_44, nI_clamp (by omega)] at q; exact q) h4; exact hnr p h1 (by omega) h3 h4) hTy hFr hFl50 hW (lv_sub hl [0, 1, 2, 3, 4, 5] rfl)
    exact loop ((9 - (k_38 + 1)) + 1) (k_38 + 1) f_33 _ _ _ ls (Nat.lt_succ_self _) (by omega) hS_x_18 (fun _ _ => rfl) (by omega) (fun p h1 h2 => by omega) hTy hFr Fr.rf hW (lv_sub hl [0, 1, 2, 3, 4, 5] rfl)
  · have c_12 : 2 = mn := (nI_eq (a := 2) (b := mn) (by omega) (by omega)).mp c_12
    refine lv_aload_n hx hb dX12_goesRound_15 rfl (lv_at hl 1 rfl) ?_
    refine pl_get (ci := 12) (v := .ref x_17) (C := RX12) (T := TX12) (N := 32) hx hb hT iX12 hown hK hW hT_o.1 hS_o rfl 17 (by decide) w1099 rfl dX12_goesRound_16 ?_
    refine lv_iload hx hb dX12_goesRound_19 (lv_at hl 0 rfl) ?_
    refine lv_aload_n hx hb dX12_goesRound_21 rfl (lv_at hl 1 rfl) ?_
    refine pl_get (ci := 12) (v := .ref x_18) (C := RX12) (T := TX12) (N := 32) hx hb hT iX12 hown hK hW hT_o.1 hS_o rfl 18 (by decide) w1100 rfl dX12_goesRound_22 ?_
    refine lv_iconst (v := 0) hx hb dX12_goesRound_25 (by decide) ?_
    refine pl_iald hx hb hK hW hT_x_18.1 hS_x_18 (vp_in_nI (n := 0) (N := 8) (by omega) (by omega)) dX12_goesRound_26 ?_
    refine lv_topi (fun y_53 ey_53 => ?_)
    obtain ⟨k_54, hb_k_54, hq_k_54⟩ := hi_f_33 (0) (by omega)
    obtain rfl : y_53 = nI k_54 := ey_53.trans (by show f_33 (nI (0)).toNatClampNeg = _; rw [nI_clamp (by omega)]; exact hq_k_54)
    refine vp_callSi (va_Run.run (va_runS (As := [.int (nI k_36), .int (nI k_54)]) (rest := [.ref x_17]) ⟨hx, hb, hml, hown, hT⟩ (m_couple l dC dI s.heap.size k_36 k_54 (by omega) (by omega)) (va_cwS 2 hT (gS w1348 w1349 w14 w1350) rfl rfl rfl (by decide +kernel) ⟨(Nat.le_of_ble_eq_true rfl), (Nat.le_of_ble_eq_true rfl)⟩) ⟨pcW.blind, pcW.pre (va_P0 _ _ _) (hK.sub (tys' := []) [] rfl) (va_D0 (fun _ => True))⟩ rfl rfl hl.1 rfl (lv_room (Nat.le_of_ble_eq_true rfl)) dX12_goesRound_27 ⟨(Nat.le_of_ble_eq_true rfl), (Nat.le_of_ble_eq_true rfl)⟩)) (fun r_55 hr_55 => ?_)
    obtain rfl : r_55 = nI (8 * k_36 + k_54) := hr_55
    refine pl_iald hx hb hK hW hT_x_17.1 hS_x_17 (vp_in_nI (n := 8 * k_36 + k_54) (N := 64) (by omega) (by omega)) dX12_goesRound_30 ?_
    refine lv_topi (fun y_56 ey_56 => ?_)
    refine lv_if_le (tgt := 38) hx hb dX12_goesRound_31 (by decide) (fun c_31 => ?_) (fun c_31 => ?_)
    · refine lv_iconst (v := 0) hx hb dX12_goesRound_38 (by decide) ?_
      exact W.zret (ty := .boolean) (v := 0) hx hb hr (by decide) (fun t ht h9 => ⟨⟨0, S, rfl, ⟨hTy, hFr, ⟨fun _ _ => rfl, Or.inr ⟨rfl, by rw [h17_, h18_, wa_n hq_k_54 (by omega), wa_n hq_k_36 (by omega)]; exact NR_z (by omega) (by have q := iposn c_31; rw [ey_56, nI_clamp (by omega)] at q; exact q)⟩⟩⟩, by rw [ht]; exact hW.1, va_K.moved h9.alike hK, hW.2.1⟩, hW.2.2.F ht⟩) hW.2.2.2.2 dX12_goesRound_39
    · refine lv_iconst (v := 1) hx hb dX12_goesRound_34 (by decide) ?_
      refine lv_goto (tgt := 39) hx hb dX12_goesRound_35 (by decide) ?_
      exact W.zret (ty := .boolean) (v := 1) hx hb hr (by decide) (fun t ht h9 => ⟨⟨1, S, rfl, ⟨hTy, hFr, ⟨fun _ _ => rfl, Or.inl ⟨rfl, by rw [h17_, fld_i (S := S) hS_o rfl hS_x_18, ← c_12]; exact RNG_0 (by rw [wa_n hq_k_36 (by omega), wa_n hq_k_54 (by omega)]; have q := ipos c_31; rw [ey_56, nI_clamp (by omega)] at q; exact q)⟩⟩⟩, by rw [ht]; exact hW.1, va_K.moved h9.alike hK, hW.2.1⟩, hW.2.2.F ht⟩) hW.2.2.2.2 dX12_goesRound_39

set_option maxHeartbeats 4000000 in
set_option maxRecDepth 100000 in
theorem m_gr_1 (l : Launch) (dC : Nat → ClassId) (dI : Nat → Nat → Nat) (cy : Nat → ClassId) (L : List Nat) (kap : Nat → Nat) (pr : Pr) (S : Nat → va_E) (sz : Nat) (o : Nat) (mn : Nat) (so : Int32) (hTy : Ty cy L kap pr S) (hT_o : TK L kap o 12) (hb_mn : 1 ≤ mn ∧ mn ≤ 8) (pa : Nat) (hpa : PA S o pa) (hSN : SN (fld S o 18) so 1) : Met l yX12_goesRound (wT yX12_goesRound cX12_goesRound 6 (some .boolean)) ({ frames := 8, cells := 0, slots := 0, locals := 196 }) (pcN dC dI [.ref o, .int 1, .int (nI mn), .int so] sz (va_pl L S) (cyT cy) NLs []) (va_Qi (fun r S' => Ty cy L kap pr S' ∧ Fr kap [57] S S' ∧ ((∀ j, j < 1 → fld S' o 18 j = fld S o 18 j) ∧ ((r = 1 ∧ RNG (fld S o 17) (fld S' o 18) 1 mn) ∨ (r = 0 ∧ NR (fld S o 17) pa (wa (fld S o 18) 0) (mn - 1) (wa (fld S o 18) 0) (fun q => bt so q = true))))) (fun S' t => pB dC dI (AL L sz) (va_pl L S') (cyT cy) t) (AL L sz)) 0 0 (AL L sz) := by
  refine Met.ofW (cc := cX12_goesRound) (maxL := 6) (ret := (some .boolean)) (by decide) rfl ?_
  intro p e s m args below meth c s₁ B hml hv
  obtain ⟨rfl, hsz, hP, hK, hD0, hN, -⟩ := hv
  have hx := B.exec
  have hb := B.bytes
  have hr := B.returns
  have hT : ∀ wd ∈ TB, wd.before [.ref o, .int 1, .int (nI mn), .int so].toArray s = true := fun wd h => atoms_spec (ws := wT yX12_goesRound cX12_goesRound 6 (some .boolean)) B.pre wd (List.mem_cons_of_mem _ h)
  have hown : s.vm.findClass RX12 = some m.cls := findClass_of_methodNamed B.named
  have hlocks := B.notSynchronized
  subst hsz
  have hW : PW dC dI L (AL L s.heap.size) s.heap S s.heap [] := ⟨hP, pl_self hD0, va_S.rf⟩
  have hA0 : ∀ q, q ∈ L → AL L s.heap.size q := fun _ h => Or.inl h
  have hA : ∀ q, s.heap.size ≤ q → AL L s.heap.size q := fun _ h => Or.inr h
  have hFr : Fr kap [57] S S := Fr.rf
  have hl := lv_entry ([.ref o, .int 1, .int (nI mn), .int so]) (n := 6) (Nat.le_of_ble_eq_true rfl)
  rw [lg_entry_eq]
  generalize (lg_sl ([.ref o, .int 1, .int (nI mn), .int so]) ++ List.replicate (6 - (lg_sl ([.ref o, .int 1, .int (nI mn), .int so])).length) Slot.unset).toArray = ls at hl ⊢
  have hl : lv_has ls 6 [(0, .ref o), (1, .int 1), (2, .int (nI mn)), (3, .int so)] := hl
  obtain ⟨x_1, x_2, x_3, x_4, x_5, x_6, x_7, x_8, x_9, x_10, x_11, x_12, x_13, x_14, x_15, x_16, x_17, x_18, x_19, x_20, x_21, x_22, x_23, x_24, x_25, x_26, x_27, x_28, x_29, x_30, x_31, hS_o, hT_x_1, hT_x_2, hT_x_3, hT_x_4, hT_x_5, hb_x_6, hb_x_7, hb_x_8, hT_x_10, hb_q2, hb_x_11, hb_x_12, hT_x_17, hT_x_18, hb_x_19, hT_x_20, hT_x_21, hT_x_22, hT_x_23, hT_x_24, hT_x_25, hT_x_26, hT_x_27, hT_x_28, hT_x_29, hT_x_30, hb_x_31⟩ := hTy.k12 hT_o
  have hb_q2 : pr.2 ≤ 900 := hb_q2
  have hS_o : S o = .inr (12, [.ref x_1, .ref x_2, .ref x_3, .ref x_4, .ref x_5, .int (nI x_6), .int (nI x_7), .int (nI x_8), .int x_9, .ref x_10, .int (nI (pr.2)), .int (nI x_11), .int (nI x_12), .int x_13, .int x_14, .int x_15, .int x_16, .ref x_17, .ref x_18, .int (nI x_19), .ref x_20, .ref x_21, .ref x_22, .ref x_23, .ref x_24, .ref x_25, .ref x_26, .ref x_27, .ref x_28, .ref x_29, .ref x_30, .int (nI x_31)]) := hS_o
  obtain rfl : pa = x_6 := PAe hpa hS_o rfl (by omega)
  obtain ⟨f_32, hS_x_17⟩ := hTy.k56 hT_x_17
  obtain ⟨f_33, hS_x_18, hi_f_33⟩ := hTy.k57 hT_x_18
  have h17_ : fld S o 17 = f_32 := fld_i hS_o rfl hS_x_17
  have h18_ : fld S o 18 = f_33 := fld_i hS_o rfl hS_x_18
  rw [h18_] at hSN
  refine lv_aload_n hx hb dX12_goesRound_0 rfl (lv_at hl 0 rfl) ?_
  refine pl_get (ci := 12) (v := .ref x_18) (C := RX12) (T := TX12) (N := 32) hx hb hT iX12 hown hK hW hT_o.1 hS_o rfl 18 (by decide) w1100 rfl dX12_goesRound_1 ?_
  refine lv_iload_n hx hb dX12_goesRound_4 rfl (lv_at hl 1 rfl) ?_
  refine lv_iconst (v := 1) hx hb dX12_goesRound_5 (by decide) ?_
  refine lv_isub hx hb dX12_goesRound_6 ?_
  refine lv_topi (fun z_34 ez_34 => ?_)
  obtain rfl : z_34 = 0 := ez_34.trans (by decide)
  refine pl_iald hx hb hK hW hT_x_18.1 hS_x_18 (vp_in_nI (n := 0) (N := 8) (by omega) (by omega)) dX12_goesRound_7 ?_
  refine lv_topi (fun y_35 ey_35 => ?_)
  obtain ⟨k_36, hb_k_36, hq_k_36⟩ := hi_f_33 (0) (by omega)
  obtain rfl : y_35 = nI k_36 := ey_35.trans (by show f_33 (nI (0)).toNatClampNeg = _; rw [nI_clamp (by omega)]; exact hq_k_36)
  refine lv_istore (lv' := [(4, .int (nI k_36)), (0, .ref o), (1, .int 1), (2, .int (nI mn)), (3, .int so)]) hx hb dX12_goesRound_8 hl (by decide) rfl (fun ls hl => ?_)
  refine lv_iload_n hx hb dX12_goesRound_10 rfl (lv_at hl 2 rfl) ?_
  refine lv_iload_n hx hb dX12_goesRound_11 rfl (lv_at hl 3 rfl) ?_
  refine lv_icmp_ne (tgt := 40) hx hb dX12_goesRound_12 (by decide) (fun c_12 => ?_) (fun c_12 => ?_)
  · have c_12 : ¬ (1 = mn) := fun hh9 => c_12 ((nI_eq (a := 1) (b := mn) (by omega) (by omega)).mpr hh9)
    refine lv_aload_n hx hb dX12_goesRound_40 rfl (lv_at hl 1 rfl) ?_
    refine pl_get (ci := 12) (v := .ref x_18) (C := RX12) (T := TX12) (N := 32) hx hb hT iX12 hown hK hW hT_o.1 hS_o rfl 18 (by decide) w1100 rfl dX12_goesRound_41 ?_
    refine lv_iconst (v := 0) hx hb dX12_goesRound_44 (by decide) ?_
    refine pl_iald hx hb hK hW hT_x_18.1 hS_x_18 (vp_in_nI (n := 0) (N := 8) (by omega) (by omega)) dX12_goesRound_45 ?_
    refine lv_topi (fun y_37 ey_37 => ?_)
    obtain ⟨k_38, hb_k_38, hq_k_38⟩ := hi_f_33 (0) (by omega)
    obtain rfl : y_37 = nI k_38 := ey_37.trans (by show f_33 (nI (0)).toNatClampNeg = _; rw [nI_clamp (by omega)]; exact hq_k_38)
    have ew_ : k_36 = k_38 := (nI_eq (by omega) (by omega)).mp (hq_k_36.symm.trans hq_k_38)
    subst ew_
    refine lv_iconst (v := 1) hx hb dX12_goesRound_46 (by decide) ?_
    refine lv_iadd hx hb dX12_goesRound_47 ?_
    refine lv_topi (fun z_39 ez_39 => ?_)
    obtain rfl : z_39 = nI (k_36 + 1) := ez_39.trans (nI_add (k_36) (1))
    refine lv_istore (lv' := [(5, .int (nI (k_36 + 1))), (4, .int (nI k_36)), (0, .ref o), (1, .int 1), (2, .int (nI mn)), (3, .int so)]) hx hb dX12_goesRound_48 hl (by decide) rfl (fun ls hl => ?_)
    have loop : ∀ (fuel : Nat) (i : Nat) (gw : Nat → Int32) (SS : Nat → va_E) (H : Heap) (locs : List Loc) (ls : Array Slot), 9 - i < fuel → (i ≤ 8) → (SS x_18 = .inl (cy 0, 8, .inl gw)) → (∀ j, j < 1 → gw j = f_33 j) → (k_36 < i) → (∀ p, k_36 < p → p < i → ¬ bt so p = true → f_32 (8 * k_36 + p) ≠ 0 → NR f_32 pa k_36 (mn - 2) p (fun q => bt so q = true ∨ q = p)) → Ty cy L kap pr SS → Fr kap [57] S SS → Fr kap [57] S SS → PW dC dI L (AL L s.heap.size) s.heap SS H locs → lv_has ls 6 [(5, .int (nI i)), (4, .int (nI k_36)), (0, .ref o), (1, .int 1), (2, .int (nI mn)), (3, .int so)] → W p l e (headSpec (wT yX12_goesRound cX12_goesRound 6 (some .boolean)) { frames := 8, cells := 0, slots := 0, locals := 196 }).room s m [.ref o, .int 1, .int (nI mn), .int so].toArray below meth c H locs 0 0 (MQ below (va_Qi (fun r S' => Ty cy L kap pr S' ∧ Fr kap [57] S S' ∧ ((∀ j, j < 1 → fld S' o 18 j = fld S o 18 j) ∧ ((r = 1 ∧ RNG (fld S o 17) (fld S' o 18) 1 mn) ∨ (r = 0 ∧ NR (fld S o 17) pa (wa (fld S o 18) 0) (mn - 1) (wa (fld S o 18) 0) (fun q => bt so q = true))))) (fun S' t => pB dC dI (AL L s.heap.size) (va_pl L S') (cyT cy) t) (AL L s.heap.size)) [.ref o, .int 1, .int (nI mn), .int so].toArray s 0 0 (AL L s.heap.size)) (F0 m 50 ls []) := by
      intro fuel
      induction fuel with
      | zero => intro i gw SS H locs ls h; exact absurd h (Nat.not_lt_zero _)
      | succ fu50 ih50 =>
        intro i gw S_40 H locs ls hm50 hb_i hWs hpre hiw hnr hTy hFr hFl50 hW hl
        have hS_o := hFl50.at hT_o (by decide) hS_o
        have hS_x_17 := hFl50.at hT_x_17 (by decide) hS_x_17
        have hi_gw := k57i hTy hT_x_18 hWs
        refine lv_iload hx hb dX12_goesRound_50 (lv_at hl 0 rfl) ?_
        refine lv_aload_n hx hb dX12_goesRound_52 rfl (lv_at hl 2 rfl) ?_
        refine pl_get (ci := 12) (v := .int (nI pa)) (C := RX12) (T := TX12) (N := 32) hx hb hT iX12 hown hK hW hT_o.1 hS_o rfl 5 (by decide) w1087 rfl dX12_goesRound_53 ?_
        refine lv_icmp_ge (tgt := 120) hx hb dX12_goesRound_56 (by decide) (fun c_56 => ?_) (fun c_56 => ?_)
        · have c_56 : pa ≤ i := (nI_leI (a := pa) (b := i) (by omega) (by omega)).mp c_56
          refine lv_iconst (v := 0) hx hb dX12_goesRound_120 (by decide) ?_
          exact W.zret (ty := .boolean) (v := 0) hx hb hr (by decide) (fun t ht h9 => ⟨⟨0, S_40, rfl, ⟨hTy, hFr, ⟨fun j hj => by rw [fld_i (S := S_40) hS_o rfl hWs, h18_]; exact hpre j hj, Or.inr ⟨rfl, by rw [h17_, h18_, wa_n hq_k_36 (by omega)]; exact NR_k (n := mn - 2) (by omega) (fun p h1 h2 h3 h4 => hnr p h1 (by omega) h3 h4)⟩⟩⟩, by rw [ht]; exact hW.1, va_K.moved h9.alike hK, hW.2.1⟩, hW.2.2.F ht⟩) hW.2.2.2.2 dX12_goesRound_121
        · have c_56 : ¬ (pa ≤ i) := fun hh9 => c_56 ((nI_leI (a := pa) (b := i) (by omega) (by omega)).mpr hh9)
          refine lv_iload_n hx hb dX12_goesRound_59 rfl (lv_at hl 5 rfl) ?_
          refine lv_iload hx hb dX12_goesRound_60 (lv_at hl 0 rfl) ?_
          refine lv_ishr hx hb dX12_goesRound_62 ?_
          refine lv_topi (fun z_41 ez_41 => ?_)
          refine lv_iconst (v := 1) hx hb dX12_goesRound_63 (by decide) ?_
          refine lv_iand hx hb dX12_goesRound_64 ?_
          refine lv_topi (fun z_42 ez_42 => ?_)
          refine lv_iconst (v := 1) hx hb dX12_goesRound_65 (by decide) ?_
          refine lv_icmp_eq (tgt := 114) hx hb dX12_goesRound_66 (by decide) (fun c_66 => ?_) (fun c_66 => ?_)
          · refine lv_iinc (v := nI (i + 1)) (lv' := [(5, .int (nI (i + 1))), (4, .int (nI k_36)), (0, .ref o), (1, .int 1), (2, .int (nI mn)), (3, .int so)]) hx hb dX12_goesRound_114 hl (k := 0) rfl (nI_add (i) 1) (by decide) rfl (fun ls hl => ?_)
            refine lv_goto (tgt := 50) hx hb dX12_goesRound_117 (by decide) ?_
            exact ih50 (i + 1) gw _ _ _ ls (by omega) (by omega) hWs hpre (by omega) (fun p h1 h2 h3 h4 => by by_cases e_ : p = i; exact absurd (by rw [e_]; exact sb_t (by omega) ez_41 ez_42 c_66) h3; exact hnr p h1 (by omega) h3 h4) hTy hFr hFl50 hW (lv_sub hl [0, 1, 2, 3, 4, 5] rfl)
          · refine lv_aload_n hx hb dX12_goesRound_69 rfl (lv_at hl 2 rfl) ?_
            refine pl_get (ci := 12) (v := .ref x_17) (C := RX12) (T := TX12) (N := 32) hx hb hT iX12 hown hK hW hT_o.1 hS_o rfl 17 (by decide) w1099 rfl dX12_goesRound_70 ?_
            refine lv_iload hx hb dX12_goesRound_73 (lv_at hl 1 rfl) ?_
            refine lv_iload hx hb dX12_goesRound_75 (lv_at hl 0 rfl) ?_
            refine vp_callSi (va_Run.run (va_runS (As := [.int (nI k_36), .int (nI i)]) (rest := [.ref x_17]) ⟨hx, hb, hml, hown, hT⟩ (m_couple l dC dI H.size k_36 i (by omega) (by omega)) (va_cwS 2 hT (gS w1348 w1349 w14 w1350) rfl rfl rfl (by decide +kernel) ⟨(Nat.le_of_ble_eq_true rfl), (Nat.le_of_ble_eq_true rfl)⟩) ⟨pcW.blind, pcW.pre (va_P0 _ _ _) (hK.sub (tys' := []) [] rfl) (va_D0 (fun _ => True))⟩ rfl rfl hl.1 rfl (lv_room (Nat.le_of_ble_eq_true rfl)) dX12_goesRound_77 ⟨(Nat.le_of_ble_eq_true rfl), (Nat.le_of_ble_eq_true rfl)⟩)) (fun r_43 hr_43 => ?_)
            obtain rfl : r_43 = nI (8 * k_36 + i) := hr_43
            refine pl_iald hx hb hK hW hT_x_17.1 hS_x_17 (vp_in_nI (n := 8 * k_36 + i) (N := 64) (by omega) (by omega)) dX12_goesRound_80 ?_
            refine lv_topi (fun y_44 ey_44 => ?_)
            refine lv_if_ne (tgt := 87) hx hb dX12_goesRound_81 (by decide) (fun c_81 => ?_) (fun c_81 => ?_)
            · refine lv_aload_n hx hb dX12_goesRound_87 rfl (lv_at hl 2 rfl) ?_
              refine pl_get (ci := 12) (v := .ref x_18) (C := RX12) (T := TX12) (N := 32) hx hb hT iX12 hown hK hW hT_o.1 hS_o rfl 18 (by decide) w1100 rfl dX12_goesRound_88 ?_
              refine lv_iload_n hx hb dX12_goesRound_91 rfl (lv_at hl 3 rfl) ?_
              refine lv_iload hx hb dX12_goesRound_92 (lv_at hl 0 rfl) ?_
              refine pl_iast hx hb hK hW hT_x_18.1 hWs (vp_in_nI (n := 1) (N := 8) (by omega) (by omega)) dX12_goesRound_94 (fun H locs f_46 S_45 ef_f_46 e1 hW => ?_)
              have hi_f_46 := inv_up hi_gw ef_f_46 ⟨i, by omega, rfl⟩
              have hTy := hTy.u57 e1 hT_x_18 ⟨f_46, rfl, hi_f_46⟩
              have hS_o := un e1 hT_o hT_x_18 (by decide) hS_o
              have hS_x_17 := un e1 hT_x_17 hT_x_18 (by decide) hS_x_17
              have hFr := uf hFr e1 hT_x_18 (by decide) (by decide)
              have hFl50 := uf hFl50 e1 hT_x_18 (by decide) (by decide)
              have hWs := us e1
              have ef_k : f_46 = upd gw 1 (nI i) := ef_f_46
              have hw1 : ∀ j, j < 1 → f_46 j = f_33 j := fun j hj => by rw [ef_k, pk_un (by omega)]; exact hpre j hj
              have hwk : f_46 1 = nI i := by rw [ef_k, pk_us]
              have hsf := sb_f (p := i) (by omega) ez_41 ez_42 c_66
              have hFne : f_32 (8 * k_36 + i) ≠ 0 := by have q := c_81; rw [ey_44, nI_clamp (by omega)] at q; exact q
              refine lv_aload_n hx hb dX12_goesRound_95 rfl (lv_at hl 2 rfl) ?_
              refine lv_iload_n hx hb dX12_goesRound_96 rfl (lv_at hl 3 rfl) ?_
              refine lv_iconst (v := 1) hx hb dX12_goesRound_97 (by decide) ?_
              refine lv_iadd hx hb dX12_goesRound_98 ?_
              refine lv_topi (fun z_47 ez_47 => ?_)
              obtain rfl : z_47 = 2 := ez_47.trans (by decide)
              refine lv_iload_n hx hb dX12_goesRound_99 rfl (lv_at hl 4 rfl) ?_
              refine lv_iload_n hx hb dX12_goesRound_100 rfl (lv_at hl 5 rfl) ?_
              refine lv_iconst (v := 1) hx hb dX12_goesRound_101 (by decide) ?_
              refine lv_iload hx hb dX12_goesRound_102 (lv_at hl 0 rfl) ?_
              refine lv_ishl hx hb dX12_goesRound_104 ?_
              refine lv_topi (fun z_48 ez_48 => ?_)
              refine lv_ior hx hb dX12_goesRound_105 ?_
              refine lv_topi (fun z_49 ez_49 => ?_)
              have h18b_ : fld S_45 o 18 = f_46 := fld_i hS_o rfl hWs
              have h17b_ : fld S_45 o 17 = f_32 := fld_i hS_o rfl hS_x_17
              refine pl_calli (va_runV (As := [.int 2, .int (nI mn), .int z_49]) (rest := []) ⟨hx, hb, hml, hown, hT⟩ (m_gr_2 l dC dI cy L kap pr S_45 H.size o mn z_49 hTy hT_o (by omega) pa ⟨inf_i hS_o rfl, by omega⟩ (by rw [h18b_]; exact SN_s hSN hw1 (fun i hi => wa_b hi_f_33 i (by omega)) (wa_n hwk (by omega)) (by omega) ez_48 ez_49)) (cwV 3 hT (gV w1398 w1400 ws87 w14 w1401) rfl rfl rfl (by decide +kernel) ⟨(Nat.le_of_ble_eq_true rfl), (Nat.le_of_ble_eq_true rfl)⟩) ⟨pcN.blind, pl_recv hK hW hT_o.1 hS_o rfl, pcN.pre hW.1 hK hW.2.1 hN (fun q h => absurd h List.not_mem_nil)⟩ rfl rfl hl.1 rfl (lv_room (Nat.le_of_ble_eq_true rfl)) dX12_goesRound_106 ⟨(Nat.le_of_ble_eq_true rfl), (Nat.le_of_ble_eq_true rfl)⟩) hW hA0 hA (fun r_51 S_50 H locs hrel hW => ?_)
              obtain ⟨hTy, hF1, hx1⟩ := hrel
              have hFr := hFr.tr hF1 (by decide)
              have hFl50 := hFl50.tr hF1 (by decide)
              have hS_o := hF1.at hT_o (by decide) hS_o
              have hS_x_17 := hF1.at hT_x_17 (by decide) hS_x_17
              obtain ⟨f_52, hS_x_18, hi_f_52⟩ := hTy.k57 hT_x_18
              obtain ⟨hsm, hres⟩ := hx1
              rw [fld_i (S := S_50) hS_o rfl hS_x_18, h18b_] at hsm
              rw [h17b_, h18b_, fld_i (S := S_50) hS_o rfl hS_x_18] at hres
              have hpre2 : ∀ j, j < 1 → f_52 j = f_33 j := fun j hj => (hsm j (by omega)).trans (hw1 j hj)
              rcases hres with hc_ | hc_
              · obtain ⟨rfl, hrn⟩ := hc_
                have hRNG : RNG f_32 f_52 1 mn := RNG_s hrn (by omega) (by omega) hpre2 ((wa_c (hsm 1 (by omega))).trans (wa_n hwk (by omega))) ((wa_c (hpre2 0 (by omega))).trans (wa_n hq_k_36 (by omega))) hSN hsf hFne
                refine lv_if_eq (tgt := 114) hx hb dX12_goesRound_109 (by decide) (fun h => absurd h (by decide)) (fun _ => ?_)
                refine lv_iconst (v := 1) hx hb dX12_goesRound_112 (by decide) ?_
                exact W.zret (ty := .boolean) (v := 1) hx hb hr (by decide) (fun t ht h9 => ⟨⟨1, S_50, rfl, ⟨hTy, hFr, ⟨fun j hj => by rw [fld_i (S := S_50) hS_o rfl hS_x_18, h18_]; exact hpre2 j hj, Or.inl ⟨rfl, by rw [h17_, fld_i (S := S_50) hS_o rfl hS_x_18]; exact hRNG⟩⟩⟩, by rw [ht]; exact hW.1, va_K.moved h9.alike hK, hW.2.1⟩, hW.2.2.F ht⟩) hW.2.2.2.2 dX12_goesRound_113
              · obtain ⟨rfl, hrn⟩ := hc_
                rw [wa_n hwk (by omega), (wa_c (hw1 0 (by omega))).trans (wa_n hq_k_36 (by omega))] at hrn
                have hnri := NR_m (by omega) _ _ _ (fun q => bt so q = true ∨ q = i) (fun q hq hb => (sb_o (by omega) hq ez_48 ez_49).mp hb) hrn
                refine lv_if_eq (tgt := 114) hx hb dX12_goesRound_109 (by decide) (fun _ => ?_) (fun h => absurd (by decide) h)
                refine lv_iinc (v := nI (i + 1)) (lv' := [(5, .int (nI (i + 1))), (4, .int (nI k_36)), (0, .ref o), (1, .int 1), (2, .int (nI mn)), (3, .int so)]) hx hb dX12_goesRound_114 hl (k := 0) rfl (nI_add (i) 1) (by decide) rfl (fun ls hl => ?_)
                refine lv_goto (tgt := 50) hx hb dX12_goesRound_117 (by decide) ?_
                exact ih50 (i + 1) f_52 _ _ _ ls (by omega) (by omega) hS_x_18 hpre2 (by omega) (fun p h1 h2 h3 h4 => by by_cases e_ : p = i; rw [e_]; exact hnri; exact hnr p h1 (by omega) h3 h4) hTy hFr hFl50 hW (lv_sub hl [0, 1, 2, 3, 4, 5] rfl)
            · refine lv_goto (tgt := 114) hx hb dX12_goesRound_84 (by decide) ?_
              refine lv_iinc (v := nI (i + 1)) (lv' := [(5, .int (nI (i + 1))), (4, .int (nI k_36)), (0, .ref o), (1, .int 1), (2, .int (nI mn)), (3, .int so)]) hx hb dX12_goesRound_114 hl (k := 0) rfl (nI_add (i) 1) (by decide) rfl (fun ls hl => ?_)
              refine lv_goto (tgt := 50) hx hb dX12_goesRound_117 (by decide) ?_
              exact ih50 (i + 1) gw _ _ _ ls (by omega) (by omega) hWs hpre (by omega) (fun p h1 h2 h3 h4 => by by_cases e_ : p = i; exact absurd (by rw [e_]; have q := c_81; rw [ey_44, nI_clamp (by omega)] at q; exact q) h4; exact hnr p h1 (by omega) h3 h4) hTy hFr hFl50 hW (lv_sub hl [0, 1, 2, 3, 4, 5] rfl)
    exact loop ((9 - (k_36 + 1)) + 1) (k_36 + 1) f_33 _ _ _ ls (Nat.lt_succ_self _) (by omega) hS_x_18 (fun _ _ => rfl) (by omega) (fun p h1 h2 => by omega) hTy hFr Fr.rf hW (lv_sub hl [0, 1, 2, 3, 4, 5] rfl)
  · have c_12 : 1 = mn := (nI_eq (a := 1) (b := mn) (by omega) (by omega)).mp c_12
    refine lv_aload_n hx hb dX12_goesRound_15 rfl (lv_at hl 1 rfl) ?_
    refine pl_get (ci := 12) (v := .ref x_17) (C := RX12) (T := TX12) (N := 32) hx hb hT iX12 hown hK hW hT_o.1 hS_o rfl 17 (by decide) w1099 rfl dX12_goesRound_16 ?_
    refine lv_iload hx hb dX12_goesRound_19 (lv_at hl 0 rfl) ?_
    refine lv_aload_n hx hb dX12_goesRound_21 rfl (lv_at hl 1 rfl) ?_
    refine pl_get (ci := 12) (v := .ref x_18) (C := RX12) (T := TX12) (N := 32) hx hb hT iX12 hown hK hW hT_o.1 hS_o rfl 18 (by decide) w1100 rfl dX12_goesRound_22 ?_
    refine lv_iconst (v := 0) hx hb dX12_goesRound_25 (by decide) ?_
    refine pl_iald hx hb hK hW hT_x_18.1 hS_x_18 (vp_in_nI (n := 0) (N := 8) (by omega) (by omega)) dX12_goesRound_26 ?_
    refine lv_topi (fun y_53 ey_53 => ?_)
    obtain ⟨k_54, hb_k_54, hq_k_54⟩ := hi_f_33 (0) (by omega)
    obtain rfl : y_53 = nI k_54 := ey_53.trans (by show f_33 (nI (0)).toNatClampNeg = _; rw [nI_clamp (by omega)]; exact hq_k_54)
    have ew_ : k_36 = k_54 := (nI_eq (by omega) (by omega)).mp (hq_k_36.symm.trans hq_k_54)
    subst ew_
    refine vp_callSi (va_Run.run (va_runS (As := [.int (nI k_36), .int (nI k_36)]) (rest := [.ref x_17]) ⟨hx, hb, hml, hown, hT⟩ (m_couple l dC dI s.heap.size k_36 k_36 (by omega) (by omega)) (va_cwS 2 hT (gS w1348 w1349 w14 w1350) rfl rfl rfl (by decide +kernel) ⟨(Nat.le_of_ble_eq_true rfl), (Nat.le_of_ble_eq_true rfl)⟩) ⟨pcW.blind, pcW.pre (va_P0 _ _ _) (hK.sub (tys' := []) [] rfl) (va_D0 (fun _ => True))⟩ rfl rfl hl.1 rfl (lv_room (Nat.le_of_ble_eq_true rfl)) dX12_goesRound_27 ⟨(Nat.le_of_ble_eq_true rfl), (Nat.le_of_ble_eq_true rfl)⟩)) (fun r_55 hr_55 => ?_)
    obtain rfl : r_55 = nI (8 * k_36 + k_36) := hr_55
    refine pl_iald hx hb hK hW hT_x_17.1 hS_x_17 (vp_in_nI (n := 8 * k_36 + k_36) (N := 64) (by omega) (by omega)) dX12_goesRound_30 ?_
    refine lv_topi (fun y_56 ey_56 => ?_)
    refine lv_if_le (tgt := 38) hx hb dX12_goesRound_31 (by decide) (fun c_31 => ?_) (fun c_31 => ?_)
    · refine lv_iconst (v := 0) hx hb dX12_goesRound_38 (by decide) ?_
      exact W.zret (ty := .boolean) (v := 0) hx hb hr (by decide) (fun t ht h9 => ⟨⟨0, S, rfl, ⟨hTy, hFr, ⟨fun _ _ => rfl, Or.inr ⟨rfl, by rw [h17_, h18_, wa_n hq_k_36 (by omega)]; exact NR_z (by omega) (by have q := iposn c_31; rw [ey_56, nI_clamp (by omega)] at q; exact q)⟩⟩⟩, by rw [ht]; exact hW.1, va_K.moved h9.alike hK, hW.2.1⟩, hW.2.2.F ht⟩) hW.2.2.2.2 dX12_goesRound_39
    · refine lv_iconst (v := 1) hx hb dX12_goesRound_34 (by decide) ?_
      refine lv_goto (tgt := 39) hx hb dX12_goesRound_35 (by decide) ?_
      exact W.zret (ty := .boolean) (v := 1) hx hb hr (by decide) (fun t ht h9 => ⟨⟨1, S, rfl, ⟨hTy, hFr, ⟨fun _ _ => rfl, Or.inl ⟨rfl, by rw [h17_, fld_i (S := S) hS_o rfl hS_x_18, ← c_12]; exact RNG_0 (by rw [wa_n hq_k_36 (by omega)]; have q := ipos c_31; rw [ey_56, nI_clamp (by omega)] at q; exact q)⟩⟩⟩, by rw [ht]; exact hW.1, va_K.moved h9.alike hK, hW.2.1⟩, hW.2.2.F ht⟩) hW.2.2.2.2 dX12_goesRound_39

set_option maxHeartbeats 4000000 in
set_option maxRecDepth 100000 in
theorem m_laysRing (l : Launch) (dC : Nat → ClassId) (dI : Nat → Nat → Nat) (cy : Nat → ClassId) (L : List Nat) (kap : Nat → Nat) (pr : Pr) (S : Nat → va_E) (sz : Nat) (o : Nat) (hTy : Ty cy L kap pr S) (hT_o : TK L kap o 12) (pa : Nat) (hpa : PA S o pa) : Met l yX12_laysRing (wT yX12_laysRing cX12_laysRing 3 (some .int)) ({ frames := 9, cells := 0, slots := 0, locals := 221 }) (pcN dC dI [.ref o] sz (va_pl L S) (cyT cy) NLs []) (va_Qi (fun r S' => Ty cy L kap pr S' ∧ Fr kap [12, 57] S S' ∧ (∃ n, n ≤ 8 ∧ o12 S S' o n ∧ ((r = 0 ∧ noring (fld S o 17) pa) ∨ (2 ≤ n ∧ r = nI n ∧ RNG (fld S o 17) (fld S' o 18) 1 n)))) (fun S' t => pB dC dI (AL L sz) (va_pl L S') (cyT cy) t) (AL L sz)) 0 0 (AL L sz) := by
  refine Met.ofW (cc := cX12_laysRing) (maxL := 3) (ret := (some .int)) (by decide) rfl ?_
  intro p e s m args below meth c s₁ B hml hv
  obtain ⟨rfl, hsz, hP, hK, hD0, hN, -⟩ := hv
  have hx := B.exec
  have hb := B.bytes
  have hr := B.returns
  have hT : ∀ wd ∈ TB, wd.before [.ref o].toArray s = true := fun wd h => atoms_spec (ws := wT yX12_laysRing cX12_laysRing 3 (some .int)) B.pre wd (List.mem_cons_of_mem _ h)
  have hown : s.vm.findClass RX12 = some m.cls := findClass_of_methodNamed B.named
  have hlocks := B.notSynchronized
  subst hsz
  have hW : PW dC dI L (AL L s.heap.size) s.heap S s.heap [] := ⟨hP, pl_self hD0, va_S.rf⟩
  have hA0 : ∀ q, q ∈ L → AL L s.heap.size q := fun _ h => Or.inl h
  have hA : ∀ q, s.heap.size ≤ q → AL L s.heap.size q := fun _ h => Or.inr h
  have hFr : Fr kap [12, 57] S S := Fr.rf
  have hl := lv_entry ([.ref o]) (n := 3) (Nat.le_of_ble_eq_true rfl)
  rw [lg_entry_eq]
  generalize (lg_sl ([.ref o]) ++ List.replicate (3 - (lg_sl ([.ref o])).length) Slot.unset).toArray = ls at hl ⊢
  have hl : lv_has ls 3 [(0, .ref o)] := hl
  obtain ⟨x_1, x_2, x_3, x_4, x_5, x_6, x_7, x_8, x_9, x_10, x_11, x_12, x_13, x_14, x_15, x_16, x_17, x_18, x_19, x_20, x_21, x_22, x_23, x_24, x_25, x_26, x_27, x_28, x_29, x_30, x_31, hS_o, hT_x_1, hT_x_2, hT_x_3, hT_x_4, hT_x_5, hb_x_6, hb_x_7, hb_x_8, hT_x_10, hb_q2, hb_x_11, hb_x_12, hT_x_17, hT_x_18, hb_x_19, hT_x_20, hT_x_21, hT_x_22, hT_x_23, hT_x_24, hT_x_25, hT_x_26, hT_x_27, hT_x_28, hT_x_29, hT_x_30, hb_x_31⟩ := hTy.k12 hT_o
  have hb_q2 : pr.2 ≤ 900 := hb_q2
  have hS_o : S o = .inr (12, [.ref x_1, .ref x_2, .ref x_3, .ref x_4, .ref x_5, .int (nI x_6), .int (nI x_7), .int (nI x_8), .int x_9, .ref x_10, .int (nI (pr.2)), .int (nI x_11), .int (nI x_12), .int x_13, .int x_14, .int x_15, .int x_16, .ref x_17, .ref x_18, .int (nI x_19), .ref x_20, .ref x_21, .ref x_22, .ref x_23, .ref x_24, .ref x_25, .ref x_26, .ref x_27, .ref x_28, .ref x_29, .ref x_30, .int (nI x_31)]) := hS_o
  obtain rfl : pa = x_6 := PAe hpa hS_o rfl (by omega)
  obtain ⟨f_32, hS_x_17⟩ := hTy.k56 hT_x_17
  obtain ⟨f_33, hS_x_18, hi_f_33⟩ := hTy.k57 hT_x_18
  have h17_ : fld S o 17 = f_32 := fld_i hS_o rfl hS_x_17
  have h18_ : fld S o 18 = f_33 := fld_i hS_o rfl hS_x_18
  have hS_o0 := hS_o
  refine lv_iconst (v := 2) hx hb dX12_laysRing_0 (by decide) ?_
  refine lv_istore_n (lv' := [(1, .int 2), (0, .ref o)]) hx hb dX12_laysRing_1 rfl hl (by decide) rfl (fun ls hl => ?_)
  have loop : ∀ (fuel : Nat) (mn : Nat) (gq : Nat) (SS : Nat → va_E) (H : Heap) (locs : List Loc) (ls : Array Slot), 10 - mn < fuel → (mn ≤ 9) → (SS o = .inr (12, [.ref x_1, .ref x_2, .ref x_3, .ref x_4, .ref x_5, .int (nI pa), .int (nI x_7), .int (nI x_8), .int x_9, .ref x_10, .int (nI (pr.2)), .int (nI x_11), .int (nI x_12), .int x_13, .int x_14, .int x_15, .int x_16, .ref x_17, .ref x_18, .int (nI gq), .ref x_20, .ref x_21, .ref x_22, .ref x_23, .ref x_24, .ref x_25, .ref x_26, .ref x_27, .ref x_28, .ref x_29, .ref x_30, .int (nI x_31)])) → (gq ≤ 8) → (2 ≤ mn) → (∀ m p, 2 ≤ m → m < mn → p < pa → NR f_32 pa p (m - 1) p (fun q => q = p)) → Ty cy L kap pr SS → Fr kap [12, 57] S SS → Fr kap [12, 57, 112] S SS → PW dC dI L (AL L s.heap.size) s.heap SS H locs → lv_has ls 3 [(1, .int (nI mn)), (0, .ref o)] → W p l e (headSpec (wT yX12_laysRing cX12_laysRing 3 (some .int)) { frames := 9, cells := 0, slots := 0, locals := 221 }).room s m [.ref o].toArray below meth c H locs 0 0 (MQ below (va_Qi (fun r S' => Ty cy L kap pr S' ∧ Fr kap [12, 57] S S' ∧ (∃ n, n ≤ 8 ∧ o12 S S' o n ∧ ((r = 0 ∧ noring (fld S o 17) pa) ∨ (2 ≤ n ∧ r = nI n ∧ RNG (fld S o 17) (fld S' o 18) 1 n)))) (fun S' t => pB dC dI (AL L s.heap.size) (va_pl L S') (cyT cy) t) (AL L s.heap.size)) [.ref o].toArray s 0 0 (AL L s.heap.size)) (F0 m 2 ls []) := by
    intro fuel
    induction fuel with
    | zero => intro mn gq SS H locs ls h; exact absurd h (Nat.not_lt_zero _)
    | succ fu2 ih2 =>
      intro mn gq S_34 H locs ls hm2 hb_mn hS_o hgq hm2 hN1 hTy hFr hFl2 hW hl
      have hS_x_17 := hFl2.at hT_x_17 (by decide) hS_x_17
      refine lv_iload_n hx hb dX12_laysRing_2 rfl (lv_at hl 0 rfl) ?_
      refine lv_aload_n hx hb dX12_laysRing_3 rfl (lv_at hl 1 rfl) ?_
      refine pl_get (ci := 12) (v := .int (nI pa)) (C := RX12) (T := TX12) (N := 32) hx hb hT iX12 hown hK hW hT_o.1 hS_o rfl 5 (by decide) w1087 rfl dX12_laysRing_4 ?_
      refine lv_icmp_gt (tgt := 58) hx hb dX12_laysRing_7 (by decide) (fun c_7 => ?_) (fun c_7 => ?_)
      · have c_7 : pa < mn := (nI_ltI (a := pa) (b := mn) (by omega) (by omega)).mp c_7
        refine lv_aload_n hx hb dX12_laysRing_58 rfl (lv_at hl 1 rfl) ?_
        refine lv_iconst (v := 0) hx hb dX12_laysRing_59 (by decide) ?_
        refine pl_put (ci := 12) (v := .int 0) (ty := .int) (C := RX12) (T := TX12) (N := 32) (fs' := [.ref x_1, .ref x_2, .ref x_3, .ref x_4, .ref x_5, .int (nI pa), .int (nI x_7), .int (nI x_8), .int x_9, .ref x_10, .int (nI (pr.2)), .int (nI x_11), .int (nI x_12), .int x_13, .int x_14, .int x_15, .int x_16, .ref x_17, .ref x_18, .int 0, .ref x_20, .ref x_21, .ref x_22, .ref x_23, .ref x_24, .ref x_25, .ref x_26, .ref x_27, .ref x_28, .ref x_29, .ref x_30, .int (nI x_31)]) hx hb hT iX12 tyX12 tyX12_ok nmX12 hown hK hW hT_o.1 hS_o rfl 19 (by decide) w1101 rfl (by decide +kernel) rfl rfl (Nat.le_of_ble_eq_true rfl) rfl dX12_laysRing_60 (fun H locs S_35 e1 hW => ?_)
        have hTy := hTy.u12 e1 hT_o ⟨x_1, x_2, x_3, x_4, x_5, pa, x_7, x_8, x_9, x_10, x_11, x_12, x_13, x_14, x_15, x_16, x_17, x_18, 0, x_20, x_21, x_22, x_23, x_24, x_25, x_26, x_27, x_28, x_29, x_30, x_31, rfl, hT_x_1, hT_x_2, hT_x_3, hT_x_4, hT_x_5, (by omega), (by omega), (by omega), hT_x_10, (by show pr.2 ≤ 900; omega), (by omega), (by omega), hT_x_17, hT_x_18, (by omega), hT_x_20, hT_x_21, hT_x_22, hT_x_23, hT_x_24, hT_x_25, hT_x_26, hT_x_27, hT_x_28, hT_x_29, hT_x_30, (by omega)⟩
        have hS_x_17 := un e1 hT_x_17 hT_o (by decide) hS_x_17
        have hws := (show wrs (.inr (12, [.ref x_1, .ref x_2, .ref x_3, .ref x_4, .ref x_5, .int (nI pa), .int (nI x_7), .int (nI x_8), .int x_9, .ref x_10, .int (nI (pr.2)), .int (nI x_11), .int (nI x_12), .int x_13, .int x_14, .int x_15, .int x_16, .ref x_17, .ref x_18, .int 0, .ref x_20, .ref x_21, .ref x_22, .ref x_23, .ref x_24, .ref x_25, .ref x_26, .ref x_27, .ref x_28, .ref x_29, .ref x_30, .int (nI x_31)])) = wrs (S_34 o) from by rw [hS_o]; rfl)
        have hFr := ufs hFr e1 hT_o (by decide) hws
        have hFl2 := ufs hFl2 e1 hT_o (by decide) hws
        have hS_o := us e1
        refine lv_iconst (v := 0) hx hb dX12_laysRing_63 (by decide) ?_
        obtain ⟨f_36, hS_x_18, hi_f_36⟩ := hTy.k57 hT_x_18
        exact W.iret (v := 0) hx hb hr (fun t ht h9 => ⟨⟨0, S_35, rfl, ⟨hTy, hFr, ⟨0, by omega, o12i hS_o0 hS_o rfl, Or.inl ⟨rfl, by rw [h17_]; exact fun m p h1 h2 h3 => hN1 m p h1 (by omega) h3⟩⟩⟩, by rw [ht]; exact hW.1, va_K.moved h9.alike hK, hW.2.1⟩, hW.2.2.F ht⟩) hW.2.2.2.2 dX12_laysRing_64
      · have c_7 : ¬ (pa < mn) := fun hh9 => c_7 ((nI_ltI (a := pa) (b := mn) (by omega) (by omega)).mpr hh9)
        refine lv_iconst (v := 0) hx hb dX12_laysRing_10 (by decide) ?_
        refine lv_istore_n (lv' := [(2, .int 0), (1, .int (nI mn)), (0, .ref o)]) hx hb dX12_laysRing_11 rfl hl (by decide) rfl (fun ls hl => ?_)
        have loop : ∀ (fuel : Nat) (p9 : Nat) (gq2 : Nat) (SS : Nat → va_E) (H : Heap) (locs : List Loc) (ls : Array Slot), 9 - p9 < fuel → (p9 ≤ 8) → (SS o = .inr (12, [.ref x_1, .ref x_2, .ref x_3, .ref x_4, .ref x_5, .int (nI pa), .int (nI x_7), .int (nI x_8), .int x_9, .ref x_10, .int (nI (pr.2)), .int (nI x_11), .int (nI x_12), .int x_13, .int x_14, .int x_15, .int x_16, .ref x_17, .ref x_18, .int (nI gq2), .ref x_20, .ref x_21, .ref x_22, .ref x_23, .ref x_24, .ref x_25, .ref x_26, .ref x_27, .ref x_28, .ref x_29, .ref x_30, .int (nI x_31)])) → (gq2 ≤ 8) → (∀ p, p < p9 → NR f_32 pa p (mn - 1) p (fun q => q = p)) → Ty cy L kap pr SS → Fr kap [12, 57] S SS → Fr kap [12, 57, 112] S_34 SS → PW dC dI L (AL L s.heap.size) s.heap SS H locs → lv_has ls 3 [(2, .int (nI p9)), (1, .int (nI mn)), (0, .ref o)] → W p l e (headSpec (wT yX12_laysRing cX12_laysRing 3 (some .int)) { frames := 9, cells := 0, slots := 0, locals := 221 }).room s m [.ref o].toArray below meth c H locs 0 0 (MQ below (va_Qi (fun r S' => Ty cy L kap pr S' ∧ Fr kap [12, 57] S S' ∧ (∃ n, n ≤ 8 ∧ o12 S S' o n ∧ ((r = 0 ∧ noring (fld S o 17) pa) ∨ (2 ≤ n ∧ r = nI n ∧ RNG (fld S o 17) (fld S' o 18) 1 n)))) (fun S' t => pB dC dI (AL L s.heap.size) (va_pl L S') (cyT cy) t) (AL L s.heap.size)) [.ref o].toArray s 0 0 (AL L s.heap.size)) (F0 m 12 ls []) := by
          intro fuel
          induction fuel with
          | zero => intro p9 gq2 SS H locs ls h; exact absurd h (Nat.not_lt_zero _)
          | succ fu12 ih12 =>
            intro p9 gq2 S_37 H locs ls hm12 hb_p9 hS_o hgq2 hN2 hTy hFr hFl12 hW hl
            have hS_x_17 := hFl12.at hT_x_17 (by decide) hS_x_17
            have hFl2 := hFl2.tr hFl12 (by decide)
            refine lv_iload_n hx hb dX12_laysRing_12 rfl (lv_at hl 0 rfl) ?_
            refine lv_aload_n hx hb dX12_laysRing_13 rfl (lv_at hl 2 rfl) ?_
            refine pl_get (ci := 12) (v := .int (nI pa)) (C := RX12) (T := TX12) (N := 32) hx hb hT iX12 hown hK hW hT_o.1 hS_o rfl 5 (by decide) w1087 rfl dX12_laysRing_14 ?_
            refine lv_icmp_ge (tgt := 52) hx hb dX12_laysRing_17 (by decide) (fun c_17 => ?_) (fun c_17 => ?_)
            · have c_17 : pa ≤ p9 := (nI_leI (a := pa) (b := p9) (by omega) (by omega)).mp c_17
              refine lv_iinc (v := nI (mn + 1)) (lv' := [(1, .int (nI (mn + 1))), (2, .int (nI p9)), (0, .ref o)]) hx hb dX12_laysRing_52 hl (k := 1) rfl (nI_add (mn) 1) (by decide) rfl (fun ls hl => ?_)
              refine lv_goto (tgt := 2) hx hb dX12_laysRing_55 (by decide) ?_
              exact ih2 (mn + 1) gq2 _ _ _ ls (by omega) (by omega) hS_o (by omega) (by omega) (fun m p h1 h2 h3 => by by_cases e_ : m = mn; rw [e_]; exact hN2 p (by omega); exact hN1 m p h1 (by omega) h3) hTy hFr hFl2 hW (lv_sub hl [0, 2] rfl)
            · have c_17 : ¬ (pa ≤ p9) := fun hh9 => c_17 ((nI_leI (a := pa) (b := p9) (by omega) (by omega)).mpr hh9)
              refine lv_aload_n hx hb dX12_laysRing_20 rfl (lv_at hl 2 rfl) ?_
              refine pl_get (ci := 12) (v := .ref x_18) (C := RX12) (T := TX12) (N := 32) hx hb hT iX12 hown hK hW hT_o.1 hS_o rfl 18 (by decide) w1100 rfl dX12_laysRing_21 ?_
              refine lv_iconst (v := 0) hx hb dX12_laysRing_24 (by decide) ?_
              refine lv_iload_n hx hb dX12_laysRing_25 rfl (lv_at hl 0 rfl) ?_
              obtain ⟨f_38, hS_x_18, hi_f_38⟩ := hTy.k57 hT_x_18
              refine pl_iast hx hb hK hW hT_x_18.1 hS_x_18 (vp_in_nI (n := 0) (N := 8) (by omega) (by omega)) dX12_laysRing_26 (fun H locs f_40 S_39 ef_f_40 e1 hW => ?_)
              have hi_f_40 := inv_up hi_f_38 ef_f_40 ⟨p9, by omega, rfl⟩
              have hTy := hTy.u57 e1 hT_x_18 ⟨f_40, rfl, hi_f_40⟩
              have hS_x_17 := un e1 hT_x_17 hT_x_18 (by decide) hS_x_17
              have hS_o := un e1 hT_o hT_x_18 (by decide) hS_o
              have hFr := uf hFr e1 hT_x_18 (by decide) (by decide)
              have hFl2 := uf hFl2 e1 hT_x_18 (by decide) (by decide)
              have hFl12 := uf hFl12 e1 hT_x_18 (by decide) (by decide)
              have hS_x_18 := us e1
              have hw0 : f_40 0 = nI p9 := up00 ef_f_40
              refine lv_aload_n hx hb dX12_laysRing_27 rfl (lv_at hl 2 rfl) ?_
              refine lv_iload_n hx hb dX12_laysRing_28 rfl (lv_at hl 1 rfl) ?_
              refine pl_put (ci := 12) (v := .int (nI mn)) (ty := .int) (C := RX12) (T := TX12) (N := 32) (fs' := [.ref x_1, .ref x_2, .ref x_3, .ref x_4, .ref x_5, .int (nI pa), .int (nI x_7), .int (nI x_8), .int x_9, .ref x_10, .int (nI (pr.2)), .int (nI x_11), .int (nI x_12), .int x_13, .int x_14, .int x_15, .int x_16, .ref x_17, .ref x_18, .int (nI mn), .ref x_20, .ref x_21, .ref x_22, .ref x_23, .ref x_24, .ref x_25, .ref x_26, .ref x_27, .ref x_28, .ref x_29, .ref x_30, .int (nI x_31)]) hx hb hT iX12 tyX12 tyX12_ok nmX12 hown hK hW hT_o.1 hS_o rfl 19 (by decide) w1101 rfl (by decide +kernel) rfl rfl (Nat.le_of_ble_eq_true rfl) rfl dX12_laysRing_29 (fun H locs S_41 e1 hW => ?_)
              have hTy := hTy.u12 e1 hT_o ⟨x_1, x_2, x_3, x_4, x_5, pa, x_7, x_8, x_9, x_10, x_11, x_12, x_13, x_14, x_15, x_16, x_17, x_18, mn, x_20, x_21, x_22, x_23, x_24, x_25, x_26, x_27, x_28, x_29, x_30, x_31, rfl, hT_x_1, hT_x_2, hT_x_3, hT_x_4, hT_x_5, (by omega), (by omega), (by omega), hT_x_10, (by show pr.2 ≤ 900; omega), (by omega), (by omega), hT_x_17, hT_x_18, (by omega), hT_x_20, hT_x_21, hT_x_22, hT_x_23, hT_x_24, hT_x_25, hT_x_26, hT_x_27, hT_x_28, hT_x_29, hT_x_30, (by omega)⟩
              have hS_x_17 := un e1 hT_x_17 hT_o (by decide) hS_x_17
              have hS_x_18 := un e1 hT_x_18 hT_o (by decide) hS_x_18
              have hws := (show wrs (.inr (12, [.ref x_1, .ref x_2, .ref x_3, .ref x_4, .ref x_5, .int (nI pa), .int (nI x_7), .int (nI x_8), .int x_9, .ref x_10, .int (nI (pr.2)), .int (nI x_11), .int (nI x_12), .int x_13, .int x_14, .int x_15, .int x_16, .ref x_17, .ref x_18, .int (nI mn), .ref x_20, .ref x_21, .ref x_22, .ref x_23, .ref x_24, .ref x_25, .ref x_26, .ref x_27, .ref x_28, .ref x_29, .ref x_30, .int (nI x_31)])) = wrs (S_39 o) from by rw [hS_o]; rfl)
              have hFr := ufs hFr e1 hT_o (by decide) hws
              have hFl2 := ufs hFl2 e1 hT_o (by decide) hws
              have hFl12 := ufs hFl12 e1 hT_o (by decide) hws
              have hS_o := us e1
              refine lv_aload_n hx hb dX12_laysRing_32 rfl (lv_at hl 2 rfl) ?_
              refine lv_iconst (v := 1) hx hb dX12_laysRing_33 (by decide) ?_
              refine lv_iload_n hx hb dX12_laysRing_34 rfl (lv_at hl 1 rfl) ?_
              refine lv_iconst (v := 1) hx hb dX12_laysRing_35 (by decide) ?_
              refine lv_iload_n hx hb dX12_laysRing_36 rfl (lv_at hl 0 rfl) ?_
              refine lv_ishl hx hb dX12_laysRing_37 ?_
              refine lv_topi (fun z_42 ez_42 => ?_)
              have h18b_ : fld S_41 o 18 = f_40 := fld_i hS_o rfl hS_x_18
              have h17b_ : fld S_41 o 17 = f_32 := fld_i hS_o rfl hS_x_17
              refine pl_calli (va_runV (As := [.int 1, .int (nI mn), .int z_42]) (rest := []) ⟨hx, hb, hml, hown, hT⟩ (m_gr_1 l dC dI cy L kap pr S_41 H.size o mn z_42 hTy hT_o (by omega) pa ⟨inf_i hS_o rfl, by omega⟩ (by rw [h18b_]; exact fun i hi => by rw [show i = 0 from by omega, wa_n hw0 (by omega)]; exact (sb_1 (by omega) (by omega) ez_42).mpr rfl)) (cwV 3 hT (gV w1398 w1400 ws87 w14 w1401) rfl rfl rfl (by decide +kernel) ⟨(Nat.le_of_ble_eq_true rfl), (Nat.le_of_ble_eq_true rfl)⟩) ⟨pcN.blind, pl_recv hK hW hT_o.1 hS_o rfl, pcN.pre hW.1 hK hW.2.1 hN (fun q h => absurd h List.not_mem_nil)⟩ rfl rfl hl.1 rfl (lv_room (Nat.le_of_ble_eq_true rfl)) dX12_laysRing_38 ⟨(Nat.le_of_ble_eq_true rfl), (Nat.le_of_ble_eq_true rfl)⟩) hW hA0 hA (fun r_44 S_43 H locs hrel hW => ?_)
              obtain ⟨hTy, hF1, hx1⟩ := hrel
              have hFr := hFr.tr hF1 (by decide)
              have hFl2 := hFl2.tr hF1 (by decide)
              have hFl12 := hFl12.tr hF1 (by decide)
              have hS_x_17 := hF1.at hT_x_17 (by decide) hS_x_17
              have hS_o := hF1.at hT_o (by decide) hS_o
              obtain ⟨f_45, hS_x_18, hi_f_45⟩ := hTy.k57 hT_x_18
              obtain ⟨-, hres⟩ := hx1
              rw [h17b_, h18b_, fld_i (S := S_43) hS_o rfl hS_x_18, wa_n hw0 (by omega)] at hres
              rcases hres with hc_ | hc_
              · obtain ⟨rfl, hRNG⟩ := hc_
                refine lv_if_eq (tgt := 46) hx hb dX12_laysRing_41 (by decide) (fun h => absurd h (by decide)) (fun _ => ?_)
                refine lv_iload_n hx hb dX12_laysRing_44 rfl (lv_at hl 1 rfl) ?_
                exact W.iret (v := nI mn) hx hb hr (fun t ht h9 => ⟨⟨nI mn, S_43, rfl, ⟨hTy, hFr, ⟨mn, by omega, o12i hS_o0 hS_o rfl, Or.inr ⟨by omega, rfl, by rw [h17_, fld_i (S := S_43) hS_o rfl hS_x_18]; exact hRNG⟩⟩⟩, by rw [ht]; exact hW.1, va_K.moved h9.alike hK, hW.2.1⟩, hW.2.2.F ht⟩) hW.2.2.2.2 dX12_laysRing_45
              · obtain ⟨rfl, hrn⟩ := hc_
                have hnri := NR_m (by omega) _ _ _ (fun q => q = p9) (fun q hq hb => (sb_1 (by omega) hq ez_42).mp hb) hrn
                refine lv_if_eq (tgt := 46) hx hb dX12_laysRing_41 (by decide) (fun _ => ?_) (fun h => absurd (by decide) h)
                refine lv_iinc (v := nI (p9 + 1)) (lv' := [(2, .int (nI (p9 + 1))), (1, .int (nI mn)), (0, .ref o)]) hx hb dX12_laysRing_46 hl (k := 0) rfl (nI_add (p9) 1) (by decide) rfl (fun ls hl => ?_)
                refine lv_goto (tgt := 12) hx hb dX12_laysRing_49 (by decide) ?_
                exact ih12 (p9 + 1) mn _ _ _ ls (by omega) (by omega) hS_o (by omega) (fun p h => by by_cases e_ : p = p9; rw [e_]; exact hnri; exact hN2 p (by omega)) hTy hFr hFl12 hW (lv_sub hl [0, 1, 2] rfl)
        exact loop ((9 - 0) + 1) 0 gq _ _ _ ls (Nat.lt_succ_self _) (by omega) hS_o (by omega) (fun p h => absurd h (Nat.not_lt_zero _)) hTy hFr Fr.rf hW (lv_sub hl [0, 1, 2] rfl)
  exact loop ((10 - 2) + 1) 2 x_19 _ _ _ ls (Nat.lt_succ_self _) (by omega) hS_o (by omega) (by omega) (fun m p h1 h2 => by omega) hTy hFr Fr.rf hW (lv_sub hl [0, 1] rfl)

set_option maxHeartbeats 4000000 in
set_option maxRecDepth 100000 in
theorem m_coupleOf (l : Launch) (dC : Nat → ClassId) (dI : Nat → Nat → Nat) (cy : Nat → ClassId) (L : List Nat) (kap : Nat → Nat) (pr : Pr) (S : Nat → va_E) (sz : Nat) (o : Nat) (ci : Nat) (hTy : Ty cy L kap pr S) (hT_o : TK L kap o 12) (hb_ci : ci < 8) (rn : Nat) (hrn : inf (S o) 19 = nI rn) (hr1 : 1 ≤ rn) (hr8 : rn ≤ 8) (hci : ci < rn) : Met l yX12_coupleOf (wT yX12_coupleOf cX12_coupleOf 2 (some .int)) ({ frames := 1, cells := 0, slots := 0, locals := 21 }) (pcN dC dI [.ref o, .int (nI ci)] sz (va_pl L S) (cyT cy) NLs []) (vp_Si (fun r => r = nI (cpl (fld S o 18) rn ci) ∧ cpl (fld S o 18) rn ci < 64)) 0 0 (fun _ => False) := by
  refine Met.ofW (cc := cX12_coupleOf) (maxL := 2) (ret := (some .int)) (by decide) rfl ?_
  intro p e s m args below meth c s₁ B hml hv
  obtain ⟨rfl, hsz, hP, hK, hD0, hN, -⟩ := hv
  have hx := B.exec
  have hb := B.bytes
  have hr := B.returns
  have hT : ∀ wd ∈ TB, wd.before [.ref o, .int (nI ci)].toArray s = true := fun wd h => atoms_spec (ws := wT yX12_coupleOf cX12_coupleOf 2 (some .int)) B.pre wd (List.mem_cons_of_mem _ h)
  have hown : s.vm.findClass RX12 = some m.cls := findClass_of_methodNamed B.named
  have hlocks := B.notSynchronized
  subst hsz
  have hW : PW dC dI L (AL L s.heap.size) s.heap S s.heap [] := ⟨hP, pl_self hD0, va_S.rf⟩
  have hFr : Fr kap [] S S := Fr.rf
  have hl := lv_entry ([.ref o, .int (nI ci)]) (n := 2) (Nat.le_of_ble_eq_true rfl)
  rw [lg_entry_eq]
  generalize (lg_sl ([.ref o, .int (nI ci)]) ++ List.replicate (2 - (lg_sl ([.ref o, .int (nI ci)])).length) Slot.unset).toArray = ls at hl ⊢
  have hl : lv_has ls 2 [(0, .ref o), (1, .int (nI ci))] := hl
  obtain ⟨x_1, x_2, x_3, x_4, x_5, x_6, x_7, x_8, x_9, x_10, x_11, x_12, x_13, x_14, x_15, x_16, x_17, x_18, x_19, x_20, x_21, x_22, x_23, x_24, x_25, x_26, x_27, x_28, x_29, x_30, x_31, hS_o, hT_x_1, hT_x_2, hT_x_3, hT_x_4, hT_x_5, hb_x_6, hb_x_7, hb_x_8, hT_x_10, hb_q2, hb_x_11, hb_x_12, hT_x_17, hT_x_18, hb_x_19, hT_x_20, hT_x_21, hT_x_22, hT_x_23, hT_x_24, hT_x_25, hT_x_26, hT_x_27, hT_x_28, hT_x_29, hT_x_30, hb_x_31⟩ := hTy.k12 hT_o
  have hb_q2 : pr.2 ≤ 900 := hb_q2
  have hS_o : S o = .inr (12, [.ref x_1, .ref x_2, .ref x_3, .ref x_4, .ref x_5, .int (nI x_6), .int (nI x_7), .int (nI x_8), .int x_9, .ref x_10, .int (nI (pr.2)), .int (nI x_11), .int (nI x_12), .int x_13, .int x_14, .int x_15, .int x_16, .ref x_17, .ref x_18, .int (nI x_19), .ref x_20, .ref x_21, .ref x_22, .ref x_23, .ref x_24, .ref x_25, .ref x_26, .ref x_27, .ref x_28, .ref x_29, .ref x_30, .int (nI x_31)]) := hS_o
  obtain rfl : rn = x_19 := (nI_eq (by omega) (by omega)).mp (hrn.symm.trans (inf_i hS_o rfl))
  obtain ⟨f_32, hS_x_17⟩ := hTy.k56 hT_x_17
  obtain ⟨f_33, hS_x_18, hi_f_33⟩ := hTy.k57 hT_x_18
  have h17_ : fld S o 17 = f_32 := fld_i hS_o rfl hS_x_17
  have h18_ : fld S o 18 = f_33 := fld_i hS_o rfl hS_x_18
  have hwb := wa_b hi_f_33
  have hmod := Nat.mod_lt (ci + 1) (show 0 < rn from hr1)
  refine lv_aload_n hx hb dX12_coupleOf_0 rfl (lv_at hl 0 rfl) ?_
  refine pl_get (ci := 12) (v := .ref x_18) (C := RX12) (T := TX12) (N := 32) hx hb hT iX12 hown hK hW hT_o.1 hS_o rfl 18 (by decide) w1100 rfl dX12_coupleOf_1 ?_
  refine lv_iload_n hx hb dX12_coupleOf_4 rfl (lv_at hl 1 rfl) ?_
  refine pl_iald hx hb hK hW hT_x_18.1 hS_x_18 (vp_in_nI (n := ci) (N := 8) (by omega) (by omega)) dX12_coupleOf_5 ?_
  refine lv_topi (fun y_34 ey_34 => ?_)
  obtain ⟨k_35, hb_k_35, hq_k_35⟩ := hi_f_33 (ci) (by omega)
  obtain rfl : y_34 = nI k_35 := ey_34.trans (by show f_33 (nI (ci)).toNatClampNeg = _; rw [nI_clamp (by omega)]; exact hq_k_35)
  refine lv_aload_n hx hb dX12_coupleOf_6 rfl (lv_at hl 0 rfl) ?_
  refine pl_get (ci := 12) (v := .ref x_18) (C := RX12) (T := TX12) (N := 32) hx hb hT iX12 hown hK hW hT_o.1 hS_o rfl 18 (by decide) w1100 rfl dX12_coupleOf_7 ?_
  refine lv_iload_n hx hb dX12_coupleOf_10 rfl (lv_at hl 1 rfl) ?_
  refine lv_iconst (v := 1) hx hb dX12_coupleOf_11 (by decide) ?_
  refine lv_iadd hx hb dX12_coupleOf_12 ?_
  refine lv_topi (fun z_36 ez_36 => ?_)
  obtain rfl : z_36 = nI (ci + 1) := ez_36.trans (nI_add (ci) (1))
  refine lv_aload_n hx hb dX12_coupleOf_13 rfl (lv_at hl 0 rfl) ?_
  refine pl_get (ci := 12) (v := .int (nI rn)) (C := RX12) (T := TX12) (N := 32) hx hb hT iX12 hown hK hW hT_o.1 hS_o rfl 19 (by decide) w1101 rfl dX12_coupleOf_14 ?_
  refine lv_irem hx hb dX12_coupleOf_17 (nI_ne0 (n := rn) (by omega) (by omega)) ?_
  refine lv_topi (fun z_37 ez_37 => ?_)
  obtain rfl : z_37 = nI ((ci + 1) % rn) := ez_37.trans (pk_rem (a := ci + 1) (d := rn) (by omega) (by omega) (by omega))
  refine pl_iald hx hb hK hW hT_x_18.1 hS_x_18 (vp_in_nI (n := (ci + 1) % rn) (N := 8) (by omega) (by omega)) dX12_coupleOf_18 ?_
  refine lv_topi (fun y_38 ey_38 => ?_)
  obtain ⟨k_39, hb_k_39, hq_k_39⟩ := hi_f_33 ((ci + 1) % rn) (by omega)
  obtain rfl : y_38 = nI k_39 := ey_38.trans (by show f_33 (nI ((ci + 1) % rn)).toNatClampNeg = _; rw [nI_clamp (by omega)]; exact hq_k_39)
  refine vp_callSi (va_Run.run (va_runS (As := [.int (nI k_35), .int (nI k_39)]) (rest := []) ⟨hx, hb, hml, hown, hT⟩ (m_couple l dC dI s.heap.size k_35 k_39 (by omega) (by omega)) (va_cwS 2 hT (gS w1348 w1349 w14 w1350) rfl rfl rfl (by decide +kernel) ⟨(Nat.le_of_ble_eq_true rfl), (Nat.le_of_ble_eq_true rfl)⟩) ⟨pcW.blind, pcW.pre (va_P0 _ _ _) (hK.sub (tys' := []) [] rfl) (va_D0 (fun _ => True))⟩ rfl rfl hl.1 rfl (lv_room (Nat.le_of_ble_eq_true rfl)) dX12_coupleOf_19 ⟨(Nat.le_of_ble_eq_true rfl), (Nat.le_of_ble_eq_true rfl)⟩)) (fun r_40 hr_40 => ?_)
  obtain rfl : r_40 = nI (8 * k_35 + k_39) := hr_40
  exact W.iret (v := nI (8 * k_35 + k_39)) hx hb hr (fun t ht h9 => ⟨nI (8 * k_35 + k_39), rfl, ⟨by rw [h18_]; unfold cpl; rw [wa_n hq_k_35 (by omega), wa_n hq_k_39 (by omega)], by rw [h18_]; exact cpl_b hwb hr8 hci⟩, ht⟩) (fun q h => by cases h) dX12_coupleOf_22

set_option maxHeartbeats 4000000 in
set_option maxRecDepth 100000 in
theorem m_loadOf (l : Launch) (dC : Nat → ClassId) (dI : Nat → Nat → Nat) (cy : Nat → ClassId) (L : List Nat) (kap : Nat → Nat) (pr : Pr) (S : Nat → va_E) (sz : Nat) (o : Nat) (hTy : Ty cy L kap pr S) (hT_o : TK L kap o 12) (rn : Nat) (hrn : inf (S o) 19 = nI rn) (hr1 : 1 ≤ rn) (hr8 : rn ≤ 8) : Met l yX12_loadOf (wT yX12_loadOf cX12_loadOf 3 (some .int)) ({ frames := 2, cells := 0, slots := 0, locals := 42 }) (pcN dC dI [.ref o] sz (va_pl L S) (cyT cy) NLs []) (vp_Si (fun r => ∃ j, j < rn ∧ r = fld S o 17 (cpl (fld S o 18) rn j))) 0 0 (fun _ => False) := by
  refine Met.ofW (cc := cX12_loadOf) (maxL := 3) (ret := (some .int)) (by decide) rfl ?_
  intro p e s m args below meth c s₁ B hml hv
  obtain ⟨rfl, hsz, hP, hK, hD0, hN, -⟩ := hv
  have hx := B.exec
  have hb := B.bytes
  have hr := B.returns
  have hT : ∀ wd ∈ TB, wd.before [.ref o].toArray s = true := fun wd h => atoms_spec (ws := wT yX12_loadOf cX12_loadOf 3 (some .int)) B.pre wd (List.mem_cons_of_mem _ h)
  have hown : s.vm.findClass RX12 = some m.cls := findClass_of_methodNamed B.named
  have hlocks := B.notSynchronized
  subst hsz
  have hW : PW dC dI L (AL L s.heap.size) s.heap S s.heap [] := ⟨hP, pl_self hD0, va_S.rf⟩
  have hFr : Fr kap [] S S := Fr.rf
  have hl := lv_entry ([.ref o]) (n := 3) (Nat.le_of_ble_eq_true rfl)
  rw [lg_entry_eq]
  generalize (lg_sl ([.ref o]) ++ List.replicate (3 - (lg_sl ([.ref o])).length) Slot.unset).toArray = ls at hl ⊢
  have hl : lv_has ls 3 [(0, .ref o)] := hl
  obtain ⟨x_1, x_2, x_3, x_4, x_5, x_6, x_7, x_8, x_9, x_10, x_11, x_12, x_13, x_14, x_15, x_16, x_17, x_18, x_19, x_20, x_21, x_22, x_23, x_24, x_25, x_26, x_27, x_28, x_29, x_30, x_31, hS_o, hT_x_1, hT_x_2, hT_x_3, hT_x_4, hT_x_5, hb_x_6, hb_x_7, hb_x_8, hT_x_10, hb_q2, hb_x_11, hb_x_12, hT_x_17, hT_x_18, hb_x_19, hT_x_20, hT_x_21, hT_x_22, hT_x_23, hT_x_24, hT_x_25, hT_x_26, hT_x_27, hT_x_28, hT_x_29, hT_x_30, hb_x_31⟩ := hTy.k12 hT_o
  have hb_q2 : pr.2 ≤ 900 := hb_q2
  have hS_o : S o = .inr (12, [.ref x_1, .ref x_2, .ref x_3, .ref x_4, .ref x_5, .int (nI x_6), .int (nI x_7), .int (nI x_8), .int x_9, .ref x_10, .int (nI (pr.2)), .int (nI x_11), .int (nI x_12), .int x_13, .int x_14, .int x_15, .int x_16, .ref x_17, .ref x_18, .int (nI x_19), .ref x_20, .ref x_21, .ref x_22, .ref x_23, .ref x_24, .ref x_25, .ref x_26, .ref x_27, .ref x_28, .ref x_29, .ref x_30, .int (nI x_31)]) := hS_o
  obtain rfl : rn = x_19 := (nI_eq (by omega) (by omega)).mp (hrn.symm.trans (inf_i hS_o rfl))
  obtain ⟨f_32, hS_x_17⟩ := hTy.k56 hT_x_17
  obtain ⟨f_33, hS_x_18, hi_f_33⟩ := hTy.k57 hT_x_18
  have h17_ : fld S o 17 = f_32 := fld_i hS_o rfl hS_x_17
  have h18_ : fld S o 18 = f_33 := fld_i hS_o rfl hS_x_18
  have hwb := wa_b hi_f_33
  refine lv_aload_n hx hb dX12_loadOf_0 rfl (lv_at hl 0 rfl) ?_
  refine pl_get (ci := 12) (v := .ref x_17) (C := RX12) (T := TX12) (N := 32) hx hb hT iX12 hown hK hW hT_o.1 hS_o rfl 17 (by decide) w1099 rfl dX12_loadOf_1 ?_
  refine lv_aload_n hx hb dX12_loadOf_4 rfl (lv_at hl 0 rfl) ?_
  refine lv_iconst (v := 0) hx hb dX12_loadOf_5 (by decide) ?_
  refine vp_callSi (va_Run.run (va_runV (As := [.int 0]) (rest := [.ref x_17]) ⟨hx, hb, hml, hown, hT⟩ (m_coupleOf l dC dI cy L kap pr S s.heap.size o 0 hTy hT_o (by omega) rn (inf_i hS_o rfl) (by omega) (by omega) (by omega)) (cwV 1 hT (gV w1410 w1412 ws89 w14 w1413) rfl rfl rfl (by decide +kernel) ⟨(Nat.le_of_ble_eq_true rfl), (Nat.le_of_ble_eq_true rfl)⟩) ⟨pcN.blind, pl_recv hK hW hT_o.1 hS_o rfl, pcN.pre hW.1 hK hW.2.1 hN (fun q h => absurd h List.not_mem_nil)⟩ rfl rfl hl.1 rfl (lv_room (Nat.le_of_ble_eq_true rfl)) dX12_loadOf_6 ⟨(Nat.le_of_ble_eq_true rfl), (Nat.le_of_ble_eq_true rfl)⟩)) (fun r_34 hr_34 => ?_)
  have hcl_ := hr_34
  rw [fld_i (S := S) hS_o rfl hS_x_18] at hcl_
  obtain ⟨hce_, hcl_⟩ := hcl_
  obtain rfl : r_34 = nI (cpl f_33 rn 0) := hce_
  refine pl_iald hx hb hK hW hT_x_17.1 hS_x_17 (vp_in_nI (n := cpl f_33 rn 0) (N := 64) (by omega) (by omega)) dX12_loadOf_9 ?_
  refine lv_topi (fun y_35 ey_35 => ?_)
  refine lv_istore_n (lv' := [(1, .int y_35), (0, .ref o)]) hx hb dX12_loadOf_10 rfl hl (by decide) rfl (fun ls hl => ?_)
  refine lv_iconst (v := 1) hx hb dX12_loadOf_11 (by decide) ?_
  refine lv_istore_n (lv' := [(2, .int 1), (1, .int y_35), (0, .ref o)]) hx hb dX12_loadOf_12 rfl hl (by decide) rfl (fun ls hl => ?_)
  have loop : ∀ (fuel : Nat) (i : Nat) (nn : Int32) (ls : Array Slot), 9 - i < fuel → (i ≤ 8) → (∃ j, j < rn ∧ nn = f_32 (cpl f_33 rn j)) → lv_has ls 3 [(2, .int (nI i)), (1, .int nn), (0, .ref o)] → W p l e (headSpec (wT yX12_loadOf cX12_loadOf 3 (some .int)) { frames := 2, cells := 0, slots := 0, locals := 42 }).room s m [.ref o].toArray below meth c s.heap [] 0 0 (MQ below (vp_Si (fun r => ∃ j, j < rn ∧ r = fld S o 17 (cpl (fld S o 18) rn j))) [.ref o].toArray s 0 0 (fun _ => False)) (F0 m 13 ls []) := by
    intro fuel
    induction fuel with
    | zero => intro i nn ls h; exact absurd h (Nat.not_lt_zero _)
    | succ fu13 ih13 =>
      intro i nn ls hm13 hb_i hlo hl
      refine lv_iload_n hx hb dX12_loadOf_13 rfl (lv_at hl 0 rfl) ?_
      refine lv_aload_n hx hb dX12_loadOf_14 rfl (lv_at hl 2 rfl) ?_
      refine pl_get (ci := 12) (v := .int (nI rn)) (C := RX12) (T := TX12) (N := 32) hx hb hT iX12 hown hK hW hT_o.1 hS_o rfl 19 (by decide) w1101 rfl dX12_loadOf_15 ?_
      refine lv_icmp_ge (tgt := 56) hx hb dX12_loadOf_18 (by decide) (fun c_18 => ?_) (fun c_18 => ?_)
      · have c_18 : rn ≤ i := (nI_leI (a := rn) (b := i) (by omega) (by omega)).mp c_18
        refine lv_iload_n hx hb dX12_loadOf_56 rfl (lv_at hl 1 rfl) ?_
        exact W.iret (v := nn) hx hb hr (fun t ht h9 => ⟨nn, rfl, (by rw [h17_, h18_]; exact hlo), ht⟩) (fun q h => by cases h) dX12_loadOf_57
      · have c_18 : ¬ (rn ≤ i) := fun hh9 => c_18 ((nI_leI (a := rn) (b := i) (by omega) (by omega)).mpr hh9)
        refine lv_aload_n hx hb dX12_loadOf_21 rfl (lv_at hl 2 rfl) ?_
        refine pl_get (ci := 12) (v := .ref x_17) (C := RX12) (T := TX12) (N := 32) hx hb hT iX12 hown hK hW hT_o.1 hS_o rfl 17 (by decide) w1099 rfl dX12_loadOf_22 ?_
        refine lv_aload_n hx hb dX12_loadOf_25 rfl (lv_at hl 2 rfl) ?_
        refine lv_iload_n hx hb dX12_loadOf_26 rfl (lv_at hl 0 rfl) ?_
        refine vp_callSi (va_Run.run (va_runV (As := [.int (nI i)]) (rest := [.ref x_17]) ⟨hx, hb, hml, hown, hT⟩ (m_coupleOf l dC dI cy L kap pr S s.heap.size o i hTy hT_o (by omega) rn (inf_i hS_o rfl) (by omega) (by omega) (by omega)) (cwV 1 hT (gV w1410 w1412 ws89 w14 w1413) rfl rfl rfl (by decide +kernel) ⟨(Nat.le_of_ble_eq_true rfl), (Nat.le_of_ble_eq_true rfl)⟩) ⟨pcN.blind, pl_recv hK hW hT_o.1 hS_o rfl, pcN.pre hW.1 hK hW.2.1 hN (fun q h => absurd h List.not_mem_nil)⟩ rfl rfl hl.1 rfl (lv_room (Nat.le_of_ble_eq_true rfl)) dX12_loadOf_27 ⟨(Nat.le_of_ble_eq_true rfl), (Nat.le_of_ble_eq_true rfl)⟩)) (fun r_36 hr_36 => ?_)
        have hcl_ := hr_36
        rw [fld_i (S := S) hS_o rfl hS_x_18] at hcl_
        obtain ⟨hce_, hcl_⟩ := hcl_
        obtain rfl : r_36 = nI (cpl f_33 rn i) := hce_
        refine pl_iald hx hb hK hW hT_x_17.1 hS_x_17 (vp_in_nI (n := cpl f_33 rn i) (N := 64) (by omega) (by omega)) dX12_loadOf_30 ?_
        refine lv_topi (fun y_37 ey_37 => ?_)
        refine lv_iload_n hx hb dX12_loadOf_31 rfl (lv_at hl 1 rfl) ?_
        refine lv_icmp_ge (tgt := 48) hx hb dX12_loadOf_32 (by decide) (fun c_32 => ?_) (fun c_32 => ?_)
        · refine lv_iload_n hx hb dX12_loadOf_48 rfl (lv_at hl 1 rfl) ?_
          refine lv_istore_n (lv' := [(1, .int nn), (2, .int (nI i)), (0, .ref o)]) hx hb dX12_loadOf_49 rfl hl (by decide) rfl (fun ls hl => ?_)
          refine lv_iinc (v := nI (i + 1)) (lv' := [(2, .int (nI (i + 1))), (1, .int nn), (0, .ref o)]) hx hb dX12_loadOf_50 hl (k := 1) rfl (nI_add (i) 1) (by decide) rfl (fun ls hl => ?_)
          refine lv_goto (tgt := 13) hx hb dX12_loadOf_53 (by decide) ?_
          exact ih13 (i + 1) nn ls (by omega) (by omega) hlo (lv_sub hl [0, 1, 2] rfl)
        · refine lv_aload_n hx hb dX12_loadOf_35 rfl (lv_at hl 2 rfl) ?_
          refine pl_get (ci := 12) (v := .ref x_17) (C := RX12) (T := TX12) (N := 32) hx hb hT iX12 hown hK hW hT_o.1 hS_o rfl 17 (by decide) w1099 rfl dX12_loadOf_36 ?_
          refine lv_aload_n hx hb dX12_loadOf_39 rfl (lv_at hl 2 rfl) ?_
          refine lv_iload_n hx hb dX12_loadOf_40 rfl (lv_at hl 0 rfl) ?_
          refine vp_callSi (va_Run.run (va_runV (As := [.int (nI i)]) (rest := [.ref x_17]) ⟨hx, hb, hml, hown, hT⟩ (m_coupleOf l dC dI cy L kap pr S s.heap.size o i hTy hT_o (by omega) rn (inf_i hS_o rfl) (by omega) (by omega) (by omega)) (cwV 1 hT (gV w1410 w1412 ws89 w14 w1413) rfl rfl rfl (by decide +kernel) ⟨(Nat.le_of_ble_eq_true rfl), (Nat.le_of_ble_eq_true rfl)⟩) ⟨pcN.blind, pl_recv hK hW hT_o.1 hS_o rfl, pcN.pre hW.1 hK hW.2.1 hN (fun q h => absurd h List.not_mem_nil)⟩ rfl rfl hl.1 rfl (lv_room (Nat.le_of_ble_eq_true rfl)) dX12_loadOf_41 ⟨(Nat.le_of_ble_eq_true rfl), (Nat.le_of_ble_eq_true rfl)⟩)) (fun r_38 hr_38 => ?_)
          have hcl_ := hr_38
          rw [fld_i (S := S) hS_o rfl hS_x_18] at hcl_
          obtain ⟨hce_, hcl_⟩ := hcl_
          obtain rfl : r_38 = nI (cpl f_33 rn i) := hce_
          refine pl_iald hx hb hK hW hT_x_17.1 hS_x_17 (vp_in_nI (n := cpl f_33 rn i) (N := 64) (by omega) (by omega)) dX12_loadOf_44 ?_
          refine lv_topi (fun y_39 ey_39 => ?_)
          refine lv_goto (tgt := 49) hx hb dX12_loadOf_45 (by decide) ?_
          refine lv_istore_n (lv' := [(1, .int y_39), (2, .int (nI i)), (0, .ref o)]) hx hb dX12_loadOf_49 rfl hl (by decide) rfl (fun ls hl => ?_)
          refine lv_iinc (v := nI (i + 1)) (lv' := [(2, .int (nI (i + 1))), (1, .int y_39), (0, .ref o)]) hx hb dX12_loadOf_50 hl (k := 1) rfl (nI_add (i) 1) (by decide) rfl (fun ls hl => ?_)
          refine lv_goto (tgt := 13) hx hb dX12_loadOf_53 (by decide) ?_
          exact ih13 (i + 1) y_39 ls (by omega) (by omega) ⟨i, by omega, by rw [ey_39, nI_clamp (by omega)]⟩ (lv_sub hl [0, 1, 2] rfl)
  exact loop ((9 - 1) + 1) 1 y_35 ls (Nat.lt_succ_self _) (by omega) ⟨0, by omega, by rw [ey_35, nI_clamp (by omega)]⟩ (lv_sub hl [0, 1, 2] rfl)

set_option maxHeartbeats 4000000 in
set_option maxRecDepth 100000 in
theorem m_ringGoes (l : Launch) (dC : Nat → ClassId) (dI : Nat → Nat → Nat) (cy : Nat → ClassId) (L : List Nat) (kap : Nat → Nat) (pr : Pr) (S : Nat → va_E) (sz : Nat) (o : Nat) (hTy : Ty cy L kap pr S) (hT_o : TK L kap o 12) (rn : Nat) (hrn : inf (S o) 19 = nI rn) (hr1 : 1 ≤ rn) (hr8 : rn ≤ 8) (hr2 : 2 ≤ rn) (hR : RNG (fld S o 17) (fld S o 18) 1 rn) : Met l yX12_ringGoes (wT yX12_ringGoes cX12_ringGoes 3 none) ({ frames := 3, cells := 0, slots := 0, locals := 64 }) (pcN dC dI [.ref o] sz (va_pl L S) (cyT cy) NLs []) (va_Qv (fun S' => Ty cy L kap pr S' ∧ Fr kap [56] S S' ∧ (nzc (fld S' o 17) < nzc (fld S o 17) ∧ ∀ j, fld S o 17 j = 0 → fld S' o 17 j = 0)) (fun S' t => pB dC dI (AL L sz) (va_pl L S') (cyT cy) t) (AL L sz)) 0 0 (AL L sz) := by
  refine Met.ofW (cc := cX12_ringGoes) (maxL := 3) (ret := none) (by decide) rfl ?_
  intro p e s m args below meth c s₁ B hml hv
  obtain ⟨rfl, hsz, hP, hK, hD0, hN, -⟩ := hv
  have hx := B.exec
  have hb := B.bytes
  have hr := B.returns
  have hT : ∀ wd ∈ TB, wd.before [.ref o].toArray s = true := fun wd h => atoms_spec (ws := wT yX12_ringGoes cX12_ringGoes 3 none) B.pre wd (List.mem_cons_of_mem _ h)
  have hown : s.vm.findClass RX12 = some m.cls := findClass_of_methodNamed B.named
  have hlocks := B.notSynchronized
  subst hsz
  have hW : PW dC dI L (AL L s.heap.size) s.heap S s.heap [] := ⟨hP, pl_self hD0, va_S.rf⟩
  have hA0 : ∀ q, q ∈ L → AL L s.heap.size q := fun _ h => Or.inl h
  have hA : ∀ q, s.heap.size ≤ q → AL L s.heap.size q := fun _ h => Or.inr h
  have hFr : Fr kap [56] S S := Fr.rf
  have hl := lv_entry ([.ref o]) (n := 3) (Nat.le_of_ble_eq_true rfl)
  rw [lg_entry_eq]
  generalize (lg_sl ([.ref o]) ++ List.replicate (3 - (lg_sl ([.ref o])).length) Slot.unset).toArray = ls at hl ⊢
  have hl : lv_has ls 3 [(0, .ref o)] := hl
  obtain ⟨x_1, x_2, x_3, x_4, x_5, x_6, x_7, x_8, x_9, x_10, x_11, x_12, x_13, x_14, x_15, x_16, x_17, x_18, x_19, x_20, x_21, x_22, x_23, x_24, x_25, x_26, x_27, x_28, x_29, x_30, x_31, hS_o, hT_x_1, hT_x_2, hT_x_3, hT_x_4, hT_x_5, hb_x_6, hb_x_7, hb_x_8, hT_x_10, hb_q2, hb_x_11, hb_x_12, hT_x_17, hT_x_18, hb_x_19, hT_x_20, hT_x_21, hT_x_22, hT_x_23, hT_x_24, hT_x_25, hT_x_26, hT_x_27, hT_x_28, hT_x_29, hT_x_30, hb_x_31⟩ := hTy.k12 hT_o
  have hb_q2 : pr.2 ≤ 900 := hb_q2
  have hS_o : S o = .inr (12, [.ref x_1, .ref x_2, .ref x_3, .ref x_4, .ref x_5, .int (nI x_6), .int (nI x_7), .int (nI x_8), .int x_9, .ref x_10, .int (nI (pr.2)), .int (nI x_11), .int (nI x_12), .int x_13, .int x_14, .int x_15, .int x_16, .ref x_17, .ref x_18, .int (nI x_19), .ref x_20, .ref x_21, .ref x_22, .ref x_23, .ref x_24, .ref x_25, .ref x_26, .ref x_27, .ref x_28, .ref x_29, .ref x_30, .int (nI x_31)]) := hS_o
  obtain rfl : rn = x_19 := (nI_eq (by omega) (by omega)).mp (hrn.symm.trans (inf_i hS_o rfl))
  obtain ⟨f_32, hS_x_17⟩ := hTy.k56 hT_x_17
  obtain ⟨f_33, hS_x_18, hi_f_33⟩ := hTy.k57 hT_x_18
  have h17_ : fld S o 17 = f_32 := fld_i hS_o rfl hS_x_17
  have h18_ : fld S o 18 = f_33 := fld_i hS_o rfl hS_x_18
  have hwb := wa_b hi_f_33
  rw [h17_, h18_] at hR
  refine lv_aload_n hx hb dX12_ringGoes_0 rfl (lv_at hl 0 rfl) ?_
  refine vp_callSi (va_Run.run (va_runV (As := []) (rest := []) ⟨hx, hb, hml, hown, hT⟩ (m_loadOf l dC dI cy L kap pr S s.heap.size o hTy hT_o rn (inf_i hS_o rfl) (by omega) (by omega)) (cwV 0 hT (gV w1406 w1408 ws88 w14 w1409) rfl rfl rfl (by decide +kernel) ⟨(Nat.le_of_ble_eq_true rfl), (Nat.le_of_ble_eq_true rfl)⟩) ⟨pcN.blind, pl_recv hK hW hT_o.1 hS_o rfl, pcN.pre hW.1 hK hW.2.1 hN (fun q h => absurd h List.not_mem_nil)⟩ rfl rfl hl.1 rfl (lv_room (Nat.le_of_ble_eq_true rfl)) dX12_ringGoes_1 ⟨(Nat.le_of_ble_eq_true rfl), (Nat.le_of_ble_eq_true rfl)⟩)) (fun r_34 hr_34 => ?_)
  obtain ⟨jl, hjl, hil⟩ := hr_34
  rw [h17_, h18_] at hil
  refine lv_istore_n (lv' := [(1, .int r_34), (0, .ref o)]) hx hb dX12_ringGoes_4 rfl hl (by decide) rfl (fun ls hl => ?_)
  refine lv_iconst (v := 0) hx hb dX12_ringGoes_5 (by decide) ?_
  refine lv_istore_n (lv' := [(2, .int 0), (1, .int r_34), (0, .ref o)]) hx hb dX12_ringGoes_6 rfl hl (by decide) rfl (fun ls hl => ?_)
  have loop : ∀ (fuel : Nat) (i : Nat) (gf : Nat → Int32) (SS : Nat → va_E) (H : Heap) (locs : List Loc) (ls : Array Slot), 9 - i < fuel → (i ≤ 8) → (SS x_17 = .inl (cy 0, 64, .inl gf)) → (i ≤ rn) → (RGO f_32 gf f_33 rn i r_34) → Ty cy L kap pr SS → Fr kap [56] S SS → Fr kap [56] S SS → PW dC dI L (AL L s.heap.size) s.heap SS H locs → lv_has ls 3 [(2, .int (nI i)), (1, .int r_34), (0, .ref o)] → W p l e (headSpec (wT yX12_ringGoes cX12_ringGoes 3 none) { frames := 3, cells := 0, slots := 0, locals := 64 }).room s m [.ref o].toArray below meth c H locs 0 0 (MQ below (va_Qv (fun S' => Ty cy L kap pr S' ∧ Fr kap [56] S S' ∧ (nzc (fld S' o 17) < nzc (fld S o 17) ∧ ∀ j, fld S o 17 j = 0 → fld S' o 17 j = 0)) (fun S' t => pB dC dI (AL L s.heap.size) (va_pl L S') (cyT cy) t) (AL L s.heap.size)) [.ref o].toArray s 0 0 (AL L s.heap.size)) (F0 m 7 ls []) := by
    intro fuel
    induction fuel with
    | zero => intro i gf SS H locs ls h; exact absurd h (Nat.not_lt_zero _)
    | succ fu7 ih7 =>
      intro i gf S_35 H locs ls hm7 hb_i hFs hir hgo hTy hFr hFl7 hW hl
      have hS_o := hFl7.at hT_o (by decide) hS_o
      have hS_x_18 := hFl7.at hT_x_18 (by decide) hS_x_18
      refine lv_iload_n hx hb dX12_ringGoes_7 rfl (lv_at hl 0 rfl) ?_
      refine lv_aload_n hx hb dX12_ringGoes_8 rfl (lv_at hl 2 rfl) ?_
      refine pl_get (ci := 12) (v := .int (nI rn)) (C := RX12) (T := TX12) (N := 32) hx hb hT iX12 hown hK hW hT_o.1 hS_o rfl 19 (by decide) w1101 rfl dX12_ringGoes_9 ?_
      refine lv_icmp_ge (tgt := 35) hx hb dX12_ringGoes_12 (by decide) (fun c_12 => ?_) (fun c_12 => ?_)
      · have c_12 : rn ≤ i := (nI_leI (a := rn) (b := i) (by omega) (by omega)).mp c_12
        have hgo2 : RGO f_32 gf f_33 rn rn r_34 := by have q := hgo; rw [show i = rn from by omega] at q; exact q
        exact W.vret hx hb hr (fun t ht h9 => ⟨⟨S_35, rfl, ⟨hTy, hFr, ⟨by rw [h17_, fld_i (S := S_35) hS_o rfl hFs]; exact RGO_c hgo2 hR hr2 hjl hil hwb hr8, fun j hj => by rw [fld_i (S := S_35) hS_o rfl hFs]; rw [h17_] at hj; exact RGO_z hgo2 hR hr2 hj⟩⟩, by rw [ht]; exact hW.1, va_K.moved h9.alike hK, hW.2.1⟩, hW.2.2.F ht⟩) hW.2.2.2.2 dX12_ringGoes_35
      · have c_12 : ¬ (rn ≤ i) := fun hh9 => c_12 ((nI_leI (a := rn) (b := i) (by omega) (by omega)).mpr hh9)
        refine lv_aload_n hx hb dX12_ringGoes_15 rfl (lv_at hl 2 rfl) ?_
        refine pl_get (ci := 12) (v := .ref x_17) (C := RX12) (T := TX12) (N := 32) hx hb hT iX12 hown hK hW hT_o.1 hS_o rfl 17 (by decide) w1099 rfl dX12_ringGoes_16 ?_
        refine lv_aload_n hx hb dX12_ringGoes_19 rfl (lv_at hl 2 rfl) ?_
        refine lv_iload_n hx hb dX12_ringGoes_20 rfl (lv_at hl 0 rfl) ?_
        refine vp_callSi (va_Run.run (va_runV (As := [.int (nI i)]) (rest := [.ref x_17]) ⟨hx, hb, hml, hown, hT⟩ (m_coupleOf l dC dI cy L kap pr S_35 H.size o i hTy hT_o (by omega) rn (inf_i hS_o rfl) (by omega) (by omega) (by omega)) (cwV 1 hT (gV w1410 w1412 ws89 w14 w1413) rfl rfl rfl (by decide +kernel) ⟨(Nat.le_of_ble_eq_true rfl), (Nat.le_of_ble_eq_true rfl)⟩) ⟨pcN.blind, pl_recv hK hW hT_o.1 hS_o rfl, pcN.pre hW.1 hK hW.2.1 hN (fun q h => absurd h List.not_mem_nil)⟩ rfl rfl hl.1 rfl (lv_room (Nat.le_of_ble_eq_true rfl)) dX12_ringGoes_21 ⟨(Nat.le_of_ble_eq_true rfl), (Nat.le_of_ble_eq_true rfl)⟩)) (fun r_36 hr_36 => ?_)
        have hcl_ := hr_36
        rw [fld_i (S := S_35) hS_o rfl hS_x_18] at hcl_
        obtain ⟨hce_, hcl_⟩ := hcl_
        obtain rfl : r_36 = nI (cpl f_33 rn i) := hce_
        refine lv_dup2_11 hx hb dX12_ringGoes_24 rfl rfl ?_
        refine pl_iald hx hb hK hW hT_x_17.1 hFs (vp_in_nI (n := cpl f_33 rn i) (N := 64) (by omega) (by omega)) dX12_ringGoes_25 ?_
        refine lv_topi (fun y_37 ey_37 => ?_)
        refine lv_iload_n hx hb dX12_ringGoes_26 rfl (lv_at hl 1 rfl) ?_
        refine lv_isub hx hb dX12_ringGoes_27 ?_
        refine lv_topi (fun z_38 ez_38 => ?_)
        refine pl_iast hx hb hK hW hT_x_17.1 hFs (vp_in_nI (n := cpl f_33 rn i) (N := 64) (by omega) (by omega)) dX12_ringGoes_28 (fun H locs f_40 S_39 ef_f_40 e1 hW => ?_)
        have hTy := hTy.u56 e1 hT_x_17 ⟨f_40, rfl⟩
        have hS_o := un e1 hT_o hT_x_17 (by decide) hS_o
        have hS_x_18 := un e1 hT_x_18 hT_x_17 (by decide) hS_x_18
        have hFr := uf hFr e1 hT_x_17 (by decide) (by decide)
        have hFl7 := uf hFl7 e1 hT_x_17 (by decide) (by decide)
        have hFs := us e1
        have hgo1 := RGO_s hgo hR hwb hr8 (by omega) rfl ey_37 ez_38 ef_f_40
        refine lv_iinc (v := nI (i + 1)) (lv' := [(2, .int (nI (i + 1))), (1, .int r_34), (0, .ref o)]) hx hb dX12_ringGoes_29 hl (k := 0) rfl (nI_add (i) 1) (by decide) rfl (fun ls hl => ?_)
        refine lv_goto (tgt := 7) hx hb dX12_ringGoes_32 (by decide) ?_
        exact ih7 (i + 1) f_40 _ _ _ ls (by omega) (by omega) hFs (by omega) hgo1 hTy hFr hFl7 hW (lv_sub hl [0, 1, 2] rfl)
  exact loop ((9 - 0) + 1) 0 f_32 _ _ _ ls (Nat.lt_succ_self _) (by omega) hS_x_17 (by omega) RGO_0 hTy hFr Fr.rf hW (lv_sub hl [0, 1, 2] rfl)

