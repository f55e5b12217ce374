theorem w1483 : (.methodLink RX12 327 yX12_sumOf : Cond) ∈ TB := mTB (List.mem_of_getElem? (i := 1483) (by decide +kernel)) (by decide +kernel)
theorem w1485 : (.instanceMethod yX12_sumOf : Cond) ∈ TB := mTB (List.mem_of_getElem? (i := 1485) (by decide +kernel)) (by decide +kernel)
theorem w1486 : (.code yX12_sumOf cX12_sumOf 3 (some .int) : Cond) ∈ TB := mTB (List.mem_of_getElem? (i := 1486) (by decide +kernel)) (by decide +kernel)
theorem w1491 : (.methodLink RX12 330 yX12_pressesFirst : Cond) ∈ TB := mTB (List.mem_of_getElem? (i := 1491) (by decide +kernel)) (by decide +kernel)
theorem w1493 : (.instanceMethod yX12_pressesFirst : Cond) ∈ TB := mTB (List.mem_of_getElem? (i := 1493) (by decide +kernel)) (by decide +kernel)
theorem w1494 : (.code yX12_pressesFirst cX12_pressesFirst 4 (some .boolean) : Cond) ∈ TB := mTB (List.mem_of_getElem? (i := 1494) (by decide +kernel)) (by decide +kernel)
theorem w1527 : (.methodLink RX12 336 yX12_reliefOf : Cond) ∈ TB := mTB (List.mem_of_getElem? (i := 1527) (by decide +kernel)) (by decide +kernel)
theorem w1529 : (.instanceMethod yX12_reliefOf : Cond) ∈ TB := mTB (List.mem_of_getElem? (i := 1529) (by decide +kernel)) (by decide +kernel)
theorem w1530 : (.code yX12_reliefOf cX12_reliefOf 4 (some .int) : Cond) ∈ TB := mTB (List.mem_of_getElem? (i := 1530) (by decide +kernel)) (by decide +kernel)
theorem ws100 : (.selects RX12 yX12_sumOf yX12_sumOf : Cond) ∈ TB := mSel (y := yX12_sumOf) (n := 32) (List.mem_of_getElem? (i := 100) (by decide +kernel)) (by decide +kernel)
theorem ws101 : (.selects RX12 yX12_pressesFirst yX12_pressesFirst : Cond) ∈ TB := mSel (y := yX12_pressesFirst) (n := 32) (List.mem_of_getElem? (i := 101) (by decide +kernel)) (by decide +kernel)
theorem ws105 : (.selects RX12 yX12_reliefOf yX12_reliefOf : Cond) ∈ TB := mSel (y := yX12_reliefOf) (n := 32) (List.mem_of_getElem? (i := 105) (by decide +kernel)) (by decide +kernel)
theorem dX12_all_0 : decode cX12_all 0 = .ok (.aload_n 0, 1) := by decide +kernel
theorem dX12_all_1 : decode cX12_all 1 = .ok (.iconst 0, 1) := by decide +kernel
theorem dX12_all_2 : decode cX12_all 2 = .ok (.putfield 1, 3) := by decide +kernel
theorem dX12_all_5 : decode cX12_all 5 = .ok (.iconst 0, 1) := by decide +kernel
theorem dX12_all_6 : decode cX12_all 6 = .ok (.istore_n 1, 1) := by decide +kernel
theorem dX12_all_7 : decode cX12_all 7 = .ok (.iconst 0, 1) := by decide +kernel
theorem dX12_all_8 : decode cX12_all 8 = .ok (.istore_n 2, 1) := by decide +kernel
theorem dX12_all_9 : decode cX12_all 9 = .ok (.iload_n 2, 1) := by decide +kernel
theorem dX12_all_10 : decode cX12_all 10 = .ok (.aload_n 0, 1) := by decide +kernel
theorem dX12_all_11 : decode cX12_all 11 = .ok (.getfield 83, 3) := by decide +kernel
theorem dX12_all_14 : decode cX12_all 14 = .ok (.if_icmp .ge 31, 3) := by decide +kernel
theorem dX12_all_17 : decode cX12_all 17 = .ok (.aload_n 0, 1) := by decide +kernel
theorem dX12_all_18 : decode cX12_all 18 = .ok (.iload_n 2, 1) := by decide +kernel
theorem dX12_all_19 : decode cX12_all 19 = .ok (.iconst (-1), 1) := by decide +kernel
theorem dX12_all_20 : decode cX12_all 20 = .ok (.invokevirtual 316, 3) := by decide +kernel
theorem dX12_all_23 : decode cX12_all 23 = .ok (.aload_n 0, 1) := by decide +kernel
theorem dX12_all_24 : decode cX12_all 24 = .ok (.invokevirtual 319, 3) := by decide +kernel
theorem dX12_all_27 : decode cX12_all 27 = .ok (.ifCond .ne 5, 3) := by decide +kernel
theorem dX12_all_30 : decode cX12_all 30 = .ok (.iconst (-1), 1) := by decide +kernel
theorem dX12_all_31 : decode cX12_all 31 = .ok (.ireturn, 1) := by decide +kernel
theorem dX12_all_32 : decode cX12_all 32 = .ok (.iload_n 1, 1) := by decide +kernel
theorem dX12_all_33 : decode cX12_all 33 = .ok (.aload_n 0, 1) := by decide +kernel
theorem dX12_all_34 : decode cX12_all 34 = .ok (.invokevirtual 327, 3) := by decide +kernel
theorem dX12_all_37 : decode cX12_all 37 = .ok (.iadd, 1) := by decide +kernel
theorem dX12_all_38 : decode cX12_all 38 = .ok (.istore_n 1, 1) := by decide +kernel
theorem dX12_all_39 : decode cX12_all 39 = .ok (.iinc 2 1, 3) := by decide +kernel
theorem dX12_all_42 : decode cX12_all 42 = .ok (.goto (-33), 3) := by decide +kernel
theorem dX12_all_45 : decode cX12_all 45 = .ok (.iload_n 1, 1) := by decide +kernel
theorem dX12_all_46 : decode cX12_all 46 = .ok (.ireturn, 1) := by decide +kernel
theorem dX12_enough_0 : decode cX12_enough 0 = .ok (.aload_n 0, 1) := by decide +kernel
theorem dX12_enough_1 : decode cX12_enough 1 = .ok (.iconst 0, 1) := by decide +kernel
theorem dX12_enough_2 : decode cX12_enough 2 = .ok (.putfield 1, 3) := by decide +kernel
theorem dX12_enough_5 : decode cX12_enough 5 = .ok (.aload_n 0, 1) := by decide +kernel
theorem dX12_enough_6 : decode cX12_enough 6 = .ok (.iload_n 1, 1) := by decide +kernel
theorem dX12_enough_7 : decode cX12_enough 7 = .ok (.iload_n 2, 1) := by decide +kernel
theorem dX12_enough_8 : decode cX12_enough 8 = .ok (.invokevirtual 201, 3) := by decide +kernel
theorem dX12_enough_11 : decode cX12_enough 11 = .ok (.ifCond .eq 11, 3) := by decide +kernel
theorem dX12_enough_14 : decode cX12_enough 14 = .ok (.aload_n 0, 1) := by decide +kernel
theorem dX12_enough_15 : decode cX12_enough 15 = .ok (.iload_n 3, 1) := by decide +kernel
theorem dX12_enough_16 : decode cX12_enough 16 = .ok (.invokevirtual 205, 3) := by decide +kernel
theorem dX12_enough_19 : decode cX12_enough 19 = .ok (.ifCond .ne 6, 3) := by decide +kernel
theorem dX12_enough_22 : decode cX12_enough 22 = .ok (.bipush (-2), 2) := by decide +kernel
theorem dX12_enough_24 : decode cX12_enough 24 = .ok (.ireturn, 1) := by decide +kernel
theorem dX12_enough_25 : decode cX12_enough 25 = .ok (.aload_n 0, 1) := by decide +kernel
theorem dX12_enough_26 : decode cX12_enough 26 = .ok (.iload_n 3, 1) := by decide +kernel
theorem dX12_enough_27 : decode cX12_enough 27 = .ok (.iconst (-1), 1) := by decide +kernel
theorem dX12_enough_28 : decode cX12_enough 28 = .ok (.invokevirtual 316, 3) := by decide +kernel
theorem dX12_enough_31 : decode cX12_enough 31 = .ok (.aload_n 0, 1) := by decide +kernel
theorem dX12_enough_32 : decode cX12_enough 32 = .ok (.getfield 46, 3) := by decide +kernel
theorem dX12_enough_35 : decode cX12_enough 35 = .ok (.iload_n 1, 1) := by decide +kernel
theorem dX12_enough_36 : decode cX12_enough 36 = .ok (.iload_n 2, 1) := by decide +kernel
theorem dX12_enough_37 : decode cX12_enough 37 = .ok (.invokestatic 229, 3) := by decide +kernel
theorem dX12_enough_40 : decode cX12_enough 40 = .ok (.ldc 86, 2) := by decide +kernel
theorem dX12_enough_42 : decode cX12_enough 42 = .ok (.iastore, 1) := by decide +kernel
theorem dX12_enough_43 : decode cX12_enough 43 = .ok (.aload_n 0, 1) := by decide +kernel
theorem dX12_enough_44 : decode cX12_enough 44 = .ok (.invokevirtual 319, 3) := by decide +kernel
theorem dX12_enough_47 : decode cX12_enough 47 = .ok (.ifCond .ne 5, 3) := by decide +kernel
theorem dX12_enough_50 : decode cX12_enough 50 = .ok (.iconst (-1), 1) := by decide +kernel
theorem dX12_enough_51 : decode cX12_enough 51 = .ok (.ireturn, 1) := by decide +kernel
theorem dX12_enough_52 : decode cX12_enough 52 = .ok (.aload_n 0, 1) := by decide +kernel
theorem dX12_enough_53 : decode cX12_enough 53 = .ok (.iload_n 1, 1) := by decide +kernel
theorem dX12_enough_54 : decode cX12_enough 54 = .ok (.iload_n 2, 1) := by decide +kernel
theorem dX12_enough_55 : decode cX12_enough 55 = .ok (.iconst 0, 1) := by decide +kernel
theorem dX12_enough_56 : decode cX12_enough 56 = .ok (.invokevirtual 323, 3) := by decide +kernel
theorem dX12_enough_59 : decode cX12_enough 59 = .ok (.aload_n 0, 1) := by decide +kernel
theorem dX12_enough_60 : decode cX12_enough 60 = .ok (.getfield 49, 3) := by decide +kernel
theorem dX12_enough_63 : decode cX12_enough 63 = .ok (.iload_n 1, 1) := by decide +kernel
theorem dX12_enough_64 : decode cX12_enough 64 = .ok (.iload_n 2, 1) := by decide +kernel
theorem dX12_enough_65 : decode cX12_enough 65 = .ok (.invokestatic 229, 3) := by decide +kernel
theorem dX12_enough_68 : decode cX12_enough 68 = .ok (.iaload, 1) := by decide +kernel
theorem dX12_enough_69 : decode cX12_enough 69 = .ok (.ireturn, 1) := by decide +kernel
theorem dX12_gain_0 : decode cX12_gain 0 = .ok (.aload_n 0, 1) := by decide +kernel
theorem dX12_gain_1 : decode cX12_gain 1 = .ok (.iconst 0, 1) := by decide +kernel
theorem dX12_gain_2 : decode cX12_gain 2 = .ok (.putfield 1, 3) := by decide +kernel
theorem dX12_gain_5 : decode cX12_gain 5 = .ok (.aload_n 0, 1) := by decide +kernel
theorem dX12_gain_6 : decode cX12_gain 6 = .ok (.iload_n 1, 1) := by decide +kernel
theorem dX12_gain_7 : decode cX12_gain 7 = .ok (.iload_n 2, 1) := by decide +kernel
theorem dX12_gain_8 : decode cX12_gain 8 = .ok (.invokevirtual 201, 3) := by decide +kernel
theorem dX12_gain_11 : decode cX12_gain 11 = .ok (.ifCond .eq 11, 3) := by decide +kernel
theorem dX12_gain_14 : decode cX12_gain 14 = .ok (.aload_n 0, 1) := by decide +kernel
theorem dX12_gain_15 : decode cX12_gain 15 = .ok (.iload_n 3, 1) := by decide +kernel
theorem dX12_gain_16 : decode cX12_gain 16 = .ok (.invokevirtual 205, 3) := by decide +kernel
theorem dX12_gain_19 : decode cX12_gain 19 = .ok (.ifCond .ne 6, 3) := by decide +kernel
theorem dX12_gain_22 : decode cX12_gain 22 = .ok (.bipush (-2), 2) := by decide +kernel
theorem dX12_gain_24 : decode cX12_gain 24 = .ok (.ireturn, 1) := by decide +kernel
theorem dX12_gain_25 : decode cX12_gain 25 = .ok (.aload_n 0, 1) := by decide +kernel
theorem dX12_gain_26 : decode cX12_gain 26 = .ok (.iload_n 3, 1) := by decide +kernel
theorem dX12_gain_27 : decode cX12_gain 27 = .ok (.iconst (-1), 1) := by decide +kernel
theorem dX12_gain_28 : decode cX12_gain 28 = .ok (.invokevirtual 316, 3) := by decide +kernel
theorem dX12_gain_31 : decode cX12_gain 31 = .ok (.aload_n 0, 1) := by decide +kernel
theorem dX12_gain_32 : decode cX12_gain 32 = .ok (.invokevirtual 319, 3) := by decide +kernel
theorem dX12_gain_35 : decode cX12_gain 35 = .ok (.ifCond .ne 5, 3) := by decide +kernel
theorem dX12_gain_38 : decode cX12_gain 38 = .ok (.iconst (-1), 1) := by decide +kernel
theorem dX12_gain_39 : decode cX12_gain 39 = .ok (.ireturn, 1) := by decide +kernel
theorem dX12_gain_40 : decode cX12_gain 40 = .ok (.aload_n 0, 1) := by decide +kernel
theorem dX12_gain_41 : decode cX12_gain 41 = .ok (.invokevirtual 327, 3) := by decide +kernel
theorem dX12_gain_44 : decode cX12_gain 44 = .ok (.istore 4, 2) := by decide +kernel
theorem dX12_gain_46 : decode cX12_gain 46 = .ok (.aload_n 0, 1) := by decide +kernel
theorem dX12_gain_47 : decode cX12_gain 47 = .ok (.getfield 46, 3) := by decide +kernel
theorem dX12_gain_50 : decode cX12_gain 50 = .ok (.iload_n 1, 1) := by decide +kernel
theorem dX12_gain_51 : decode cX12_gain 51 = .ok (.iload_n 2, 1) := by decide +kernel
theorem dX12_gain_52 : decode cX12_gain 52 = .ok (.invokestatic 229, 3) := by decide +kernel
theorem dX12_gain_55 : decode cX12_gain 55 = .ok (.dup2, 1) := by decide +kernel
theorem dX12_gain_56 : decode cX12_gain 56 = .ok (.iaload, 1) := by decide +kernel
theorem dX12_gain_57 : decode cX12_gain 57 = .ok (.iconst 1, 1) := by decide +kernel
theorem dX12_gain_58 : decode cX12_gain 58 = .ok (.iadd, 1) := by decide +kernel
theorem dX12_gain_59 : decode cX12_gain 59 = .ok (.iastore, 1) := by decide +kernel
theorem dX12_gain_60 : decode cX12_gain 60 = .ok (.aload_n 0, 1) := by decide +kernel
theorem dX12_gain_61 : decode cX12_gain 61 = .ok (.invokevirtual 319, 3) := by decide +kernel
theorem dX12_gain_64 : decode cX12_gain 64 = .ok (.pop, 1) := by decide +kernel
theorem dX12_gain_65 : decode cX12_gain 65 = .ok (.iload 4, 2) := by decide +kernel
theorem dX12_gain_67 : decode cX12_gain 67 = .ok (.aload_n 0, 1) := by decide +kernel
theorem dX12_gain_68 : decode cX12_gain 68 = .ok (.invokevirtual 327, 3) := by decide +kernel
theorem dX12_gain_71 : decode cX12_gain 71 = .ok (.isub, 1) := by decide +kernel
theorem dX12_gain_72 : decode cX12_gain 72 = .ok (.ireturn, 1) := by decide +kernel
theorem dX12_least_0 : decode cX12_least 0 = .ok (.aload_n 0, 1) := by decide +kernel
theorem dX12_least_1 : decode cX12_least 1 = .ok (.iconst 0, 1) := by decide +kernel
theorem dX12_least_2 : decode cX12_least 2 = .ok (.putfield 1, 3) := by decide +kernel
theorem dX12_least_5 : decode cX12_least 5 = .ok (.aload_n 0, 1) := by decide +kernel
theorem dX12_least_6 : decode cX12_least 6 = .ok (.iload_n 1, 1) := by decide +kernel
theorem dX12_least_7 : decode cX12_least 7 = .ok (.invokevirtual 205, 3) := by decide +kernel
theorem dX12_least_10 : decode cX12_least 10 = .ok (.ifCond .ne 6, 3) := by decide +kernel
theorem dX12_least_13 : decode cX12_least 13 = .ok (.bipush (-2), 2) := by decide +kernel
theorem dX12_least_15 : decode cX12_least 15 = .ok (.ireturn, 1) := by decide +kernel
theorem dX12_least_16 : decode cX12_least 16 = .ok (.aload_n 0, 1) := by decide +kernel
theorem dX12_least_17 : decode cX12_least 17 = .ok (.iload_n 1, 1) := by decide +kernel
theorem dX12_least_18 : decode cX12_least 18 = .ok (.iconst (-1), 1) := by decide +kernel
theorem dX12_least_19 : decode cX12_least 19 = .ok (.invokevirtual 316, 3) := by decide +kernel
theorem dX12_least_22 : decode cX12_least 22 = .ok (.aload_n 0, 1) := by decide +kernel
theorem dX12_least_23 : decode cX12_least 23 = .ok (.invokevirtual 319, 3) := by decide +kernel
theorem dX12_least_26 : decode cX12_least 26 = .ok (.ifCond .eq 10, 3) := by decide +kernel
theorem dX12_least_29 : decode cX12_least 29 = .ok (.aload_n 0, 1) := by decide +kernel
theorem dX12_least_30 : decode cX12_least 30 = .ok (.invokevirtual 327, 3) := by decide +kernel
theorem dX12_least_33 : decode cX12_least 33 = .ok (.goto 4, 3) := by decide +kernel
theorem dX12_least_36 : decode cX12_least 36 = .ok (.iconst (-1), 1) := by decide +kernel
theorem dX12_least_37 : decode cX12_least 37 = .ok (.ireturn, 1) := by decide +kernel
theorem dX12_pressed_0 : decode cX12_pressed 0 = .ok (.aload_n 0, 1) := by decide +kernel
theorem dX12_pressed_1 : decode cX12_pressed 1 = .ok (.iconst 0, 1) := by decide +kernel
theorem dX12_pressed_2 : decode cX12_pressed 2 = .ok (.putfield 1, 3) := by decide +kernel
theorem dX12_pressed_5 : decode cX12_pressed 5 = .ok (.aload_n 0, 1) := by decide +kernel
theorem dX12_pressed_6 : decode cX12_pressed 6 = .ok (.iload_n 1, 1) := by decide +kernel
theorem dX12_pressed_7 : decode cX12_pressed 7 = .ok (.iload_n 2, 1) := by decide +kernel
theorem dX12_pressed_8 : decode cX12_pressed 8 = .ok (.invokevirtual 201, 3) := by decide +kernel
theorem dX12_pressed_11 : decode cX12_pressed 11 = .ok (.ifCond .eq 11, 3) := by decide +kernel
theorem dX12_pressed_14 : decode cX12_pressed 14 = .ok (.aload_n 0, 1) := by decide +kernel
theorem dX12_pressed_15 : decode cX12_pressed 15 = .ok (.iload_n 3, 1) := by decide +kernel
theorem dX12_pressed_16 : decode cX12_pressed 16 = .ok (.invokevirtual 205, 3) := by decide +kernel
theorem dX12_pressed_19 : decode cX12_pressed 19 = .ok (.ifCond .ne 6, 3) := by decide +kernel
theorem dX12_pressed_22 : decode cX12_pressed 22 = .ok (.bipush (-2), 2) := by decide +kernel
theorem dX12_pressed_24 : decode cX12_pressed 24 = .ok (.ireturn, 1) := by decide +kernel
theorem dX12_pressed_25 : decode cX12_pressed 25 = .ok (.aload_n 0, 1) := by decide +kernel
theorem dX12_pressed_26 : decode cX12_pressed 26 = .ok (.iload_n 3, 1) := by decide +kernel
theorem dX12_pressed_27 : decode cX12_pressed 27 = .ok (.invokevirtual 330, 3) := by decide +kernel
theorem dX12_pressed_30 : decode cX12_pressed 30 = .ok (.ifCond .eq 16, 3) := by decide +kernel
theorem dX12_pressed_33 : decode cX12_pressed 33 = .ok (.aload_n 0, 1) := by decide +kernel
theorem dX12_pressed_34 : decode cX12_pressed 34 = .ok (.getfield 49, 3) := by decide +kernel
theorem dX12_pressed_37 : decode cX12_pressed 37 = .ok (.iload_n 1, 1) := by decide +kernel
theorem dX12_pressed_38 : decode cX12_pressed 38 = .ok (.iload_n 2, 1) := by decide +kernel
theorem dX12_pressed_39 : decode cX12_pressed 39 = .ok (.invokestatic 229, 3) := by decide +kernel
theorem dX12_pressed_42 : decode cX12_pressed 42 = .ok (.iaload, 1) := by decide +kernel
theorem dX12_pressed_43 : decode cX12_pressed 43 = .ok (.goto 4, 3) := by decide +kernel
theorem dX12_pressed_46 : decode cX12_pressed 46 = .ok (.iconst (-1), 1) := by decide +kernel
theorem dX12_pressed_47 : decode cX12_pressed 47 = .ok (.ireturn, 1) := by decide +kernel
theorem dX12_relief_0 : decode cX12_relief 0 = .ok (.aload_n 0, 1) := by decide +kernel
theorem dX12_relief_1 : decode cX12_relief 1 = .ok (.iconst 0, 1) := by decide +kernel
theorem dX12_relief_2 : decode cX12_relief 2 = .ok (.putfield 1, 3) := by decide +kernel
theorem dX12_relief_5 : decode cX12_relief 5 = .ok (.aload_n 0, 1) := by decide +kernel
theorem dX12_relief_6 : decode cX12_relief 6 = .ok (.iload_n 1, 1) := by decide +kernel
theorem dX12_relief_7 : decode cX12_relief 7 = .ok (.invokevirtual 198, 3) := by decide +kernel
theorem dX12_relief_10 : decode cX12_relief 10 = .ok (.ifCond .eq 11, 3) := by decide +kernel
theorem dX12_relief_13 : decode cX12_relief 13 = .ok (.aload_n 0, 1) := by decide +kernel
theorem dX12_relief_14 : decode cX12_relief 14 = .ok (.iload_n 2, 1) := by decide +kernel
theorem dX12_relief_15 : decode cX12_relief 15 = .ok (.invokevirtual 205, 3) := by decide +kernel
theorem dX12_relief_18 : decode cX12_relief 18 = .ok (.ifCond .ne 6, 3) := by decide +kernel
theorem dX12_relief_21 : decode cX12_relief 21 = .ok (.bipush (-2), 2) := by decide +kernel
theorem dX12_relief_23 : decode cX12_relief 23 = .ok (.ireturn, 1) := by decide +kernel
theorem dX12_relief_24 : decode cX12_relief 24 = .ok (.aload_n 0, 1) := by decide +kernel
theorem dX12_relief_25 : decode cX12_relief 25 = .ok (.iload_n 2, 1) := by decide +kernel
theorem dX12_relief_26 : decode cX12_relief 26 = .ok (.invokevirtual 330, 3) := by decide +kernel
theorem dX12_relief_29 : decode cX12_relief 29 = .ok (.ifCond .eq 11, 3) := by decide +kernel
theorem dX12_relief_32 : decode cX12_relief 32 = .ok (.aload_n 0, 1) := by decide +kernel
theorem dX12_relief_33 : decode cX12_relief 33 = .ok (.iload_n 1, 1) := by decide +kernel
theorem dX12_relief_34 : decode cX12_relief 34 = .ok (.invokevirtual 336, 3) := by decide +kernel
theorem dX12_relief_37 : decode cX12_relief 37 = .ok (.goto 4, 3) := by decide +kernel
theorem dX12_relief_40 : decode cX12_relief 40 = .ok (.iconst (-1), 1) := by decide +kernel
theorem dX12_relief_41 : decode cX12_relief 41 = .ok (.ireturn, 1) := by decide +kernel
theorem dX12_relieved_0 : decode cX12_relieved 0 = .ok (.aload_n 0, 1) := by decide +kernel
theorem dX12_relieved_1 : decode cX12_relieved 1 = .ok (.iconst 0, 1) := by decide +kernel
theorem dX12_relieved_2 : decode cX12_relieved 2 = .ok (.putfield 1, 3) := by decide +kernel
theorem dX12_relieved_5 : decode cX12_relieved 5 = .ok (.aload_n 0, 1) := by decide +kernel
theorem dX12_relieved_6 : decode cX12_relieved 6 = .ok (.iload_n 1, 1) := by decide +kernel
theorem dX12_relieved_7 : decode cX12_relieved 7 = .ok (.invokevirtual 205, 3) := by decide +kernel
theorem dX12_relieved_10 : decode cX12_relieved 10 = .ok (.ifCond .ne 6, 3) := by decide +kernel
theorem dX12_relieved_13 : decode cX12_relieved 13 = .ok (.bipush (-2), 2) := by decide +kernel
theorem dX12_relieved_15 : decode cX12_relieved 15 = .ok (.ireturn, 1) := by decide +kernel
theorem dX12_relieved_16 : decode cX12_relieved 16 = .ok (.aload_n 0, 1) := by decide +kernel
theorem dX12_relieved_17 : decode cX12_relieved 17 = .ok (.iload_n 1, 1) := by decide +kernel
theorem dX12_relieved_18 : decode cX12_relieved 18 = .ok (.invokevirtual 330, 3) := by decide +kernel
theorem dX12_relieved_21 : decode cX12_relieved 21 = .ok (.ifCond .ne 5, 3) := by decide +kernel
theorem dX12_relieved_24 : decode cX12_relieved 24 = .ok (.iconst (-1), 1) := by decide +kernel
theorem dX12_relieved_25 : decode cX12_relieved 25 = .ok (.ireturn, 1) := by decide +kernel
theorem dX12_relieved_26 : decode cX12_relieved 26 = .ok (.iconst (-1), 1) := by decide +kernel
theorem dX12_relieved_27 : decode cX12_relieved 27 = .ok (.istore_n 2, 1) := by decide +kernel
theorem dX12_relieved_28 : decode cX12_relieved 28 = .ok (.iconst 0, 1) := by decide +kernel
theorem dX12_relieved_29 : decode cX12_relieved 29 = .ok (.istore_n 3, 1) := by decide +kernel
theorem dX12_relieved_30 : decode cX12_relieved 30 = .ok (.iload_n 3, 1) := by decide +kernel
theorem dX12_relieved_31 : decode cX12_relieved 31 = .ok (.aload_n 0, 1) := by decide +kernel
theorem dX12_relieved_32 : decode cX12_relieved 32 = .ok (.getfield 80, 3) := by decide +kernel
theorem dX12_relieved_35 : decode cX12_relieved 35 = .ok (.if_icmp .ge 29, 3) := by decide +kernel
theorem dX12_relieved_38 : decode cX12_relieved 38 = .ok (.iload_n 2, 1) := by decide +kernel
theorem dX12_relieved_39 : decode cX12_relieved 39 = .ok (.iconst (-1), 1) := by decide +kernel
theorem dX12_relieved_40 : decode cX12_relieved 40 = .ok (.if_icmp .eq 16, 3) := by decide +kernel
theorem dX12_relieved_43 : decode cX12_relieved 43 = .ok (.aload_n 0, 1) := by decide +kernel
theorem dX12_relieved_44 : decode cX12_relieved 44 = .ok (.iload_n 3, 1) := by decide +kernel
theorem dX12_relieved_45 : decode cX12_relieved 45 = .ok (.invokevirtual 336, 3) := by decide +kernel
theorem dX12_relieved_48 : decode cX12_relieved 48 = .ok (.aload_n 0, 1) := by decide +kernel
theorem dX12_relieved_49 : decode cX12_relieved 49 = .ok (.iload_n 2, 1) := by decide +kernel
theorem dX12_relieved_50 : decode cX12_relieved 50 = .ok (.invokevirtual 336, 3) := by decide +kernel
theorem dX12_relieved_53 : decode cX12_relieved 53 = .ok (.if_icmp .le 5, 3) := by decide +kernel
theorem dX12_relieved_56 : decode cX12_relieved 56 = .ok (.iload_n 3, 1) := by decide +kernel
theorem dX12_relieved_57 : decode cX12_relieved 57 = .ok (.istore_n 2, 1) := by decide +kernel
theorem dX12_relieved_58 : decode cX12_relieved 58 = .ok (.iinc 3 1, 3) := by decide +kernel
theorem dX12_relieved_61 : decode cX12_relieved 61 = .ok (.goto (-31), 3) := by decide +kernel
theorem dX12_relieved_64 : decode cX12_relieved 64 = .ok (.iload_n 2, 1) := by decide +kernel
theorem dX12_relieved_65 : decode cX12_relieved 65 = .ok (.ireturn, 1) := by decide +kernel
theorem dX12_span_0 : decode cX12_span 0 = .ok (.aload_n 0, 1) := by decide +kernel
theorem dX12_span_1 : decode cX12_span 1 = .ok (.iconst 0, 1) := by decide +kernel
theorem dX12_span_2 : decode cX12_span 2 = .ok (.putfield 1, 3) := by decide +kernel
theorem dX12_span_5 : decode cX12_span 5 = .ok (.aload_n 0, 1) := by decide +kernel
theorem dX12_span_6 : decode cX12_span 6 = .ok (.iload_n 1, 1) := by decide +kernel
theorem dX12_span_7 : decode cX12_span 7 = .ok (.iload_n 2, 1) := by decide +kernel
theorem dX12_span_8 : decode cX12_span 8 = .ok (.invokevirtual 201, 3) := by decide +kernel
theorem dX12_span_11 : decode cX12_span 11 = .ok (.ifCond .eq 11, 3) := by decide +kernel
theorem dX12_span_14 : decode cX12_span 14 = .ok (.aload_n 0, 1) := by decide +kernel
theorem dX12_span_15 : decode cX12_span 15 = .ok (.iload_n 3, 1) := by decide +kernel
theorem dX12_span_16 : decode cX12_span 16 = .ok (.invokevirtual 205, 3) := by decide +kernel
theorem dX12_span_19 : decode cX12_span 19 = .ok (.ifCond .ne 6, 3) := by decide +kernel
theorem dX12_span_22 : decode cX12_span 22 = .ok (.bipush (-2), 2) := by decide +kernel
theorem dX12_span_24 : decode cX12_span 24 = .ok (.ireturn, 1) := by decide +kernel
theorem dX12_span_25 : decode cX12_span 25 = .ok (.iload 4, 2) := by decide +kernel
theorem dX12_span_27 : decode cX12_span 27 = .ok (.i2l, 1) := by decide +kernel
theorem dX12_span_28 : decode cX12_span 28 = .ok (.lconst 0, 1) := by decide +kernel
theorem dX12_span_29 : decode cX12_span 29 = .ok (.lconst 1, 1) := by decide +kernel
theorem dX12_span_30 : decode cX12_span 30 = .ok (.invokestatic 103, 3) := by decide +kernel
theorem dX12_span_33 : decode cX12_span 33 = .ok (.ifCond .ne 6, 3) := by decide +kernel
theorem dX12_span_36 : decode cX12_span 36 = .ok (.bipush (-3), 2) := by decide +kernel
theorem dX12_span_38 : decode cX12_span 38 = .ok (.ireturn, 1) := by decide +kernel
theorem dX12_span_39 : decode cX12_span 39 = .ok (.aload_n 0, 1) := by decide +kernel
theorem dX12_span_40 : decode cX12_span 40 = .ok (.iload_n 3, 1) := by decide +kernel
theorem dX12_span_41 : decode cX12_span 41 = .ok (.iconst (-1), 1) := by decide +kernel
theorem dX12_span_42 : decode cX12_span 42 = .ok (.invokevirtual 316, 3) := by decide +kernel
theorem dX12_span_45 : decode cX12_span 45 = .ok (.aload_n 0, 1) := by decide +kernel
theorem dX12_span_46 : decode cX12_span 46 = .ok (.invokevirtual 319, 3) := by decide +kernel
theorem dX12_span_49 : decode cX12_span 49 = .ok (.ifCond .ne 5, 3) := by decide +kernel
theorem dX12_span_52 : decode cX12_span 52 = .ok (.iconst (-1), 1) := by decide +kernel
theorem dX12_span_53 : decode cX12_span 53 = .ok (.ireturn, 1) := by decide +kernel
theorem dX12_span_54 : decode cX12_span 54 = .ok (.aload_n 0, 1) := by decide +kernel
theorem dX12_span_55 : decode cX12_span 55 = .ok (.iload_n 1, 1) := by decide +kernel
theorem dX12_span_56 : decode cX12_span 56 = .ok (.iload_n 2, 1) := by decide +kernel
theorem dX12_span_57 : decode cX12_span 57 = .ok (.iload 4, 2) := by decide +kernel
theorem dX12_span_59 : decode cX12_span 59 = .ok (.iconst 1, 1) := by decide +kernel
theorem dX12_span_60 : decode cX12_span 60 = .ok (.if_icmp .ne 7, 3) := by decide +kernel
theorem dX12_span_63 : decode cX12_span 63 = .ok (.iconst 1, 1) := by decide +kernel
theorem dX12_span_64 : decode cX12_span 64 = .ok (.goto 4, 3) := by decide +kernel
theorem dX12_span_67 : decode cX12_span 67 = .ok (.iconst 0, 1) := by decide +kernel
theorem dX12_span_68 : decode cX12_span 68 = .ok (.invokevirtual 323, 3) := by decide +kernel
theorem dX12_span_71 : decode cX12_span 71 = .ok (.aload_n 0, 1) := by decide +kernel
theorem dX12_span_72 : decode cX12_span 72 = .ok (.getfield 49, 3) := by decide +kernel
theorem dX12_span_75 : decode cX12_span 75 = .ok (.iload_n 1, 1) := by decide +kernel
theorem dX12_span_76 : decode cX12_span 76 = .ok (.iload_n 2, 1) := by decide +kernel
theorem dX12_span_77 : decode cX12_span 77 = .ok (.invokestatic 229, 3) := by decide +kernel
theorem dX12_span_80 : decode cX12_span 80 = .ok (.iaload, 1) := by decide +kernel
theorem dX12_span_81 : decode cX12_span 81 = .ok (.ireturn, 1) := by decide +kernel
theorem dX12_through_0 : decode cX12_through 0 = .ok (.aload_n 0, 1) := by decide +kernel
theorem dX12_through_1 : decode cX12_through 1 = .ok (.iconst 0, 1) := by decide +kernel
theorem dX12_through_2 : decode cX12_through 2 = .ok (.putfield 1, 3) := by decide +kernel
theorem dX12_through_5 : decode cX12_through 5 = .ok (.aload_n 0, 1) := by decide +kernel
theorem dX12_through_6 : decode cX12_through 6 = .ok (.iload_n 1, 1) := by decide +kernel
theorem dX12_through_7 : decode cX12_through 7 = .ok (.invokevirtual 198, 3) := by decide +kernel
theorem dX12_through_10 : decode cX12_through 10 = .ok (.ifCond .eq 21, 3) := by decide +kernel
theorem dX12_through_13 : decode cX12_through 13 = .ok (.aload_n 0, 1) := by decide +kernel
theorem dX12_through_14 : decode cX12_through 14 = .ok (.iload_n 2, 1) := by decide +kernel
theorem dX12_through_15 : decode cX12_through 15 = .ok (.invokevirtual 205, 3) := by decide +kernel
theorem dX12_through_18 : decode cX12_through 18 = .ok (.ifCond .eq 13, 3) := by decide +kernel
theorem dX12_through_21 : decode cX12_through 21 = .ok (.iload_n 3, 1) := by decide +kernel
theorem dX12_through_22 : decode cX12_through 22 = .ok (.i2l, 1) := by decide +kernel
theorem dX12_through_23 : decode cX12_through 23 = .ok (.lconst 0, 1) := by decide +kernel
theorem dX12_through_24 : decode cX12_through 24 = .ok (.lconst 1, 1) := by decide +kernel
theorem dX12_through_25 : decode cX12_through 25 = .ok (.invokestatic 103, 3) := by decide +kernel
theorem dX12_through_28 : decode cX12_through 28 = .ok (.ifCond .ne 6, 3) := by decide +kernel
theorem dX12_through_31 : decode cX12_through 31 = .ok (.bipush (-2), 2) := by decide +kernel
theorem dX12_through_33 : decode cX12_through 33 = .ok (.ireturn, 1) := by decide +kernel
theorem dX12_through_34 : decode cX12_through 34 = .ok (.iload_n 3, 1) := by decide +kernel
theorem dX12_through_35 : decode cX12_through 35 = .ok (.iconst 1, 1) := by decide +kernel
theorem dX12_through_36 : decode cX12_through 36 = .ok (.if_icmp .ne 24, 3) := by decide +kernel
theorem dX12_through_39 : decode cX12_through 39 = .ok (.aload_n 0, 1) := by decide +kernel
theorem dX12_through_40 : decode cX12_through 40 = .ok (.iload_n 2, 1) := by decide +kernel
theorem dX12_through_41 : decode cX12_through 41 = .ok (.invokevirtual 330, 3) := by decide +kernel
theorem dX12_through_44 : decode cX12_through 44 = .ok (.ifCond .eq 14, 3) := by decide +kernel
theorem dX12_through_47 : decode cX12_through 47 = .ok (.aload_n 0, 1) := by decide +kernel
theorem dX12_through_48 : decode cX12_through 48 = .ok (.getfield 49, 3) := by decide +kernel
theorem dX12_through_51 : decode cX12_through 51 = .ok (.iload_n 1, 1) := by decide +kernel
theorem dX12_through_52 : decode cX12_through 52 = .ok (.invokestatic 288, 3) := by decide +kernel
theorem dX12_through_55 : decode cX12_through 55 = .ok (.goto 4, 3) := by decide +kernel
theorem dX12_through_58 : decode cX12_through 58 = .ok (.iconst (-1), 1) := by decide +kernel
theorem dX12_through_59 : decode cX12_through 59 = .ok (.ireturn, 1) := by decide +kernel
theorem dX12_through_60 : decode cX12_through 60 = .ok (.aload_n 0, 1) := by decide +kernel
theorem dX12_through_61 : decode cX12_through 61 = .ok (.iload_n 2, 1) := by decide +kernel
theorem dX12_through_62 : decode cX12_through 62 = .ok (.iconst (-1), 1) := by decide +kernel
theorem dX12_through_63 : decode cX12_through 63 = .ok (.invokevirtual 234, 3) := by decide +kernel
theorem dX12_through_66 : decode cX12_through 66 = .ok (.aload_n 0, 1) := by decide +kernel
theorem dX12_through_67 : decode cX12_through 67 = .ok (.getfield 37, 3) := by decide +kernel
theorem dX12_through_70 : decode cX12_through 70 = .ok (.iload_n 1, 1) := by decide +kernel
theorem dX12_through_71 : decode cX12_through 71 = .ok (.invokestatic 288, 3) := by decide +kernel
theorem dX12_through_74 : decode cX12_through 74 = .ok (.ireturn, 1) := by decide +kernel
theorem dX12_without_0 : decode cX12_without 0 = .ok (.aload_n 0, 1) := by decide +kernel
theorem dX12_without_1 : decode cX12_without 1 = .ok (.iconst 0, 1) := by decide +kernel
theorem dX12_without_2 : decode cX12_without 2 = .ok (.putfield 1, 3) := by decide +kernel
theorem dX12_without_5 : decode cX12_without 5 = .ok (.aload_n 0, 1) := by decide +kernel
theorem dX12_without_6 : decode cX12_without 6 = .ok (.iload_n 1, 1) := by decide +kernel
theorem dX12_without_7 : decode cX12_without 7 = .ok (.invokevirtual 198, 3) := by decide +kernel
theorem dX12_without_10 : decode cX12_without 10 = .ok (.ifCond .eq 11, 3) := by decide +kernel
theorem dX12_without_13 : decode cX12_without 13 = .ok (.aload_n 0, 1) := by decide +kernel
theorem dX12_without_14 : decode cX12_without 14 = .ok (.iload_n 2, 1) := by decide +kernel
theorem dX12_without_15 : decode cX12_without 15 = .ok (.invokevirtual 205, 3) := by decide +kernel
theorem dX12_without_18 : decode cX12_without 18 = .ok (.ifCond .ne 6, 3) := by decide +kernel
theorem dX12_without_21 : decode cX12_without 21 = .ok (.bipush (-2), 2) := by decide +kernel
theorem dX12_without_23 : decode cX12_without 23 = .ok (.ireturn, 1) := by decide +kernel
theorem dX12_without_24 : decode cX12_without 24 = .ok (.aload_n 0, 1) := by decide +kernel
theorem dX12_without_25 : decode cX12_without 25 = .ok (.iload_n 2, 1) := by decide +kernel
theorem dX12_without_26 : decode cX12_without 26 = .ok (.iload_n 1, 1) := by decide +kernel
theorem dX12_without_27 : decode cX12_without 27 = .ok (.invokevirtual 316, 3) := by decide +kernel
theorem dX12_without_30 : decode cX12_without 30 = .ok (.aload_n 0, 1) := by decide +kernel
theorem dX12_without_31 : decode cX12_without 31 = .ok (.invokevirtual 319, 3) := by decide +kernel
theorem dX12_without_34 : decode cX12_without 34 = .ok (.ifCond .ne 5, 3) := by decide +kernel
theorem dX12_without_37 : decode cX12_without 37 = .ok (.iconst (-1), 1) := by decide +kernel
theorem dX12_without_38 : decode cX12_without 38 = .ok (.ireturn, 1) := by decide +kernel
theorem dX12_without_39 : decode cX12_without 39 = .ok (.aload_n 0, 1) := by decide +kernel
theorem dX12_without_40 : decode cX12_without 40 = .ok (.invokevirtual 327, 3) := by decide +kernel
theorem dX12_without_43 : decode cX12_without 43 = .ok (.istore_n 3, 1) := by decide +kernel
theorem dX12_without_44 : decode cX12_without 44 = .ok (.iconst 0, 1) := by decide +kernel
theorem dX12_without_45 : decode cX12_without 45 = .ok (.istore 4, 2) := by decide +kernel
theorem dX12_without_47 : decode cX12_without 47 = .ok (.iload 4, 2) := by decide +kernel
theorem dX12_without_49 : decode cX12_without 49 = .ok (.aload_n 0, 1) := by decide +kernel
theorem dX12_without_50 : decode cX12_without 50 = .ok (.getfield 13, 3) := by decide +kernel
theorem dX12_without_53 : decode cX12_without 53 = .ok (.iconst 0, 1) := by decide +kernel
theorem dX12_without_54 : decode cX12_without 54 = .ok (.iaload, 1) := by decide +kernel
theorem dX12_without_55 : decode cX12_without 55 = .ok (.if_icmp .ge 43, 3) := by decide +kernel
theorem dX12_without_58 : decode cX12_without 58 = .ok (.iload_n 3, 1) := by decide +kernel
theorem dX12_without_59 : decode cX12_without 59 = .ok (.aload_n 0, 1) := by decide +kernel
theorem dX12_without_60 : decode cX12_without 60 = .ok (.iload 4, 2) := by decide +kernel
theorem dX12_without_62 : decode cX12_without 62 = .ok (.iload_n 2, 1) := by decide +kernel
theorem dX12_without_63 : decode cX12_without 63 = .ok (.invokevirtual 223, 3) := by decide +kernel
theorem dX12_without_66 : decode cX12_without 66 = .ok (.ifCond .eq 23, 3) := by decide +kernel
theorem dX12_without_69 : decode cX12_without 69 = .ok (.aload_n 0, 1) := by decide +kernel
theorem dX12_without_70 : decode cX12_without 70 = .ok (.iload 4, 2) := by decide +kernel
theorem dX12_without_72 : decode cX12_without 72 = .ok (.iload_n 1, 1) := by decide +kernel
theorem dX12_without_73 : decode cX12_without 73 = .ok (.invokevirtual 226, 3) := by decide +kernel
theorem dX12_without_76 : decode cX12_without 76 = .ok (.ifCond .eq 13, 3) := by decide +kernel
theorem dX12_without_79 : decode cX12_without 79 = .ok (.aload_n 0, 1) := by decide +kernel
theorem dX12_without_80 : decode cX12_without 80 = .ok (.iload 4, 2) := by decide +kernel
theorem dX12_without_82 : decode cX12_without 82 = .ok (.iconst 2, 1) := by decide +kernel
theorem dX12_without_83 : decode cX12_without 83 = .ok (.invokevirtual 174, 3) := by decide +kernel
theorem dX12_without_86 : decode cX12_without 86 = .ok (.goto 4, 3) := by decide +kernel
theorem dX12_without_89 : decode cX12_without 89 = .ok (.iconst 0, 1) := by decide +kernel
theorem dX12_without_90 : decode cX12_without 90 = .ok (.iadd, 1) := by decide +kernel
theorem dX12_without_91 : decode cX12_without 91 = .ok (.istore_n 3, 1) := by decide +kernel
theorem dX12_without_92 : decode cX12_without 92 = .ok (.iinc 4 1, 3) := by decide +kernel
theorem dX12_without_95 : decode cX12_without 95 = .ok (.goto (-48), 3) := by decide +kernel
theorem dX12_without_98 : decode cX12_without 98 = .ok (.iload_n 3, 1) := by decide +kernel
theorem dX12_without_99 : decode cX12_without 99 = .ok (.ireturn, 1) := by decide +kernel
set_option maxHeartbeats 4000000 in
set_option maxRecDepth 100000 in
theorem m_least (l : Launch) (dC : Nat → ClassId) (dI : Nat → Nat → Nat) (cy : Nat → ClassId) (L : List Nat) (kap : Nat → Nat) (pr : Pr) (S : Nat → va_E) (sz : Nat) (o : Nat) (kd : Int32) (hTy : Ty cy L kap pr S) (hT_o : TK L kap o 12) : Met l yX12_least (wT yX12_least cX12_least 2 (some .int)) ({ frames := 4, cells := 0, slots := 0, locals := 95 }) (pcN dC dI [.ref o, .int kd] sz (va_pl L S) (cyT cy) NLs []) (va_Qi (fun r S' => Ty cy L kap pr S' ∧ Fr kap [12, 56, 59, 60, 61, 62, 63, 64, 65, 66] S S') (fun S' t => pB dC dI (AL L sz) (va_pl L S') (cyT cy) t) (AL L sz)) 0 0 (AL L sz) := by
  refine Met.ofW (cc := cX12_least) (maxL := 2) (ret := (some .int)) (by decide) rfl ?_
  intro p e s m args below meth c s₁ B hml hv
  obtain ⟨rfl, hsz, hP, hK, hD0, hN, -⟩ := hv
  have hx := B.exec
  have hb := B.bytes
  have hr := B.returns
  have hT : ∀ wd ∈ TB, wd.before [.ref o, .int kd].toArray s = true := fun wd h => atoms_spec (ws := wT yX12_least cX12_least 2 (some .int)) B.pre wd (List.mem_cons_of_mem _ h)
  have hown : s.vm.findClass RX12 = some m.cls := findClass_of_methodNamed B.named
  have hlocks := B.notSynchronized
  subst hsz
  have hW : PW dC dI L (AL L s.heap.size) s.heap S s.heap [] := ⟨hP, pl_self hD0, va_S.rf⟩
  have hA0 : ∀ q, q ∈ L → AL L s.heap.size q := fun _ h => Or.inl h
  have hA : ∀ q, s.heap.size ≤ q → AL L s.heap.size q := fun _ h => Or.inr h
  have hFr : Fr kap [12, 56, 59, 60, 61, 62, 63, 64, 65, 66] S S := Fr.rf
  have hl := lv_entry ([.ref o, .int kd]) (n := 2) (Nat.le_of_ble_eq_true rfl)
  rw [lg_entry_eq]
  generalize (lg_sl ([.ref o, .int kd]) ++ List.replicate (2 - (lg_sl ([.ref o, .int kd])).length) Slot.unset).toArray = ls at hl ⊢
  have hl : lv_has ls 2 [(0, .ref o), (1, .int kd)] := hl
  refine lv_aload_n hx hb dX12_least_0 rfl (lv_at hl 0 rfl) ?_
  refine lv_iconst (v := 0) hx hb dX12_least_1 (by decide) ?_
  obtain ⟨x_1, x_2, x_3, x_4, x_5, x_6, x_7, x_8, x_9, x_10, x_11, x_12, x_13, x_14, x_15, x_16, x_17, x_18, x_19, x_20, x_21, x_22, x_23, x_24, x_25, x_26, x_27, x_28, x_29, x_30, x_31, hS_o, hT_x_1, hT_x_2, hT_x_3, hT_x_4, hT_x_5, hb_x_6, hb_x_7, hb_x_8, hT_x_10, hb_q2, hb_x_11, hb_x_12, hT_x_17, hT_x_18, hb_x_19, hT_x_20, hT_x_21, hT_x_22, hT_x_23, hT_x_24, hT_x_25, hT_x_26, hT_x_27, hT_x_28, hT_x_29, hT_x_30, hb_x_31⟩ := hTy.k12 hT_o
  have hb_q2 : pr.2 ≤ 900 := hb_q2
  have hS_o : S o = .inr (12, [.ref x_1, .ref x_2, .ref x_3, .ref x_4, .ref x_5, .int (nI x_6), .int (nI x_7), .int (nI x_8), .int x_9, .ref x_10, .int (nI (pr.2)), .int (nI x_11), .int (nI x_12), .int x_13, .int x_14, .int x_15, .int x_16, .ref x_17, .ref x_18, .int (nI x_19), .ref x_20, .ref x_21, .ref x_22, .ref x_23, .ref x_24, .ref x_25, .ref x_26, .ref x_27, .ref x_28, .ref x_29, .ref x_30, .int (nI x_31)]) := hS_o
  refine pl_put (ci := 12) (v := .int 0) (ty := .int) (C := RX12) (T := TX12) (N := 32) (fs' := [.ref x_1, .ref x_2, .ref x_3, .ref x_4, .ref x_5, .int (nI x_6), .int (nI x_7), .int (nI x_8), .int 0, .ref x_10, .int (nI (pr.2)), .int (nI x_11), .int (nI x_12), .int x_13, .int x_14, .int x_15, .int x_16, .ref x_17, .ref x_18, .int (nI x_19), .ref x_20, .ref x_21, .ref x_22, .ref x_23, .ref x_24, .ref x_25, .ref x_26, .ref x_27, .ref x_28, .ref x_29, .ref x_30, .int (nI x_31)]) hx hb hT iX12 tyX12 tyX12_ok nmX12 hown hK hW hT_o.1 hS_o rfl 8 (by decide) w1090 rfl (by decide +kernel) rfl rfl (Nat.le_of_ble_eq_true rfl) rfl dX12_least_2 (fun H locs S_32 e1 hW => ?_)
  have hTy := hTy.u12 e1 hT_o ⟨x_1, x_2, x_3, x_4, x_5, x_6, x_7, x_8, 0, x_10, x_11, x_12, x_13, x_14, x_15, x_16, x_17, x_18, x_19, x_20, x_21, x_22, x_23, x_24, x_25, x_26, x_27, x_28, x_29, x_30, x_31, rfl, hT_x_1, hT_x_2, hT_x_3, hT_x_4, hT_x_5, (by omega), (by omega), (by omega), hT_x_10, (by show pr.2 ≤ 900; omega), (by omega), (by omega), hT_x_17, hT_x_18, (by omega), hT_x_20, hT_x_21, hT_x_22, hT_x_23, hT_x_24, hT_x_25, hT_x_26, hT_x_27, hT_x_28, hT_x_29, hT_x_30, (by omega)⟩
  have hws := (show wrs (.inr (12, [.ref x_1, .ref x_2, .ref x_3, .ref x_4, .ref x_5, .int (nI x_6), .int (nI x_7), .int (nI x_8), .int 0, .ref x_10, .int (nI (pr.2)), .int (nI x_11), .int (nI x_12), .int x_13, .int x_14, .int x_15, .int x_16, .ref x_17, .ref x_18, .int (nI x_19), .ref x_20, .ref x_21, .ref x_22, .ref x_23, .ref x_24, .ref x_25, .ref x_26, .ref x_27, .ref x_28, .ref x_29, .ref x_30, .int (nI x_31)])) = wrs (S o) from by rw [hS_o]; rfl)
  have hFr := ufs hFr e1 hT_o (by decide) hws
  have hS_o := us e1
  refine lv_aload_n hx hb dX12_least_5 rfl (lv_at hl 0 rfl) ?_
  refine lv_iload_n hx hb dX12_least_6 rfl (lv_at hl 1 rfl) ?_
  refine vp_callSi (va_Run.run (va_runV (As := [.int kd]) (rest := []) ⟨hx, hb, hml, hown, hT⟩ (m_isKind l dC dI cy L kap pr S_32 H.size o kd hTy hT_o) (cwV 1 hT (gV w1288 w1290 ws74 w14 w1291) rfl rfl rfl (by decide +kernel) ⟨(Nat.le_of_ble_eq_true rfl), (Nat.le_of_ble_eq_true rfl)⟩) ⟨pcN.blind, pl_recv hK hW hT_o.1 hS_o rfl, pcN.pre hW.1 hK hW.2.1 hN (fun q h => absurd h List.not_mem_nil)⟩ rfl rfl hl.1 rfl (lv_room (Nat.le_of_ble_eq_true rfl)) dX12_least_7 ⟨(Nat.le_of_ble_eq_true rfl), (Nat.le_of_ble_eq_true rfl)⟩)) (fun r_33 hr_33 => ?_)
  rcases hr_33 with hc_ | hc_
  · obtain rfl : r_33 = 0 := hc_
    refine lv_if_ne (tgt := 16) hx hb dX12_least_10 (by decide) (fun h => absurd (by decide) h) (fun _ => ?_)
    refine lv_bipush (v := (-2)) hx hb dX12_least_13 (by decide) ?_
    exact W.iret (v := (-2)) hx hb hr (fun t ht h9 => ⟨⟨(-2), S_32, rfl, ⟨hTy, hFr⟩, by rw [ht]; exact hW.1, va_K.moved h9.alike hK, hW.2.1⟩, hW.2.2.F ht⟩) hW.2.2.2.2 dX12_least_15
  · obtain ⟨rfl, k_34, hb_k_34, rfl⟩ := hc_
    refine lv_if_ne (tgt := 16) hx hb dX12_least_10 (by decide) (fun _ => ?_) (fun h => absurd h (by decide))
    refine lv_aload_n hx hb dX12_least_16 rfl (lv_at hl 0 rfl) ?_
    refine lv_iload_n hx hb dX12_least_17 rfl (lv_at hl 1 rfl) ?_
    refine lv_iconst (v := (-1)) hx hb dX12_least_18 (by decide) ?_
    refine pl_callv (va_runV (As := [.int (nI k_34), .int (-1)]) (rest := []) ⟨hx, hb, hml, hown, hT⟩ (m_laysBounds l dC dI cy L kap pr S_32 H.size o (nI k_34) (-1) hTy hT_o) (cwV 2 hT (gV w1447 w1449 ws93 w14 w1450) rfl rfl rfl (by decide +kernel) ⟨(Nat.le_of_ble_eq_true rfl), (Nat.le_of_ble_eq_true rfl)⟩) ⟨pcN.blind, pl_recv hK hW hT_o.1 hS_o rfl, pcN.pre hW.1 hK hW.2.1 hN (fun q h => absurd h List.not_mem_nil)⟩ rfl rfl hl.1 rfl (lv_room (Nat.le_of_ble_eq_true rfl)) dX12_least_19 ⟨(Nat.le_of_ble_eq_true rfl), (Nat.le_of_ble_eq_true rfl)⟩) hW hA0 hA (fun S_35 H locs hrel hW => ?_)
    obtain ⟨hTy, hF1⟩ := hrel
    have hFr := hFr.tr hF1 (by decide)
    have hS_o := hF1.at hT_o (by decide) hS_o
    refine lv_aload_n hx hb dX12_least_22 rfl (lv_at hl 0 rfl) ?_
    refine pl_calli (va_runV (As := []) (rest := []) ⟨hx, hb, hml, hown, hT⟩ (m_presses l dC dI cy L kap pr S_35 H.size o hTy hT_o) (cwV 0 hT (gV w1455 w1457 ws94 w14 w1458) rfl rfl rfl (by decide +kernel) ⟨(Nat.le_of_ble_eq_true rfl), (Nat.le_of_ble_eq_true rfl)⟩) ⟨pcN.blind, pl_recv hK hW hT_o.1 hS_o rfl, pcN.pre hW.1 hK hW.2.1 hN (fun q h => absurd h List.not_mem_nil)⟩ rfl rfl hl.1 rfl (lv_room (Nat.le_of_ble_eq_true rfl)) dX12_least_23 ⟨(Nat.le_of_ble_eq_true rfl), (Nat.le_of_ble_eq_true rfl)⟩) hW hA0 hA (fun r_37 S_36 H locs hrel hW => ?_)
    obtain ⟨hTy, hF1, hx1⟩ := hrel
    have hFr := hFr.tr hF1 (by decide)
    have hS_o := hF1.at hT_o (by decide) hS_o
    obtain ⟨hpk9, hdz9⟩ := hx1
    refine lv_if_eq (tgt := 36) hx hb dX12_least_26 (by decide) (fun c_26 => ?_) (fun c_26 => ?_)
    · refine lv_iconst (v := (-1)) hx hb dX12_least_36 (by decide) ?_
      exact W.iret (v := (-1)) hx hb hr (fun t ht h9 => ⟨⟨(-1), S_36, rfl, ⟨hTy, hFr⟩, by rw [ht]; exact hW.1, va_K.moved h9.alike hK, hW.2.1⟩, hW.2.2.F ht⟩) hW.2.2.2.2 dX12_least_37
    · refine lv_aload_n hx hb dX12_least_29 rfl (lv_at hl 0 rfl) ?_
      refine vp_callSi (va_Run.run (va_runV (As := []) (rest := []) ⟨hx, hb, hml, hown, hT⟩ (m_sumOf l dC dI cy L kap pr S_36 H.size o hTy hT_o) (cwV 0 hT (gV w1483 w1485 ws100 w14 w1486) rfl rfl rfl (by decide +kernel) ⟨(Nat.le_of_ble_eq_true rfl), (Nat.le_of_ble_eq_true rfl)⟩) ⟨pcN.blind, pl_recv hK hW hT_o.1 hS_o rfl, pcN.pre hW.1 hK hW.2.1 hN (fun q h => absurd h List.not_mem_nil)⟩ rfl rfl hl.1 rfl (lv_room (Nat.le_of_ble_eq_true rfl)) dX12_least_30 ⟨(Nat.le_of_ble_eq_true rfl), (Nat.le_of_ble_eq_true rfl)⟩)) (fun r_38 hr_38 => ?_)
      refine lv_goto (tgt := 37) hx hb dX12_least_33 (by decide) ?_
      exact W.iret (v := r_38) hx hb hr (fun t ht h9 => ⟨⟨r_38, S_36, rfl, ⟨hTy, hFr⟩, by rw [ht]; exact hW.1, va_K.moved h9.alike hK, hW.2.1⟩, hW.2.2.F ht⟩) hW.2.2.2.2 dX12_least_37

set_option maxHeartbeats 4000000 in
set_option maxRecDepth 100000 in
theorem m_pressed (l : Launch) (dC : Nat → ClassId) (dI : Nat → Nat → Nat) (cy : Nat → ClassId) (L : List Nat) (kap : Nat → Nat) (pr : Pr) (S : Nat → va_E) (sz : Nat) (o : Nat) (fa : Int32) (fb : Int32) (kd : Int32) (hTy : Ty cy L kap pr S) (hT_o : TK L kap o 12) : Met l yX12_pressed (wT yX12_pressed cX12_pressed 4 (some .int)) ({ frames := 6, cells := 0, slots := 0, locals := 145 }) (pcN dC dI [.ref o, .int fa, .int fb, .int kd] sz (va_pl L S) (cyT cy) NLs []) (va_Qi (fun r S' => Ty cy L kap pr S' ∧ Fr kap [12, 56, 59, 60, 61, 62, 63, 64, 65, 66] S S') (fun S' t => pB dC dI (AL L sz) (va_pl L S') (cyT cy) t) (AL L sz)) 0 0 (AL L sz) := by
  refine Met.ofW (cc := cX12_pressed) (maxL := 4) (ret := (some .int)) (by decide) rfl ?_
  intro p e s m args below meth c s₁ B hml hv
  obtain ⟨rfl, hsz, hP, hK, hD0, hN, -⟩ := hv
  have hx := B.exec
  have hb := B.bytes
  have hr := B.returns
  have hT : ∀ wd ∈ TB, wd.before [.ref o, .int fa, .int fb, .int kd].toArray s = true := fun wd h => atoms_spec (ws := wT yX12_pressed cX12_pressed 4 (some .int)) B.pre wd (List.mem_cons_of_mem _ h)
  have hown : s.vm.findClass RX12 = some m.cls := findClass_of_methodNamed B.named
  have hlocks := B.notSynchronized
  subst hsz
  have hW : PW dC dI L (AL L s.heap.size) s.heap S s.heap [] := ⟨hP, pl_self hD0, va_S.rf⟩
  have hA0 : ∀ q, q ∈ L → AL L s.heap.size q := fun _ h => Or.inl h
  have hA : ∀ q, s.heap.size ≤ q → AL L s.heap.size q := fun _ h => Or.inr h
  have hFr : Fr kap [12, 56, 59, 60, 61, 62, 63, 64, 65, 66] S S := Fr.rf
  have hl := lv_entry ([.ref o, .int fa, .int fb, .int kd]) (n := 4) (Nat.le_of_ble_eq_true rfl)
  rw [lg_entry_eq]
  generalize (lg_sl ([.ref o, .int fa, .int fb, .int kd]) ++ List.replicate (4 - (lg_sl ([.ref o, .int fa, .int fb, .int kd])).length) Slot.unset).toArray = ls at hl ⊢
  have hl : lv_has ls 4 [(0, .ref o), (1, .int fa), (2, .int fb), (3, .int kd)] := hl
  refine lv_aload_n hx hb dX12_pressed_0 rfl (lv_at hl 0 rfl) ?_
  refine lv_iconst (v := 0) hx hb dX12_pressed_1 (by decide) ?_
  obtain ⟨x_1, x_2, x_3, x_4, x_5, x_6, x_7, x_8, x_9, x_10, x_11, x_12, x_13, x_14, x_15, x_16, x_17, x_18, x_19, x_20, x_21, x_22, x_23, x_24, x_25, x_26, x_27, x_28, x_29, x_30, x_31, hS_o, hT_x_1, hT_x_2, hT_x_3, hT_x_4, hT_x_5, hb_x_6, hb_x_7, hb_x_8, hT_x_10, hb_q2, hb_x_11, hb_x_12, hT_x_17, hT_x_18, hb_x_19, hT_x_20, hT_x_21, hT_x_22, hT_x_23, hT_x_24, hT_x_25, hT_x_26, hT_x_27, hT_x_28, hT_x_29, hT_x_30, hb_x_31⟩ := hTy.k12 hT_o
  have hb_q2 : pr.2 ≤ 900 := hb_q2
  have hS_o : S o = .inr (12, [.ref x_1, .ref x_2, .ref x_3, .ref x_4, .ref x_5, .int (nI x_6), .int (nI x_7), .int (nI x_8), .int x_9, .ref x_10, .int (nI (pr.2)), .int (nI x_11), .int (nI x_12), .int x_13, .int x_14, .int x_15, .int x_16, .ref x_17, .ref x_18, .int (nI x_19), .ref x_20, .ref x_21, .ref x_22, .ref x_23, .ref x_24, .ref x_25, .ref x_26, .ref x_27, .ref x_28, .ref x_29, .ref x_30, .int (nI x_31)]) := hS_o
  refine pl_put (ci := 12) (v := .int 0) (ty := .int) (C := RX12) (T := TX12) (N := 32) (fs' := [.ref x_1, .ref x_2, .ref x_3, .ref x_4, .ref x_5, .int (nI x_6), .int (nI x_7), .int (nI x_8), .int 0, .ref x_10, .int (nI (pr.2)), .int (nI x_11), .int (nI x_12), .int x_13, .int x_14, .int x_15, .int x_16, .ref x_17, .ref x_18, .int (nI x_19), .ref x_20, .ref x_21, .ref x_22, .ref x_23, .ref x_24, .ref x_25, .ref x_26, .ref x_27, .ref x_28, .ref x_29, .ref x_30, .int (nI x_31)]) hx hb hT iX12 tyX12 tyX12_ok nmX12 hown hK hW hT_o.1 hS_o rfl 8 (by decide) w1090 rfl (by decide +kernel) rfl rfl (Nat.le_of_ble_eq_true rfl) rfl dX12_pressed_2 (fun H locs S_32 e1 hW => ?_)
  have hTy := hTy.u12 e1 hT_o ⟨x_1, x_2, x_3, x_4, x_5, x_6, x_7, x_8, 0, x_10, x_11, x_12, x_13, x_14, x_15, x_16, x_17, x_18, x_19, x_20, x_21, x_22, x_23, x_24, x_25, x_26, x_27, x_28, x_29, x_30, x_31, rfl, hT_x_1, hT_x_2, hT_x_3, hT_x_4, hT_x_5, (by omega), (by omega), (by omega), hT_x_10, (by show pr.2 ≤ 900; omega), (by omega), (by omega), hT_x_17, hT_x_18, (by omega), hT_x_20, hT_x_21, hT_x_22, hT_x_23, hT_x_24, hT_x_25, hT_x_26, hT_x_27, hT_x_28, hT_x_29, hT_x_30, (by omega)⟩
  have hws := (show wrs (.inr (12, [.ref x_1, .ref x_2, .ref x_3, .ref x_4, .ref x_5, .int (nI x_6), .int (nI x_7), .int (nI x_8), .int 0, .ref x_10, .int (nI (pr.2)), .int (nI x_11), .int (nI x_12), .int x_13, .int x_14, .int x_15, .int x_16, .ref x_17, .ref x_18, .int (nI x_19), .ref x_20, .ref x_21, .ref x_22, .ref x_23, .ref x_24, .ref x_25, .ref x_26, .ref x_27, .ref x_28, .ref x_29, .ref x_30, .int (nI x_31)])) = wrs (S o) from by rw [hS_o]; rfl)
  have hFr := ufs hFr e1 hT_o (by decide) hws
  have hS_o := us e1
  refine lv_aload_n hx hb dX12_pressed_5 rfl (lv_at hl 0 rfl) ?_
  refine lv_iload_n hx hb dX12_pressed_6 rfl (lv_at hl 1 rfl) ?_
  refine lv_iload_n hx hb dX12_pressed_7 rfl (lv_at hl 2 rfl) ?_
  refine vp_callSi (va_Run.run (va_runV (As := [.int fa, .int fb]) (rest := []) ⟨hx, hb, hml, hown, hT⟩ (m_areTwo l dC dI cy L kap pr S_32 H.size o fa fb hTy hT_o) (cwV 2 hT (gV w1280 w1282 ws72 w14 w1283) rfl rfl rfl (by decide +kernel) ⟨(Nat.le_of_ble_eq_true rfl), (Nat.le_of_ble_eq_true rfl)⟩) ⟨pcN.blind, pl_recv hK hW hT_o.1 hS_o rfl, pcN.pre hW.1 hK hW.2.1 hN (fun q h => absurd h List.not_mem_nil)⟩ rfl rfl hl.1 rfl (lv_room (Nat.le_of_ble_eq_true rfl)) dX12_pressed_8 ⟨(Nat.le_of_ble_eq_true rfl), (Nat.le_of_ble_eq_true rfl)⟩)) (fun r_33 hr_33 => ?_)
  rcases hr_33 with hc_ | hc_
  · obtain rfl : r_33 = 0 := hc_
    refine lv_if_eq (tgt := 22) hx hb dX12_pressed_11 (by decide) (fun _ => ?_) (fun h => absurd (by decide) h)
    refine lv_bipush (v := (-2)) hx hb dX12_pressed_22 (by decide) ?_
    exact W.iret (v := (-2)) hx hb hr (fun t ht h9 => ⟨⟨(-2), S_32, rfl, ⟨hTy, hFr⟩, by rw [ht]; exact hW.1, va_K.moved h9.alike hK, hW.2.1⟩, hW.2.2.F ht⟩) hW.2.2.2.2 dX12_pressed_24
  · obtain ⟨rfl, k_34, k_35, hb_k_34, hb_k_35, rfl, rfl, hab2⟩ := hc_
    refine lv_if_eq (tgt := 22) hx hb dX12_pressed_11 (by decide) (fun h => absurd h (by decide)) (fun _ => ?_)
    refine lv_aload_n hx hb dX12_pressed_14 rfl (lv_at hl 0 rfl) ?_
    refine lv_iload_n hx hb dX12_pressed_15 rfl (lv_at hl 3 rfl) ?_
    refine vp_callSi (va_Run.run (va_runV (As := [.int kd]) (rest := []) ⟨hx, hb, hml, hown, hT⟩ (m_isKind l dC dI cy L kap pr S_32 H.size o kd hTy hT_o) (cwV 1 hT (gV w1288 w1290 ws74 w14 w1291) rfl rfl rfl (by decide +kernel) ⟨(Nat.le_of_ble_eq_true rfl), (Nat.le_of_ble_eq_true rfl)⟩) ⟨pcN.blind, pl_recv hK hW hT_o.1 hS_o rfl, pcN.pre hW.1 hK hW.2.1 hN (fun q h => absurd h List.not_mem_nil)⟩ rfl rfl hl.1 rfl (lv_room (Nat.le_of_ble_eq_true rfl)) dX12_pressed_16 ⟨(Nat.le_of_ble_eq_true rfl), (Nat.le_of_ble_eq_true rfl)⟩)) (fun r_36 hr_36 => ?_)
    rcases hr_36 with hc_ | hc_
    · obtain rfl : r_36 = 0 := hc_
      refine lv_if_ne (tgt := 25) hx hb dX12_pressed_19 (by decide) (fun h => absurd (by decide) h) (fun _ => ?_)
      refine lv_bipush (v := (-2)) hx hb dX12_pressed_22 (by decide) ?_
      exact W.iret (v := (-2)) hx hb hr (fun t ht h9 => ⟨⟨(-2), S_32, rfl, ⟨hTy, hFr⟩, by rw [ht]; exact hW.1, va_K.moved h9.alike hK, hW.2.1⟩, hW.2.2.F ht⟩) hW.2.2.2.2 dX12_pressed_24
    · obtain ⟨rfl, k_37, hb_k_37, rfl⟩ := hc_
      refine lv_if_ne (tgt := 25) hx hb dX12_pressed_19 (by decide) (fun _ => ?_) (fun h => absurd h (by decide))
      refine lv_aload_n hx hb dX12_pressed_25 rfl (lv_at hl 0 rfl) ?_
      refine lv_iload_n hx hb dX12_pressed_26 rfl (lv_at hl 3 rfl) ?_
      refine pl_calli (va_runV (As := [.int (nI k_37)]) (rest := []) ⟨hx, hb, hml, hown, hT⟩ (m_pressesFirst l dC dI cy L kap pr S_32 H.size o (nI k_37) hTy hT_o) (cwV 1 hT (gV w1491 w1493 ws101 w14 w1494) rfl rfl rfl (by decide +kernel) ⟨(Nat.le_of_ble_eq_true rfl), (Nat.le_of_ble_eq_true rfl)⟩) ⟨pcN.blind, pl_recv hK hW hT_o.1 hS_o rfl, pcN.pre hW.1 hK hW.2.1 hN (fun q h => absurd h List.not_mem_nil)⟩ rfl rfl hl.1 rfl (lv_room (Nat.le_of_ble_eq_true rfl)) dX12_pressed_27 ⟨(Nat.le_of_ble_eq_true rfl), (Nat.le_of_ble_eq_true rfl)⟩) hW hA0 hA (fun r_39 S_38 H locs hrel hW => ?_)
      obtain ⟨hTy, hF1, hx1⟩ := hrel
      have hFr := hFr.tr hF1 (by decide)
      have hS_o := hF1.at hT_o (by decide) hS_o
      have hdz9 := hx1
      refine lv_if_eq (tgt := 46) hx hb dX12_pressed_30 (by decide) (fun c_30 => ?_) (fun c_30 => ?_)
      · refine lv_iconst (v := (-1)) hx hb dX12_pressed_46 (by decide) ?_
        exact W.iret (v := (-1)) hx hb hr (fun t ht h9 => ⟨⟨(-1), S_38, rfl, ⟨hTy, hFr⟩, by rw [ht]; exact hW.1, va_K.moved h9.alike hK, hW.2.1⟩, hW.2.2.F ht⟩) hW.2.2.2.2 dX12_pressed_47
      · refine lv_aload_n hx hb dX12_pressed_33 rfl (lv_at hl 0 rfl) ?_
        refine pl_get (ci := 12) (v := .ref x_22) (C := RX12) (T := TX12) (N := 32) hx hb hT iX12 hown hK hW hT_o.1 hS_o rfl 22 (by decide) w1104 rfl dX12_pressed_34 ?_
        refine lv_iload_n hx hb dX12_pressed_37 rfl (lv_at hl 1 rfl) ?_
        refine lv_iload_n hx hb dX12_pressed_38 rfl (lv_at hl 2 rfl) ?_
        refine vp_callSi (va_Run.run (va_runS (As := [.int (nI k_34), .int (nI k_35)]) (rest := [.ref x_22]) ⟨hx, hb, hml, hown, hT⟩ (m_couple l dC dI H.size k_34 k_35 (by omega) (by omega)) (va_cwS 2 hT (gS w1348 w1349 w14 w1350) rfl rfl rfl (by decide +kernel) ⟨(Nat.le_of_ble_eq_true rfl), (Nat.le_of_ble_eq_true rfl)⟩) ⟨pcW.blind, pcW.pre (va_P0 _ _ _) (hK.sub (tys' := []) [] rfl) (va_D0 (fun _ => True))⟩ rfl rfl hl.1 rfl (lv_room (Nat.le_of_ble_eq_true rfl)) dX12_pressed_39 ⟨(Nat.le_of_ble_eq_true rfl), (Nat.le_of_ble_eq_true rfl)⟩)) (fun r_40 hr_40 => ?_)
        obtain rfl : r_40 = nI (8 * k_34 + k_35) := hr_40
        obtain ⟨f_41, hS_x_22⟩ := hTy.k60 hT_x_22
        refine pl_iald hx hb hK hW hT_x_22.1 hS_x_22 (vp_in_nI (n := 8 * k_34 + k_35) (N := 64) (by omega) (by omega)) dX12_pressed_42 ?_
        refine lv_topi (fun y_42 ey_42 => ?_)
        refine lv_goto (tgt := 47) hx hb dX12_pressed_43 (by decide) ?_
        exact W.iret (v := y_42) hx hb hr (fun t ht h9 => ⟨⟨y_42, S_38, rfl, ⟨hTy, hFr⟩, by rw [ht]; exact hW.1, va_K.moved h9.alike hK, hW.2.1⟩, hW.2.2.F ht⟩) hW.2.2.2.2 dX12_pressed_47

set_option maxHeartbeats 4000000 in
set_option maxRecDepth 100000 in
theorem m_span (l : Launch) (dC : Nat → ClassId) (dI : Nat → Nat → Nat) (cy : Nat → ClassId) (L : List Nat) (kap : Nat → Nat) (pr : Pr) (S : Nat → va_E) (sz : Nat) (o : Nat) (fa : Int32) (fb : Int32) (kd : Int32) (hi : Int32) (hTy : Ty cy L kap pr S) (hT_o : TK L kap o 12) : Met l yX12_span (wT yX12_span cX12_span 5 (some .int)) ({ frames := 5, cells := 0, slots := 0, locals := 122 }) (pcN dC dI [.ref o, .int fa, .int fb, .int kd, .int hi] sz (va_pl L S) (cyT cy) NLs []) (va_Qi (fun r S' => Ty cy L kap pr S' ∧ Fr kap [12, 56, 59, 60, 61, 62, 63, 64, 65, 66] S S') (fun S' t => pB dC dI (AL L sz) (va_pl L S') (cyT cy) t) (AL L sz)) 0 0 (AL L sz) := by
  refine Met.ofW (cc := cX12_span) (maxL := 5) (ret := (some .int)) (by decide) rfl ?_
  intro p e s m args below meth c s₁ B hml hv
  obtain ⟨rfl, hsz, hP, hK, hD0, hN, -⟩ := hv
  have hx := B.exec
  have hb := B.bytes
  have hr := B.returns
  have hT : ∀ wd ∈ TB, wd.before [.ref o, .int fa, .int fb, .int kd, .int hi].toArray s = true := fun wd h => atoms_spec (ws := wT yX12_span cX12_span 5 (some .int)) B.pre wd (List.mem_cons_of_mem _ h)
  have hown : s.vm.findClass RX12 = some m.cls := findClass_of_methodNamed B.named
  have hlocks := B.notSynchronized
  subst hsz
  have hW : PW dC dI L (AL L s.heap.size) s.heap S s.heap [] := ⟨hP, pl_self hD0, va_S.rf⟩
  have hA0 : ∀ q, q ∈ L → AL L s.heap.size q := fun _ h => Or.inl h
  have hA : ∀ q, s.heap.size ≤ q → AL L s.heap.size q := fun _ h => Or.inr h
  have hFr : Fr kap [12, 56, 59, 60, 61, 62, 63, 64, 65, 66] S S := Fr.rf
  have hl := lv_entry ([.ref o, .int fa, .int fb, .int kd, .int hi]) (n := 5) (Nat.le_of_ble_eq_true rfl)
  rw [lg_entry_eq]
  generalize (lg_sl ([.ref o, .int fa, .int fb, .int kd, .int hi]) ++ List.replicate (5 - (lg_sl ([.ref o, .int fa, .int fb, .int kd, .int hi])).length) Slot.unset).toArray = ls at hl ⊢
  have hl : lv_has ls 5 [(0, .ref o), (1, .int fa), (2, .int fb), (3, .int kd), (4, .int hi)] := hl
  refine lv_aload_n hx hb dX12_span_0 rfl (lv_at hl 0 rfl) ?_
  refine lv_iconst (v := 0) hx hb dX12_span_1 (by decide) ?_
  obtain ⟨x_1, x_2, x_3, x_4, x_5, x_6, x_7, x_8, x_9, x_10, x_11, x_12, x_13, x_14, x_15, x_16, x_17, x_18, x_19, x_20, x_21, x_22, x_23, x_24, x_25, x_26, x_27, x_28, x_29, x_30, x_31, hS_o, hT_x_1, hT_x_2, hT_x_3, hT_x_4, hT_x_5, hb_x_6, hb_x_7, hb_x_8, hT_x_10, hb_q2, hb_x_11, hb_x_12, hT_x_17, hT_x_18, hb_x_19, hT_x_20, hT_x_21, hT_x_22, hT_x_23, hT_x_24, hT_x_25, hT_x_26, hT_x_27, hT_x_28, hT_x_29, hT_x_30, hb_x_31⟩ := hTy.k12 hT_o
  have hb_q2 : pr.2 ≤ 900 := hb_q2
  have hS_o : S o = .inr (12, [.ref x_1, .ref x_2, .ref x_3, .ref x_4, .ref x_5, .int (nI x_6), .int (nI x_7), .int (nI x_8), .int x_9, .ref x_10, .int (nI (pr.2)), .int (nI x_11), .int (nI x_12), .int x_13, .int x_14, .int x_15, .int x_16, .ref x_17, .ref x_18, .int (nI x_19), .ref x_20, .ref x_21, .ref x_22, .ref x_23, .ref x_24, .ref x_25, .ref x_26, .ref x_27, .ref x_28, .ref x_29, .ref x_30, .int (nI x_31)]) := hS_o
  refine pl_put (ci := 12) (v := .int 0) (ty := .int) (C := RX12) (T := TX12) (N := 32) (fs' := [.ref x_1, .ref x_2, .ref x_3, .ref x_4, .ref x_5, .int (nI x_6), .int (nI x_7), .int (nI x_8), .int 0, .ref x_10, .int (nI (pr.2)), .int (nI x_11), .int (nI x_12), .int x_13, .int x_14, .int x_15, .int x_16, .ref x_17, .ref x_18, .int (nI x_19), .ref x_20, .ref x_21, .ref x_22, .ref x_23, .ref x_24, .ref x_25, .ref x_26, .ref x_27, .ref x_28, .ref x_29, .ref x_30, .int (nI x_31)]) hx hb hT iX12 tyX12 tyX12_ok nmX12 hown hK hW hT_o.1 hS_o rfl 8 (by decide) w1090 rfl (by decide +kernel) rfl rfl (Nat.le_of_ble_eq_true rfl) rfl dX12_span_2 (fun H locs S_32 e1 hW => ?_)
  have hTy := hTy.u12 e1 hT_o ⟨x_1, x_2, x_3, x_4, x_5, x_6, x_7, x_8, 0, x_10, x_11, x_12, x_13, x_14, x_15, x_16, x_17, x_18, x_19, x_20, x_21, x_22, x_23, x_24, x_25, x_26, x_27, x_28, x_29, x_30, x_31, rfl, hT_x_1, hT_x_2, hT_x_3, hT_x_4, hT_x_5, (by omega), (by omega), (by omega), hT_x_10, (by show pr.2 ≤ 900; omega), (by omega), (by omega), hT_x_17, hT_x_18, (by omega), hT_x_20, hT_x_21, hT_x_22, hT_x_23, hT_x_24, hT_x_25, hT_x_26, hT_x_27, hT_x_28, hT_x_29, hT_x_30, (by omega)⟩
  have hws := (show wrs (.inr (12, [.ref x_1, .ref x_2, .ref x_3, .ref x_4, .ref x_5, .int (nI x_6), .int (nI x_7), .int (nI x_8), .int 0, .ref x_10, .int (nI (pr.2)), .int (nI x_11), .int (nI x_12), .int x_13, .int x_14, .int x_15, .int x_16, .ref x_17, .ref x_18, .int (nI x_19), .ref x_20, .ref x_21, .ref x_22, .ref x_23, .ref x_24, .ref x_25, .ref x_26, .ref x_27, .ref x_28, .ref x_29, .ref x_30, .int (nI x_31)])) = wrs (S o) from by rw [hS_o]; rfl)
  have hFr := ufs hFr e1 hT_o (by decide) hws
  have hS_o := us e1
  refine lv_aload_n hx hb dX12_span_5 rfl (lv_at hl 0 rfl) ?_
  refine lv_iload_n hx hb dX12_span_6 rfl (lv_at hl 1 rfl) ?_
  refine lv_iload_n hx hb dX12_span_7 rfl (lv_at hl 2 rfl) ?_
  refine vp_callSi (va_Run.run (va_runV (As := [.int fa, .int fb]) (rest := []) ⟨hx, hb, hml, hown, hT⟩ (m_areTwo l dC dI cy L kap pr S_32 H.size o fa fb hTy hT_o) (cwV 2 hT (gV w1280 w1282 ws72 w14 w1283) rfl rfl rfl (by decide +kernel) ⟨(Nat.le_of_ble_eq_true rfl), (Nat.le_of_ble_eq_true rfl)⟩) ⟨pcN.blind, pl_recv hK hW hT_o.1 hS_o rfl, pcN.pre hW.1 hK hW.2.1 hN (fun q h => absurd h List.not_mem_nil)⟩ rfl rfl hl.1 rfl (lv_room (Nat.le_of_ble_eq_true rfl)) dX12_span_8 ⟨(Nat.le_of_ble_eq_true rfl), (Nat.le_of_ble_eq_true rfl)⟩)) (fun r_33 hr_33 => ?_)
  rcases hr_33 with hc_ | hc_
  · obtain rfl : r_33 = 0 := hc_
    refine lv_if_eq (tgt := 22) hx hb dX12_span_11 (by decide) (fun _ => ?_) (fun h => absurd (by decide) h)
    refine lv_bipush (v := (-2)) hx hb dX12_span_22 (by decide) ?_
    exact W.iret (v := (-2)) hx hb hr (fun t ht h9 => ⟨⟨(-2), S_32, rfl, ⟨hTy, hFr⟩, by rw [ht]; exact hW.1, va_K.moved h9.alike hK, hW.2.1⟩, hW.2.2.F ht⟩) hW.2.2.2.2 dX12_span_24
  · obtain ⟨rfl, k_34, k_35, hb_k_34, hb_k_35, rfl, rfl, hab2⟩ := hc_
    refine lv_if_eq (tgt := 22) hx hb dX12_span_11 (by decide) (fun h => absurd h (by decide)) (fun _ => ?_)
    refine lv_aload_n hx hb dX12_span_14 rfl (lv_at hl 0 rfl) ?_
    refine lv_iload_n hx hb dX12_span_15 rfl (lv_at hl 3 rfl) ?_
    refine vp_callSi (va_Run.run (va_runV (As := [.int kd]) (rest := []) ⟨hx, hb, hml, hown, hT⟩ (m_isKind l dC dI cy L kap pr S_32 H.size o kd hTy hT_o) (cwV 1 hT (gV w1288 w1290 ws74 w14 w1291) rfl rfl rfl (by decide +kernel) ⟨(Nat.le_of_ble_eq_true rfl), (Nat.le_of_ble_eq_true rfl)⟩) ⟨pcN.blind, pl_recv hK hW hT_o.1 hS_o rfl, pcN.pre hW.1 hK hW.2.1 hN (fun q h => absurd h List.not_mem_nil)⟩ rfl rfl hl.1 rfl (lv_room (Nat.le_of_ble_eq_true rfl)) dX12_span_16 ⟨(Nat.le_of_ble_eq_true rfl), (Nat.le_of_ble_eq_true rfl)⟩)) (fun r_36 hr_36 => ?_)
    rcases hr_36 with hc_ | hc_
    · obtain rfl : r_36 = 0 := hc_
      refine lv_if_ne (tgt := 25) hx hb dX12_span_19 (by decide) (fun h => absurd (by decide) h) (fun _ => ?_)
      refine lv_bipush (v := (-2)) hx hb dX12_span_22 (by decide) ?_
      exact W.iret (v := (-2)) hx hb hr (fun t ht h9 => ⟨⟨(-2), S_32, rfl, ⟨hTy, hFr⟩, by rw [ht]; exact hW.1, va_K.moved h9.alike hK, hW.2.1⟩, hW.2.2.F ht⟩) hW.2.2.2.2 dX12_span_24
    · obtain ⟨rfl, k_37, hb_k_37, rfl⟩ := hc_
      refine lv_if_ne (tgt := 25) hx hb dX12_span_19 (by decide) (fun _ => ?_) (fun h => absurd h (by decide))
      refine lv_iload hx hb dX12_span_25 (lv_at hl 4 rfl) ?_
      refine lv_i2l hx hb dX12_span_27 rfl ?_
      refine lv_topl (fun z_38 ez_38 => ?_)
      refine lv_lconst (v := 0) hx hb dX12_span_28 (by decide) ?_
      refine lv_lconst (v := 1) hx hb dX12_span_29 (by decide) ?_
      refine vp_callSi (va_Run.run (va_runS (As := [.long z_38, .long 0, .long 1]) (rest := []) ⟨hx, hb, hml, hown, hT⟩ (m_isIn l dC dI H.size z_38 0 1) (va_cwS 3 hT (gS w1187 w1188 w14 w1189) rfl rfl rfl (by decide +kernel) ⟨(Nat.le_of_ble_eq_true rfl), (Nat.le_of_ble_eq_true rfl)⟩) ⟨pcW.blind, pcW.pre (va_P0 _ _ _) (hK.sub (tys' := []) [] rfl) (va_D0 (fun _ => True))⟩ rfl rfl hl.1 rfl (lv_room (Nat.le_of_ble_eq_true rfl)) dX12_span_30 ⟨(Nat.le_of_ble_eq_true rfl), (Nat.le_of_ble_eq_true rfl)⟩)) (fun r_39 hr_39 => ?_)
      rcases isInc hr_39 with hc_ | hc_
      · obtain ⟨rfl, hin_⟩ := hc_
        obtain ⟨k_40, hb_k_40, rfl⟩ := inK (H := 1) ez_38 hin_ (by decide) (by decide)
        refine lv_if_ne (tgt := 39) hx hb dX12_span_33 (by decide) (fun _ => ?_) (fun h => absurd h (by decide))
        refine lv_aload_n hx hb dX12_span_39 rfl (lv_at hl 0 rfl) ?_
        refine lv_iload_n hx hb dX12_span_40 rfl (lv_at hl 3 rfl) ?_
        refine lv_iconst (v := (-1)) hx hb dX12_span_41 (by decide) ?_
        refine pl_callv (va_runV (As := [.int (nI k_37), .int (-1)]) (rest := []) ⟨hx, hb, hml, hown, hT⟩ (m_laysBounds l dC dI cy L kap pr S_32 H.size o (nI k_37) (-1) hTy hT_o) (cwV 2 hT (gV w1447 w1449 ws93 w14 w1450) rfl rfl rfl (by decide +kernel) ⟨(Nat.le_of_ble_eq_true rfl), (Nat.le_of_ble_eq_true rfl)⟩) ⟨pcN.blind, pl_recv hK hW hT_o.1 hS_o rfl, pcN.pre hW.1 hK hW.2.1 hN (fun q h => absurd h List.not_mem_nil)⟩ rfl rfl hl.1 rfl (lv_room (Nat.le_of_ble_eq_true rfl)) dX12_span_42 ⟨(Nat.le_of_ble_eq_true rfl), (Nat.le_of_ble_eq_true rfl)⟩) hW hA0 hA (fun S_41 H locs hrel hW => ?_)
        obtain ⟨hTy, hF1⟩ := hrel
        have hFr := hFr.tr hF1 (by decide)
        have hS_o := hF1.at hT_o (by decide) hS_o
        refine lv_aload_n hx hb dX12_span_45 rfl (lv_at hl 0 rfl) ?_
        refine pl_calli (va_runV (As := []) (rest := []) ⟨hx, hb, hml, hown, hT⟩ (m_presses l dC dI cy L kap pr S_41 H.size o hTy hT_o) (cwV 0 hT (gV w1455 w1457 ws94 w14 w1458) rfl rfl rfl (by decide +kernel) ⟨(Nat.le_of_ble_eq_true rfl), (Nat.le_of_ble_eq_true rfl)⟩) ⟨pcN.blind, pl_recv hK hW hT_o.1 hS_o rfl, pcN.pre hW.1 hK hW.2.1 hN (fun q h => absurd h List.not_mem_nil)⟩ rfl rfl hl.1 rfl (lv_room (Nat.le_of_ble_eq_true rfl)) dX12_span_46 ⟨(Nat.le_of_ble_eq_true rfl), (Nat.le_of_ble_eq_true rfl)⟩) hW hA0 hA (fun r_43 S_42 H locs hrel hW => ?_)
        obtain ⟨hTy, hF1, hx1⟩ := hrel
        have hFr := hFr.tr hF1 (by decide)
        have hS_o := hF1.at hT_o (by decide) hS_o
        obtain ⟨hpk9, hdz9⟩ := hx1
        refine lv_if_ne (tgt := 54) hx hb dX12_span_49 (by decide) (fun c_49 => ?_) (fun c_49 => ?_)
        · refine lv_aload_n hx hb dX12_span_54 rfl (lv_at hl 0 rfl) ?_
          refine lv_iload_n hx hb dX12_span_55 rfl (lv_at hl 1 rfl) ?_
          refine lv_iload_n hx hb dX12_span_56 rfl (lv_at hl 2 rfl) ?_
          refine lv_iload hx hb dX12_span_57 (lv_at hl 4 rfl) ?_
          refine lv_iconst (v := 1) hx hb dX12_span_59 (by decide) ?_
          refine lv_icmp_ne (tgt := 67) hx hb dX12_span_60 (by decide) (fun c_60 => ?_) (fun c_60 => ?_)
          · have c_60 : ¬ (k_40 = 1) := fun hh9 => c_60 ((nI_eq (a := k_40) (b := 1) (by omega) (by omega)).mpr hh9)
            refine lv_iconst (v := 0) hx hb dX12_span_67 (by decide) ?_
            refine pl_callv (va_runV (As := [.int (nI k_34), .int (nI k_35), .int 0]) (rest := []) ⟨hx, hb, hml, hown, hT⟩ (m_turns l dC dI cy L kap pr S_42 H.size o k_34 k_35 0 hTy hT_o (by omega) (by omega) hab2 hpk9) (cwV 3 hT (gV w1495 w1497 ws102 w14 w1498) rfl rfl rfl (by decide +kernel) ⟨(Nat.le_of_ble_eq_true rfl), (Nat.le_of_ble_eq_true rfl)⟩) ⟨pcN.blind, pl_recv hK hW hT_o.1 hS_o rfl, pcN.pre hW.1 hK hW.2.1 hN (fun q h => absurd h List.not_mem_nil)⟩ rfl rfl hl.1 rfl (lv_room (Nat.le_of_ble_eq_true rfl)) dX12_span_68 ⟨(Nat.le_of_ble_eq_true rfl), (Nat.le_of_ble_eq_true rfl)⟩) hW hA0 hA (fun S_44 H locs hrel hW => ?_)
            obtain ⟨hTy, hF1, hx1⟩ := hrel
            have hFr := hFr.tr hF1 (by decide)
            have hS_o := hF1.at hT_o (by decide) hS_o
            refine lv_aload_n hx hb dX12_span_71 rfl (lv_at hl 0 rfl) ?_
            refine pl_get (ci := 12) (v := .ref x_22) (C := RX12) (T := TX12) (N := 32) hx hb hT iX12 hown hK hW hT_o.1 hS_o rfl 22 (by decide) w1104 rfl dX12_span_72 ?_
            refine lv_iload_n hx hb dX12_span_75 rfl (lv_at hl 1 rfl) ?_
            refine lv_iload_n hx hb dX12_span_76 rfl (lv_at hl 2 rfl) ?_
            refine vp_callSi (va_Run.run (va_runS (As := [.int (nI k_34), .int (nI k_35)]) (rest := [.ref x_22]) ⟨hx, hb, hml, hown, hT⟩ (m_couple l dC dI H.size k_34 k_35 (by omega) (by omega)) (va_cwS 2 hT (gS w1348 w1349 w14 w1350) rfl rfl rfl (by decide +kernel) ⟨(Nat.le_of_ble_eq_true rfl), (Nat.le_of_ble_eq_true rfl)⟩) ⟨pcW.blind, pcW.pre (va_P0 _ _ _) (hK.sub (tys' := []) [] rfl) (va_D0 (fun _ => True))⟩ rfl rfl hl.1 rfl (lv_room (Nat.le_of_ble_eq_true rfl)) dX12_span_77 ⟨(Nat.le_of_ble_eq_true rfl), (Nat.le_of_ble_eq_true rfl)⟩)) (fun r_45 hr_45 => ?_)
            obtain rfl : r_45 = nI (8 * k_34 + k_35) := hr_45
            obtain ⟨f_46, hS_x_22⟩ := hTy.k60 hT_x_22
            refine pl_iald hx hb hK hW hT_x_22.1 hS_x_22 (vp_in_nI (n := 8 * k_34 + k_35) (N := 64) (by omega) (by omega)) dX12_span_80 ?_
            refine lv_topi (fun y_47 ey_47 => ?_)
            exact W.iret (v := y_47) hx hb hr (fun t ht h9 => ⟨⟨y_47, S_44, rfl, ⟨hTy, hFr⟩, by rw [ht]; exact hW.1, va_K.moved h9.alike hK, hW.2.1⟩, hW.2.2.F ht⟩) hW.2.2.2.2 dX12_span_81
          · have c_60 : k_40 = 1 := (nI_eq (a := k_40) (b := 1) (by omega) (by omega)).mp c_60
            refine lv_iconst (v := 1) hx hb dX12_span_63 (by decide) ?_
            refine lv_goto (tgt := 68) hx hb dX12_span_64 (by decide) ?_
            refine pl_callv (va_runV (As := [.int (nI k_34), .int (nI k_35), .int 1]) (rest := []) ⟨hx, hb, hml, hown, hT⟩ (m_turns l dC dI cy L kap pr S_42 H.size o k_34 k_35 1 hTy hT_o (by omega) (by omega) hab2 hpk9) (cwV 3 hT (gV w1495 w1497 ws102 w14 w1498) rfl rfl rfl (by decide +kernel) ⟨(Nat.le_of_ble_eq_true rfl), (Nat.le_of_ble_eq_true rfl)⟩) ⟨pcN.blind, pl_recv hK hW hT_o.1 hS_o rfl, pcN.pre hW.1 hK hW.2.1 hN (fun q h => absurd h List.not_mem_nil)⟩ rfl rfl hl.1 rfl (lv_room (Nat.le_of_ble_eq_true rfl)) dX12_span_68 ⟨(Nat.le_of_ble_eq_true rfl), (Nat.le_of_ble_eq_true rfl)⟩) hW hA0 hA (fun S_48 H locs hrel hW => ?_)
            obtain ⟨hTy, hF1, hx1⟩ := hrel
            have hFr := hFr.tr hF1 (by decide)
            have hS_o := hF1.at hT_o (by decide) hS_o
            refine lv_aload_n hx hb dX12_span_71 rfl (lv_at hl 0 rfl) ?_
            refine pl_get (ci := 12) (v := .ref x_22) (C := RX12) (T := TX12) (N := 32) hx hb hT iX12 hown hK hW hT_o.1 hS_o rfl 22 (by decide) w1104 rfl dX12_span_72 ?_
            refine lv_iload_n hx hb dX12_span_75 rfl (lv_at hl 1 rfl) ?_
            refine lv_iload_n hx hb dX12_span_76 rfl (lv_at hl 2 rfl) ?_
            refine vp_callSi (va_Run.run (va_runS (As := [.int (nI k_34), .int (nI k_35)]) (rest := [.ref x_22]) ⟨hx, hb, hml, hown, hT⟩ (m_couple l dC dI H.size k_34 k_35 (by omega) (by omega)) (va_cwS 2 hT (gS w1348 w1349 w14 w1350) rfl rfl rfl (by decide +kernel) ⟨(Nat.le_of_ble_eq_true rfl), (Nat.le_of_ble_eq_true rfl)⟩) ⟨pcW.blind, pcW.pre (va_P0 _ _ _) (hK.sub (tys' := []) [] rfl) (va_D0 (fun _ => True))⟩ rfl rfl hl.1 rfl (lv_room (Nat.le_of_ble_eq_true rfl)) dX12_span_77 ⟨(Nat.le_of_ble_eq_true rfl), (Nat.le_of_ble_eq_true rfl)⟩)) (fun r_49 hr_49 => ?_)
            obtain rfl : r_49 = nI (8 * k_34 + k_35) := hr_49
            obtain ⟨f_50, hS_x_22⟩ := hTy.k60 hT_x_22
            refine pl_iald hx hb hK hW hT_x_22.1 hS_x_22 (vp_in_nI (n := 8 * k_34 + k_35) (N := 64) (by omega) (by omega)) dX12_span_80 ?_
            refine lv_topi (fun y_51 ey_51 => ?_)
            exact W.iret (v := y_51) hx hb hr (fun t ht h9 => ⟨⟨y_51, S_48, rfl, ⟨hTy, hFr⟩, by rw [ht]; exact hW.1, va_K.moved h9.alike hK, hW.2.1⟩, hW.2.2.F ht⟩) hW.2.2.2.2 dX12_span_81
        · refine lv_iconst (v := (-1)) hx hb dX12_span_52 (by decide) ?_
          exact W.iret (v := (-1)) hx hb hr (fun t ht h9 => ⟨⟨(-1), S_42, rfl, ⟨hTy, hFr⟩, by rw [ht]; exact hW.1, va_K.moved h9.alike hK, hW.2.1⟩, hW.2.2.F ht⟩) hW.2.2.2.2 dX12_span_53
      · obtain ⟨rfl, hin_⟩ := hc_
        refine lv_if_ne (tgt := 39) hx hb dX12_span_33 (by decide) (fun h => absurd (by decide) h) (fun _ => ?_)
        refine lv_bipush (v := (-3)) hx hb dX12_span_36 (by decide) ?_
        exact W.iret (v := (-3)) hx hb hr (fun t ht h9 => ⟨⟨(-3), S_32, rfl, ⟨hTy, hFr⟩, by rw [ht]; exact hW.1, va_K.moved h9.alike hK, hW.2.1⟩, hW.2.2.F ht⟩) hW.2.2.2.2 dX12_span_38

set_option maxHeartbeats 4000000 in
set_option maxRecDepth 100000 in
theorem m_gain (l : Launch) (dC : Nat → ClassId) (dI : Nat → Nat → Nat) (cy : Nat → ClassId) (L : List Nat) (kap : Nat → Nat) (pr : Pr) (S : Nat → va_E) (sz : Nat) (o : Nat) (fa : Int32) (fb : Int32) (kd : Int32) (hTy : Ty cy L kap pr S) (hT_o : TK L kap o 12) : Met l yX12_gain (wT yX12_gain cX12_gain 5 (some .int)) ({ frames := 4, cells := 0, slots := 0, locals := 95 }) (pcN dC dI [.ref o, .int fa, .int fb, .int kd] sz (va_pl L S) (cyT cy) NLs []) (va_Qi (fun r S' => Ty cy L kap pr S' ∧ Fr kap [12, 56, 59, 60, 61, 62, 63, 64, 65, 66] S S') (fun S' t => pB dC dI (AL L sz) (va_pl L S') (cyT cy) t) (AL L sz)) 0 0 (AL L sz) := by
  refine Met.ofW (cc := cX12_gain) (maxL := 5) (ret := (some .int)) (by decide) rfl ?_
  intro p e s m args below meth c s₁ B hml hv
  obtain ⟨rfl, hsz, hP, hK, hD0, hN, -⟩ := hv
  have hx := B.exec
  have hb := B.bytes
  have hr := B.returns
  have hT : ∀ wd ∈ TB, wd.before [.ref o, .int fa, .int fb, .int kd].toArray s = true := fun wd h => atoms_spec (ws := wT yX12_gain cX12_gain 5 (some .int)) B.pre wd (List.mem_cons_of_mem _ h)
  have hown : s.vm.findClass RX12 = some m.cls := findClass_of_methodNamed B.named
  have hlocks := B.notSynchronized
  subst hsz
  have hW : PW dC dI L (AL L s.heap.size) s.heap S s.heap [] := ⟨hP, pl_self hD0, va_S.rf⟩
  have hA0 : ∀ q, q ∈ L → AL L s.heap.size q := fun _ h => Or.inl h
  have hA : ∀ q, s.heap.size ≤ q → AL L s.heap.size q := fun _ h => Or.inr h
  have hFr : Fr kap [12, 56, 59, 60, 61, 62, 63, 64, 65, 66] S S := Fr.rf
  have hl := lv_entry ([.ref o, .int fa, .int fb, .int kd]) (n := 5) (Nat.le_of_ble_eq_true rfl)
  rw [lg_entry_eq]
  generalize (lg_sl ([.ref o, .int fa, .int fb, .int kd]) ++ List.replicate (5 - (lg_sl ([.ref o, .int fa, .int fb, .int kd])).length) Slot.unset).toArray = ls at hl ⊢
  have hl : lv_has ls 5 [(0, .ref o), (1, .int fa), (2, .int fb), (3, .int kd)] := hl
  refine lv_aload_n hx hb dX12_gain_0 rfl (lv_at hl 0 rfl) ?_
  refine lv_iconst (v := 0) hx hb dX12_gain_1 (by decide) ?_
  obtain ⟨x_1, x_2, x_3, x_4, x_5, x_6, x_7, x_8, x_9, x_10, x_11, x_12, x_13, x_14, x_15, x_16, x_17, x_18, x_19, x_20, x_21, x_22, x_23, x_24, x_25, x_26, x_27, x_28, x_29, x_30, x_31, hS_o, hT_x_1, hT_x_2, hT_x_3, hT_x_4, hT_x_5, hb_x_6, hb_x_7, hb_x_8, hT_x_10, hb_q2, hb_x_11, hb_x_12, hT_x_17, hT_x_18, hb_x_19, hT_x_20, hT_x_21, hT_x_22, hT_x_23, hT_x_24, hT_x_25, hT_x_26, hT_x_27, hT_x_28, hT_x_29, hT_x_30, hb_x_31⟩ := hTy.k12 hT_o
  have hb_q2 : pr.2 ≤ 900 := hb_q2
  have hS_o : S o = .inr (12, [.ref x_1, .ref x_2, .ref x_3, .ref x_4, .ref x_5, .int (nI x_6), .int (nI x_7), .int (nI x_8), .int x_9, .ref x_10, .int (nI (pr.2)), .int (nI x_11), .int (nI x_12), .int x_13, .int x_14, .int x_15, .int x_16, .ref x_17, .ref x_18, .int (nI x_19), .ref x_20, .ref x_21, .ref x_22, .ref x_23, .ref x_24, .ref x_25, .ref x_26, .ref x_27, .ref x_28, .ref x_29, .ref x_30, .int (nI x_31)]) := hS_o
  refine pl_put (ci := 12) (v := .int 0) (ty := .int) (C := RX12) (T := TX12) (N := 32) (fs' := [.ref x_1, .ref x_2, .ref x_3, .ref x_4, .ref x_5, .int (nI x_6), .int (nI x_7), .int (nI x_8), .int 0, .ref x_10, .int (nI (pr.2)), .int (nI x_11), .int (nI x_12), .int x_13, .int x_14, .int x_15, .int x_16, .ref x_17, .ref x_18, .int (nI x_19), .ref x_20, .ref x_21, .ref x_22, .ref x_23, .ref x_24, .ref x_25, .ref x_26, .ref x_27, .ref x_28, .ref x_29, .ref x_30, .int (nI x_31)]) hx hb hT iX12 tyX12 tyX12_ok nmX12 hown hK hW hT_o.1 hS_o rfl 8 (by decide) w1090 rfl (by decide +kernel) rfl rfl (Nat.le_of_ble_eq_true rfl) rfl dX12_gain_2 (fun H locs S_32 e1 hW => ?_)
  have hTy := hTy.u12 e1 hT_o ⟨x_1, x_2, x_3, x_4, x_5, x_6, x_7, x_8, 0, x_10, x_11, x_12, x_13, x_14, x_15, x_16, x_17, x_18, x_19, x_20, x_21, x_22, x_23, x_24, x_25, x_26, x_27, x_28, x_29, x_30, x_31, rfl, hT_x_1, hT_x_2, hT_x_3, hT_x_4, hT_x_5, (by omega), (by omega), (by omega), hT_x_10, (by show pr.2 ≤ 900; omega), (by omega), (by omega), hT_x_17, hT_x_18, (by omega), hT_x_20, hT_x_21, hT_x_22, hT_x_23, hT_x_24, hT_x_25, hT_x_26, hT_x_27, hT_x_28, hT_x_29, hT_x_30, (by omega)⟩
  have hws := (show wrs (.inr (12, [.ref x_1, .ref x_2, .ref x_3, .ref x_4, .ref x_5, .int (nI x_6), .int (nI x_7), .int (nI x_8), .int 0, .ref x_10, .int (nI (pr.2)), .int (nI x_11), .int (nI x_12), .int x_13, .int x_14, .int x_15, .int x_16, .ref x_17, .ref x_18, .int (nI x_19), .ref x_20, .ref x_21, .ref x_22, .ref x_23, .ref x_24, .ref x_25, .ref x_26, .ref x_27, .ref x_28, .ref x_29, .ref x_30, .int (nI x_31)])) = wrs (S o) from by rw [hS_o]; rfl)
  have hFr := ufs hFr e1 hT_o (by decide) hws
  have hS_o := us e1
  refine lv_aload_n hx hb dX12_gain_5 rfl (lv_at hl 0 rfl) ?_
  refine lv_iload_n hx hb dX12_gain_6 rfl (lv_at hl 1 rfl) ?_
  refine lv_iload_n hx hb dX12_gain_7 rfl (lv_at hl 2 rfl) ?_
  refine vp_callSi (va_Run.run (va_runV (As := [.int fa, .int fb]) (rest := []) ⟨hx, hb, hml, hown, hT⟩ (m_areTwo l dC dI cy L kap pr S_32 H.size o fa fb hTy hT_o) (cwV 2 hT (gV w1280 w1282 ws72 w14 w1283) rfl rfl rfl (by decide +kernel) ⟨(Nat.le_of_ble_eq_true rfl), (Nat.le_of_ble_eq_true rfl)⟩) ⟨pcN.blind, pl_recv hK hW hT_o.1 hS_o rfl, pcN.pre hW.1 hK hW.2.1 hN (fun q h => absurd h List.not_mem_nil)⟩ rfl rfl hl.1 rfl (lv_room (Nat.le_of_ble_eq_true rfl)) dX12_gain_8 ⟨(Nat.le_of_ble_eq_true rfl), (Nat.le_of_ble_eq_true rfl)⟩)) (fun r_33 hr_33 => ?_)
  rcases hr_33 with hc_ | hc_
  · obtain rfl : r_33 = 0 := hc_
    refine lv_if_eq (tgt := 22) hx hb dX12_gain_11 (by decide) (fun _ => ?_) (fun h => absurd (by decide) h)
    refine lv_bipush (v := (-2)) hx hb dX12_gain_22 (by decide) ?_
    exact W.iret (v := (-2)) hx hb hr (fun t ht h9 => ⟨⟨(-2), S_32, rfl, ⟨hTy, hFr⟩, by rw [ht]; exact hW.1, va_K.moved h9.alike hK, hW.2.1⟩, hW.2.2.F ht⟩) hW.2.2.2.2 dX12_gain_24
  · obtain ⟨rfl, k_34, k_35, hb_k_34, hb_k_35, rfl, rfl, hab2⟩ := hc_
    refine lv_if_eq (tgt := 22) hx hb dX12_gain_11 (by decide) (fun h => absurd h (by decide)) (fun _ => ?_)
    refine lv_aload_n hx hb dX12_gain_14 rfl (lv_at hl 0 rfl) ?_
    refine lv_iload_n hx hb dX12_gain_15 rfl (lv_at hl 3 rfl) ?_
    refine vp_callSi (va_Run.run (va_runV (As := [.int kd]) (rest := []) ⟨hx, hb, hml, hown, hT⟩ (m_isKind l dC dI cy L kap pr S_32 H.size o kd hTy hT_o) (cwV 1 hT (gV w1288 w1290 ws74 w14 w1291) rfl rfl rfl (by decide +kernel) ⟨(Nat.le_of_ble_eq_true rfl), (Nat.le_of_ble_eq_true rfl)⟩) ⟨pcN.blind, pl_recv hK hW hT_o.1 hS_o rfl, pcN.pre hW.1 hK hW.2.1 hN (fun q h => absurd h List.not_mem_nil)⟩ rfl rfl hl.1 rfl (lv_room (Nat.le_of_ble_eq_true rfl)) dX12_gain_16 ⟨(Nat.le_of_ble_eq_true rfl), (Nat.le_of_ble_eq_true rfl)⟩)) (fun r_36 hr_36 => ?_)
    rcases hr_36 with hc_ | hc_
    · obtain rfl : r_36 = 0 := hc_
      refine lv_if_ne (tgt := 25) hx hb dX12_gain_19 (by decide) (fun h => absurd (by decide) h) (fun _ => ?_)
      refine lv_bipush (v := (-2)) hx hb dX12_gain_22 (by decide) ?_
      exact W.iret (v := (-2)) hx hb hr (fun t ht h9 => ⟨⟨(-2), S_32, rfl, ⟨hTy, hFr⟩, by rw [ht]; exact hW.1, va_K.moved h9.alike hK, hW.2.1⟩, hW.2.2.F ht⟩) hW.2.2.2.2 dX12_gain_24
    · obtain ⟨rfl, k_37, hb_k_37, rfl⟩ := hc_
      refine lv_if_ne (tgt := 25) hx hb dX12_gain_19 (by decide) (fun _ => ?_) (fun h => absurd h (by decide))
      refine lv_aload_n hx hb dX12_gain_25 rfl (lv_at hl 0 rfl) ?_
      refine lv_iload_n hx hb dX12_gain_26 rfl (lv_at hl 3 rfl) ?_
      refine lv_iconst (v := (-1)) hx hb dX12_gain_27 (by decide) ?_
      refine pl_callv (va_runV (As := [.int (nI k_37), .int (-1)]) (rest := []) ⟨hx, hb, hml, hown, hT⟩ (m_laysBounds l dC dI cy L kap pr S_32 H.size o (nI k_37) (-1) hTy hT_o) (cwV 2 hT (gV w1447 w1449 ws93 w14 w1450) rfl rfl rfl (by decide +kernel) ⟨(Nat.le_of_ble_eq_true rfl), (Nat.le_of_ble_eq_true rfl)⟩) ⟨pcN.blind, pl_recv hK hW hT_o.1 hS_o rfl, pcN.pre hW.1 hK hW.2.1 hN (fun q h => absurd h List.not_mem_nil)⟩ rfl rfl hl.1 rfl (lv_room (Nat.le_of_ble_eq_true rfl)) dX12_gain_28 ⟨(Nat.le_of_ble_eq_true rfl), (Nat.le_of_ble_eq_true rfl)⟩) hW hA0 hA (fun S_38 H locs hrel hW => ?_)
      obtain ⟨hTy, hF1⟩ := hrel
      have hFr := hFr.tr hF1 (by decide)
      have hS_o := hF1.at hT_o (by decide) hS_o
      refine lv_aload_n hx hb dX12_gain_31 rfl (lv_at hl 0 rfl) ?_
      refine pl_calli (va_runV (As := []) (rest := []) ⟨hx, hb, hml, hown, hT⟩ (m_presses l dC dI cy L kap pr S_38 H.size o hTy hT_o) (cwV 0 hT (gV w1455 w1457 ws94 w14 w1458) rfl rfl rfl (by decide +kernel) ⟨(Nat.le_of_ble_eq_true rfl), (Nat.le_of_ble_eq_true rfl)⟩) ⟨pcN.blind, pl_recv hK hW hT_o.1 hS_o rfl, pcN.pre hW.1 hK hW.2.1 hN (fun q h => absurd h List.not_mem_nil)⟩ rfl rfl hl.1 rfl (lv_room (Nat.le_of_ble_eq_true rfl)) dX12_gain_32 ⟨(Nat.le_of_ble_eq_true rfl), (Nat.le_of_ble_eq_true rfl)⟩) hW hA0 hA (fun r_40 S_39 H locs hrel hW => ?_)
      obtain ⟨hTy, hF1, hx1⟩ := hrel
      have hFr := hFr.tr hF1 (by decide)
      have hS_o := hF1.at hT_o (by decide) hS_o
      obtain ⟨hpk9, hdz9⟩ := hx1
      refine lv_if_ne (tgt := 40) hx hb dX12_gain_35 (by decide) (fun c_35 => ?_) (fun c_35 => ?_)
      · refine lv_aload_n hx hb dX12_gain_40 rfl (lv_at hl 0 rfl) ?_
        refine vp_callSi (va_Run.run (va_runV (As := []) (rest := []) ⟨hx, hb, hml, hown, hT⟩ (m_sumOf l dC dI cy L kap pr S_39 H.size o hTy hT_o) (cwV 0 hT (gV w1483 w1485 ws100 w14 w1486) rfl rfl rfl (by decide +kernel) ⟨(Nat.le_of_ble_eq_true rfl), (Nat.le_of_ble_eq_true rfl)⟩) ⟨pcN.blind, pl_recv hK hW hT_o.1 hS_o rfl, pcN.pre hW.1 hK hW.2.1 hN (fun q h => absurd h List.not_mem_nil)⟩ rfl rfl hl.1 rfl (lv_room (Nat.le_of_ble_eq_true rfl)) dX12_gain_41 ⟨(Nat.le_of_ble_eq_true rfl), (Nat.le_of_ble_eq_true rfl)⟩)) (fun r_41 hr_41 => ?_)
        refine lv_istore (lv' := [(4, .int r_41), (0, .ref o), (1, .int (nI k_34)), (2, .int (nI k_35)), (3, .int (nI k_37))]) hx hb dX12_gain_44 hl (by decide) rfl (fun ls hl => ?_)
        refine lv_aload_n hx hb dX12_gain_46 rfl (lv_at hl 1 rfl) ?_
        refine pl_get (ci := 12) (v := .ref x_21) (C := RX12) (T := TX12) (N := 32) hx hb hT iX12 hown hK hW hT_o.1 hS_o rfl 21 (by decide) w1103 rfl dX12_gain_47 ?_
        refine lv_iload_n hx hb dX12_gain_50 rfl (lv_at hl 2 rfl) ?_
        refine lv_iload_n hx hb dX12_gain_51 rfl (lv_at hl 3 rfl) ?_
        refine vp_callSi (va_Run.run (va_runS (As := [.int (nI k_34), .int (nI k_35)]) (rest := [.ref x_21]) ⟨hx, hb, hml, hown, hT⟩ (m_couple l dC dI H.size k_34 k_35 (by omega) (by omega)) (va_cwS 2 hT (gS w1348 w1349 w14 w1350) rfl rfl rfl (by decide +kernel) ⟨(Nat.le_of_ble_eq_true rfl), (Nat.le_of_ble_eq_true rfl)⟩) ⟨pcW.blind, pcW.pre (va_P0 _ _ _) (hK.sub (tys' := []) [] rfl) (va_D0 (fun _ => True))⟩ rfl rfl hl.1 rfl (lv_room (Nat.le_of_ble_eq_true rfl)) dX12_gain_52 ⟨(Nat.le_of_ble_eq_true rfl), (Nat.le_of_ble_eq_true rfl)⟩)) (fun r_42 hr_42 => ?_)
        obtain rfl : r_42 = nI (8 * k_34 + k_35) := hr_42
        refine lv_dup2_11 hx hb dX12_gain_55 rfl rfl ?_
        obtain ⟨f_43, hS_x_21⟩ := hTy.k59 hT_x_21
        refine pl_iald hx hb hK hW hT_x_21.1 hS_x_21 (vp_in_nI (n := 8 * k_34 + k_35) (N := 64) (by omega) (by omega)) dX12_gain_56 ?_
        refine lv_topi (fun y_44 ey_44 => ?_)
        refine lv_iconst (v := 1) hx hb dX12_gain_57 (by decide) ?_
        refine lv_iadd hx hb dX12_gain_58 ?_
        refine lv_topi (fun z_45 ez_45 => ?_)
        refine pl_iast hx hb hK hW hT_x_21.1 hS_x_21 (vp_in_nI (n := 8 * k_34 + k_35) (N := 64) (by omega) (by omega)) dX12_gain_59 (fun H locs f_47 S_46 ef_f_47 e1 hW => ?_)
        have hTy := hTy.u59 e1 hT_x_21 ⟨f_47, rfl⟩
        have hS_o := un e1 hT_o hT_x_21 (by decide) hS_o
        have hFr := uf hFr e1 hT_x_21 (by decide) (by decide)
        have hS_x_21 := us e1
        refine lv_aload_n hx hb dX12_gain_60 rfl (lv_at hl 1 rfl) ?_
        refine pl_calli (va_runV (As := []) (rest := []) ⟨hx, hb, hml, hown, hT⟩ (m_presses l dC dI cy L kap pr S_46 H.size o hTy hT_o) (cwV 0 hT (gV w1455 w1457 ws94 w14 w1458) rfl rfl rfl (by decide +kernel) ⟨(Nat.le_of_ble_eq_true rfl), (Nat.le_of_ble_eq_true rfl)⟩) ⟨pcN.blind, pl_recv hK hW hT_o.1 hS_o rfl, pcN.pre hW.1 hK hW.2.1 hN (fun q h => absurd h List.not_mem_nil)⟩ rfl rfl hl.1 rfl (lv_room (Nat.le_of_ble_eq_true rfl)) dX12_gain_61 ⟨(Nat.le_of_ble_eq_true rfl), (Nat.le_of_ble_eq_true rfl)⟩) hW hA0 hA (fun r_49 S_48 H locs hrel hW => ?_)
        obtain ⟨hTy, hF1, hx1⟩ := hrel
        have hFr := hFr.tr hF1 (by decide)
        have hS_o := hF1.at hT_o (by decide) hS_o
        have hS_x_21 := hF1.at hT_x_21 (by decide) hS_x_21
        obtain ⟨hpk9, hdz9⟩ := hx1
        refine lv_pop hx hb dX12_gain_64 rfl ?_
        refine lv_iload hx hb dX12_gain_65 (lv_at hl 0 rfl) ?_
        refine lv_aload_n hx hb dX12_gain_67 rfl (lv_at hl 1 rfl) ?_
        refine vp_callSi (va_Run.run (va_runV (As := []) (rest := [.int r_41]) ⟨hx, hb, hml, hown, hT⟩ (m_sumOf l dC dI cy L kap pr S_48 H.size o hTy hT_o) (cwV 0 hT (gV w1483 w1485 ws100 w14 w1486) rfl rfl rfl (by decide +kernel) ⟨(Nat.le_of_ble_eq_true rfl), (Nat.le_of_ble_eq_true rfl)⟩) ⟨pcN.blind, pl_recv hK hW hT_o.1 hS_o rfl, pcN.pre hW.1 hK hW.2.1 hN (fun q h => absurd h List.not_mem_nil)⟩ rfl rfl hl.1 rfl (lv_room (Nat.le_of_ble_eq_true rfl)) dX12_gain_68 ⟨(Nat.le_of_ble_eq_true rfl), (Nat.le_of_ble_eq_true rfl)⟩)) (fun r_50 hr_50 => ?_)
        refine lv_isub hx hb dX12_gain_71 ?_
        refine lv_topi (fun z_51 ez_51 => ?_)
        exact W.iret (v := z_51) hx hb hr (fun t ht h9 => ⟨⟨z_51, S_48, rfl, ⟨hTy, hFr⟩, by rw [ht]; exact hW.1, va_K.moved h9.alike hK, hW.2.1⟩, hW.2.2.F ht⟩) hW.2.2.2.2 dX12_gain_72
      · refine lv_iconst (v := (-1)) hx hb dX12_gain_38 (by decide) ?_
        exact W.iret (v := (-1)) hx hb hr (fun t ht h9 => ⟨⟨(-1), S_39, rfl, ⟨hTy, hFr⟩, by rw [ht]; exact hW.1, va_K.moved h9.alike hK, hW.2.1⟩, hW.2.2.F ht⟩) hW.2.2.2.2 dX12_gain_39

set_option maxHeartbeats 4000000 in
set_option maxRecDepth 100000 in
theorem m_without (l : Launch) (dC : Nat → ClassId) (dI : Nat → Nat → Nat) (cy : Nat → ClassId) (L : List Nat) (kap : Nat → Nat) (pr : Pr) (S : Nat → va_E) (sz : Nat) (o : Nat) (pa : Int32) (kd : Int32) (hTy : Ty cy L kap pr S) (hT_o : TK L kap o 12) : Met l yX12_without (wT yX12_without cX12_without 5 (some .int)) ({ frames := 4, cells := 0, slots := 0, locals := 95 }) (pcN dC dI [.ref o, .int pa, .int kd] sz (va_pl L S) (cyT cy) NLs []) (va_Qi (fun r S' => Ty cy L kap pr S' ∧ Fr kap [12, 56, 59, 60, 61, 62, 63, 64, 65, 66] S S') (fun S' t => pB dC dI (AL L sz) (va_pl L S') (cyT cy) t) (AL L sz)) 0 0 (AL L sz) := by
  refine Met.ofW (cc := cX12_without) (maxL := 5) (ret := (some .int)) (by decide) rfl ?_
  intro p e s m args below meth c s₁ B hml hv
  obtain ⟨rfl, hsz, hP, hK, hD0, hN, -⟩ := hv
  have hx := B.exec
  have hb := B.bytes
  have hr := B.returns
  have hT : ∀ wd ∈ TB, wd.before [.ref o, .int pa, .int kd].toArray s = true := fun wd h => atoms_spec (ws := wT yX12_without cX12_without 5 (some .int)) B.pre wd (List.mem_cons_of_mem _ h)
  have hown : s.vm.findClass RX12 = some m.cls := findClass_of_methodNamed B.named
  have hlocks := B.notSynchronized
  subst hsz
  have hW : PW dC dI L (AL L s.heap.size) s.heap S s.heap [] := ⟨hP, pl_self hD0, va_S.rf⟩
  have hA0 : ∀ q, q ∈ L → AL L s.heap.size q := fun _ h => Or.inl h
  have hA : ∀ q, s.heap.size ≤ q → AL L s.heap.size q := fun _ h => Or.inr h
  have hFr : Fr kap [12, 56, 59, 60, 61, 62, 63, 64, 65, 66] S S := Fr.rf
  have hl := lv_entry ([.ref o, .int pa, .int kd]) (n := 5) (Nat.le_of_ble_eq_true rfl)
  rw [lg_entry_eq]
  generalize (lg_sl ([.ref o, .int pa, .int kd]) ++ List.replicate (5 - (lg_sl ([.ref o, .int pa, .int kd])).length) Slot.unset).toArray = ls at hl ⊢
  have hl : lv_has ls 5 [(0, .ref o), (1, .int pa), (2, .int kd)] := hl
  refine lv_aload_n hx hb dX12_without_0 rfl (lv_at hl 0 rfl) ?_
  refine lv_iconst (v := 0) hx hb dX12_without_1 (by decide) ?_
  obtain ⟨x_1, x_2, x_3, x_4, x_5, x_6, x_7, x_8, x_9, x_10, x_11, x_12, x_13, x_14, x_15, x_16, x_17, x_18, x_19, x_20, x_21, x_22, x_23, x_24, x_25, x_26, x_27, x_28, x_29, x_30, x_31, hS_o, hT_x_1, hT_x_2, hT_x_3, hT_x_4, hT_x_5, hb_x_6, hb_x_7, hb_x_8, hT_x_10, hb_q2, hb_x_11, hb_x_12, hT_x_17, hT_x_18, hb_x_19, hT_x_20, hT_x_21, hT_x_22, hT_x_23, hT_x_24, hT_x_25, hT_x_26, hT_x_27, hT_x_28, hT_x_29, hT_x_30, hb_x_31⟩ := hTy.k12 hT_o
  have hb_q2 : pr.2 ≤ 900 := hb_q2
  have hS_o : S o = .inr (12, [.ref x_1, .ref x_2, .ref x_3, .ref x_4, .ref x_5, .int (nI x_6), .int (nI x_7), .int (nI x_8), .int x_9, .ref x_10, .int (nI (pr.2)), .int (nI x_11), .int (nI x_12), .int x_13, .int x_14, .int x_15, .int x_16, .ref x_17, .ref x_18, .int (nI x_19), .ref x_20, .ref x_21, .ref x_22, .ref x_23, .ref x_24, .ref x_25, .ref x_26, .ref x_27, .ref x_28, .ref x_29, .ref x_30, .int (nI x_31)]) := hS_o
  refine pl_put (ci := 12) (v := .int 0) (ty := .int) (C := RX12) (T := TX12) (N := 32) (fs' := [.ref x_1, .ref x_2, .ref x_3, .ref x_4, .ref x_5, .int (nI x_6), .int (nI x_7), .int (nI x_8), .int 0, .ref x_10, .int (nI (pr.2)), .int (nI x_11), .int (nI x_12), .int x_13, .int x_14, .int x_15, .int x_16, .ref x_17, .ref x_18, .int (nI x_19), .ref x_20, .ref x_21, .ref x_22, .ref x_23, .ref x_24, .ref x_25, .ref x_26, .ref x_27, .ref x_28, .ref x_29, .ref x_30, .int (nI x_31)]) hx hb hT iX12 tyX12 tyX12_ok nmX12 hown hK hW hT_o.1 hS_o rfl 8 (by decide) w1090 rfl (by decide +kernel) rfl rfl (Nat.le_of_ble_eq_true rfl) rfl dX12_without_2 (fun H locs S_32 e1 hW => ?_)
  have hTy := hTy.u12 e1 hT_o ⟨x_1, x_2, x_3, x_4, x_5, x_6, x_7, x_8, 0, x_10, x_11, x_12, x_13, x_14, x_15, x_16, x_17, x_18, x_19, x_20, x_21, x_22, x_23, x_24, x_25, x_26, x_27, x_28, x_29, x_30, x_31, rfl, hT_x_1, hT_x_2, hT_x_3, hT_x_4, hT_x_5, (by omega), (by omega), (by omega), hT_x_10, (by show pr.2 ≤ 900; omega), (by omega), (by omega), hT_x_17, hT_x_18, (by omega), hT_x_20, hT_x_21, hT_x_22, hT_x_23, hT_x_24, hT_x_25, hT_x_26, hT_x_27, hT_x_28, hT_x_29, hT_x_30, (by omega)⟩
  have hws := (show wrs (.inr (12, [.ref x_1, .ref x_2, .ref x_3, .ref x_4, .ref x_5, .int (nI x_6), .int (nI x_7), .int (nI x_8), .int 0, .ref x_10, .int (nI (pr.2)), .int (nI x_11), .int (nI x_12), .int x_13, .int x_14, .int x_15, .int x_16, .ref x_17, .ref x_18, .int (nI x_19), .ref x_20, .ref x_21, .ref x_22, .ref x_23, .ref x_24, .ref x_25, .ref x_26, .ref x_27, .ref x_28, .ref x_29, .ref x_30, .int (nI x_31)])) = wrs (S o) from by rw [hS_o]; rfl)
  have hFr := ufs hFr e1 hT_o (by decide) hws
  have hS_o := us e1
  refine lv_aload_n hx hb dX12_without_5 rfl (lv_at hl 0 rfl) ?_
  refine lv_iload_n hx hb dX12_without_6 rfl (lv_at hl 1 rfl) ?_
  refine vp_callSi (va_Run.run (va_runV (As := [.int pa]) (rest := []) ⟨hx, hb, hml, hown, hT⟩ (m_isParty l dC dI cy L kap pr S_32 H.size o pa hTy hT_o) (cwV 1 hT (gV w1284 w1286 ws73 w14 w1287) rfl rfl rfl (by decide +kernel) ⟨(Nat.le_of_ble_eq_true rfl), (Nat.le_of_ble_eq_true rfl)⟩) ⟨pcN.blind, pl_recv hK hW hT_o.1 hS_o rfl, pcN.pre hW.1 hK hW.2.1 hN (fun q h => absurd h List.not_mem_nil)⟩ rfl rfl hl.1 rfl (lv_room (Nat.le_of_ble_eq_true rfl)) dX12_without_7 ⟨(Nat.le_of_ble_eq_true rfl), (Nat.le_of_ble_eq_true rfl)⟩)) (fun r_33 hr_33 => ?_)
  rcases hr_33 with hc_ | hc_
  · obtain rfl : r_33 = 0 := hc_
    refine lv_if_eq (tgt := 21) hx hb dX12_without_10 (by decide) (fun _ => ?_) (fun h => absurd (by decide) h)
    refine lv_bipush (v := (-2)) hx hb dX12_without_21 (by decide) ?_
    exact W.iret (v := (-2)) hx hb hr (fun t ht h9 => ⟨⟨(-2), S_32, rfl, ⟨hTy, hFr⟩, by rw [ht]; exact hW.1, va_K.moved h9.alike hK, hW.2.1⟩, hW.2.2.F ht⟩) hW.2.2.2.2 dX12_without_23
  · obtain ⟨rfl, k_34, hb_k_34, rfl⟩ := hc_
    refine lv_if_eq (tgt := 21) hx hb dX12_without_10 (by decide) (fun h => absurd h (by decide)) (fun _ => ?_)
    refine lv_aload_n hx hb dX12_without_13 rfl (lv_at hl 0 rfl) ?_
    refine lv_iload_n hx hb dX12_without_14 rfl (lv_at hl 2 rfl) ?_
    refine vp_callSi (va_Run.run (va_runV (As := [.int kd]) (rest := []) ⟨hx, hb, hml, hown, hT⟩ (m_isKind l dC dI cy L kap pr S_32 H.size o kd hTy hT_o) (cwV 1 hT (gV w1288 w1290 ws74 w14 w1291) rfl rfl rfl (by decide +kernel) ⟨(Nat.le_of_ble_eq_true rfl), (Nat.le_of_ble_eq_true rfl)⟩) ⟨pcN.blind, pl_recv hK hW hT_o.1 hS_o rfl, pcN.pre hW.1 hK hW.2.1 hN (fun q h => absurd h List.not_mem_nil)⟩ rfl rfl hl.1 rfl (lv_room (Nat.le_of_ble_eq_true rfl)) dX12_without_15 ⟨(Nat.le_of_ble_eq_true rfl), (Nat.le_of_ble_eq_true rfl)⟩)) (fun r_35 hr_35 => ?_)
    rcases hr_35 with hc_ | hc_
    · obtain rfl : r_35 = 0 := hc_
      refine lv_if_ne (tgt := 24) hx hb dX12_without_18 (by decide) (fun h => absurd (by decide) h) (fun _ => ?_)
      refine lv_bipush (v := (-2)) hx hb dX12_without_21 (by decide) ?_
      exact W.iret (v := (-2)) hx hb hr (fun t ht h9 => ⟨⟨(-2), S_32, rfl, ⟨hTy, hFr⟩, by rw [ht]; exact hW.1, va_K.moved h9.alike hK, hW.2.1⟩, hW.2.2.F ht⟩) hW.2.2.2.2 dX12_without_23
    · obtain ⟨rfl, k_36, hb_k_36, rfl⟩ := hc_
      refine lv_if_ne (tgt := 24) hx hb dX12_without_18 (by decide) (fun _ => ?_) (fun h => absurd h (by decide))
      refine lv_aload_n hx hb dX12_without_24 rfl (lv_at hl 0 rfl) ?_
      refine lv_iload_n hx hb dX12_without_25 rfl (lv_at hl 2 rfl) ?_
      refine lv_iload_n hx hb dX12_without_26 rfl (lv_at hl 1 rfl) ?_
      refine pl_callv (va_runV (As := [.int (nI k_36), .int (nI k_34)]) (rest := []) ⟨hx, hb, hml, hown, hT⟩ (m_laysBounds l dC dI cy L kap pr S_32 H.size o (nI k_36) (nI k_34) hTy hT_o) (cwV 2 hT (gV w1447 w1449 ws93 w14 w1450) rfl rfl rfl (by decide +kernel) ⟨(Nat.le_of_ble_eq_true rfl), (Nat.le_of_ble_eq_true rfl)⟩) ⟨pcN.blind, pl_recv hK hW hT_o.1 hS_o rfl, pcN.pre hW.1 hK hW.2.1 hN (fun q h => absurd h List.not_mem_nil)⟩ rfl rfl hl.1 rfl (lv_room (Nat.le_of_ble_eq_true rfl)) dX12_without_27 ⟨(Nat.le_of_ble_eq_true rfl), (Nat.le_of_ble_eq_true rfl)⟩) hW hA0 hA (fun S_37 H locs hrel hW => ?_)
      obtain ⟨hTy, hF1⟩ := hrel
      have hFr := hFr.tr hF1 (by decide)
      have hS_o := hF1.at hT_o (by decide) hS_o
      refine lv_aload_n hx hb dX12_without_30 rfl (lv_at hl 0 rfl) ?_
      refine pl_calli (va_runV (As := []) (rest := []) ⟨hx, hb, hml, hown, hT⟩ (m_presses l dC dI cy L kap pr S_37 H.size o hTy hT_o) (cwV 0 hT (gV w1455 w1457 ws94 w14 w1458) rfl rfl rfl (by decide +kernel) ⟨(Nat.le_of_ble_eq_true rfl), (Nat.le_of_ble_eq_true rfl)⟩) ⟨pcN.blind, pl_recv hK hW hT_o.1 hS_o rfl, pcN.pre hW.1 hK hW.2.1 hN (fun q h => absurd h List.not_mem_nil)⟩ rfl rfl hl.1 rfl (lv_room (Nat.le_of_ble_eq_true rfl)) dX12_without_31 ⟨(Nat.le_of_ble_eq_true rfl), (Nat.le_of_ble_eq_true rfl)⟩) hW hA0 hA (fun r_39 S_38 H locs hrel hW => ?_)
      obtain ⟨hTy, hF1, hx1⟩ := hrel
      have hFr := hFr.tr hF1 (by decide)
      have hS_o := hF1.at hT_o (by decide) hS_o
      obtain ⟨hpk9, hdz9⟩ := hx1
      refine lv_if_ne (tgt := 39) hx hb dX12_without_34 (by decide) (fun c_34 => ?_) (fun c_34 => ?_)
      · refine lv_aload_n hx hb dX12_without_39 rfl (lv_at hl 0 rfl) ?_
        refine vp_callSi (va_Run.run (va_runV (As := []) (rest := []) ⟨hx, hb, hml, hown, hT⟩ (m_sumOf l dC dI cy L kap pr S_38 H.size o hTy hT_o) (cwV 0 hT (gV w1483 w1485 ws100 w14 w1486) rfl rfl rfl (by decide +kernel) ⟨(Nat.le_of_ble_eq_true rfl), (Nat.le_of_ble_eq_true rfl)⟩) ⟨pcN.blind, pl_recv hK hW hT_o.1 hS_o rfl, pcN.pre hW.1 hK hW.2.1 hN (fun q h => absurd h List.not_mem_nil)⟩ rfl rfl hl.1 rfl (lv_room (Nat.le_of_ble_eq_true rfl)) dX12_without_40 ⟨(Nat.le_of_ble_eq_true rfl), (Nat.le_of_ble_eq_true rfl)⟩)) (fun r_40 hr_40 => ?_)
        refine lv_istore_n (lv' := [(3, .int r_40), (0, .ref o), (1, .int (nI k_34)), (2, .int (nI k_36))]) hx hb dX12_without_43 rfl hl (by decide) rfl (fun ls hl => ?_)
        refine lv_iconst (v := 0) hx hb dX12_without_44 (by decide) ?_
        refine lv_istore (lv' := [(4, .int 0), (3, .int r_40), (0, .ref o), (1, .int (nI k_34)), (2, .int (nI k_36))]) hx hb dX12_without_45 hl (by decide) rfl (fun ls hl => ?_)
        have loop : ∀ (fuel : Nat) (i : Nat) (sm : Int32) (SS : Nat → va_E) (H : Heap) (locs : List Loc) (ls : Array Slot), 41 - i < fuel → (i ≤ 40) → Ty cy L kap pr SS → Fr kap [12, 56, 59, 60, 61, 62, 63, 64, 65, 66] S SS → Fr kap [] S_38 SS → PW dC dI L (AL L s.heap.size) s.heap SS H locs → lv_has ls 5 [(4, .int (nI i)), (3, .int sm), (0, .ref o), (1, .int (nI k_34)), (2, .int (nI k_36))] → W p l e (headSpec (wT yX12_without cX12_without 5 (some .int)) { frames := 4, cells := 0, slots := 0, locals := 95 }).room s m [.ref o, .int (nI k_34), .int (nI k_36)].toArray below meth c H locs 0 0 (MQ below (va_Qi (fun r S' => Ty cy L kap pr S' ∧ Fr kap [12, 56, 59, 60, 61, 62, 63, 64, 65, 66] S S') (fun S' t => pB dC dI (AL L s.heap.size) (va_pl L S') (cyT cy) t) (AL L s.heap.size)) [.ref o, .int (nI k_34), .int (nI k_36)].toArray s 0 0 (AL L s.heap.size)) (F0 m 47 ls []) := by
          intro fuel
          induction fuel with
          | zero => intro i sm SS H locs ls h; exact absurd h (Nat.not_lt_zero _)
          | succ fu47 ih47 =>
            intro i sm S_41 H locs ls hm47 hb_i hTy hFr hFl47 hW hl
            have hS_o := hFl47.at hT_o (by decide) hS_o
            refine lv_iload hx hb dX12_without_47 (lv_at hl 0 rfl) ?_
            refine lv_aload_n hx hb dX12_without_49 rfl (lv_at hl 2 rfl) ?_
            refine pl_get (ci := 12) (v := .ref x_1) (C := RX12) (T := TX12) (N := 32) hx hb hT iX12 hown hK hW hT_o.1 hS_o rfl 0 (by decide) w1082 rfl dX12_without_50 ?_
            refine lv_iconst (v := 0) hx hb dX12_without_53 (by decide) ?_
            obtain ⟨f_42, hS_x_1, hi_f_42⟩ := hTy.k50 hT_x_1
            refine pl_iald hx hb hK hW hT_x_1.1 hS_x_1 (vp_in_nI (n := 0) (N := 266) (by omega) (by omega)) dX12_without_54 ?_
            refine lv_topi (fun y_43 ey_43 => ?_)
            have hv_y_43 : okS (0) y_43 := by rw [ey_43]; show okS _ (f_42 (nI (0)).toNatClampNeg); rw [nI_clamp (by omega)]; exact hi_f_42 (0) (by omega)
            obtain ⟨k_44, hb_k_44, hq_k_44⟩ := hv_y_43.1 rfl
            obtain rfl : y_43 = nI k_44 := hq_k_44
            refine lv_icmp_ge (tgt := 98) hx hb dX12_without_55 (by decide) (fun c_55 => ?_) (fun c_55 => ?_)
            · have c_55 : k_44 ≤ i := (nI_leI (a := k_44) (b := i) (by omega) (by omega)).mp c_55
              refine lv_iload_n hx hb dX12_without_98 rfl (lv_at hl 1 rfl) ?_
              exact W.iret (v := sm) hx hb hr (fun t ht h9 => ⟨⟨sm, S_41, rfl, ⟨hTy, hFr⟩, by rw [ht]; exact hW.1, va_K.moved h9.alike hK, hW.2.1⟩, hW.2.2.F ht⟩) hW.2.2.2.2 dX12_without_99
            · have c_55 : ¬ (k_44 ≤ i) := fun hh9 => c_55 ((nI_leI (a := k_44) (b := i) (by omega) (by omega)).mpr hh9)
              refine lv_iload_n hx hb dX12_without_58 rfl (lv_at hl 1 rfl) ?_
              refine lv_aload_n hx hb dX12_without_59 rfl (lv_at hl 2 rfl) ?_
              refine lv_iload hx hb dX12_without_60 (lv_at hl 0 rfl) ?_
              refine lv_iload_n hx hb dX12_without_62 rfl (lv_at hl 4 rfl) ?_
              refine vp_callSi (va_Run.run (va_runV (As := [.int (nI i), .int (nI k_36)]) (rest := [.int sm]) ⟨hx, hb, hml, hown, hT⟩ (m_isFree l dC dI cy L kap pr S_41 H.size o i (nI k_36) hTy hT_o (by omega)) (cwV 2 hT (gV w1340 w1342 ws79 w14 w1343) rfl rfl rfl (by decide +kernel) ⟨(Nat.le_of_ble_eq_true rfl), (Nat.le_of_ble_eq_true rfl)⟩) ⟨pcN.blind, pl_recv hK hW hT_o.1 hS_o rfl, pcN.pre hW.1 hK hW.2.1 hN (fun q h => absurd h List.not_mem_nil)⟩ rfl rfl hl.1 rfl (lv_room (Nat.le_of_ble_eq_true rfl)) dX12_without_63 ⟨(Nat.le_of_ble_eq_true rfl), (Nat.le_of_ble_eq_true rfl)⟩)) (fun r_45 hr_45 => ?_)
              refine lv_if_eq (tgt := 89) hx hb dX12_without_66 (by decide) (fun c_66 => ?_) (fun c_66 => ?_)
              · refine lv_iconst (v := 0) hx hb dX12_without_89 (by decide) ?_
                refine lv_iadd hx hb dX12_without_90 ?_
                refine lv_topi (fun z_46 ez_46 => ?_)
                refine lv_istore_n (lv' := [(3, .int z_46), (4, .int (nI i)), (0, .ref o), (1, .int (nI k_34)), (2, .int (nI k_36))]) hx hb dX12_without_91 rfl hl (by decide) rfl (fun ls hl => ?_)
                refine lv_iinc (v := nI (i + 1)) (lv' := [(4, .int (nI (i + 1))), (3, .int z_46), (0, .ref o), (1, .int (nI k_34)), (2, .int (nI k_36))]) hx hb dX12_without_92 hl (k := 1) rfl (nI_add (i) 1) (by decide) rfl (fun ls hl => ?_)
                refine lv_goto (tgt := 47) hx hb dX12_without_95 (by decide) ?_
                exact ih47 (i + 1) z_46 _ _ _ ls (by omega) (by omega) hTy hFr hFl47 hW (lv_sub hl [0, 1, 2, 3, 4] rfl)
              · refine lv_aload_n hx hb dX12_without_69 rfl (lv_at hl 2 rfl) ?_
                refine lv_iload hx hb dX12_without_70 (lv_at hl 0 rfl) ?_
                refine lv_iload_n hx hb dX12_without_72 rfl (lv_at hl 3 rfl) ?_
                refine vp_callSi (va_Run.run (va_runV (As := [.int (nI i), .int (nI k_34)]) (rest := [.int sm]) ⟨hx, hb, hml, hown, hT⟩ (m_isOf l dC dI cy L kap pr S_41 H.size o i (nI k_34) hTy hT_o (by omega)) (cwV 2 hT (gV w1344 w1346 ws80 w14 w1347) rfl rfl rfl (by decide +kernel) ⟨(Nat.le_of_ble_eq_true rfl), (Nat.le_of_ble_eq_true rfl)⟩) ⟨pcN.blind, pl_recv hK hW hT_o.1 hS_o rfl, pcN.pre hW.1 hK hW.2.1 hN (fun q h => absurd h List.not_mem_nil)⟩ rfl rfl hl.1 rfl (lv_room (Nat.le_of_ble_eq_true rfl)) dX12_without_73 ⟨(Nat.le_of_ble_eq_true rfl), (Nat.le_of_ble_eq_true rfl)⟩)) (fun r_47 hr_47 => ?_)
                refine lv_if_eq (tgt := 89) hx hb dX12_without_76 (by decide) (fun c_76 => ?_) (fun c_76 => ?_)
                · refine lv_iconst (v := 0) hx hb dX12_without_89 (by decide) ?_
                  refine lv_iadd hx hb dX12_without_90 ?_
                  refine lv_topi (fun z_48 ez_48 => ?_)
                  refine lv_istore_n (lv' := [(3, .int z_48), (4, .int (nI i)), (0, .ref o), (1, .int (nI k_34)), (2, .int (nI k_36))]) hx hb dX12_without_91 rfl hl (by decide) rfl (fun ls hl => ?_)
                  refine lv_iinc (v := nI (i + 1)) (lv' := [(4, .int (nI (i + 1))), (3, .int z_48), (0, .ref o), (1, .int (nI k_34)), (2, .int (nI k_36))]) hx hb dX12_without_92 hl (k := 1) rfl (nI_add (i) 1) (by decide) rfl (fun ls hl => ?_)
                  refine lv_goto (tgt := 47) hx hb dX12_without_95 (by decide) ?_
                  exact ih47 (i + 1) z_48 _ _ _ ls (by omega) (by omega) hTy hFr hFl47 hW (lv_sub hl [0, 1, 2, 3, 4] rfl)
                · refine lv_aload_n hx hb dX12_without_79 rfl (lv_at hl 2 rfl) ?_
                  refine lv_iload hx hb dX12_without_80 (lv_at hl 0 rfl) ?_
                  refine lv_iconst (v := 2) hx hb dX12_without_82 (by decide) ?_
                  refine vp_callSi (va_Run.run (va_runV (As := [.int (nI i), .int 2]) (rest := [.int sm]) ⟨hx, hb, hml, hown, hT⟩ (m_tradeAt l dC dI cy L kap pr S_41 H.size o i 2 hTy hT_o (by omega) (by omega)) (cwV 2 hT (gV w1247 w1249 ws66 w14 w1250) rfl rfl rfl (by decide +kernel) ⟨(Nat.le_of_ble_eq_true rfl), (Nat.le_of_ble_eq_true rfl)⟩) ⟨pcN.blind, pl_recv hK hW hT_o.1 hS_o rfl, pcN.pre hW.1 hK hW.2.1 hN (fun q h => absurd h List.not_mem_nil)⟩ rfl rfl hl.1 rfl (lv_room (Nat.le_of_ble_eq_true rfl)) dX12_without_83 ⟨(Nat.le_of_ble_eq_true rfl), (Nat.le_of_ble_eq_true rfl)⟩)) (fun r_49 hr_49 => ?_)
                  refine lv_goto (tgt := 90) hx hb dX12_without_86 (by decide) ?_
                  refine lv_iadd hx hb dX12_without_90 ?_
                  refine lv_topi (fun z_50 ez_50 => ?_)
                  refine lv_istore_n (lv' := [(3, .int z_50), (4, .int (nI i)), (0, .ref o), (1, .int (nI k_34)), (2, .int (nI k_36))]) hx hb dX12_without_91 rfl hl (by decide) rfl (fun ls hl => ?_)
                  refine lv_iinc (v := nI (i + 1)) (lv' := [(4, .int (nI (i + 1))), (3, .int z_50), (0, .ref o), (1, .int (nI k_34)), (2, .int (nI k_36))]) hx hb dX12_without_92 hl (k := 1) rfl (nI_add (i) 1) (by decide) rfl (fun ls hl => ?_)
                  refine lv_goto (tgt := 47) hx hb dX12_without_95 (by decide) ?_
                  exact ih47 (i + 1) z_50 _ _ _ ls (by omega) (by omega) hTy hFr hFl47 hW (lv_sub hl [0, 1, 2, 3, 4] rfl)
        exact loop ((41 - 0) + 1) 0 r_40 _ _ _ ls (Nat.lt_succ_self _) (by omega) hTy hFr Fr.rf hW (lv_sub hl [0, 1, 2, 3, 4] rfl)
      · refine lv_iconst (v := (-1)) hx hb dX12_without_37 (by decide) ?_
        exact W.iret (v := (-1)) hx hb hr (fun t ht h9 => ⟨⟨(-1), S_38, rfl, ⟨hTy, hFr⟩, by rw [ht]; exact hW.1, va_K.moved h9.alike hK, hW.2.1⟩, hW.2.2.F ht⟩) hW.2.2.2.2 dX12_without_38

set_option maxHeartbeats 4000000 in
set_option maxRecDepth 100000 in
theorem m_relief (l : Launch) (dC : Nat → ClassId) (dI : Nat → Nat → Nat) (cy : Nat → ClassId) (L : List Nat) (kap : Nat → Nat) (pr : Pr) (S : Nat → va_E) (sz : Nat) (o : Nat) (pa : Int32) (kd : Int32) (hTy : Ty cy L kap pr S) (hT_o : TK L kap o 12) : Met l yX12_relief (wT yX12_relief cX12_relief 3 (some .int)) ({ frames := 6, cells := 0, slots := 0, locals := 145 }) (pcN dC dI [.ref o, .int pa, .int kd] sz (va_pl L S) (cyT cy) NLs []) (va_Qi (fun r S' => Ty cy L kap pr S' ∧ Fr kap [12, 56, 59, 60, 61, 62, 63, 64, 65, 66] S S') (fun S' t => pB dC dI (AL L sz) (va_pl L S') (cyT cy) t) (AL L sz)) 0 0 (AL L sz) := by
  refine Met.ofW (cc := cX12_relief) (maxL := 3) (ret := (some .int)) (by decide) rfl ?_
  intro p e s m args below meth c s₁ B hml hv
  obtain ⟨rfl, hsz, hP, hK, hD0, hN, -⟩ := hv
  have hx := B.exec
  have hb := B.bytes
  have hr := B.returns
  have hT : ∀ wd ∈ TB, wd.before [.ref o, .int pa, .int kd].toArray s = true := fun wd h => atoms_spec (ws := wT yX12_relief cX12_relief 3 (some .int)) B.pre wd (List.mem_cons_of_mem _ h)
  have hown : s.vm.findClass RX12 = some m.cls := findClass_of_methodNamed B.named
  have hlocks := B.notSynchronized
  subst hsz
  have hW : PW dC dI L (AL L s.heap.size) s.heap S s.heap [] := ⟨hP, pl_self hD0, va_S.rf⟩
  have hA0 : ∀ q, q ∈ L → AL L s.heap.size q := fun _ h => Or.inl h
  have hA : ∀ q, s.heap.size ≤ q → AL L s.heap.size q := fun _ h => Or.inr h
  have hFr : Fr kap [12, 56, 59, 60, 61, 62, 63, 64, 65, 66] S S := Fr.rf
  have hl := lv_entry ([.ref o, .int pa, .int kd]) (n := 3) (Nat.le_of_ble_eq_true rfl)
  rw [lg_entry_eq]
  generalize (lg_sl ([.ref o, .int pa, .int kd]) ++ List.replicate (3 - (lg_sl ([.ref o, .int pa, .int kd])).length) Slot.unset).toArray = ls at hl ⊢
  have hl : lv_has ls 3 [(0, .ref o), (1, .int pa), (2, .int kd)] := hl
  refine lv_aload_n hx hb dX12_relief_0 rfl (lv_at hl 0 rfl) ?_
  refine lv_iconst (v := 0) hx hb dX12_relief_1 (by decide) ?_
  obtain ⟨x_1, x_2, x_3, x_4, x_5, x_6, x_7, x_8, x_9, x_10, x_11, x_12, x_13, x_14, x_15, x_16, x_17, x_18, x_19, x_20, x_21, x_22, x_23, x_24, x_25, x_26, x_27, x_28, x_29, x_30, x_31, hS_o, hT_x_1, hT_x_2, hT_x_3, hT_x_4, hT_x_5, hb_x_6, hb_x_7, hb_x_8, hT_x_10, hb_q2, hb_x_11, hb_x_12, hT_x_17, hT_x_18, hb_x_19, hT_x_20, hT_x_21, hT_x_22, hT_x_23, hT_x_24, hT_x_25, hT_x_26, hT_x_27, hT_x_28, hT_x_29, hT_x_30, hb_x_31⟩ := hTy.k12 hT_o
  have hb_q2 : pr.2 ≤ 900 := hb_q2
  have hS_o : S o = .inr (12, [.ref x_1, .ref x_2, .ref x_3, .ref x_4, .ref x_5, .int (nI x_6), .int (nI x_7), .int (nI x_8), .int x_9, .ref x_10, .int (nI (pr.2)), .int (nI x_11), .int (nI x_12), .int x_13, .int x_14, .int x_15, .int x_16, .ref x_17, .ref x_18, .int (nI x_19), .ref x_20, .ref x_21, .ref x_22, .ref x_23, .ref x_24, .ref x_25, .ref x_26, .ref x_27, .ref x_28, .ref x_29, .ref x_30, .int (nI x_31)]) := hS_o
  refine pl_put (ci := 12) (v := .int 0) (ty := .int) (C := RX12) (T := TX12) (N := 32) (fs' := [.ref x_1, .ref x_2, .ref x_3, .ref x_4, .ref x_5, .int (nI x_6), .int (nI x_7), .int (nI x_8), .int 0, .ref x_10, .int (nI (pr.2)), .int (nI x_11), .int (nI x_12), .int x_13, .int x_14, .int x_15, .int x_16, .ref x_17, .ref x_18, .int (nI x_19), .ref x_20, .ref x_21, .ref x_22, .ref x_23, .ref x_24, .ref x_25, .ref x_26, .ref x_27, .ref x_28, .ref x_29, .ref x_30, .int (nI x_31)]) hx hb hT iX12 tyX12 tyX12_ok nmX12 hown hK hW hT_o.1 hS_o rfl 8 (by decide) w1090 rfl (by decide +kernel) rfl rfl (Nat.le_of_ble_eq_true rfl) rfl dX12_relief_2 (fun H locs S_32 e1 hW => ?_)
  have hTy := hTy.u12 e1 hT_o ⟨x_1, x_2, x_3, x_4, x_5, x_6, x_7, x_8, 0, x_10, x_11, x_12, x_13, x_14, x_15, x_16, x_17, x_18, x_19, x_20, x_21, x_22, x_23, x_24, x_25, x_26, x_27, x_28, x_29, x_30, x_31, rfl, hT_x_1, hT_x_2, hT_x_3, hT_x_4, hT_x_5, (by omega), (by omega), (by omega), hT_x_10, (by show pr.2 ≤ 900; omega), (by omega), (by omega), hT_x_17, hT_x_18, (by omega), hT_x_20, hT_x_21, hT_x_22, hT_x_23, hT_x_24, hT_x_25, hT_x_26, hT_x_27, hT_x_28, hT_x_29, hT_x_30, (by omega)⟩
  have hws := (show wrs (.inr (12, [.ref x_1, .ref x_2, .ref x_3, .ref x_4, .ref x_5, .int (nI x_6), .int (nI x_7), .int (nI x_8), .int 0, .ref x_10, .int (nI (pr.2)), .int (nI x_11), .int (nI x_12), .int x_13, .int x_14, .int x_15, .int x_16, .ref x_17, .ref x_18, .int (nI x_19), .ref x_20, .ref x_21, .ref x_22, .ref x_23, .ref x_24, .ref x_25, .ref x_26, .ref x_27, .ref x_28, .ref x_29, .ref x_30, .int (nI x_31)])) = wrs (S o) from by rw [hS_o]; rfl)
  have hFr := ufs hFr e1 hT_o (by decide) hws
  have hS_o := us e1
  refine lv_aload_n hx hb dX12_relief_5 rfl (lv_at hl 0 rfl) ?_
  refine lv_iload_n hx hb dX12_relief_6 rfl (lv_at hl 1 rfl) ?_
  refine vp_callSi (va_Run.run (va_runV (As := [.int pa]) (rest := []) ⟨hx, hb, hml, hown, hT⟩ (m_isParty l dC dI cy L kap pr S_32 H.size o pa hTy hT_o) (cwV 1 hT (gV w1284 w1286 ws73 w14 w1287) rfl rfl rfl (by decide +kernel) ⟨(Nat.le_of_ble_eq_true rfl), (Nat.le_of_ble_eq_true rfl)⟩) ⟨pcN.blind, pl_recv hK hW hT_o.1 hS_o rfl, pcN.pre hW.1 hK hW.2.1 hN (fun q h => absurd h List.not_mem_nil)⟩ rfl rfl hl.1 rfl (lv_room (Nat.le_of_ble_eq_true rfl)) dX12_relief_7 ⟨(Nat.le_of_ble_eq_true rfl), (Nat.le_of_ble_eq_true rfl)⟩)) (fun r_33 hr_33 => ?_)
  rcases hr_33 with hc_ | hc_
  · obtain rfl : r_33 = 0 := hc_
    refine lv_if_eq (tgt := 21) hx hb dX12_relief_10 (by decide) (fun _ => ?_) (fun h => absurd (by decide) h)
    refine lv_bipush (v := (-2)) hx hb dX12_relief_21 (by decide) ?_
    exact W.iret (v := (-2)) hx hb hr (fun t ht h9 => ⟨⟨(-2), S_32, rfl, ⟨hTy, hFr⟩, by rw [ht]; exact hW.1, va_K.moved h9.alike hK, hW.2.1⟩, hW.2.2.F ht⟩) hW.2.2.2.2 dX12_relief_23
  · obtain ⟨rfl, k_34, hb_k_34, rfl⟩ := hc_
    refine lv_if_eq (tgt := 21) hx hb dX12_relief_10 (by decide) (fun h => absurd h (by decide)) (fun _ => ?_)
    refine lv_aload_n hx hb dX12_relief_13 rfl (lv_at hl 0 rfl) ?_
    refine lv_iload_n hx hb dX12_relief_14 rfl (lv_at hl 2 rfl) ?_
    refine vp_callSi (va_Run.run (va_runV (As := [.int kd]) (rest := []) ⟨hx, hb, hml, hown, hT⟩ (m_isKind l dC dI cy L kap pr S_32 H.size o kd hTy hT_o) (cwV 1 hT (gV w1288 w1290 ws74 w14 w1291) rfl rfl rfl (by decide +kernel) ⟨(Nat.le_of_ble_eq_true rfl), (Nat.le_of_ble_eq_true rfl)⟩) ⟨pcN.blind, pl_recv hK hW hT_o.1 hS_o rfl, pcN.pre hW.1 hK hW.2.1 hN (fun q h => absurd h List.not_mem_nil)⟩ rfl rfl hl.1 rfl (lv_room (Nat.le_of_ble_eq_true rfl)) dX12_relief_15 ⟨(Nat.le_of_ble_eq_true rfl), (Nat.le_of_ble_eq_true rfl)⟩)) (fun r_35 hr_35 => ?_)
    rcases hr_35 with hc_ | hc_
    · obtain rfl : r_35 = 0 := hc_
      refine lv_if_ne (tgt := 24) hx hb dX12_relief_18 (by decide) (fun h => absurd (by decide) h) (fun _ => ?_)
      refine lv_bipush (v := (-2)) hx hb dX12_relief_21 (by decide) ?_
      exact W.iret (v := (-2)) hx hb hr (fun t ht h9 => ⟨⟨(-2), S_32, rfl, ⟨hTy, hFr⟩, by rw [ht]; exact hW.1, va_K.moved h9.alike hK, hW.2.1⟩, hW.2.2.F ht⟩) hW.2.2.2.2 dX12_relief_23
    · obtain ⟨rfl, k_36, hb_k_36, rfl⟩ := hc_
      refine lv_if_ne (tgt := 24) hx hb dX12_relief_18 (by decide) (fun _ => ?_) (fun h => absurd h (by decide))
      refine lv_aload_n hx hb dX12_relief_24 rfl (lv_at hl 0 rfl) ?_
      refine lv_iload_n hx hb dX12_relief_25 rfl (lv_at hl 2 rfl) ?_
      refine pl_calli (va_runV (As := [.int (nI k_36)]) (rest := []) ⟨hx, hb, hml, hown, hT⟩ (m_pressesFirst l dC dI cy L kap pr S_32 H.size o (nI k_36) hTy hT_o) (cwV 1 hT (gV w1491 w1493 ws101 w14 w1494) rfl rfl rfl (by decide +kernel) ⟨(Nat.le_of_ble_eq_true rfl), (Nat.le_of_ble_eq_true rfl)⟩) ⟨pcN.blind, pl_recv hK hW hT_o.1 hS_o rfl, pcN.pre hW.1 hK hW.2.1 hN (fun q h => absurd h List.not_mem_nil)⟩ rfl rfl hl.1 rfl (lv_room (Nat.le_of_ble_eq_true rfl)) dX12_relief_26 ⟨(Nat.le_of_ble_eq_true rfl), (Nat.le_of_ble_eq_true rfl)⟩) hW hA0 hA (fun r_38 S_37 H locs hrel hW => ?_)
      obtain ⟨hTy, hF1, hx1⟩ := hrel
      have hFr := hFr.tr hF1 (by decide)
      have hS_o := hF1.at hT_o (by decide) hS_o
      have hdz9 := hx1
      refine lv_if_eq (tgt := 40) hx hb dX12_relief_29 (by decide) (fun c_29 => ?_) (fun c_29 => ?_)
      · refine lv_iconst (v := (-1)) hx hb dX12_relief_40 (by decide) ?_
        exact W.iret (v := (-1)) hx hb hr (fun t ht h9 => ⟨⟨(-1), S_37, rfl, ⟨hTy, hFr⟩, by rw [ht]; exact hW.1, va_K.moved h9.alike hK, hW.2.1⟩, hW.2.2.F ht⟩) hW.2.2.2.2 dX12_relief_41
      · refine lv_aload_n hx hb dX12_relief_32 rfl (lv_at hl 0 rfl) ?_
        refine lv_iload_n hx hb dX12_relief_33 rfl (lv_at hl 1 rfl) ?_
        refine vp_callSi (va_Run.run (va_runV (As := [.int (nI k_34)]) (rest := []) ⟨hx, hb, hml, hown, hT⟩ (m_reliefOf l dC dI cy L kap pr S_37 H.size o k_34 hTy hT_o (by omega)) (cwV 1 hT (gV w1527 w1529 ws105 w14 w1530) rfl rfl rfl (by decide +kernel) ⟨(Nat.le_of_ble_eq_true rfl), (Nat.le_of_ble_eq_true rfl)⟩) ⟨pcN.blind, pl_recv hK hW hT_o.1 hS_o rfl, pcN.pre hW.1 hK hW.2.1 hN (fun q h => absurd h List.not_mem_nil)⟩ rfl rfl hl.1 rfl (lv_room (Nat.le_of_ble_eq_true rfl)) dX12_relief_34 ⟨(Nat.le_of_ble_eq_true rfl), (Nat.le_of_ble_eq_true rfl)⟩)) (fun r_39 hr_39 => ?_)
        refine lv_goto (tgt := 41) hx hb dX12_relief_37 (by decide) ?_
        exact W.iret (v := r_39) hx hb hr (fun t ht h9 => ⟨⟨r_39, S_37, rfl, ⟨hTy, hFr⟩, by rw [ht]; exact hW.1, va_K.moved h9.alike hK, hW.2.1⟩, hW.2.2.F ht⟩) hW.2.2.2.2 dX12_relief_41

set_option maxHeartbeats 4000000 in
set_option maxRecDepth 100000 in
theorem m_relieved (l : Launch) (dC : Nat → ClassId) (dI : Nat → Nat → Nat) (cy : Nat → ClassId) (L : List Nat) (kap : Nat → Nat) (pr : Pr) (S : Nat → va_E) (sz : Nat) (o : Nat) (kd : Int32) (hTy : Ty cy L kap pr S) (hT_o : TK L kap o 12) : Met l yX12_relieved (wT yX12_relieved cX12_relieved 4 (some .int)) ({ frames := 6, cells := 0, slots := 0, locals := 145 }) (pcN dC dI [.ref o, .int kd] sz (va_pl L S) (cyT cy) NLs []) (va_Qi (fun r S' => Ty cy L kap pr S' ∧ Fr kap [12, 56, 59, 60, 61, 62, 63, 64, 65, 66] S S') (fun S' t => pB dC dI (AL L sz) (va_pl L S') (cyT cy) t) (AL L sz)) 0 0 (AL L sz) := by
  refine Met.ofW (cc := cX12_relieved) (maxL := 4) (ret := (some .int)) (by decide) rfl ?_
  intro p e s m args below meth c s₁ B hml hv
  obtain ⟨rfl, hsz, hP, hK, hD0, hN, -⟩ := hv
  have hx := B.exec
  have hb := B.bytes
  have hr := B.returns
  have hT : ∀ wd ∈ TB, wd.before [.ref o, .int kd].toArray s = true := fun wd h => atoms_spec (ws := wT yX12_relieved cX12_relieved 4 (some .int)) B.pre wd (List.mem_cons_of_mem _ h)
  have hown : s.vm.findClass RX12 = some m.cls := findClass_of_methodNamed B.named
  have hlocks := B.notSynchronized
  subst hsz
  have hW : PW dC dI L (AL L s.heap.size) s.heap S s.heap [] := ⟨hP, pl_self hD0, va_S.rf⟩
  have hA0 : ∀ q, q ∈ L → AL L s.heap.size q := fun _ h => Or.inl h
  have hA : ∀ q, s.heap.size ≤ q → AL L s.heap.size q := fun _ h => Or.inr h
  have hFr : Fr kap [12, 56, 59, 60, 61, 62, 63, 64, 65, 66] S S := Fr.rf
  have hl := lv_entry ([.ref o, .int kd]) (n := 4) (Nat.le_of_ble_eq_true rfl)
  rw [lg_entry_eq]
  generalize (lg_sl ([.ref o, .int kd]) ++ List.replicate (4 - (lg_sl ([.ref o, .int kd])).length) Slot.unset).toArray = ls at hl ⊢
  have hl : lv_has ls 4 [(0, .ref o), (1, .int kd)] := hl
  refine lv_aload_n hx hb dX12_relieved_0 rfl (lv_at hl 0 rfl) ?_
  refine lv_iconst (v := 0) hx hb dX12_relieved_1 (by decide) ?_
  obtain ⟨x_1, x_2, x_3, x_4, x_5, x_6, x_7, x_8, x_9, x_10, x_11, x_12, x_13, x_14, x_15, x_16, x_17, x_18, x_19, x_20, x_21, x_22, x_23, x_24, x_25, x_26, x_27, x_28, x_29, x_30, x_31, hS_o, hT_x_1, hT_x_2, hT_x_3, hT_x_4, hT_x_5, hb_x_6, hb_x_7, hb_x_8, hT_x_10, hb_q2, hb_x_11, hb_x_12, hT_x_17, hT_x_18, hb_x_19, hT_x_20, hT_x_21, hT_x_22, hT_x_23, hT_x_24, hT_x_25, hT_x_26, hT_x_27, hT_x_28, hT_x_29, hT_x_30, hb_x_31⟩ := hTy.k12 hT_o
  have hb_q2 : pr.2 ≤ 900 := hb_q2
  have hS_o : S o = .inr (12, [.ref x_1, .ref x_2, .ref x_3, .ref x_4, .ref x_5, .int (nI x_6), .int (nI x_7), .int (nI x_8), .int x_9, .ref x_10, .int (nI (pr.2)), .int (nI x_11), .int (nI x_12), .int x_13, .int x_14, .int x_15, .int x_16, .ref x_17, .ref x_18, .int (nI x_19), .ref x_20, .ref x_21, .ref x_22, .ref x_23, .ref x_24, .ref x_25, .ref x_26, .ref x_27, .ref x_28, .ref x_29, .ref x_30, .int (nI x_31)]) := hS_o
  refine pl_put (ci := 12) (v := .int 0) (ty := .int) (C := RX12) (T := TX12) (N := 32) (fs' := [.ref x_1, .ref x_2, .ref x_3, .ref x_4, .ref x_5, .int (nI x_6), .int (nI x_7), .int (nI x_8), .int 0, .ref x_10, .int (nI (pr.2)), .int (nI x_11), .int (nI x_12), .int x_13, .int x_14, .int x_15, .int x_16, .ref x_17, .ref x_18, .int (nI x_19), .ref x_20, .ref x_21, .ref x_22, .ref x_23, .ref x_24, .ref x_25, .ref x_26, .ref x_27, .ref x_28, .ref x_29, .ref x_30, .int (nI x_31)]) hx hb hT iX12 tyX12 tyX12_ok nmX12 hown hK hW hT_o.1 hS_o rfl 8 (by decide) w1090 rfl (by decide +kernel) rfl rfl (Nat.le_of_ble_eq_true rfl) rfl dX12_relieved_2 (fun H locs S_32 e1 hW => ?_)
  have hTy := hTy.u12 e1 hT_o ⟨x_1, x_2, x_3, x_4, x_5, x_6, x_7, x_8, 0, x_10, x_11, x_12, x_13, x_14, x_15, x_16, x_17, x_18, x_19, x_20, x_21, x_22, x_23, x_24, x_25, x_26, x_27, x_28, x_29, x_30, x_31, rfl, hT_x_1, hT_x_2, hT_x_3, hT_x_4, hT_x_5, (by omega), (by omega), (by omega), hT_x_10, (by show pr.2 ≤ 900; omega), (by omega), (by omega), hT_x_17, hT_x_18, (by omega), hT_x_20, hT_x_21, hT_x_22, hT_x_23, hT_x_24, hT_x_25, hT_x_26, hT_x_27, hT_x_28, hT_x_29, hT_x_30, (by omega)⟩
  have hws := (show wrs (.inr (12, [.ref x_1, .ref x_2, .ref x_3, .ref x_4, .ref x_5, .int (nI x_6), .int (nI x_7), .int (nI x_8), .int 0, .ref x_10, .int (nI (pr.2)), .int (nI x_11), .int (nI x_12), .int x_13, .int x_14, .int x_15, .int x_16, .ref x_17, .ref x_18, .int (nI x_19), .ref x_20, .ref x_21, .ref x_22, .ref x_23, .ref x_24, .ref x_25, .ref x_26, .ref x_27, .ref x_28, .ref x_29, .ref x_30, .int (nI x_31)])) = wrs (S o) from by rw [hS_o]; rfl)
  have hFr := ufs hFr e1 hT_o (by decide) hws
  have hS_o := us e1
  refine lv_aload_n hx hb dX12_relieved_5 rfl (lv_at hl 0 rfl) ?_
  refine lv_iload_n hx hb dX12_relieved_6 rfl (lv_at hl 1 rfl) ?_
  refine vp_callSi (va_Run.run (va_runV (As := [.int kd]) (rest := []) ⟨hx, hb, hml, hown, hT⟩ (m_isKind l dC dI cy L kap pr S_32 H.size o kd hTy hT_o) (cwV 1 hT (gV w1288 w1290 ws74 w14 w1291) rfl rfl rfl (by decide +kernel) ⟨(Nat.le_of_ble_eq_true rfl), (Nat.le_of_ble_eq_true rfl)⟩) ⟨pcN.blind, pl_recv hK hW hT_o.1 hS_o rfl, pcN.pre hW.1 hK hW.2.1 hN (fun q h => absurd h List.not_mem_nil)⟩ rfl rfl hl.1 rfl (lv_room (Nat.le_of_ble_eq_true rfl)) dX12_relieved_7 ⟨(Nat.le_of_ble_eq_true rfl), (Nat.le_of_ble_eq_true rfl)⟩)) (fun r_33 hr_33 => ?_)
  rcases hr_33 with hc_ | hc_
  · obtain rfl : r_33 = 0 := hc_
    refine lv_if_ne (tgt := 16) hx hb dX12_relieved_10 (by decide) (fun h => absurd (by decide) h) (fun _ => ?_)
    refine lv_bipush (v := (-2)) hx hb dX12_relieved_13 (by decide) ?_
    exact W.iret (v := (-2)) hx hb hr (fun t ht h9 => ⟨⟨(-2), S_32, rfl, ⟨hTy, hFr⟩, by rw [ht]; exact hW.1, va_K.moved h9.alike hK, hW.2.1⟩, hW.2.2.F ht⟩) hW.2.2.2.2 dX12_relieved_15
  · obtain ⟨rfl, k_34, hb_k_34, rfl⟩ := hc_
    refine lv_if_ne (tgt := 16) hx hb dX12_relieved_10 (by decide) (fun _ => ?_) (fun h => absurd h (by decide))
    refine lv_aload_n hx hb dX12_relieved_16 rfl (lv_at hl 0 rfl) ?_
    refine lv_iload_n hx hb dX12_relieved_17 rfl (lv_at hl 1 rfl) ?_
    refine pl_calli (va_runV (As := [.int (nI k_34)]) (rest := []) ⟨hx, hb, hml, hown, hT⟩ (m_pressesFirst l dC dI cy L kap pr S_32 H.size o (nI k_34) hTy hT_o) (cwV 1 hT (gV w1491 w1493 ws101 w14 w1494) rfl rfl rfl (by decide +kernel) ⟨(Nat.le_of_ble_eq_true rfl), (Nat.le_of_ble_eq_true rfl)⟩) ⟨pcN.blind, pl_recv hK hW hT_o.1 hS_o rfl, pcN.pre hW.1 hK hW.2.1 hN (fun q h => absurd h List.not_mem_nil)⟩ rfl rfl hl.1 rfl (lv_room (Nat.le_of_ble_eq_true rfl)) dX12_relieved_18 ⟨(Nat.le_of_ble_eq_true rfl), (Nat.le_of_ble_eq_true rfl)⟩) hW hA0 hA (fun r_36 S_35 H locs hrel hW => ?_)
    obtain ⟨hTy, hF1, hx1⟩ := hrel
    have hFr := hFr.tr hF1 (by decide)
    have hS_o := hF1.at hT_o (by decide) hS_o
    have hdz9 := hx1
    refine lv_if_ne (tgt := 26) hx hb dX12_relieved_21 (by decide) (fun c_21 => ?_) (fun c_21 => ?_)
    · refine lv_iconst (v := (-1)) hx hb dX12_relieved_26 (by decide) ?_
      refine lv_istore_n (lv' := [(2, .int (-1)), (0, .ref o), (1, .int (nI k_34))]) hx hb dX12_relieved_27 rfl hl (by decide) rfl (fun ls hl => ?_)
      refine lv_iconst (v := 0) hx hb dX12_relieved_28 (by decide) ?_
      refine lv_istore_n (lv' := [(3, .int 0), (2, .int (-1)), (0, .ref o), (1, .int (nI k_34))]) hx hb dX12_relieved_29 rfl hl (by decide) rfl (fun ls hl => ?_)
      have loop : ∀ (fuel : Nat) (i : Nat) (be : Int32) (SS : Nat → va_E) (H : Heap) (locs : List Loc) (ls : Array Slot), 9 - i < fuel → (i ≤ 8) → (be = -1 ∨ ∃ k, k < 8 ∧ be = nI k) → Ty cy L kap pr SS → Fr kap [12, 56, 59, 60, 61, 62, 63, 64, 65, 66] S SS → Fr kap [] S_35 SS → PW dC dI L (AL L s.heap.size) s.heap SS H locs → lv_has ls 4 [(3, .int (nI i)), (2, .int be), (0, .ref o), (1, .int (nI k_34))] → W p l e (headSpec (wT yX12_relieved cX12_relieved 4 (some .int)) { frames := 6, cells := 0, slots := 0, locals := 145 }).room s m [.ref o, .int (nI k_34)].toArray below meth c H locs 0 0 (MQ below (va_Qi (fun r S' => Ty cy L kap pr S' ∧ Fr kap [12, 56, 59, 60, 61, 62, 63, 64, 65, 66] S S') (fun S' t => pB dC dI (AL L s.heap.size) (va_pl L S') (cyT cy) t) (AL L s.heap.size)) [.ref o, .int (nI k_34)].toArray s 0 0 (AL L s.heap.size)) (F0 m 30 ls []) := by
        intro fuel
        induction fuel with
        | zero => intro i be SS H locs ls h; exact absurd h (Nat.not_lt_zero _)
        | succ fu30 ih30 =>
          intro i be S_37 H locs ls hm30 hb_i hbe hTy hFr hFl30 hW hl
          have hS_o := hFl30.at hT_o (by decide) hS_o
          refine lv_iload_n hx hb dX12_relieved_30 rfl (lv_at hl 0 rfl) ?_
          refine lv_aload_n hx hb dX12_relieved_31 rfl (lv_at hl 2 rfl) ?_
          refine pl_get (ci := 12) (v := .int (nI x_6)) (C := RX12) (T := TX12) (N := 32) hx hb hT iX12 hown hK hW hT_o.1 hS_o rfl 5 (by decide) w1087 rfl dX12_relieved_32 ?_
          refine lv_icmp_ge (tgt := 64) hx hb dX12_relieved_35 (by decide) (fun c_35 => ?_) (fun c_35 => ?_)
          · have c_35 : x_6 ≤ i := (nI_leI (a := x_6) (b := i) (by omega) (by omega)).mp c_35
            refine lv_iload_n hx hb dX12_relieved_64 rfl (lv_at hl 1 rfl) ?_
            exact W.iret (v := be) hx hb hr (fun t ht h9 => ⟨⟨be, S_37, rfl, ⟨hTy, hFr⟩, by rw [ht]; exact hW.1, va_K.moved h9.alike hK, hW.2.1⟩, hW.2.2.F ht⟩) hW.2.2.2.2 dX12_relieved_65
          · have c_35 : ¬ (x_6 ≤ i) := fun hh9 => c_35 ((nI_leI (a := x_6) (b := i) (by omega) (by omega)).mpr hh9)
            refine lv_iload_n hx hb dX12_relieved_38 rfl (lv_at hl 1 rfl) ?_
            refine lv_iconst (v := (-1)) hx hb dX12_relieved_39 (by decide) ?_
            refine lv_icmp_eq (tgt := 56) hx hb dX12_relieved_40 (by decide) (fun c_40 => ?_) (fun c_40 => ?_)
            · refine lv_iload_n hx hb dX12_relieved_56 rfl (lv_at hl 0 rfl) ?_
              refine lv_istore_n (lv' := [(2, .int (nI i)), (3, .int (nI i)), (0, .ref o), (1, .int (nI k_34))]) hx hb dX12_relieved_57 rfl hl (by decide) rfl (fun ls hl => ?_)
              refine lv_iinc (v := nI (i + 1)) (lv' := [(3, .int (nI (i + 1))), (2, .int (nI i)), (0, .ref o), (1, .int (nI k_34))]) hx hb dX12_relieved_58 hl (k := 1) rfl (nI_add (i) 1) (by decide) rfl (fun ls hl => ?_)
              refine lv_goto (tgt := 30) hx hb dX12_relieved_61 (by decide) ?_
              exact ih30 (i + 1) (nI i) _ _ _ ls (by omega) (by omega) (Or.inr ⟨i, by omega, rfl⟩) hTy hFr hFl30 hW (lv_sub hl [0, 1, 2, 3] rfl)
            · obtain ⟨kt, hkt, rfl⟩ := hbe.resolve_left c_40
              refine lv_aload_n hx hb dX12_relieved_43 rfl (lv_at hl 2 rfl) ?_
              refine lv_iload_n hx hb dX12_relieved_44 rfl (lv_at hl 0 rfl) ?_
              refine vp_callSi (va_Run.run (va_runV (As := [.int (nI i)]) (rest := []) ⟨hx, hb, hml, hown, hT⟩ (m_reliefOf l dC dI cy L kap pr S_37 H.size o i hTy hT_o (by omega)) (cwV 1 hT (gV w1527 w1529 ws105 w14 w1530) rfl rfl rfl (by decide +kernel) ⟨(Nat.le_of_ble_eq_true rfl), (Nat.le_of_ble_eq_true rfl)⟩) ⟨pcN.blind, pl_recv hK hW hT_o.1 hS_o rfl, pcN.pre hW.1 hK hW.2.1 hN (fun q h => absurd h List.not_mem_nil)⟩ rfl rfl hl.1 rfl (lv_room (Nat.le_of_ble_eq_true rfl)) dX12_relieved_45 ⟨(Nat.le_of_ble_eq_true rfl), (Nat.le_of_ble_eq_true rfl)⟩)) (fun r_38 hr_38 => ?_)
              refine lv_aload_n hx hb dX12_relieved_48 rfl (lv_at hl 2 rfl) ?_
              refine lv_iload_n hx hb dX12_relieved_49 rfl (lv_at hl 1 rfl) ?_
              refine vp_callSi (va_Run.run (va_runV (As := [.int (nI kt)]) (rest := [.int r_38]) ⟨hx, hb, hml, hown, hT⟩ (m_reliefOf l dC dI cy L kap pr S_37 H.size o kt hTy hT_o (by omega)) (cwV 1 hT (gV w1527 w1529 ws105 w14 w1530) rfl rfl rfl (by decide +kernel) ⟨(Nat.le_of_ble_eq_true rfl), (Nat.le_of_ble_eq_true rfl)⟩) ⟨pcN.blind, pl_recv hK hW hT_o.1 hS_o rfl, pcN.pre hW.1 hK hW.2.1 hN (fun q h => absurd h List.not_mem_nil)⟩ rfl rfl hl.1 rfl (lv_room (Nat.le_of_ble_eq_true rfl)) dX12_relieved_50 ⟨(Nat.le_of_ble_eq_true rfl), (Nat.le_of_ble_eq_true rfl)⟩)) (fun r_39 hr_39 => ?_)
              refine lv_icmp_le (tgt := 58) hx hb dX12_relieved_53 (by decide) (fun c_53 => ?_) (fun c_53 => ?_)
              · refine lv_iinc (v := nI (i + 1)) (lv' := [(3, .int (nI (i + 1))), (2, .int (nI kt)), (0, .ref o), (1, .int (nI k_34))]) hx hb dX12_relieved_58 hl (k := 0) rfl (nI_add (i) 1) (by decide) rfl (fun ls hl => ?_)
                refine lv_goto (tgt := 30) hx hb dX12_relieved_61 (by decide) ?_
                exact ih30 (i + 1) (nI kt) _ _ _ ls (by omega) (by omega) (Or.inr ⟨kt, hkt, rfl⟩) hTy hFr hFl30 hW (lv_sub hl [0, 1, 2, 3] rfl)
              · refine lv_iload_n hx hb dX12_relieved_56 rfl (lv_at hl 0 rfl) ?_
                refine lv_istore_n (lv' := [(2, .int (nI i)), (3, .int (nI i)), (0, .ref o), (1, .int (nI k_34))]) hx hb dX12_relieved_57 rfl hl (by decide) rfl (fun ls hl => ?_)
                refine lv_iinc (v := nI (i + 1)) (lv' := [(3, .int (nI (i + 1))), (2, .int (nI i)), (0, .ref o), (1, .int (nI k_34))]) hx hb dX12_relieved_58 hl (k := 1) rfl (nI_add (i) 1) (by decide) rfl (fun ls hl => ?_)
                refine lv_goto (tgt := 30) hx hb dX12_relieved_61 (by decide) ?_
                exact ih30 (i + 1) (nI i) _ _ _ ls (by omega) (by omega) (Or.inr ⟨i, by omega, rfl⟩) hTy hFr hFl30 hW (lv_sub hl [0, 1, 2, 3] rfl)
      exact loop ((9 - 0) + 1) 0 (-1) _ _ _ ls (Nat.lt_succ_self _) (by omega) (Or.inl rfl) hTy hFr Fr.rf hW (lv_sub hl [0, 1, 2, 3] rfl)
    · refine lv_iconst (v := (-1)) hx hb dX12_relieved_24 (by decide) ?_
      exact W.iret (v := (-1)) hx hb hr (fun t ht h9 => ⟨⟨(-1), S_35, rfl, ⟨hTy, hFr⟩, by rw [ht]; exact hW.1, va_K.moved h9.alike hK, hW.2.1⟩, hW.2.2.F ht⟩) hW.2.2.2.2 dX12_relieved_25

set_option maxHeartbeats 4000000 in
set_option maxRecDepth 100000 in
theorem m_through (l : Launch) (dC : Nat → ClassId) (dI : Nat → Nat → Nat) (cy : Nat → ClassId) (L : List Nat) (kap : Nat → Nat) (pr : Pr) (S : Nat → va_E) (sz : Nat) (o : Nat) (pa : Int32) (kd : Int32) (wh : Int32) (hTy : Ty cy L kap pr S) (hT_o : TK L kap o 12) : Met l yX12_through (wT yX12_through cX12_through 4 (some .int)) ({ frames := 6, cells := 0, slots := 0, locals := 145 }) (pcN dC dI [.ref o, .int pa, .int kd, .int wh] sz (va_pl L S) (cyT cy) NLs []) (va_Qi (fun r S' => Ty cy L kap pr S' ∧ Fr kap [12, 56, 59, 60, 61, 62, 63, 64, 65, 66] S S') (fun S' t => pB dC dI (AL L sz) (va_pl L S') (cyT cy) t) (AL L sz)) 0 0 (AL L sz) := by
  refine Met.ofW (cc := cX12_through) (maxL := 4) (ret := (some .int)) (by decide) rfl ?_
  intro p e s m args below meth c s₁ B hml hv
  obtain ⟨rfl, hsz, hP, hK, hD0, hN, -⟩ := hv
  have hx := B.exec
  have hb := B.bytes
  have hr := B.returns
  have hT : ∀ wd ∈ TB, wd.before [.ref o, .int pa, .int kd, .int wh].toArray s = true := fun wd h => atoms_spec (ws := wT yX12_through cX12_through 4 (some .int)) B.pre wd (List.mem_cons_of_mem _ h)
  have hown : s.vm.findClass RX12 = some m.cls := findClass_of_methodNamed B.named
  have hlocks := B.notSynchronized
  subst hsz
  have hW : PW dC dI L (AL L s.heap.size) s.heap S s.heap [] := ⟨hP, pl_self hD0, va_S.rf⟩
  have hA0 : ∀ q, q ∈ L → AL L s.heap.size q := fun _ h => Or.inl h
  have hA : ∀ q, s.heap.size ≤ q → AL L s.heap.size q := fun _ h => Or.inr h
  have hFr : Fr kap [12, 56, 59, 60, 61, 62, 63, 64, 65, 66] S S := Fr.rf
  have hl := lv_entry ([.ref o, .int pa, .int kd, .int wh]) (n := 4) (Nat.le_of_ble_eq_true rfl)
  rw [lg_entry_eq]
  generalize (lg_sl ([.ref o, .int pa, .int kd, .int wh]) ++ List.replicate (4 - (lg_sl ([.ref o, .int pa, .int kd, .int wh])).length) Slot.unset).toArray = ls at hl ⊢
  have hl : lv_has ls 4 [(0, .ref o), (1, .int pa), (2, .int kd), (3, .int wh)] := hl
  refine lv_aload_n hx hb dX12_through_0 rfl (lv_at hl 0 rfl) ?_
  refine lv_iconst (v := 0) hx hb dX12_through_1 (by decide) ?_
  obtain ⟨x_1, x_2, x_3, x_4, x_5, x_6, x_7, x_8, x_9, x_10, x_11, x_12, x_13, x_14, x_15, x_16, x_17, x_18, x_19, x_20, x_21, x_22, x_23, x_24, x_25, x_26, x_27, x_28, x_29, x_30, x_31, hS_o, hT_x_1, hT_x_2, hT_x_3, hT_x_4, hT_x_5, hb_x_6, hb_x_7, hb_x_8, hT_x_10, hb_q2, hb_x_11, hb_x_12, hT_x_17, hT_x_18, hb_x_19, hT_x_20, hT_x_21, hT_x_22, hT_x_23, hT_x_24, hT_x_25, hT_x_26, hT_x_27, hT_x_28, hT_x_29, hT_x_30, hb_x_31⟩ := hTy.k12 hT_o
  have hb_q2 : pr.2 ≤ 900 := hb_q2
  have hS_o : S o = .inr (12, [.ref x_1, .ref x_2, .ref x_3, .ref x_4, .ref x_5, .int (nI x_6), .int (nI x_7), .int (nI x_8), .int x_9, .ref x_10, .int (nI (pr.2)), .int (nI x_11), .int (nI x_12), .int x_13, .int x_14, .int x_15, .int x_16, .ref x_17, .ref x_18, .int (nI x_19), .ref x_20, .ref x_21, .ref x_22, .ref x_23, .ref x_24, .ref x_25, .ref x_26, .ref x_27, .ref x_28, .ref x_29, .ref x_30, .int (nI x_31)]) := hS_o
  refine pl_put (ci := 12) (v := .int 0) (ty := .int) (C := RX12) (T := TX12) (N := 32) (fs' := [.ref x_1, .ref x_2, .ref x_3, .ref x_4, .ref x_5, .int (nI x_6), .int (nI x_7), .int (nI x_8), .int 0, .ref x_10, .int (nI (pr.2)), .int (nI x_11), .int (nI x_12), .int x_13, .int x_14, .int x_15, .int x_16, .ref x_17, .ref x_18, .int (nI x_19), .ref x_20, .ref x_21, .ref x_22, .ref x_23, .ref x_24, .ref x_25, .ref x_26, .ref x_27, .ref x_28, .ref x_29, .ref x_30, .int (nI x_31)]) hx hb hT iX12 tyX12 tyX12_ok nmX12 hown hK hW hT_o.1 hS_o rfl 8 (by decide) w1090 rfl (by decide +kernel) rfl rfl (Nat.le_of_ble_eq_true rfl) rfl dX12_through_2 (fun H locs S_32 e1 hW => ?_)
  have hTy := hTy.u12 e1 hT_o ⟨x_1, x_2, x_3, x_4, x_5, x_6, x_7, x_8, 0, x_10, x_11, x_12, x_13, x_14, x_15, x_16, x_17, x_18, x_19, x_20, x_21, x_22, x_23, x_24, x_25, x_26, x_27, x_28, x_29, x_30, x_31, rfl, hT_x_1, hT_x_2, hT_x_3, hT_x_4, hT_x_5, (by omega), (by omega), (by omega), hT_x_10, (by show pr.2 ≤ 900; omega), (by omega), (by omega), hT_x_17, hT_x_18, (by omega), hT_x_20, hT_x_21, hT_x_22, hT_x_23, hT_x_24, hT_x_25, hT_x_26, hT_x_27, hT_x_28, hT_x_29, hT_x_30, (by omega)⟩
  have hws := (show wrs (.inr (12, [.ref x_1, .ref x_2, .ref x_3, .ref x_4, .ref x_5, .int (nI x_6), .int (nI x_7), .int (nI x_8), .int 0, .ref x_10, .int (nI (pr.2)), .int (nI x_11), .int (nI x_12), .int x_13, .int x_14, .int x_15, .int x_16, .ref x_17, .ref x_18, .int (nI x_19), .ref x_20, .ref x_21, .ref x_22, .ref x_23, .ref x_24, .ref x_25, .ref x_26, .ref x_27, .ref x_28, .ref x_29, .ref x_30, .int (nI x_31)])) = wrs (S o) from by rw [hS_o]; rfl)
  have hFr := ufs hFr e1 hT_o (by decide) hws
  have hS_o := us e1
  refine lv_aload_n hx hb dX12_through_5 rfl (lv_at hl 0 rfl) ?_
  refine lv_iload_n hx hb dX12_through_6 rfl (lv_at hl 1 rfl) ?_
  refine vp_callSi (va_Run.run (va_runV (As := [.int pa]) (rest := []) ⟨hx, hb, hml, hown, hT⟩ (m_isParty l dC dI cy L kap pr S_32 H.size o pa hTy hT_o) (cwV 1 hT (gV w1284 w1286 ws73 w14 w1287) rfl rfl rfl (by decide +kernel) ⟨(Nat.le_of_ble_eq_true rfl), (Nat.le_of_ble_eq_true rfl)⟩) ⟨pcN.blind, pl_recv hK hW hT_o.1 hS_o rfl, pcN.pre hW.1 hK hW.2.1 hN (fun q h => absurd h List.not_mem_nil)⟩ rfl rfl hl.1 rfl (lv_room (Nat.le_of_ble_eq_true rfl)) dX12_through_7 ⟨(Nat.le_of_ble_eq_true rfl), (Nat.le_of_ble_eq_true rfl)⟩)) (fun r_33 hr_33 => ?_)
  rcases hr_33 with hc_ | hc_
  · obtain rfl : r_33 = 0 := hc_
    refine lv_if_eq (tgt := 31) hx hb dX12_through_10 (by decide) (fun _ => ?_) (fun h => absurd (by decide) h)
    refine lv_bipush (v := (-2)) hx hb dX12_through_31 (by decide) ?_
    exact W.iret (v := (-2)) hx hb hr (fun t ht h9 => ⟨⟨(-2), S_32, rfl, ⟨hTy, hFr⟩, by rw [ht]; exact hW.1, va_K.moved h9.alike hK, hW.2.1⟩, hW.2.2.F ht⟩) hW.2.2.2.2 dX12_through_33
  · obtain ⟨rfl, k_34, hb_k_34, rfl⟩ := hc_
    refine lv_if_eq (tgt := 31) hx hb dX12_through_10 (by decide) (fun h => absurd h (by decide)) (fun _ => ?_)
    refine lv_aload_n hx hb dX12_through_13 rfl (lv_at hl 0 rfl) ?_
    refine lv_iload_n hx hb dX12_through_14 rfl (lv_at hl 2 rfl) ?_
    refine vp_callSi (va_Run.run (va_runV (As := [.int kd]) (rest := []) ⟨hx, hb, hml, hown, hT⟩ (m_isKind l dC dI cy L kap pr S_32 H.size o kd hTy hT_o) (cwV 1 hT (gV w1288 w1290 ws74 w14 w1291) rfl rfl rfl (by decide +kernel) ⟨(Nat.le_of_ble_eq_true rfl), (Nat.le_of_ble_eq_true rfl)⟩) ⟨pcN.blind, pl_recv hK hW hT_o.1 hS_o rfl, pcN.pre hW.1 hK hW.2.1 hN (fun q h => absurd h List.not_mem_nil)⟩ rfl rfl hl.1 rfl (lv_room (Nat.le_of_ble_eq_true rfl)) dX12_through_15 ⟨(Nat.le_of_ble_eq_true rfl), (Nat.le_of_ble_eq_true rfl)⟩)) (fun r_35 hr_35 => ?_)
    rcases hr_35 with hc_ | hc_
    · obtain rfl : r_35 = 0 := hc_
      refine lv_if_eq (tgt := 31) hx hb dX12_through_18 (by decide) (fun _ => ?_) (fun h => absurd (by decide) h)
      refine lv_bipush (v := (-2)) hx hb dX12_through_31 (by decide) ?_
      exact W.iret (v := (-2)) hx hb hr (fun t ht h9 => ⟨⟨(-2), S_32, rfl, ⟨hTy, hFr⟩, by rw [ht]; exact hW.1, va_K.moved h9.alike hK, hW.2.1⟩, hW.2.2.F ht⟩) hW.2.2.2.2 dX12_through_33
    · obtain ⟨rfl, k_36, hb_k_36, rfl⟩ := hc_
      refine lv_if_eq (tgt := 31) hx hb dX12_through_18 (by decide) (fun h => absurd h (by decide)) (fun _ => ?_)
      refine lv_iload_n hx hb dX12_through_21 rfl (lv_at hl 3 rfl) ?_
      refine lv_i2l hx hb dX12_through_22 rfl ?_
      refine lv_topl (fun z_37 ez_37 => ?_)
      refine lv_lconst (v := 0) hx hb dX12_through_23 (by decide) ?_
      refine lv_lconst (v := 1) hx hb dX12_through_24 (by decide) ?_
      refine vp_callSi (va_Run.run (va_runS (As := [.long z_37, .long 0, .long 1]) (rest := []) ⟨hx, hb, hml, hown, hT⟩ (m_isIn l dC dI H.size z_37 0 1) (va_cwS 3 hT (gS w1187 w1188 w14 w1189) rfl rfl rfl (by decide +kernel) ⟨(Nat.le_of_ble_eq_true rfl), (Nat.le_of_ble_eq_true rfl)⟩) ⟨pcW.blind, pcW.pre (va_P0 _ _ _) (hK.sub (tys' := []) [] rfl) (va_D0 (fun _ => True))⟩ rfl rfl hl.1 rfl (lv_room (Nat.le_of_ble_eq_true rfl)) dX12_through_25 ⟨(Nat.le_of_ble_eq_true rfl), (Nat.le_of_ble_eq_true rfl)⟩)) (fun r_38 hr_38 => ?_)
      rcases isInc hr_38 with hc_ | hc_
      · obtain ⟨rfl, hin_⟩ := hc_
        obtain ⟨k_39, hb_k_39, rfl⟩ := inK (H := 1) ez_37 hin_ (by decide) (by decide)
        refine lv_if_ne (tgt := 34) hx hb dX12_through_28 (by decide) (fun _ => ?_) (fun h => absurd h (by decide))
        refine lv_iload_n hx hb dX12_through_34 rfl (lv_at hl 3 rfl) ?_
        refine lv_iconst (v := 1) hx hb dX12_through_35 (by decide) ?_
        refine lv_icmp_ne (tgt := 60) hx hb dX12_through_36 (by decide) (fun c_36 => ?_) (fun c_36 => ?_)
        · have c_36 : ¬ (k_39 = 1) := fun hh9 => c_36 ((nI_eq (a := k_39) (b := 1) (by omega) (by omega)).mpr hh9)
          refine lv_aload_n hx hb dX12_through_60 rfl (lv_at hl 0 rfl) ?_
          refine lv_iload_n hx hb dX12_through_61 rfl (lv_at hl 2 rfl) ?_
          refine lv_iconst (v := (-1)) hx hb dX12_through_62 (by decide) ?_
          refine pl_callv (va_runV (As := [.int (nI k_36), .int (-1)]) (rest := []) ⟨hx, hb, hml, hown, hT⟩ (m_laysFlows l dC dI cy L kap pr S_32 H.size o (nI k_36) (-1) hTy hT_o) (cwV 2 hT (gV w1336 w1338 ws78 w14 w1339) rfl rfl rfl (by decide +kernel) ⟨(Nat.le_of_ble_eq_true rfl), (Nat.le_of_ble_eq_true rfl)⟩) ⟨pcN.blind, pl_recv hK hW hT_o.1 hS_o rfl, pcN.pre hW.1 hK hW.2.1 hN (fun q h => absurd h List.not_mem_nil)⟩ rfl rfl hl.1 rfl (lv_room (Nat.le_of_ble_eq_true rfl)) dX12_through_63 ⟨(Nat.le_of_ble_eq_true rfl), (Nat.le_of_ble_eq_true rfl)⟩) hW hA0 hA (fun S_40 H locs hrel hW => ?_)
          obtain ⟨hTy, hF1⟩ := hrel
          have hFr := hFr.tr hF1 (by decide)
          have hS_o := hF1.at hT_o (by decide) hS_o
          refine lv_aload_n hx hb dX12_through_66 rfl (lv_at hl 0 rfl) ?_
          refine pl_get (ci := 12) (v := .ref x_17) (C := RX12) (T := TX12) (N := 32) hx hb hT iX12 hown hK hW hT_o.1 hS_o rfl 17 (by decide) w1099 rfl dX12_through_67 ?_
          refine lv_iload_n hx hb dX12_through_70 rfl (lv_at hl 1 rfl) ?_
          refine vp_callSi (va_Run.run (va_runS (As := [.ref x_17, .int (nI k_34)]) (rest := []) ⟨hx, hb, hml, hown, hT⟩ (m_throughBy56 l dC dI cy L kap pr S_40 H.size x_17 k_34 hTy hT_x_17 (by omega)) (va_cwS 2 hT (gS w1451 w1452 w14 w1453) rfl rfl rfl (by decide +kernel) ⟨(Nat.le_of_ble_eq_true rfl), (Nat.le_of_ble_eq_true rfl)⟩) ⟨pcN.blind, pcN.pre hW.1 hK hW.2.1 hN (fun q h => absurd h List.not_mem_nil)⟩ rfl rfl hl.1 rfl (lv_room (Nat.le_of_ble_eq_true rfl)) dX12_through_71 ⟨(Nat.le_of_ble_eq_true rfl), (Nat.le_of_ble_eq_true rfl)⟩)) (fun r_41 hr_41 => ?_)
          exact W.iret (v := r_41) hx hb hr (fun t ht h9 => ⟨⟨r_41, S_40, rfl, ⟨hTy, hFr⟩, by rw [ht]; exact hW.1, va_K.moved h9.alike hK, hW.2.1⟩, hW.2.2.F ht⟩) hW.2.2.2.2 dX12_through_74
        · have c_36 : k_39 = 1 := (nI_eq (a := k_39) (b := 1) (by omega) (by omega)).mp c_36
          refine lv_aload_n hx hb dX12_through_39 rfl (lv_at hl 0 rfl) ?_
          refine lv_iload_n hx hb dX12_through_40 rfl (lv_at hl 2 rfl) ?_
          refine pl_calli (va_runV (As := [.int (nI k_36)]) (rest := []) ⟨hx, hb, hml, hown, hT⟩ (m_pressesFirst l dC dI cy L kap pr S_32 H.size o (nI k_36) hTy hT_o) (cwV 1 hT (gV w1491 w1493 ws101 w14 w1494) rfl rfl rfl (by decide +kernel) ⟨(Nat.le_of_ble_eq_true rfl), (Nat.le_of_ble_eq_true rfl)⟩) ⟨pcN.blind, pl_recv hK hW hT_o.1 hS_o rfl, pcN.pre hW.1 hK hW.2.1 hN (fun q h => absurd h List.not_mem_nil)⟩ rfl rfl hl.1 rfl (lv_room (Nat.le_of_ble_eq_true rfl)) dX12_through_41 ⟨(Nat.le_of_ble_eq_true rfl), (Nat.le_of_ble_eq_true rfl)⟩) hW hA0 hA (fun r_43 S_42 H locs hrel hW => ?_)
          obtain ⟨hTy, hF1, hx1⟩ := hrel
          have hFr := hFr.tr hF1 (by decide)
          have hS_o := hF1.at hT_o (by decide) hS_o
          have hdz9 := hx1
          refine lv_if_eq (tgt := 58) hx hb dX12_through_44 (by decide) (fun c_44 => ?_) (fun c_44 => ?_)
          · refine lv_iconst (v := (-1)) hx hb dX12_through_58 (by decide) ?_
            exact W.iret (v := (-1)) hx hb hr (fun t ht h9 => ⟨⟨(-1), S_42, rfl, ⟨hTy, hFr⟩, by rw [ht]; exact hW.1, va_K.moved h9.alike hK, hW.2.1⟩, hW.2.2.F ht⟩) hW.2.2.2.2 dX12_through_59
          · refine lv_aload_n hx hb dX12_through_47 rfl (lv_at hl 0 rfl) ?_
            refine pl_get (ci := 12) (v := .ref x_22) (C := RX12) (T := TX12) (N := 32) hx hb hT iX12 hown hK hW hT_o.1 hS_o rfl 22 (by decide) w1104 rfl dX12_through_48 ?_
            refine lv_iload_n hx hb dX12_through_51 rfl (lv_at hl 1 rfl) ?_
            refine vp_callSi (va_Run.run (va_runS (As := [.ref x_22, .int (nI k_34)]) (rest := []) ⟨hx, hb, hml, hown, hT⟩ (m_throughBy60 l dC dI cy L kap pr S_42 H.size x_22 k_34 hTy hT_x_22 (by omega)) (va_cwS 2 hT (gS w1451 w1452 w14 w1453) rfl rfl rfl (by decide +kernel) ⟨(Nat.le_of_ble_eq_true rfl), (Nat.le_of_ble_eq_true rfl)⟩) ⟨pcN.blind, pcN.pre hW.1 hK hW.2.1 hN (fun q h => absurd h List.not_mem_nil)⟩ rfl rfl hl.1 rfl (lv_room (Nat.le_of_ble_eq_true rfl)) dX12_through_52 ⟨(Nat.le_of_ble_eq_true rfl), (Nat.le_of_ble_eq_true rfl)⟩)) (fun r_44 hr_44 => ?_)
            refine lv_goto (tgt := 59) hx hb dX12_through_55 (by decide) ?_
            exact W.iret (v := r_44) hx hb hr (fun t ht h9 => ⟨⟨r_44, S_42, rfl, ⟨hTy, hFr⟩, by rw [ht]; exact hW.1, va_K.moved h9.alike hK, hW.2.1⟩, hW.2.2.F ht⟩) hW.2.2.2.2 dX12_through_59
      · obtain ⟨rfl, hin_⟩ := hc_
        refine lv_if_ne (tgt := 34) hx hb dX12_through_28 (by decide) (fun h => absurd (by decide) h) (fun _ => ?_)
        refine lv_bipush (v := (-2)) hx hb dX12_through_31 (by decide) ?_
        exact W.iret (v := (-2)) hx hb hr (fun t ht h9 => ⟨⟨(-2), S_32, rfl, ⟨hTy, hFr⟩, by rw [ht]; exact hW.1, va_K.moved h9.alike hK, hW.2.1⟩, hW.2.2.F ht⟩) hW.2.2.2.2 dX12_through_33

set_option maxHeartbeats 4000000 in
set_option maxRecDepth 100000 in
theorem m_all (l : Launch) (dC : Nat → ClassId) (dI : Nat → Nat → Nat) (cy : Nat → ClassId) (L : List Nat) (kap : Nat → Nat) (pr : Pr) (S : Nat → va_E) (sz : Nat) (o : Nat) (hTy : Ty cy L kap pr S) (hT_o : TK L kap o 12) : Met l yX12_all (wT yX12_all cX12_all 3 (some .int)) ({ frames := 4, cells := 0, slots := 0, locals := 95 }) (pcN dC dI [.ref o] sz (va_pl L S) (cyT cy) NLs []) (va_Qi (fun r S' => Ty cy L kap pr S' ∧ Fr kap [12, 56, 59, 60, 61, 62, 63, 64, 65, 66] S S') (fun S' t => pB dC dI (AL L sz) (va_pl L S') (cyT cy) t) (AL L sz)) 0 0 (AL L sz) := by
  refine Met.ofW (cc := cX12_all) (maxL := 3) (ret := (some .int)) (by decide) rfl ?_
  intro p e s m args below meth c s₁ B hml hv
  obtain ⟨rfl, hsz, hP, hK, hD0, hN, -⟩ := hv
  have hx := B.exec
  have hb := B.bytes
  have hr := B.returns
  have hT : ∀ wd ∈ TB, wd.before [.ref o].toArray s = true := fun wd h => atoms_spec (ws := wT yX12_all cX12_all 3 (some .int)) B.pre wd (List.mem_cons_of_mem _ h)
  have hown : s.vm.findClass RX12 = some m.cls := findClass_of_methodNamed B.named
  have hlocks := B.notSynchronized
  subst hsz
  have hW : PW dC dI L (AL L s.heap.size) s.heap S s.heap [] := ⟨hP, pl_self hD0, va_S.rf⟩
  have hA0 : ∀ q, q ∈ L → AL L s.heap.size q := fun _ h => Or.inl h
  have hA : ∀ q, s.heap.size ≤ q → AL L s.heap.size q := fun _ h => Or.inr h
  have hFr : Fr kap [12, 56, 59, 60, 61, 62, 63, 64, 65, 66] S S := Fr.rf
  have hl := lv_entry ([.ref o]) (n := 3) (Nat.le_of_ble_eq_true rfl)
  rw [lg_entry_eq]
  generalize (lg_sl ([.ref o]) ++ List.replicate (3 - (lg_sl ([.ref o])).length) Slot.unset).toArray = ls at hl ⊢
  have hl : lv_has ls 3 [(0, .ref o)] := hl
  refine lv_aload_n hx hb dX12_all_0 rfl (lv_at hl 0 rfl) ?_
  refine lv_iconst (v := 0) hx hb dX12_all_1 (by decide) ?_
  obtain ⟨x_1, x_2, x_3, x_4, x_5, x_6, x_7, x_8, x_9, x_10, x_11, x_12, x_13, x_14, x_15, x_16, x_17, x_18, x_19, x_20, x_21, x_22, x_23, x_24, x_25, x_26, x_27, x_28, x_29, x_30, x_31, hS_o, hT_x_1, hT_x_2, hT_x_3, hT_x_4, hT_x_5, hb_x_6, hb_x_7, hb_x_8, hT_x_10, hb_q2, hb_x_11, hb_x_12, hT_x_17, hT_x_18, hb_x_19, hT_x_20, hT_x_21, hT_x_22, hT_x_23, hT_x_24, hT_x_25, hT_x_26, hT_x_27, hT_x_28, hT_x_29, hT_x_30, hb_x_31⟩ := hTy.k12 hT_o
  have hb_q2 : pr.2 ≤ 900 := hb_q2
  have hS_o : S o = .inr (12, [.ref x_1, .ref x_2, .ref x_3, .ref x_4, .ref x_5, .int (nI x_6), .int (nI x_7), .int (nI x_8), .int x_9, .ref x_10, .int (nI (pr.2)), .int (nI x_11), .int (nI x_12), .int x_13, .int x_14, .int x_15, .int x_16, .ref x_17, .ref x_18, .int (nI x_19), .ref x_20, .ref x_21, .ref x_22, .ref x_23, .ref x_24, .ref x_25, .ref x_26, .ref x_27, .ref x_28, .ref x_29, .ref x_30, .int (nI x_31)]) := hS_o
  refine pl_put (ci := 12) (v := .int 0) (ty := .int) (C := RX12) (T := TX12) (N := 32) (fs' := [.ref x_1, .ref x_2, .ref x_3, .ref x_4, .ref x_5, .int (nI x_6), .int (nI x_7), .int (nI x_8), .int 0, .ref x_10, .int (nI (pr.2)), .int (nI x_11), .int (nI x_12), .int x_13, .int x_14, .int x_15, .int x_16, .ref x_17, .ref x_18, .int (nI x_19), .ref x_20, .ref x_21, .ref x_22, .ref x_23, .ref x_24, .ref x_25, .ref x_26, .ref x_27, .ref x_28, .ref x_29, .ref x_30, .int (nI x_31)]) hx hb hT iX12 tyX12 tyX12_ok nmX12 hown hK hW hT_o.1 hS_o rfl 8 (by decide) w1090 rfl (by decide +kernel) rfl rfl (Nat.le_of_ble_eq_true rfl) rfl dX12_all_2 (fun H locs S_32 e1 hW => ?_)
  have hTy := hTy.u12 e1 hT_o ⟨x_1, x_2, x_3, x_4, x_5, x_6, x_7, x_8, 0, x_10, x_11, x_12, x_13, x_14, x_15, x_16, x_17, x_18, x_19, x_20, x_21, x_22, x_23, x_24, x_25, x_26, x_27, x_28, x_29, x_30, x_31, rfl, hT_x_1, hT_x_2, hT_x_3, hT_x_4, hT_x_5, (by omega), (by omega), (by omega), hT_x_10, (by show pr.2 ≤ 900; omega), (by omega), (by omega), hT_x_17, hT_x_18, (by omega), hT_x_20, hT_x_21, hT_x_22, hT_x_23, hT_x_24, hT_x_25, hT_x_26, hT_x_27, hT_x_28, hT_x_29, hT_x_30, (by omega)⟩
  have hws := (show wrs (.inr (12, [.ref x_1, .ref x_2, .ref x_3, .ref x_4, .ref x_5, .int (nI x_6), .int (nI x_7), .int (nI x_8), .int 0, .ref x_10, .int (nI (pr.2)), .int (nI x_11), .int (nI x_12), .int x_13, .int x_14, .int x_15, .int x_16, .ref x_17, .ref x_18, .int (nI x_19), .ref x_20, .ref x_21, .ref x_22, .ref x_23, .ref x_24, .ref x_25, .ref x_26, .ref x_27, .ref x_28, .ref x_29, .ref x_30, .int (nI x_31)])) = wrs (S o) from by rw [hS_o]; rfl)
  have hFr := ufs hFr e1 hT_o (by decide) hws
  have hS_o := us e1
  refine lv_iconst (v := 0) hx hb dX12_all_5 (by decide) ?_
  refine lv_istore_n (lv' := [(1, .int 0), (0, .ref o)]) hx hb dX12_all_6 rfl hl (by decide) rfl (fun ls hl => ?_)
  refine lv_iconst (v := 0) hx hb dX12_all_7 (by decide) ?_
  refine lv_istore_n (lv' := [(2, .int 0), (1, .int 0), (0, .ref o)]) hx hb dX12_all_8 rfl hl (by decide) rfl (fun ls hl => ?_)
  have loop : ∀ (fuel : Nat) (i : Nat) (sm : Int32) (SS : Nat → va_E) (H : Heap) (locs : List Loc) (ls : Array Slot), 5 - i < fuel → (i ≤ 4) → Ty cy L kap pr SS → Fr kap [12, 56, 59, 60, 61, 62, 63, 64, 65, 66] S SS → Fr kap [12, 56, 59, 60, 61, 62, 63, 64, 65, 66] S_32 SS → PW dC dI L (AL L s.heap.size) s.heap SS H locs → lv_has ls 3 [(2, .int (nI i)), (1, .int sm), (0, .ref o)] → W p l e (headSpec (wT yX12_all cX12_all 3 (some .int)) { frames := 4, cells := 0, slots := 0, locals := 95 }).room s m [.ref o].toArray below meth c H locs 0 0 (MQ below (va_Qi (fun r S' => Ty cy L kap pr S' ∧ Fr kap [12, 56, 59, 60, 61, 62, 63, 64, 65, 66] S S') (fun S' t => pB dC dI (AL L s.heap.size) (va_pl L S') (cyT cy) t) (AL L s.heap.size)) [.ref o].toArray s 0 0 (AL L s.heap.size)) (F0 m 9 ls []) := by
    intro fuel
    induction fuel with
    | zero => intro i sm SS H locs ls h; exact absurd h (Nat.not_lt_zero _)
    | succ fu9 ih9 =>
      intro i sm S_33 H locs ls hm9 hb_i hTy hFr hFl9 hW hl
      refine lv_iload_n hx hb dX12_all_9 rfl (lv_at hl 0 rfl) ?_
      refine lv_aload_n hx hb dX12_all_10 rfl (lv_at hl 2 rfl) ?_
      obtain ⟨x_34, x_35, x_36, x_37, x_38, x_39, x_40, x_41, x_42, x_43, x_44, x_45, x_46, x_47, x_48, x_49, x_50, x_51, x_52, x_53, x_54, x_55, x_56, x_57, x_58, x_59, x_60, x_61, x_62, x_63, x_64, hS_o, hT_x_34, hT_x_35, hT_x_36, hT_x_37, hT_x_38, hb_x_39, hb_x_40, hb_x_41, hT_x_43, hb_q2, hb_x_44, hb_x_45, hT_x_50, hT_x_51, hb_x_52, hT_x_53, hT_x_54, hT_x_55, hT_x_56, hT_x_57, hT_x_58, hT_x_59, hT_x_60, hT_x_61, hT_x_62, hT_x_63, hb_x_64⟩ := hTy.k12 hT_o
      have hb_q2 : pr.2 ≤ 900 := hb_q2
      have hS_o : S_33 o = .inr (12, [.ref x_34, .ref x_35, .ref x_36, .ref x_37, .ref x_38, .int (nI x_39), .int (nI x_40), .int (nI x_41), .int x_42, .ref x_43, .int (nI (pr.2)), .int (nI x_44), .int (nI x_45), .int x_46, .int x_47, .int x_48, .int x_49, .ref x_50, .ref x_51, .int (nI x_52), .ref x_53, .ref x_54, .ref x_55, .ref x_56, .ref x_57, .ref x_58, .ref x_59, .ref x_60, .ref x_61, .ref x_62, .ref x_63, .int (nI x_64)]) := hS_o
      refine pl_get (ci := 12) (v := .int (nI x_40)) (C := RX12) (T := TX12) (N := 32) hx hb hT iX12 hown hK hW hT_o.1 hS_o rfl 6 (by decide) w1088 rfl dX12_all_11 ?_
      refine lv_icmp_ge (tgt := 45) hx hb dX12_all_14 (by decide) (fun c_14 => ?_) (fun c_14 => ?_)
      · have c_14 : x_40 ≤ i := (nI_leI (a := x_40) (b := i) (by omega) (by omega)).mp c_14
        refine lv_iload_n hx hb dX12_all_45 rfl (lv_at hl 1 rfl) ?_
        exact W.iret (v := sm) hx hb hr (fun t ht h9 => ⟨⟨sm, S_33, rfl, ⟨hTy, hFr⟩, by rw [ht]; exact hW.1, va_K.moved h9.alike hK, hW.2.1⟩, hW.2.2.F ht⟩) hW.2.2.2.2 dX12_all_46
      · have c_14 : ¬ (x_40 ≤ i) := fun hh9 => c_14 ((nI_leI (a := x_40) (b := i) (by omega) (by omega)).mpr hh9)
        refine lv_aload_n hx hb dX12_all_17 rfl (lv_at hl 2 rfl) ?_
        refine lv_iload_n hx hb dX12_all_18 rfl (lv_at hl 0 rfl) ?_
        refine lv_iconst (v := (-1)) hx hb dX12_all_19 (by decide) ?_
        refine pl_callv (va_runV (As := [.int (nI i), .int (-1)]) (rest := []) ⟨hx, hb, hml, hown, hT⟩ (m_laysBounds l dC dI cy L kap pr S_33 H.size o (nI i) (-1) hTy hT_o) (cwV 2 hT (gV w1447 w1449 ws93 w14 w1450) rfl rfl rfl (by decide +kernel) ⟨(Nat.le_of_ble_eq_true rfl), (Nat.le_of_ble_eq_true rfl)⟩) ⟨pcN.blind, pl_recv hK hW hT_o.1 hS_o rfl, pcN.pre hW.1 hK hW.2.1 hN (fun q h => absurd h List.not_mem_nil)⟩ rfl rfl hl.1 rfl (lv_room (Nat.le_of_ble_eq_true rfl)) dX12_all_20 ⟨(Nat.le_of_ble_eq_true rfl), (Nat.le_of_ble_eq_true rfl)⟩) hW hA0 hA (fun S_65 H locs hrel hW => ?_)
        obtain ⟨hTy, hF1⟩ := hrel
        have hFr := hFr.tr hF1 (by decide)
        have hFl9 := hFl9.tr hF1 (by decide)
        have hS_o := hF1.at hT_o (by decide) hS_o
        refine lv_aload_n hx hb dX12_all_23 rfl (lv_at hl 2 rfl) ?_
        refine pl_calli (va_runV (As := []) (rest := []) ⟨hx, hb, hml, hown, hT⟩ (m_presses l dC dI cy L kap pr S_65 H.size o hTy hT_o) (cwV 0 hT (gV w1455 w1457 ws94 w14 w1458) rfl rfl rfl (by decide +kernel) ⟨(Nat.le_of_ble_eq_true rfl), (Nat.le_of_ble_eq_true rfl)⟩) ⟨pcN.blind, pl_recv hK hW hT_o.1 hS_o rfl, pcN.pre hW.1 hK hW.2.1 hN (fun q h => absurd h List.not_mem_nil)⟩ rfl rfl hl.1 rfl (lv_room (Nat.le_of_ble_eq_true rfl)) dX12_all_24 ⟨(Nat.le_of_ble_eq_true rfl), (Nat.le_of_ble_eq_true rfl)⟩) hW hA0 hA (fun r_67 S_66 H locs hrel hW => ?_)
        obtain ⟨hTy, hF1, hx1⟩ := hrel
        have hFr := hFr.tr hF1 (by decide)
        have hFl9 := hFl9.tr hF1 (by decide)
        have hS_o := hF1.at hT_o (by decide) hS_o
        obtain ⟨hpk9, hdz9⟩ := hx1
        refine lv_if_ne (tgt := 32) hx hb dX12_all_27 (by decide) (fun c_27 => ?_) (fun c_27 => ?_)
        · refine lv_iload_n hx hb dX12_all_32 rfl (lv_at hl 1 rfl) ?_
          refine lv_aload_n hx hb dX12_all_33 rfl (lv_at hl 2 rfl) ?_
          refine vp_callSi (va_Run.run (va_runV (As := []) (rest := [.int sm]) ⟨hx, hb, hml, hown, hT⟩ (m_sumOf l dC dI cy L kap pr S_66 H.size o hTy hT_o) (cwV 0 hT (gV w1483 w1485 ws100 w14 w1486) rfl rfl rfl (by decide +kernel) ⟨(Nat.le_of_ble_eq_true rfl), (Nat.le_of_ble_eq_true rfl)⟩) ⟨pcN.blind, pl_recv hK hW hT_o.1 hS_o rfl, pcN.pre hW.1 hK hW.2.1 hN (fun q h => absurd h List.not_mem_nil)⟩ rfl rfl hl.1 rfl (lv_room (Nat.le_of_ble_eq_true rfl)) dX12_all_34 ⟨(Nat.le_of_ble_eq_true rfl), (Nat.le_of_ble_eq_true rfl)⟩)) (fun r_68 hr_68 => ?_)
          refine lv_iadd hx hb dX12_all_37 ?_
          refine lv_topi (fun z_69 ez_69 => ?_)
          refine lv_istore_n (lv' := [(1, .int z_69), (2, .int (nI i)), (0, .ref o)]) hx hb dX12_all_38 rfl hl (by decide) rfl (fun ls hl => ?_)
          refine lv_iinc (v := nI (i + 1)) (lv' := [(2, .int (nI (i + 1))), (1, .int z_69), (0, .ref o)]) hx hb dX12_all_39 hl (k := 1) rfl (nI_add (i) 1) (by decide) rfl (fun ls hl => ?_)
          refine lv_goto (tgt := 9) hx hb dX12_all_42 (by decide) ?_
          exact ih9 (i + 1) z_69 _ _ _ ls (by omega) (by omega) hTy hFr hFl9 hW (lv_sub hl [0, 1, 2] rfl)
        · refine lv_iconst (v := (-1)) hx hb dX12_all_30 (by decide) ?_
          exact W.iret (v := (-1)) hx hb hr (fun t ht h9 => ⟨⟨(-1), S_66, rfl, ⟨hTy, hFr⟩, by rw [ht]; exact hW.1, va_K.moved h9.alike hK, hW.2.1⟩, hW.2.2.F ht⟩) hW.2.2.2.2 dX12_all_31
  exact loop ((5 - 0) + 1) 0 0 _ _ _ ls (Nat.lt_succ_self _) (by omega) hTy hFr Fr.rf hW (lv_sub hl [0, 1, 2] rfl)

set_option maxHeartbeats 4000000 in
set_option maxRecDepth 100000 in
theorem m_enough (l : Launch) (dC : Nat → ClassId) (dI : Nat → Nat → Nat) (cy : Nat → ClassId) (L : List Nat) (kap : Nat → Nat) (pr : Pr) (S : Nat → va_E) (sz : Nat) (o : Nat) (fa : Int32) (fb : Int32) (kd : Int32) (hTy : Ty cy L kap pr S) (hT_o : TK L kap o 12) : Met l yX12_enough (wT yX12_enough cX12_enough 4 (some .int)) ({ frames := 5, cells := 0, slots := 0, locals := 122 }) (pcN dC dI [.ref o, .int fa, .int fb, .int kd] sz (va_pl L S) (cyT cy) NLs []) (va_Qi (fun r S' => Ty cy L kap pr S' ∧ Fr kap [12, 56, 59, 60, 61, 62, 63, 64, 65, 66] S S') (fun S' t => pB dC dI (AL L sz) (va_pl L S') (cyT cy) t) (AL L sz)) 0 0 (AL L sz) := by
  refine Met.ofW (cc := cX12_enough) (maxL := 4) (ret := (some .int)) (by decide) rfl ?_
  intro p e s m args below meth c s₁ B hml hv
  obtain ⟨rfl, hsz, hP, hK, hD0, hN, -⟩ := hv
  have hx := B.exec
  have hb := B.bytes
  have hr := B.returns
  have hT : ∀ wd ∈ TB, wd.before [.ref o, .int fa, .int fb, .int kd].toArray s = true := fun wd h => atoms_spec (ws := wT yX12_enough cX12_enough 4 (some .int)) B.pre wd (List.mem_cons_of_mem _ h)
  have hown : s.vm.findClass RX12 = some m.cls := findClass_of_methodNamed B.named
  have hlocks := B.notSynchronized
  subst hsz
  have hW : PW dC dI L (AL L s.heap.size) s.heap S s.heap [] := ⟨hP, pl_self hD0, va_S.rf⟩
  have hA0 : ∀ q, q ∈ L → AL L s.heap.size q := fun _ h => Or.inl h
  have hA : ∀ q, s.heap.size ≤ q → AL L s.heap.size q := fun _ h => Or.inr h
  have hFr : Fr kap [12, 56, 59, 60, 61, 62, 63, 64, 65, 66] S S := Fr.rf
  have hl := lv_entry ([.ref o, .int fa, .int fb, .int kd]) (n := 4) (Nat.le_of_ble_eq_true rfl)
  rw [lg_entry_eq]
  generalize (lg_sl ([.ref o, .int fa, .int fb, .int kd]) ++ List.replicate (4 - (lg_sl ([.ref o, .int fa, .int fb, .int kd])).length) Slot.unset).toArray = ls at hl ⊢
  have hl : lv_has ls 4 [(0, .ref o), (1, .int fa), (2, .int fb), (3, .int kd)] := hl
  refine lv_aload_n hx hb dX12_enough_0 rfl (lv_at hl 0 rfl) ?_
  refine lv_iconst (v := 0) hx hb dX12_enough_1 (by decide) ?_
  obtain ⟨x_1, x_2, x_3, x_4, x_5, x_6, x_7, x_8, x_9, x_10, x_11, x_12, x_13, x_14, x_15, x_16, x_17, x_18, x_19, x_20, x_21, x_22, x_23, x_24, x_25, x_26, x_27, x_28, x_29, x_30, x_31, hS_o, hT_x_1, hT_x_2, hT_x_3, hT_x_4, hT_x_5, hb_x_6, hb_x_7, hb_x_8, hT_x_10, hb_q2, hb_x_11, hb_x_12, hT_x_17, hT_x_18, hb_x_19, hT_x_20, hT_x_21, hT_x_22, hT_x_23, hT_x_24, hT_x_25, hT_x_26, hT_x_27, hT_x_28, hT_x_29, hT_x_30, hb_x_31⟩ := hTy.k12 hT_o
  have hb_q2 : pr.2 ≤ 900 := hb_q2
  have hS_o : S o = .inr (12, [.ref x_1, .ref x_2, .ref x_3, .ref x_4, .ref x_5, .int (nI x_6), .int (nI x_7), .int (nI x_8), .int x_9, .ref x_10, .int (nI (pr.2)), .int (nI x_11), .int (nI x_12), .int x_13, .int x_14, .int x_15, .int x_16, .ref x_17, .ref x_18, .int (nI x_19), .ref x_20, .ref x_21, .ref x_22, .ref x_23, .ref x_24, .ref x_25, .ref x_26, .ref x_27, .ref x_28, .ref x_29, .ref x_30, .int (nI x_31)]) := hS_o
  refine pl_put (ci := 12) (v := .int 0) (ty := .int) (C := RX12) (T := TX12) (N := 32) (fs' := [.ref x_1, .ref x_2, .ref x_3, .ref x_4, .ref x_5, .int (nI x_6), .int (nI x_7), .int (nI x_8), .int 0, .ref x_10, .int (nI (pr.2)), .int (nI x_11), .int (nI x_12), .int x_13, .int x_14, .int x_15, .int x_16, .ref x_17, .ref x_18, .int (nI x_19), .ref x_20, .ref x_21, .ref x_22, .ref x_23, .ref x_24, .ref x_25, .ref x_26, .ref x_27, .ref x_28, .ref x_29, .ref x_30, .int (nI x_31)]) hx hb hT iX12 tyX12 tyX12_ok nmX12 hown hK hW hT_o.1 hS_o rfl 8 (by decide) w1090 rfl (by decide +kernel) rfl rfl (Nat.le_of_ble_eq_true rfl) rfl dX12_enough_2 (fun H locs S_32 e1 hW => ?_)
  have hTy := hTy.u12 e1 hT_o ⟨x_1, x_2, x_3, x_4, x_5, x_6, x_7, x_8, 0, x_10, x_11, x_12, x_13, x_14, x_15, x_16, x_17, x_18, x_19, x_20, x_21, x_22, x_23, x_24, x_25, x_26, x_27, x_28, x_29, x_30, x_31, rfl, hT_x_1, hT_x_2, hT_x_3, hT_x_4, hT_x_5, (by omega), (by omega), (by omega), hT_x_10, (by show pr.2 ≤ 900; omega), (by omega), (by omega), hT_x_17, hT_x_18, (by omega), hT_x_20, hT_x_21, hT_x_22, hT_x_23, hT_x_24, hT_x_25, hT_x_26, hT_x_27, hT_x_28, hT_x_29, hT_x_30, (by omega)⟩
  have hws := (show wrs (.inr (12, [.ref x_1, .ref x_2, .ref x_3, .ref x_4, .ref x_5, .int (nI x_6), .int (nI x_7), .int (nI x_8), .int 0, .ref x_10, .int (nI (pr.2)), .int (nI x_11), .int (nI x_12), .int x_13, .int x_14, .int x_15, .int x_16, .ref x_17, .ref x_18, .int (nI x_19), .ref x_20, .ref x_21, .ref x_22, .ref x_23, .ref x_24, .ref x_25, .ref x_26, .ref x_27, .ref x_28, .ref x_29, .ref x_30, .int (nI x_31)])) = wrs (S o) from by rw [hS_o]; rfl)
  have hFr := ufs hFr e1 hT_o (by decide) hws
  have hS_o := us e1
  refine lv_aload_n hx hb dX12_enough_5 rfl (lv_at hl 0 rfl) ?_
  refine lv_iload_n hx hb dX12_enough_6 rfl (lv_at hl 1 rfl) ?_
  refine lv_iload_n hx hb dX12_enough_7 rfl (lv_at hl 2 rfl) ?_
  refine vp_callSi (va_Run.run (va_runV (As := [.int fa, .int fb]) (rest := []) ⟨hx, hb, hml, hown, hT⟩ (m_areTwo l dC dI cy L kap pr S_32 H.size o fa fb hTy hT_o) (cwV 2 hT (gV w1280 w1282 ws72 w14 w1283) rfl rfl rfl (by decide +kernel) ⟨(Nat.le_of_ble_eq_true rfl), (Nat.le_of_ble_eq_true rfl)⟩) ⟨pcN.blind, pl_recv hK hW hT_o.1 hS_o rfl, pcN.pre hW.1 hK hW.2.1 hN (fun q h => absurd h List.not_mem_nil)⟩ rfl rfl hl.1 rfl (lv_room (Nat.le_of_ble_eq_true rfl)) dX12_enough_8 ⟨(Nat.le_of_ble_eq_true rfl), (Nat.le_of_ble_eq_true rfl)⟩)) (fun r_33 hr_33 => ?_)
  rcases hr_33 with hc_ | hc_
  · obtain rfl : r_33 = 0 := hc_
    refine lv_if_eq (tgt := 22) hx hb dX12_enough_11 (by decide) (fun _ => ?_) (fun h => absurd (by decide) h)
    refine lv_bipush (v := (-2)) hx hb dX12_enough_22 (by decide) ?_
    exact W.iret (v := (-2)) hx hb hr (fun t ht h9 => ⟨⟨(-2), S_32, rfl, ⟨hTy, hFr⟩, by rw [ht]; exact hW.1, va_K.moved h9.alike hK, hW.2.1⟩, hW.2.2.F ht⟩) hW.2.2.2.2 dX12_enough_24
  · obtain ⟨rfl, k_34, k_35, hb_k_34, hb_k_35, rfl, rfl, hab2⟩ := hc_
    refine lv_if_eq (tgt := 22) hx hb dX12_enough_11 (by decide) (fun h => absurd h (by decide)) (fun _ => ?_)
    refine lv_aload_n hx hb dX12_enough_14 rfl (lv_at hl 0 rfl) ?_
    refine lv_iload_n hx hb dX12_enough_15 rfl (lv_at hl 3 rfl) ?_
    refine vp_callSi (va_Run.run (va_runV (As := [.int kd]) (rest := []) ⟨hx, hb, hml, hown, hT⟩ (m_isKind l dC dI cy L kap pr S_32 H.size o kd hTy hT_o) (cwV 1 hT (gV w1288 w1290 ws74 w14 w1291) rfl rfl rfl (by decide +kernel) ⟨(Nat.le_of_ble_eq_true rfl), (Nat.le_of_ble_eq_true rfl)⟩) ⟨pcN.blind, pl_recv hK hW hT_o.1 hS_o rfl, pcN.pre hW.1 hK hW.2.1 hN (fun q h => absurd h List.not_mem_nil)⟩ rfl rfl hl.1 rfl (lv_room (Nat.le_of_ble_eq_true rfl)) dX12_enough_16 ⟨(Nat.le_of_ble_eq_true rfl), (Nat.le_of_ble_eq_true rfl)⟩)) (fun r_36 hr_36 => ?_)
    rcases hr_36 with hc_ | hc_
    · obtain rfl : r_36 = 0 := hc_
      refine lv_if_ne (tgt := 25) hx hb dX12_enough_19 (by decide) (fun h => absurd (by decide) h) (fun _ => ?_)
      refine lv_bipush (v := (-2)) hx hb dX12_enough_22 (by decide) ?_
      exact W.iret (v := (-2)) hx hb hr (fun t ht h9 => ⟨⟨(-2), S_32, rfl, ⟨hTy, hFr⟩, by rw [ht]; exact hW.1, va_K.moved h9.alike hK, hW.2.1⟩, hW.2.2.F ht⟩) hW.2.2.2.2 dX12_enough_24
    · obtain ⟨rfl, k_37, hb_k_37, rfl⟩ := hc_
      refine lv_if_ne (tgt := 25) hx hb dX12_enough_19 (by decide) (fun _ => ?_) (fun h => absurd h (by decide))
      refine lv_aload_n hx hb dX12_enough_25 rfl (lv_at hl 0 rfl) ?_
      refine lv_iload_n hx hb dX12_enough_26 rfl (lv_at hl 3 rfl) ?_
      refine lv_iconst (v := (-1)) hx hb dX12_enough_27 (by decide) ?_
      refine pl_callv (va_runV (As := [.int (nI k_37), .int (-1)]) (rest := []) ⟨hx, hb, hml, hown, hT⟩ (m_laysBounds l dC dI cy L kap pr S_32 H.size o (nI k_37) (-1) hTy hT_o) (cwV 2 hT (gV w1447 w1449 ws93 w14 w1450) rfl rfl rfl (by decide +kernel) ⟨(Nat.le_of_ble_eq_true rfl), (Nat.le_of_ble_eq_true rfl)⟩) ⟨pcN.blind, pl_recv hK hW hT_o.1 hS_o rfl, pcN.pre hW.1 hK hW.2.1 hN (fun q h => absurd h List.not_mem_nil)⟩ rfl rfl hl.1 rfl (lv_room (Nat.le_of_ble_eq_true rfl)) dX12_enough_28 ⟨(Nat.le_of_ble_eq_true rfl), (Nat.le_of_ble_eq_true rfl)⟩) hW hA0 hA (fun S_38 H locs hrel hW => ?_)
      obtain ⟨hTy, hF1⟩ := hrel
      have hFr := hFr.tr hF1 (by decide)
      have hS_o := hF1.at hT_o (by decide) hS_o
      refine lv_aload_n hx hb dX12_enough_31 rfl (lv_at hl 0 rfl) ?_
      refine pl_get (ci := 12) (v := .ref x_21) (C := RX12) (T := TX12) (N := 32) hx hb hT iX12 hown hK hW hT_o.1 hS_o rfl 21 (by decide) w1103 rfl dX12_enough_32 ?_
      refine lv_iload_n hx hb dX12_enough_35 rfl (lv_at hl 1 rfl) ?_
      refine lv_iload_n hx hb dX12_enough_36 rfl (lv_at hl 2 rfl) ?_
      refine vp_callSi (va_Run.run (va_runS (As := [.int (nI k_34), .int (nI k_35)]) (rest := [.ref x_21]) ⟨hx, hb, hml, hown, hT⟩ (m_couple l dC dI H.size k_34 k_35 (by omega) (by omega)) (va_cwS 2 hT (gS w1348 w1349 w14 w1350) rfl rfl rfl (by decide +kernel) ⟨(Nat.le_of_ble_eq_true rfl), (Nat.le_of_ble_eq_true rfl)⟩) ⟨pcW.blind, pcW.pre (va_P0 _ _ _) (hK.sub (tys' := []) [] rfl) (va_D0 (fun _ => True))⟩ rfl rfl hl.1 rfl (lv_room (Nat.le_of_ble_eq_true rfl)) dX12_enough_37 ⟨(Nat.le_of_ble_eq_true rfl), (Nat.le_of_ble_eq_true rfl)⟩)) (fun r_39 hr_39 => ?_)
      obtain rfl : r_39 = nI (8 * k_34 + k_35) := hr_39
      refine lv_ldc (v := 99999999) hx hb hown (hT _ w1081) dX12_enough_40 ?_
      obtain ⟨f_40, hS_x_21⟩ := hTy.k59 hT_x_21
      refine pl_iast hx hb hK hW hT_x_21.1 hS_x_21 (vp_in_nI (n := 8 * k_34 + k_35) (N := 64) (by omega) (by omega)) dX12_enough_42 (fun H locs f_42 S_41 ef_f_42 e1 hW => ?_)
      have hTy := hTy.u59 e1 hT_x_21 ⟨f_42, rfl⟩
      have hS_o := un e1 hT_o hT_x_21 (by decide) hS_o
      have hFr := uf hFr e1 hT_x_21 (by decide) (by decide)
      have hS_x_21 := us e1
      refine lv_aload_n hx hb dX12_enough_43 rfl (lv_at hl 0 rfl) ?_
      refine pl_calli (va_runV (As := []) (rest := []) ⟨hx, hb, hml, hown, hT⟩ (m_presses l dC dI cy L kap pr S_41 H.size o hTy hT_o) (cwV 0 hT (gV w1455 w1457 ws94 w14 w1458) rfl rfl rfl (by decide +kernel) ⟨(Nat.le_of_ble_eq_true rfl), (Nat.le_of_ble_eq_true rfl)⟩) ⟨pcN.blind, pl_recv hK hW hT_o.1 hS_o rfl, pcN.pre hW.1 hK hW.2.1 hN (fun q h => absurd h List.not_mem_nil)⟩ rfl rfl hl.1 rfl (lv_room (Nat.le_of_ble_eq_true rfl)) dX12_enough_44 ⟨(Nat.le_of_ble_eq_true rfl), (Nat.le_of_ble_eq_true rfl)⟩) hW hA0 hA (fun r_44 S_43 H locs hrel hW => ?_)
      obtain ⟨hTy, hF1, hx1⟩ := hrel
      have hFr := hFr.tr hF1 (by decide)
      have hS_o := hF1.at hT_o (by decide) hS_o
      have hS_x_21 := hF1.at hT_x_21 (by decide) hS_x_21
      obtain ⟨hpk9, hdz9⟩ := hx1
      refine lv_if_ne (tgt := 52) hx hb dX12_enough_47 (by decide) (fun c_47 => ?_) (fun c_47 => ?_)
      · refine lv_aload_n hx hb dX12_enough_52 rfl (lv_at hl 0 rfl) ?_
        refine lv_iload_n hx hb dX12_enough_53 rfl (lv_at hl 1 rfl) ?_
        refine lv_iload_n hx hb dX12_enough_54 rfl (lv_at hl 2 rfl) ?_
        refine lv_iconst (v := 0) hx hb dX12_enough_55 (by decide) ?_
        refine pl_callv (va_runV (As := [.int (nI k_34), .int (nI k_35), .int 0]) (rest := []) ⟨hx, hb, hml, hown, hT⟩ (m_turns l dC dI cy L kap pr S_43 H.size o k_34 k_35 0 hTy hT_o (by omega) (by omega) hab2 hpk9) (cwV 3 hT (gV w1495 w1497 ws102 w14 w1498) rfl rfl rfl (by decide +kernel) ⟨(Nat.le_of_ble_eq_true rfl), (Nat.le_of_ble_eq_true rfl)⟩) ⟨pcN.blind, pl_recv hK hW hT_o.1 hS_o rfl, pcN.pre hW.1 hK hW.2.1 hN (fun q h => absurd h List.not_mem_nil)⟩ rfl rfl hl.1 rfl (lv_room (Nat.le_of_ble_eq_true rfl)) dX12_enough_56 ⟨(Nat.le_of_ble_eq_true rfl), (Nat.le_of_ble_eq_true rfl)⟩) hW hA0 hA (fun S_45 H locs hrel hW => ?_)
        obtain ⟨hTy, hF1, hx1⟩ := hrel
        have hFr := hFr.tr hF1 (by decide)
        have hS_o := hF1.at hT_o (by decide) hS_o
        have hS_x_21 := hF1.at hT_x_21 (by decide) hS_x_21
        refine lv_aload_n hx hb dX12_enough_59 rfl (lv_at hl 0 rfl) ?_
        refine pl_get (ci := 12) (v := .ref x_22) (C := RX12) (T := TX12) (N := 32) hx hb hT iX12 hown hK hW hT_o.1 hS_o rfl 22 (by decide) w1104 rfl dX12_enough_60 ?_
        refine lv_iload_n hx hb dX12_enough_63 rfl (lv_at hl 1 rfl) ?_
        refine lv_iload_n hx hb dX12_enough_64 rfl (lv_at hl 2 rfl) ?_
        refine vp_callSi (va_Run.run (va_runS (As := [.int (nI k_34), .int (nI k_35)]) (rest := [.ref x_22]) ⟨hx, hb, hml, hown, hT⟩ (m_couple l dC dI H.size k_34 k_35 (by omega) (by omega)) (va_cwS 2 hT (gS w1348 w1349 w14 w1350) rfl rfl rfl (by decide +kernel) ⟨(Nat.le_of_ble_eq_true rfl), (Nat.le_of_ble_eq_true rfl)⟩) ⟨pcW.blind, pcW.pre (va_P0 _ _ _) (hK.sub (tys' := []) [] rfl) (va_D0 (fun _ => True))⟩ rfl rfl hl.1 rfl (lv_room (Nat.le_of_ble_eq_true rfl)) dX12_enough_65 ⟨(Nat.le_of_ble_eq_true rfl), (Nat.le_of_ble_eq_true rfl)⟩)) (fun r_46 hr_46 => ?_)
        obtain rfl : r_46 = nI (8 * k_34 + k_35) := hr_46
        obtain ⟨f_47, hS_x_22⟩ := hTy.k60 hT_x_22
        refine pl_iald hx hb hK hW hT_x_22.1 hS_x_22 (vp_in_nI (n := 8 * k_34 + k_35) (N := 64) (by omega) (by omega)) dX12_enough_68 ?_
        refine lv_topi (fun y_48 ey_48 => ?_)
        exact W.iret (v := y_48) hx hb hr (fun t ht h9 => ⟨⟨y_48, S_45, rfl, ⟨hTy, hFr⟩, by rw [ht]; exact hW.1, va_K.moved h9.alike hK, hW.2.1⟩, hW.2.2.F ht⟩) hW.2.2.2.2 dX12_enough_69
      · refine lv_iconst (v := (-1)) hx hb dX12_enough_50 (by decide) ?_
        exact W.iret (v := (-1)) hx hb hr (fun t ht h9 => ⟨⟨(-1), S_43, rfl, ⟨hTy, hFr⟩, by rw [ht]; exact hW.1, va_K.moved h9.alike hK, hW.2.1⟩, hW.2.2.F ht⟩) hW.2.2.2.2 dX12_enough_51

