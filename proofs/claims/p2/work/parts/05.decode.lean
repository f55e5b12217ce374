theorem dJ6_bitCount_0f7a4_0 : decode cJ6_bitCount_0f7a4 0 = .ok (.iload_n 0, 1) := by decide +kernel
theorem dJ6_bitCount_0f7a4_1 : decode cJ6_bitCount_0f7a4 1 = .ok (.iload_n 0, 1) := by decide +kernel
theorem dJ6_bitCount_0f7a4_2 : decode cJ6_bitCount_0f7a4 2 = .ok (.iconst 1, 1) := by decide +kernel
theorem dJ6_bitCount_0f7a4_3 : decode cJ6_bitCount_0f7a4 3 = .ok (.iushr, 1) := by decide +kernel
theorem dJ6_bitCount_0f7a4_4 : decode cJ6_bitCount_0f7a4 4 = .ok (.ldc_w 265, 3) := by decide +kernel
theorem dJ6_bitCount_0f7a4_7 : decode cJ6_bitCount_0f7a4 7 = .ok (.iand, 1) := by decide +kernel
theorem dJ6_bitCount_0f7a4_8 : decode cJ6_bitCount_0f7a4 8 = .ok (.isub, 1) := by decide +kernel
theorem dJ6_bitCount_0f7a4_9 : decode cJ6_bitCount_0f7a4 9 = .ok (.istore_n 0, 1) := by decide +kernel
theorem dJ6_bitCount_0f7a4_10 : decode cJ6_bitCount_0f7a4 10 = .ok (.iload_n 0, 1) := by decide +kernel
theorem dJ6_bitCount_0f7a4_11 : decode cJ6_bitCount_0f7a4 11 = .ok (.ldc_w 266, 3) := by decide +kernel
theorem dJ6_bitCount_0f7a4_14 : decode cJ6_bitCount_0f7a4 14 = .ok (.iand, 1) := by decide +kernel
theorem dJ6_bitCount_0f7a4_15 : decode cJ6_bitCount_0f7a4 15 = .ok (.iload_n 0, 1) := by decide +kernel
theorem dJ6_bitCount_0f7a4_16 : decode cJ6_bitCount_0f7a4 16 = .ok (.iconst 2, 1) := by decide +kernel
theorem dJ6_bitCount_0f7a4_17 : decode cJ6_bitCount_0f7a4 17 = .ok (.iushr, 1) := by decide +kernel
theorem dJ6_bitCount_0f7a4_18 : decode cJ6_bitCount_0f7a4 18 = .ok (.ldc_w 266, 3) := by decide +kernel
theorem dJ6_bitCount_0f7a4_21 : decode cJ6_bitCount_0f7a4 21 = .ok (.iand, 1) := by decide +kernel
theorem dJ6_bitCount_0f7a4_22 : decode cJ6_bitCount_0f7a4 22 = .ok (.iadd, 1) := by decide +kernel
theorem dJ6_bitCount_0f7a4_23 : decode cJ6_bitCount_0f7a4 23 = .ok (.istore_n 0, 1) := by decide +kernel
theorem dJ6_bitCount_0f7a4_24 : decode cJ6_bitCount_0f7a4 24 = .ok (.iload_n 0, 1) := by decide +kernel
theorem dJ6_bitCount_0f7a4_25 : decode cJ6_bitCount_0f7a4 25 = .ok (.iload_n 0, 1) := by decide +kernel
theorem dJ6_bitCount_0f7a4_26 : decode cJ6_bitCount_0f7a4 26 = .ok (.iconst 4, 1) := by decide +kernel
theorem dJ6_bitCount_0f7a4_27 : decode cJ6_bitCount_0f7a4 27 = .ok (.iushr, 1) := by decide +kernel
theorem dJ6_bitCount_0f7a4_28 : decode cJ6_bitCount_0f7a4 28 = .ok (.iadd, 1) := by decide +kernel
theorem dJ6_bitCount_0f7a4_29 : decode cJ6_bitCount_0f7a4 29 = .ok (.ldc_w 267, 3) := by decide +kernel
theorem dJ6_bitCount_0f7a4_32 : decode cJ6_bitCount_0f7a4 32 = .ok (.iand, 1) := by decide +kernel
theorem dJ6_bitCount_0f7a4_33 : decode cJ6_bitCount_0f7a4 33 = .ok (.istore_n 0, 1) := by decide +kernel
theorem dJ6_bitCount_0f7a4_34 : decode cJ6_bitCount_0f7a4 34 = .ok (.iload_n 0, 1) := by decide +kernel
theorem dJ6_bitCount_0f7a4_35 : decode cJ6_bitCount_0f7a4 35 = .ok (.iload_n 0, 1) := by decide +kernel
theorem dJ6_bitCount_0f7a4_36 : decode cJ6_bitCount_0f7a4 36 = .ok (.bipush 8, 2) := by decide +kernel
theorem dJ6_bitCount_0f7a4_38 : decode cJ6_bitCount_0f7a4 38 = .ok (.iushr, 1) := by decide +kernel
theorem dJ6_bitCount_0f7a4_39 : decode cJ6_bitCount_0f7a4 39 = .ok (.iadd, 1) := by decide +kernel
theorem dJ6_bitCount_0f7a4_40 : decode cJ6_bitCount_0f7a4 40 = .ok (.istore_n 0, 1) := by decide +kernel
theorem dJ6_bitCount_0f7a4_41 : decode cJ6_bitCount_0f7a4 41 = .ok (.iload_n 0, 1) := by decide +kernel
theorem dJ6_bitCount_0f7a4_42 : decode cJ6_bitCount_0f7a4 42 = .ok (.iload_n 0, 1) := by decide +kernel
theorem dJ6_bitCount_0f7a4_43 : decode cJ6_bitCount_0f7a4 43 = .ok (.bipush 16, 2) := by decide +kernel
theorem dJ6_bitCount_0f7a4_45 : decode cJ6_bitCount_0f7a4 45 = .ok (.iushr, 1) := by decide +kernel
theorem dJ6_bitCount_0f7a4_46 : decode cJ6_bitCount_0f7a4 46 = .ok (.iadd, 1) := by decide +kernel
theorem dJ6_bitCount_0f7a4_47 : decode cJ6_bitCount_0f7a4 47 = .ok (.istore_n 0, 1) := by decide +kernel
theorem dJ6_bitCount_0f7a4_48 : decode cJ6_bitCount_0f7a4 48 = .ok (.iload_n 0, 1) := by decide +kernel
theorem dJ6_bitCount_0f7a4_49 : decode cJ6_bitCount_0f7a4 49 = .ok (.bipush 63, 2) := by decide +kernel
theorem dJ6_bitCount_0f7a4_51 : decode cJ6_bitCount_0f7a4 51 = .ok (.iand, 1) := by decide +kernel
theorem dJ6_bitCount_0f7a4_52 : decode cJ6_bitCount_0f7a4 52 = .ok (.ireturn, 1) := by decide +kernel
theorem dJ7_fill_53178_0 : decode cJ7_fill_53178 0 = .ok (.iconst 0, 1) := by decide +kernel
theorem dJ7_fill_53178_1 : decode cJ7_fill_53178 1 = .ok (.istore_n 2, 1) := by decide +kernel
theorem dJ7_fill_53178_2 : decode cJ7_fill_53178 2 = .ok (.aload_n 0, 1) := by decide +kernel
theorem dJ7_fill_53178_3 : decode cJ7_fill_53178 3 = .ok (.arraylength, 1) := by decide +kernel
theorem dJ7_fill_53178_4 : decode cJ7_fill_53178 4 = .ok (.istore_n 3, 1) := by decide +kernel
theorem dJ7_fill_53178_5 : decode cJ7_fill_53178 5 = .ok (.iload_n 2, 1) := by decide +kernel
theorem dJ7_fill_53178_6 : decode cJ7_fill_53178 6 = .ok (.iload_n 3, 1) := by decide +kernel
theorem dJ7_fill_53178_7 : decode cJ7_fill_53178 7 = .ok (.if_icmp .ge 13, 3) := by decide +kernel
theorem dJ7_fill_53178_10 : decode cJ7_fill_53178 10 = .ok (.aload_n 0, 1) := by decide +kernel
theorem dJ7_fill_53178_11 : decode cJ7_fill_53178 11 = .ok (.iload_n 2, 1) := by decide +kernel
theorem dJ7_fill_53178_12 : decode cJ7_fill_53178 12 = .ok (.iload_n 1, 1) := by decide +kernel
theorem dJ7_fill_53178_13 : decode cJ7_fill_53178 13 = .ok (.iastore, 1) := by decide +kernel
theorem dJ7_fill_53178_14 : decode cJ7_fill_53178 14 = .ok (.iinc 2 1, 3) := by decide +kernel
theorem dJ7_fill_53178_17 : decode cJ7_fill_53178 17 = .ok (.goto (-12), 3) := by decide +kernel
theorem dJ7_fill_53178_20 : decode cJ7_fill_53178 20 = .ok (.return_, 1) := by decide +kernel
theorem dX0_allFrom_0 : decode cX0_allFrom 0 = .ok (.lconst 0, 1) := by decide +kernel
theorem dX0_allFrom_1 : decode cX0_allFrom 1 = .ok (.lstore_n 3, 1) := by decide +kernel
theorem dX0_allFrom_2 : decode cX0_allFrom 2 = .ok (.iconst 0, 1) := by decide +kernel
theorem dX0_allFrom_3 : decode cX0_allFrom 3 = .ok (.istore 5, 2) := by decide +kernel
theorem dX0_allFrom_5 : decode cX0_allFrom 5 = .ok (.iload 5, 2) := by decide +kernel
theorem dX0_allFrom_7 : decode cX0_allFrom 7 = .ok (.aload_n 0, 1) := by decide +kernel
theorem dX0_allFrom_8 : decode cX0_allFrom 8 = .ok (.getfield 39, 3) := by decide +kernel
theorem dX0_allFrom_11 : decode cX0_allFrom 11 = .ok (.if_icmp .ge 41, 3) := by decide +kernel
theorem dX0_allFrom_14 : decode cX0_allFrom 14 = .ok (.aload_n 0, 1) := by decide +kernel
theorem dX0_allFrom_15 : decode cX0_allFrom 15 = .ok (.getfield 18, 3) := by decide +kernel
theorem dX0_allFrom_18 : decode cX0_allFrom 18 = .ok (.iload 5, 2) := by decide +kernel
theorem dX0_allFrom_20 : decode cX0_allFrom 20 = .ok (.iaload, 1) := by decide +kernel
theorem dX0_allFrom_21 : decode cX0_allFrom 21 = .ok (.iload_n 2, 1) := by decide +kernel
theorem dX0_allFrom_22 : decode cX0_allFrom 22 = .ok (.if_icmp .ne 24, 3) := by decide +kernel
theorem dX0_allFrom_25 : decode cX0_allFrom 25 = .ok (.aload_n 0, 1) := by decide +kernel
theorem dX0_allFrom_26 : decode cX0_allFrom 26 = .ok (.getfield 9, 3) := by decide +kernel
theorem dX0_allFrom_29 : decode cX0_allFrom 29 = .ok (.iload 5, 2) := by decide +kernel
theorem dX0_allFrom_31 : decode cX0_allFrom 31 = .ok (.iaload, 1) := by decide +kernel
theorem dX0_allFrom_32 : decode cX0_allFrom 32 = .ok (.iload_n 1, 1) := by decide +kernel
theorem dX0_allFrom_33 : decode cX0_allFrom 33 = .ok (.if_icmp .ne 13, 3) := by decide +kernel
theorem dX0_allFrom_36 : decode cX0_allFrom 36 = .ok (.lload_n 3, 1) := by decide +kernel
theorem dX0_allFrom_37 : decode cX0_allFrom 37 = .ok (.aload_n 0, 1) := by decide +kernel
theorem dX0_allFrom_38 : decode cX0_allFrom 38 = .ok (.getfield 21, 3) := by decide +kernel
theorem dX0_allFrom_41 : decode cX0_allFrom 41 = .ok (.iload 5, 2) := by decide +kernel
theorem dX0_allFrom_43 : decode cX0_allFrom 43 = .ok (.laload, 1) := by decide +kernel
theorem dX0_allFrom_44 : decode cX0_allFrom 44 = .ok (.ladd, 1) := by decide +kernel
theorem dX0_allFrom_45 : decode cX0_allFrom 45 = .ok (.lstore_n 3, 1) := by decide +kernel
theorem dX0_allFrom_46 : decode cX0_allFrom 46 = .ok (.iinc 5 1, 3) := by decide +kernel
theorem dX0_allFrom_49 : decode cX0_allFrom 49 = .ok (.goto (-44), 3) := by decide +kernel
theorem dX0_allFrom_52 : decode cX0_allFrom 52 = .ok (.lload_n 3, 1) := by decide +kernel
theorem dX0_allFrom_53 : decode cX0_allFrom 53 = .ok (.lreturn, 1) := by decide +kernel
theorem dX0_allTo_0 : decode cX0_allTo 0 = .ok (.lconst 0, 1) := by decide +kernel
theorem dX0_allTo_1 : decode cX0_allTo 1 = .ok (.lstore_n 3, 1) := by decide +kernel
theorem dX0_allTo_2 : decode cX0_allTo 2 = .ok (.iconst 0, 1) := by decide +kernel
theorem dX0_allTo_3 : decode cX0_allTo 3 = .ok (.istore 5, 2) := by decide +kernel
theorem dX0_allTo_5 : decode cX0_allTo 5 = .ok (.iload 5, 2) := by decide +kernel
theorem dX0_allTo_7 : decode cX0_allTo 7 = .ok (.aload_n 0, 1) := by decide +kernel
theorem dX0_allTo_8 : decode cX0_allTo 8 = .ok (.getfield 39, 3) := by decide +kernel
theorem dX0_allTo_11 : decode cX0_allTo 11 = .ok (.if_icmp .ge 41, 3) := by decide +kernel
theorem dX0_allTo_14 : decode cX0_allTo 14 = .ok (.aload_n 0, 1) := by decide +kernel
theorem dX0_allTo_15 : decode cX0_allTo 15 = .ok (.getfield 18, 3) := by decide +kernel
theorem dX0_allTo_18 : decode cX0_allTo 18 = .ok (.iload 5, 2) := by decide +kernel
theorem dX0_allTo_20 : decode cX0_allTo 20 = .ok (.iaload, 1) := by decide +kernel
theorem dX0_allTo_21 : decode cX0_allTo 21 = .ok (.iload_n 2, 1) := by decide +kernel
theorem dX0_allTo_22 : decode cX0_allTo 22 = .ok (.if_icmp .ne 24, 3) := by decide +kernel
theorem dX0_allTo_25 : decode cX0_allTo 25 = .ok (.aload_n 0, 1) := by decide +kernel
theorem dX0_allTo_26 : decode cX0_allTo 26 = .ok (.getfield 15, 3) := by decide +kernel
theorem dX0_allTo_29 : decode cX0_allTo 29 = .ok (.iload 5, 2) := by decide +kernel
theorem dX0_allTo_31 : decode cX0_allTo 31 = .ok (.iaload, 1) := by decide +kernel
theorem dX0_allTo_32 : decode cX0_allTo 32 = .ok (.iload_n 1, 1) := by decide +kernel
theorem dX0_allTo_33 : decode cX0_allTo 33 = .ok (.if_icmp .ne 13, 3) := by decide +kernel
theorem dX0_allTo_36 : decode cX0_allTo 36 = .ok (.lload_n 3, 1) := by decide +kernel
theorem dX0_allTo_37 : decode cX0_allTo 37 = .ok (.aload_n 0, 1) := by decide +kernel
theorem dX0_allTo_38 : decode cX0_allTo 38 = .ok (.getfield 21, 3) := by decide +kernel
theorem dX0_allTo_41 : decode cX0_allTo 41 = .ok (.iload 5, 2) := by decide +kernel
theorem dX0_allTo_43 : decode cX0_allTo 43 = .ok (.laload, 1) := by decide +kernel
theorem dX0_allTo_44 : decode cX0_allTo 44 = .ok (.ladd, 1) := by decide +kernel
theorem dX0_allTo_45 : decode cX0_allTo 45 = .ok (.lstore_n 3, 1) := by decide +kernel
theorem dX0_allTo_46 : decode cX0_allTo 46 = .ok (.iinc 5 1, 3) := by decide +kernel
theorem dX0_allTo_49 : decode cX0_allTo 49 = .ok (.goto (-44), 3) := by decide +kernel
theorem dX0_allTo_52 : decode cX0_allTo 52 = .ok (.lload_n 3, 1) := by decide +kernel
theorem dX0_allTo_53 : decode cX0_allTo 53 = .ok (.lreturn, 1) := by decide +kernel
theorem dX0_append_0 : decode cX0_append 0 = .ok (.aload_n 0, 1) := by decide +kernel
theorem dX0_append_1 : decode cX0_append 1 = .ok (.getfield 39, 3) := by decide +kernel
theorem dX0_append_4 : decode cX0_append 4 = .ok (.bipush 40, 2) := by decide +kernel
theorem dX0_append_6 : decode cX0_append 6 = .ok (.if_icmp .lt 4, 3) := by decide +kernel
theorem dX0_append_9 : decode cX0_append 9 = .ok (.return_, 1) := by decide +kernel
theorem dX0_append_10 : decode cX0_append 10 = .ok (.aload_n 0, 1) := by decide +kernel
theorem dX0_append_11 : decode cX0_append 11 = .ok (.getfield 9, 3) := by decide +kernel
theorem dX0_append_14 : decode cX0_append 14 = .ok (.aload_n 0, 1) := by decide +kernel
theorem dX0_append_15 : decode cX0_append 15 = .ok (.getfield 39, 3) := by decide +kernel
theorem dX0_append_18 : decode cX0_append 18 = .ok (.iload_n 1, 1) := by decide +kernel
theorem dX0_append_19 : decode cX0_append 19 = .ok (.iastore, 1) := by decide +kernel
theorem dX0_append_20 : decode cX0_append 20 = .ok (.aload_n 0, 1) := by decide +kernel
theorem dX0_append_21 : decode cX0_append 21 = .ok (.getfield 15, 3) := by decide +kernel
theorem dX0_append_24 : decode cX0_append 24 = .ok (.aload_n 0, 1) := by decide +kernel
theorem dX0_append_25 : decode cX0_append 25 = .ok (.getfield 39, 3) := by decide +kernel
theorem dX0_append_28 : decode cX0_append 28 = .ok (.iload_n 2, 1) := by decide +kernel
theorem dX0_append_29 : decode cX0_append 29 = .ok (.iastore, 1) := by decide +kernel
theorem dX0_append_30 : decode cX0_append 30 = .ok (.aload_n 0, 1) := by decide +kernel
theorem dX0_append_31 : decode cX0_append 31 = .ok (.getfield 21, 3) := by decide +kernel
theorem dX0_append_34 : decode cX0_append 34 = .ok (.aload_n 0, 1) := by decide +kernel
theorem dX0_append_35 : decode cX0_append 35 = .ok (.getfield 39, 3) := by decide +kernel
theorem dX0_append_38 : decode cX0_append 38 = .ok (.lload_n 3, 1) := by decide +kernel
theorem dX0_append_39 : decode cX0_append 39 = .ok (.lastore, 1) := by decide +kernel
theorem dX0_append_40 : decode cX0_append 40 = .ok (.aload_n 0, 1) := by decide +kernel
theorem dX0_append_41 : decode cX0_append 41 = .ok (.getfield 18, 3) := by decide +kernel
theorem dX0_append_44 : decode cX0_append 44 = .ok (.aload_n 0, 1) := by decide +kernel
theorem dX0_append_45 : decode cX0_append 45 = .ok (.getfield 39, 3) := by decide +kernel
theorem dX0_append_48 : decode cX0_append 48 = .ok (.iload 5, 2) := by decide +kernel
theorem dX0_append_50 : decode cX0_append 50 = .ok (.iastore, 1) := by decide +kernel
theorem dX0_append_51 : decode cX0_append 51 = .ok (.aload_n 0, 1) := by decide +kernel
theorem dX0_append_52 : decode cX0_append 52 = .ok (.getfield 25, 3) := by decide +kernel
theorem dX0_append_55 : decode cX0_append 55 = .ok (.aload_n 0, 1) := by decide +kernel
theorem dX0_append_56 : decode cX0_append 56 = .ok (.getfield 39, 3) := by decide +kernel
theorem dX0_append_59 : decode cX0_append 59 = .ok (.iconst 0, 1) := by decide +kernel
theorem dX0_append_60 : decode cX0_append 60 = .ok (.bastore, 1) := by decide +kernel
theorem dX0_append_61 : decode cX0_append 61 = .ok (.aload_n 0, 1) := by decide +kernel
theorem dX0_append_62 : decode cX0_append 62 = .ok (.dup, 1) := by decide +kernel
theorem dX0_append_63 : decode cX0_append 63 = .ok (.getfield 39, 3) := by decide +kernel
theorem dX0_append_66 : decode cX0_append 66 = .ok (.iconst 1, 1) := by decide +kernel
theorem dX0_append_67 : decode cX0_append 67 = .ok (.iadd, 1) := by decide +kernel
theorem dX0_append_68 : decode cX0_append 68 = .ok (.putfield 39, 3) := by decide +kernel
theorem dX0_append_71 : decode cX0_append 71 = .ok (.return_, 1) := by decide +kernel
theorem dX0_clear_0 : decode cX0_clear 0 = .ok (.aload_n 0, 1) := by decide +kernel
theorem dX0_clear_1 : decode cX0_clear 1 = .ok (.getfield 29, 3) := by decide +kernel
theorem dX0_clear_4 : decode cX0_clear 4 = .ok (.ldc 32, 2) := by decide +kernel
theorem dX0_clear_6 : decode cX0_clear 6 = .ok (.invokestatic 33, 3) := by decide +kernel
theorem dX0_clear_9 : decode cX0_clear 9 = .ok (.aload_n 0, 1) := by decide +kernel
theorem dX0_clear_10 : decode cX0_clear 10 = .ok (.iconst 0, 1) := by decide +kernel
theorem dX0_clear_11 : decode cX0_clear 11 = .ok (.putfield 39, 3) := by decide +kernel
theorem dX0_clear_14 : decode cX0_clear 14 = .ok (.aload_n 0, 1) := by decide +kernel
theorem dX0_clear_15 : decode cX0_clear 15 = .ok (.iconst 0, 1) := by decide +kernel
theorem dX0_clear_16 : decode cX0_clear 16 = .ok (.putfield 43, 3) := by decide +kernel
theorem dX0_clear_19 : decode cX0_clear 19 = .ok (.return_, 1) := by decide +kernel
theorem dX0_copyFrom_0 : decode cX0_copyFrom 0 = .ok (.iconst 0, 1) := by decide +kernel
theorem dX0_copyFrom_1 : decode cX0_copyFrom 1 = .ok (.istore_n 2, 1) := by decide +kernel
theorem dX0_copyFrom_2 : decode cX0_copyFrom 2 = .ok (.iload_n 2, 1) := by decide +kernel
theorem dX0_copyFrom_3 : decode cX0_copyFrom 3 = .ok (.aload_n 1, 1) := by decide +kernel
theorem dX0_copyFrom_4 : decode cX0_copyFrom 4 = .ok (.getfield 39, 3) := by decide +kernel
theorem dX0_copyFrom_7 : decode cX0_copyFrom 7 = .ok (.if_icmp .ge 16, 3) := by decide +kernel
theorem dX0_copyFrom_10 : decode cX0_copyFrom 10 = .ok (.aload_n 0, 1) := by decide +kernel
theorem dX0_copyFrom_11 : decode cX0_copyFrom 11 = .ok (.aload_n 1, 1) := by decide +kernel
theorem dX0_copyFrom_12 : decode cX0_copyFrom 12 = .ok (.iload_n 2, 1) := by decide +kernel
theorem dX0_copyFrom_13 : decode cX0_copyFrom 13 = .ok (.iload_n 2, 1) := by decide +kernel
theorem dX0_copyFrom_14 : decode cX0_copyFrom 14 = .ok (.invokevirtual 46, 3) := by decide +kernel
theorem dX0_copyFrom_17 : decode cX0_copyFrom 17 = .ok (.iinc 2 1, 3) := by decide +kernel
theorem dX0_copyFrom_20 : decode cX0_copyFrom 20 = .ok (.goto (-18), 3) := by decide +kernel
theorem dX0_copyFrom_23 : decode cX0_copyFrom 23 = .ok (.aload_n 1, 1) := by decide +kernel
theorem dX0_copyFrom_24 : decode cX0_copyFrom 24 = .ok (.getfield 29, 3) := by decide +kernel
theorem dX0_copyFrom_27 : decode cX0_copyFrom 27 = .ok (.iconst 0, 1) := by decide +kernel
theorem dX0_copyFrom_28 : decode cX0_copyFrom 28 = .ok (.aload_n 0, 1) := by decide +kernel
theorem dX0_copyFrom_29 : decode cX0_copyFrom 29 = .ok (.getfield 29, 3) := by decide +kernel
theorem dX0_copyFrom_32 : decode cX0_copyFrom 32 = .ok (.iconst 0, 1) := by decide +kernel
theorem dX0_copyFrom_33 : decode cX0_copyFrom 33 = .ok (.bipush 64, 2) := by decide +kernel
theorem dX0_copyFrom_35 : decode cX0_copyFrom 35 = .ok (.invokestatic 50, 3) := by decide +kernel
theorem dX0_copyFrom_38 : decode cX0_copyFrom 38 = .ok (.aload_n 0, 1) := by decide +kernel
theorem dX0_copyFrom_39 : decode cX0_copyFrom 39 = .ok (.aload_n 1, 1) := by decide +kernel
theorem dX0_copyFrom_40 : decode cX0_copyFrom 40 = .ok (.getfield 39, 3) := by decide +kernel
theorem dX0_copyFrom_43 : decode cX0_copyFrom 43 = .ok (.putfield 39, 3) := by decide +kernel
theorem dX0_copyFrom_46 : decode cX0_copyFrom 46 = .ok (.aload_n 0, 1) := by decide +kernel
theorem dX0_copyFrom_47 : decode cX0_copyFrom 47 = .ok (.aload_n 1, 1) := by decide +kernel
theorem dX0_copyFrom_48 : decode cX0_copyFrom 48 = .ok (.getfield 43, 3) := by decide +kernel
theorem dX0_copyFrom_51 : decode cX0_copyFrom 51 = .ok (.putfield 43, 3) := by decide +kernel
theorem dX0_copyFrom_54 : decode cX0_copyFrom 54 = .ok (.return_, 1) := by decide +kernel
theorem dX0_copyTrade_0 : decode cX0_copyTrade 0 = .ok (.aload_n 0, 1) := by decide +kernel
theorem dX0_copyTrade_1 : decode cX0_copyTrade 1 = .ok (.getfield 9, 3) := by decide +kernel
theorem dX0_copyTrade_4 : decode cX0_copyTrade 4 = .ok (.iload_n 3, 1) := by decide +kernel
theorem dX0_copyTrade_5 : decode cX0_copyTrade 5 = .ok (.aload_n 1, 1) := by decide +kernel
theorem dX0_copyTrade_6 : decode cX0_copyTrade 6 = .ok (.getfield 9, 3) := by decide +kernel
theorem dX0_copyTrade_9 : decode cX0_copyTrade 9 = .ok (.iload_n 2, 1) := by decide +kernel
theorem dX0_copyTrade_10 : decode cX0_copyTrade 10 = .ok (.iaload, 1) := by decide +kernel
theorem dX0_copyTrade_11 : decode cX0_copyTrade 11 = .ok (.iastore, 1) := by decide +kernel
theorem dX0_copyTrade_12 : decode cX0_copyTrade 12 = .ok (.aload_n 0, 1) := by decide +kernel
theorem dX0_copyTrade_13 : decode cX0_copyTrade 13 = .ok (.getfield 15, 3) := by decide +kernel
theorem dX0_copyTrade_16 : decode cX0_copyTrade 16 = .ok (.iload_n 3, 1) := by decide +kernel
theorem dX0_copyTrade_17 : decode cX0_copyTrade 17 = .ok (.aload_n 1, 1) := by decide +kernel
theorem dX0_copyTrade_18 : decode cX0_copyTrade 18 = .ok (.getfield 15, 3) := by decide +kernel
theorem dX0_copyTrade_21 : decode cX0_copyTrade 21 = .ok (.iload_n 2, 1) := by decide +kernel
theorem dX0_copyTrade_22 : decode cX0_copyTrade 22 = .ok (.iaload, 1) := by decide +kernel
theorem dX0_copyTrade_23 : decode cX0_copyTrade 23 = .ok (.iastore, 1) := by decide +kernel
theorem dX0_copyTrade_24 : decode cX0_copyTrade 24 = .ok (.aload_n 0, 1) := by decide +kernel
theorem dX0_copyTrade_25 : decode cX0_copyTrade 25 = .ok (.getfield 21, 3) := by decide +kernel
theorem dX0_copyTrade_28 : decode cX0_copyTrade 28 = .ok (.iload_n 3, 1) := by decide +kernel
theorem dX0_copyTrade_29 : decode cX0_copyTrade 29 = .ok (.aload_n 1, 1) := by decide +kernel
theorem dX0_copyTrade_30 : decode cX0_copyTrade 30 = .ok (.getfield 21, 3) := by decide +kernel
theorem dX0_copyTrade_33 : decode cX0_copyTrade 33 = .ok (.iload_n 2, 1) := by decide +kernel
theorem dX0_copyTrade_34 : decode cX0_copyTrade 34 = .ok (.laload, 1) := by decide +kernel
theorem dX0_copyTrade_35 : decode cX0_copyTrade 35 = .ok (.lastore, 1) := by decide +kernel
theorem dX0_copyTrade_36 : decode cX0_copyTrade 36 = .ok (.aload_n 0, 1) := by decide +kernel
theorem dX0_copyTrade_37 : decode cX0_copyTrade 37 = .ok (.getfield 18, 3) := by decide +kernel
theorem dX0_copyTrade_40 : decode cX0_copyTrade 40 = .ok (.iload_n 3, 1) := by decide +kernel
theorem dX0_copyTrade_41 : decode cX0_copyTrade 41 = .ok (.aload_n 1, 1) := by decide +kernel
theorem dX0_copyTrade_42 : decode cX0_copyTrade 42 = .ok (.getfield 18, 3) := by decide +kernel
theorem dX0_copyTrade_45 : decode cX0_copyTrade 45 = .ok (.iload_n 2, 1) := by decide +kernel
theorem dX0_copyTrade_46 : decode cX0_copyTrade 46 = .ok (.iaload, 1) := by decide +kernel
theorem dX0_copyTrade_47 : decode cX0_copyTrade 47 = .ok (.iastore, 1) := by decide +kernel
theorem dX0_copyTrade_48 : decode cX0_copyTrade 48 = .ok (.aload_n 0, 1) := by decide +kernel
theorem dX0_copyTrade_49 : decode cX0_copyTrade 49 = .ok (.getfield 25, 3) := by decide +kernel
theorem dX0_copyTrade_52 : decode cX0_copyTrade 52 = .ok (.iload_n 3, 1) := by decide +kernel
theorem dX0_copyTrade_53 : decode cX0_copyTrade 53 = .ok (.aload_n 1, 1) := by decide +kernel
theorem dX0_copyTrade_54 : decode cX0_copyTrade 54 = .ok (.getfield 25, 3) := by decide +kernel
theorem dX0_copyTrade_57 : decode cX0_copyTrade 57 = .ok (.iload_n 2, 1) := by decide +kernel
theorem dX0_copyTrade_58 : decode cX0_copyTrade 58 = .ok (.baload, 1) := by decide +kernel
theorem dX0_copyTrade_59 : decode cX0_copyTrade 59 = .ok (.bastore, 1) := by decide +kernel
theorem dX0_copyTrade_60 : decode cX0_copyTrade 60 = .ok (.return_, 1) := by decide +kernel
theorem dX0_keptOf_0 : decode cX0_keptOf 0 = .ok (.lconst 0, 1) := by decide +kernel
theorem dX0_keptOf_1 : decode cX0_keptOf 1 = .ok (.lstore_n 2, 1) := by decide +kernel
theorem dX0_keptOf_2 : decode cX0_keptOf 2 = .ok (.iconst 0, 1) := by decide +kernel
theorem dX0_keptOf_3 : decode cX0_keptOf 3 = .ok (.istore 4, 2) := by decide +kernel
theorem dX0_keptOf_5 : decode cX0_keptOf 5 = .ok (.iload 4, 2) := by decide +kernel
theorem dX0_keptOf_7 : decode cX0_keptOf 7 = .ok (.aload_n 0, 1) := by decide +kernel
theorem dX0_keptOf_8 : decode cX0_keptOf 8 = .ok (.getfield 39, 3) := by decide +kernel
theorem dX0_keptOf_11 : decode cX0_keptOf 11 = .ok (.if_icmp .ge 40, 3) := by decide +kernel
theorem dX0_keptOf_14 : decode cX0_keptOf 14 = .ok (.aload_n 0, 1) := by decide +kernel
theorem dX0_keptOf_15 : decode cX0_keptOf 15 = .ok (.getfield 18, 3) := by decide +kernel
theorem dX0_keptOf_18 : decode cX0_keptOf 18 = .ok (.iload 4, 2) := by decide +kernel
theorem dX0_keptOf_20 : decode cX0_keptOf 20 = .ok (.iaload, 1) := by decide +kernel
theorem dX0_keptOf_21 : decode cX0_keptOf 21 = .ok (.iload_n 1, 1) := by decide +kernel
theorem dX0_keptOf_22 : decode cX0_keptOf 22 = .ok (.if_icmp .ne 23, 3) := by decide +kernel
theorem dX0_keptOf_25 : decode cX0_keptOf 25 = .ok (.aload_n 0, 1) := by decide +kernel
theorem dX0_keptOf_26 : decode cX0_keptOf 26 = .ok (.getfield 25, 3) := by decide +kernel
theorem dX0_keptOf_29 : decode cX0_keptOf 29 = .ok (.iload 4, 2) := by decide +kernel
theorem dX0_keptOf_31 : decode cX0_keptOf 31 = .ok (.baload, 1) := by decide +kernel
theorem dX0_keptOf_32 : decode cX0_keptOf 32 = .ok (.ifCond .eq 13, 3) := by decide +kernel
theorem dX0_keptOf_35 : decode cX0_keptOf 35 = .ok (.lload_n 2, 1) := by decide +kernel
theorem dX0_keptOf_36 : decode cX0_keptOf 36 = .ok (.aload_n 0, 1) := by decide +kernel
theorem dX0_keptOf_37 : decode cX0_keptOf 37 = .ok (.getfield 21, 3) := by decide +kernel
theorem dX0_keptOf_40 : decode cX0_keptOf 40 = .ok (.iload 4, 2) := by decide +kernel
theorem dX0_keptOf_42 : decode cX0_keptOf 42 = .ok (.laload, 1) := by decide +kernel
theorem dX0_keptOf_43 : decode cX0_keptOf 43 = .ok (.ladd, 1) := by decide +kernel
theorem dX0_keptOf_44 : decode cX0_keptOf 44 = .ok (.lstore_n 2, 1) := by decide +kernel
theorem dX0_keptOf_45 : decode cX0_keptOf 45 = .ok (.iinc 4 1, 3) := by decide +kernel
theorem dX0_keptOf_48 : decode cX0_keptOf 48 = .ok (.goto (-43), 3) := by decide +kernel
theorem dX0_keptOf_51 : decode cX0_keptOf 51 = .ok (.lload_n 2, 1) := by decide +kernel
theorem dX0_keptOf_52 : decode cX0_keptOf 52 = .ok (.lreturn, 1) := by decide +kernel
theorem dX0_keptTrades_0 : decode cX0_keptTrades 0 = .ok (.iconst 0, 1) := by decide +kernel
theorem dX0_keptTrades_1 : decode cX0_keptTrades 1 = .ok (.istore_n 1, 1) := by decide +kernel
theorem dX0_keptTrades_2 : decode cX0_keptTrades 2 = .ok (.iconst 0, 1) := by decide +kernel
theorem dX0_keptTrades_3 : decode cX0_keptTrades 3 = .ok (.istore_n 2, 1) := by decide +kernel
theorem dX0_keptTrades_4 : decode cX0_keptTrades 4 = .ok (.iload_n 2, 1) := by decide +kernel
theorem dX0_keptTrades_5 : decode cX0_keptTrades 5 = .ok (.aload_n 0, 1) := by decide +kernel
theorem dX0_keptTrades_6 : decode cX0_keptTrades 6 = .ok (.getfield 39, 3) := by decide +kernel
theorem dX0_keptTrades_9 : decode cX0_keptTrades 9 = .ok (.if_icmp .ge 21, 3) := by decide +kernel
theorem dX0_keptTrades_12 : decode cX0_keptTrades 12 = .ok (.aload_n 0, 1) := by decide +kernel
theorem dX0_keptTrades_13 : decode cX0_keptTrades 13 = .ok (.getfield 25, 3) := by decide +kernel
theorem dX0_keptTrades_16 : decode cX0_keptTrades 16 = .ok (.iload_n 2, 1) := by decide +kernel
theorem dX0_keptTrades_17 : decode cX0_keptTrades 17 = .ok (.baload, 1) := by decide +kernel
theorem dX0_keptTrades_18 : decode cX0_keptTrades 18 = .ok (.ifCond .eq 6, 3) := by decide +kernel
theorem dX0_keptTrades_21 : decode cX0_keptTrades 21 = .ok (.iinc 1 1, 3) := by decide +kernel
theorem dX0_keptTrades_24 : decode cX0_keptTrades 24 = .ok (.iinc 2 1, 3) := by decide +kernel
theorem dX0_keptTrades_27 : decode cX0_keptTrades 27 = .ok (.goto (-23), 3) := by decide +kernel
theorem dX0_keptTrades_30 : decode cX0_keptTrades 30 = .ok (.iload_n 1, 1) := by decide +kernel
theorem dX0_keptTrades_31 : decode cX0_keptTrades 31 = .ok (.ireturn, 1) := by decide +kernel
theorem dX0_lessen_0 : decode cX0_lessen 0 = .ok (.lload 4, 2) := by decide +kernel
theorem dX0_lessen_2 : decode cX0_lessen 2 = .ok (.lstore 6, 2) := by decide +kernel
theorem dX0_lessen_4 : decode cX0_lessen 4 = .ok (.aload_n 0, 1) := by decide +kernel
theorem dX0_lessen_5 : decode cX0_lessen 5 = .ok (.getfield 39, 3) := by decide +kernel
theorem dX0_lessen_8 : decode cX0_lessen 8 = .ok (.iconst 1, 1) := by decide +kernel
theorem dX0_lessen_9 : decode cX0_lessen 9 = .ok (.isub, 1) := by decide +kernel
theorem dX0_lessen_10 : decode cX0_lessen 10 = .ok (.istore 8, 2) := by decide +kernel
theorem dX0_lessen_12 : decode cX0_lessen 12 = .ok (.iload 8, 2) := by decide +kernel
theorem dX0_lessen_14 : decode cX0_lessen 14 = .ok (.ifCond .lt 103, 3) := by decide +kernel
theorem dX0_lessen_17 : decode cX0_lessen 17 = .ok (.aload_n 0, 1) := by decide +kernel
theorem dX0_lessen_18 : decode cX0_lessen 18 = .ok (.getfield 9, 3) := by decide +kernel
theorem dX0_lessen_21 : decode cX0_lessen 21 = .ok (.iload 8, 2) := by decide +kernel
theorem dX0_lessen_23 : decode cX0_lessen 23 = .ok (.iaload, 1) := by decide +kernel
theorem dX0_lessen_24 : decode cX0_lessen 24 = .ok (.iload_n 1, 1) := by decide +kernel
theorem dX0_lessen_25 : decode cX0_lessen 25 = .ok (.if_icmp .ne 86, 3) := by decide +kernel
theorem dX0_lessen_28 : decode cX0_lessen 28 = .ok (.aload_n 0, 1) := by decide +kernel
theorem dX0_lessen_29 : decode cX0_lessen 29 = .ok (.getfield 15, 3) := by decide +kernel
theorem dX0_lessen_32 : decode cX0_lessen 32 = .ok (.iload 8, 2) := by decide +kernel
theorem dX0_lessen_34 : decode cX0_lessen 34 = .ok (.iaload, 1) := by decide +kernel
theorem dX0_lessen_35 : decode cX0_lessen 35 = .ok (.iload_n 2, 1) := by decide +kernel
theorem dX0_lessen_36 : decode cX0_lessen 36 = .ok (.if_icmp .ne 75, 3) := by decide +kernel
theorem dX0_lessen_39 : decode cX0_lessen 39 = .ok (.aload_n 0, 1) := by decide +kernel
theorem dX0_lessen_40 : decode cX0_lessen 40 = .ok (.getfield 18, 3) := by decide +kernel
theorem dX0_lessen_43 : decode cX0_lessen 43 = .ok (.iload 8, 2) := by decide +kernel
theorem dX0_lessen_45 : decode cX0_lessen 45 = .ok (.iaload, 1) := by decide +kernel
theorem dX0_lessen_46 : decode cX0_lessen 46 = .ok (.iload_n 3, 1) := by decide +kernel
theorem dX0_lessen_47 : decode cX0_lessen 47 = .ok (.if_icmp .ne 64, 3) := by decide +kernel
theorem dX0_lessen_50 : decode cX0_lessen 50 = .ok (.aload_n 0, 1) := by decide +kernel
theorem dX0_lessen_51 : decode cX0_lessen 51 = .ok (.getfield 25, 3) := by decide +kernel
theorem dX0_lessen_54 : decode cX0_lessen 54 = .ok (.iload 8, 2) := by decide +kernel
theorem dX0_lessen_56 : decode cX0_lessen 56 = .ok (.baload, 1) := by decide +kernel
theorem dX0_lessen_57 : decode cX0_lessen 57 = .ok (.ifCond .ne 54, 3) := by decide +kernel
theorem dX0_lessen_60 : decode cX0_lessen 60 = .ok (.lload 6, 2) := by decide +kernel
theorem dX0_lessen_62 : decode cX0_lessen 62 = .ok (.aload_n 0, 1) := by decide +kernel
theorem dX0_lessen_63 : decode cX0_lessen 63 = .ok (.getfield 21, 3) := by decide +kernel
theorem dX0_lessen_66 : decode cX0_lessen 66 = .ok (.iload 8, 2) := by decide +kernel
theorem dX0_lessen_68 : decode cX0_lessen 68 = .ok (.laload, 1) := by decide +kernel
theorem dX0_lessen_69 : decode cX0_lessen 69 = .ok (.invokestatic 60, 3) := by decide +kernel
theorem dX0_lessen_72 : decode cX0_lessen 72 = .ok (.lstore 9, 2) := by decide +kernel
theorem dX0_lessen_74 : decode cX0_lessen 74 = .ok (.aload_n 0, 1) := by decide +kernel
theorem dX0_lessen_75 : decode cX0_lessen 75 = .ok (.getfield 21, 3) := by decide +kernel
theorem dX0_lessen_78 : decode cX0_lessen 78 = .ok (.iload 8, 2) := by decide +kernel
theorem dX0_lessen_80 : decode cX0_lessen 80 = .ok (.dup2, 1) := by decide +kernel
theorem dX0_lessen_81 : decode cX0_lessen 81 = .ok (.laload, 1) := by decide +kernel
theorem dX0_lessen_82 : decode cX0_lessen 82 = .ok (.lload 9, 2) := by decide +kernel
theorem dX0_lessen_84 : decode cX0_lessen 84 = .ok (.lsub, 1) := by decide +kernel
theorem dX0_lessen_85 : decode cX0_lessen 85 = .ok (.lastore, 1) := by decide +kernel
theorem dX0_lessen_86 : decode cX0_lessen 86 = .ok (.lload 6, 2) := by decide +kernel
theorem dX0_lessen_88 : decode cX0_lessen 88 = .ok (.lload 9, 2) := by decide +kernel
theorem dX0_lessen_90 : decode cX0_lessen 90 = .ok (.lsub, 1) := by decide +kernel
theorem dX0_lessen_91 : decode cX0_lessen 91 = .ok (.lstore 6, 2) := by decide +kernel
theorem dX0_lessen_93 : decode cX0_lessen 93 = .ok (.aload_n 0, 1) := by decide +kernel
theorem dX0_lessen_94 : decode cX0_lessen 94 = .ok (.getfield 21, 3) := by decide +kernel
theorem dX0_lessen_97 : decode cX0_lessen 97 = .ok (.iload 8, 2) := by decide +kernel
theorem dX0_lessen_99 : decode cX0_lessen 99 = .ok (.laload, 1) := by decide +kernel
theorem dX0_lessen_100 : decode cX0_lessen 100 = .ok (.lconst 0, 1) := by decide +kernel
theorem dX0_lessen_101 : decode cX0_lessen 101 = .ok (.lcmp, 1) := by decide +kernel
theorem dX0_lessen_102 : decode cX0_lessen 102 = .ok (.ifCond .ne 9, 3) := by decide +kernel
theorem dX0_lessen_105 : decode cX0_lessen 105 = .ok (.aload_n 0, 1) := by decide +kernel
theorem dX0_lessen_106 : decode cX0_lessen 106 = .ok (.iload 8, 2) := by decide +kernel
theorem dX0_lessen_108 : decode cX0_lessen 108 = .ok (.invokevirtual 56, 3) := by decide +kernel
theorem dX0_lessen_111 : decode cX0_lessen 111 = .ok (.iinc 8 (-1), 3) := by decide +kernel
theorem dX0_lessen_114 : decode cX0_lessen 114 = .ok (.goto (-102), 3) := by decide +kernel
theorem dX0_lessen_117 : decode cX0_lessen 117 = .ok (.return_, 1) := by decide +kernel
theorem dX0_openOf_0 : decode cX0_openOf 0 = .ok (.iconst 0, 1) := by decide +kernel
theorem dX0_openOf_1 : decode cX0_openOf 1 = .ok (.istore_n 2, 1) := by decide +kernel
theorem dX0_openOf_2 : decode cX0_openOf 2 = .ok (.iconst 0, 1) := by decide +kernel
theorem dX0_openOf_3 : decode cX0_openOf 3 = .ok (.istore_n 3, 1) := by decide +kernel
theorem dX0_openOf_4 : decode cX0_openOf 4 = .ok (.iload_n 3, 1) := by decide +kernel
theorem dX0_openOf_5 : decode cX0_openOf 5 = .ok (.aload_n 0, 1) := by decide +kernel
theorem dX0_openOf_6 : decode cX0_openOf 6 = .ok (.getfield 39, 3) := by decide +kernel
theorem dX0_openOf_9 : decode cX0_openOf 9 = .ok (.if_icmp .ge 31, 3) := by decide +kernel
theorem dX0_openOf_12 : decode cX0_openOf 12 = .ok (.aload_n 0, 1) := by decide +kernel
theorem dX0_openOf_13 : decode cX0_openOf 13 = .ok (.getfield 18, 3) := by decide +kernel
theorem dX0_openOf_16 : decode cX0_openOf 16 = .ok (.iload_n 3, 1) := by decide +kernel
theorem dX0_openOf_17 : decode cX0_openOf 17 = .ok (.iaload, 1) := by decide +kernel
theorem dX0_openOf_18 : decode cX0_openOf 18 = .ok (.iload_n 1, 1) := by decide +kernel
theorem dX0_openOf_19 : decode cX0_openOf 19 = .ok (.if_icmp .ne 15, 3) := by decide +kernel
theorem dX0_openOf_22 : decode cX0_openOf 22 = .ok (.aload_n 0, 1) := by decide +kernel
theorem dX0_openOf_23 : decode cX0_openOf 23 = .ok (.getfield 25, 3) := by decide +kernel
theorem dX0_openOf_26 : decode cX0_openOf 26 = .ok (.iload_n 3, 1) := by decide +kernel
theorem dX0_openOf_27 : decode cX0_openOf 27 = .ok (.baload, 1) := by decide +kernel
theorem dX0_openOf_28 : decode cX0_openOf 28 = .ok (.ifCond .ne 6, 3) := by decide +kernel
theorem dX0_openOf_31 : decode cX0_openOf 31 = .ok (.iinc 2 1, 3) := by decide +kernel
theorem dX0_openOf_34 : decode cX0_openOf 34 = .ok (.iinc 3 1, 3) := by decide +kernel
theorem dX0_openOf_37 : decode cX0_openOf 37 = .ok (.goto (-33), 3) := by decide +kernel
theorem dX0_openOf_40 : decode cX0_openOf 40 = .ok (.iload_n 2, 1) := by decide +kernel
theorem dX0_openOf_41 : decode cX0_openOf 41 = .ok (.ireturn, 1) := by decide +kernel
theorem dX0_othersOf_0 : decode cX0_othersOf 0 = .ok (.iconst 0, 1) := by decide +kernel
theorem dX0_othersOf_1 : decode cX0_othersOf 1 = .ok (.istore_n 3, 1) := by decide +kernel
theorem dX0_othersOf_2 : decode cX0_othersOf 2 = .ok (.iconst 0, 1) := by decide +kernel
theorem dX0_othersOf_3 : decode cX0_othersOf 3 = .ok (.istore 4, 2) := by decide +kernel
theorem dX0_othersOf_5 : decode cX0_othersOf 5 = .ok (.iload 4, 2) := by decide +kernel
theorem dX0_othersOf_7 : decode cX0_othersOf 7 = .ok (.aload_n 0, 1) := by decide +kernel
theorem dX0_othersOf_8 : decode cX0_othersOf 8 = .ok (.getfield 39, 3) := by decide +kernel
theorem dX0_othersOf_11 : decode cX0_othersOf 11 = .ok (.if_icmp .ge 80, 3) := by decide +kernel
theorem dX0_othersOf_14 : decode cX0_othersOf 14 = .ok (.aload_n 0, 1) := by decide +kernel
theorem dX0_othersOf_15 : decode cX0_othersOf 15 = .ok (.getfield 18, 3) := by decide +kernel
theorem dX0_othersOf_18 : decode cX0_othersOf 18 = .ok (.iload 4, 2) := by decide +kernel
theorem dX0_othersOf_20 : decode cX0_othersOf 20 = .ok (.iaload, 1) := by decide +kernel
theorem dX0_othersOf_21 : decode cX0_othersOf 21 = .ok (.iload_n 2, 1) := by decide +kernel
theorem dX0_othersOf_22 : decode cX0_othersOf 22 = .ok (.if_icmp .ne 29, 3) := by decide +kernel
theorem dX0_othersOf_25 : decode cX0_othersOf 25 = .ok (.aload_n 0, 1) := by decide +kernel
theorem dX0_othersOf_26 : decode cX0_othersOf 26 = .ok (.getfield 9, 3) := by decide +kernel
theorem dX0_othersOf_29 : decode cX0_othersOf 29 = .ok (.iload 4, 2) := by decide +kernel
theorem dX0_othersOf_31 : decode cX0_othersOf 31 = .ok (.iaload, 1) := by decide +kernel
theorem dX0_othersOf_32 : decode cX0_othersOf 32 = .ok (.iload_n 1, 1) := by decide +kernel
theorem dX0_othersOf_33 : decode cX0_othersOf 33 = .ok (.if_icmp .ne 18, 3) := by decide +kernel
theorem dX0_othersOf_36 : decode cX0_othersOf 36 = .ok (.iload_n 3, 1) := by decide +kernel
theorem dX0_othersOf_37 : decode cX0_othersOf 37 = .ok (.iconst 1, 1) := by decide +kernel
theorem dX0_othersOf_38 : decode cX0_othersOf 38 = .ok (.aload_n 0, 1) := by decide +kernel
theorem dX0_othersOf_39 : decode cX0_othersOf 39 = .ok (.getfield 15, 3) := by decide +kernel
theorem dX0_othersOf_42 : decode cX0_othersOf 42 = .ok (.iload 4, 2) := by decide +kernel
theorem dX0_othersOf_44 : decode cX0_othersOf 44 = .ok (.iaload, 1) := by decide +kernel
theorem dX0_othersOf_45 : decode cX0_othersOf 45 = .ok (.ishl, 1) := by decide +kernel
theorem dX0_othersOf_46 : decode cX0_othersOf 46 = .ok (.ior, 1) := by decide +kernel
theorem dX0_othersOf_47 : decode cX0_othersOf 47 = .ok (.istore_n 3, 1) := by decide +kernel
theorem dX0_othersOf_48 : decode cX0_othersOf 48 = .ok (.goto 37, 3) := by decide +kernel
theorem dX0_othersOf_51 : decode cX0_othersOf 51 = .ok (.aload_n 0, 1) := by decide +kernel
theorem dX0_othersOf_52 : decode cX0_othersOf 52 = .ok (.getfield 18, 3) := by decide +kernel
theorem dX0_othersOf_55 : decode cX0_othersOf 55 = .ok (.iload 4, 2) := by decide +kernel
theorem dX0_othersOf_57 : decode cX0_othersOf 57 = .ok (.iaload, 1) := by decide +kernel
theorem dX0_othersOf_58 : decode cX0_othersOf 58 = .ok (.iload_n 2, 1) := by decide +kernel
theorem dX0_othersOf_59 : decode cX0_othersOf 59 = .ok (.if_icmp .ne 26, 3) := by decide +kernel
theorem dX0_othersOf_62 : decode cX0_othersOf 62 = .ok (.aload_n 0, 1) := by decide +kernel
theorem dX0_othersOf_63 : decode cX0_othersOf 63 = .ok (.getfield 15, 3) := by decide +kernel
theorem dX0_othersOf_66 : decode cX0_othersOf 66 = .ok (.iload 4, 2) := by decide +kernel
theorem dX0_othersOf_68 : decode cX0_othersOf 68 = .ok (.iaload, 1) := by decide +kernel
theorem dX0_othersOf_69 : decode cX0_othersOf 69 = .ok (.iload_n 1, 1) := by decide +kernel
theorem dX0_othersOf_70 : decode cX0_othersOf 70 = .ok (.if_icmp .ne 15, 3) := by decide +kernel
theorem dX0_othersOf_73 : decode cX0_othersOf 73 = .ok (.iload_n 3, 1) := by decide +kernel
theorem dX0_othersOf_74 : decode cX0_othersOf 74 = .ok (.iconst 1, 1) := by decide +kernel
theorem dX0_othersOf_75 : decode cX0_othersOf 75 = .ok (.aload_n 0, 1) := by decide +kernel
theorem dX0_othersOf_76 : decode cX0_othersOf 76 = .ok (.getfield 9, 3) := by decide +kernel
theorem dX0_othersOf_79 : decode cX0_othersOf 79 = .ok (.iload 4, 2) := by decide +kernel
theorem dX0_othersOf_81 : decode cX0_othersOf 81 = .ok (.iaload, 1) := by decide +kernel
theorem dX0_othersOf_82 : decode cX0_othersOf 82 = .ok (.ishl, 1) := by decide +kernel
theorem dX0_othersOf_83 : decode cX0_othersOf 83 = .ok (.ior, 1) := by decide +kernel
theorem dX0_othersOf_84 : decode cX0_othersOf 84 = .ok (.istore_n 3, 1) := by decide +kernel
theorem dX0_othersOf_85 : decode cX0_othersOf 85 = .ok (.iinc 4 1, 3) := by decide +kernel
theorem dX0_othersOf_88 : decode cX0_othersOf 88 = .ok (.goto (-83), 3) := by decide +kernel
theorem dX0_othersOf_91 : decode cX0_othersOf 91 = .ok (.iload_n 3, 1) := by decide +kernel
theorem dX0_othersOf_92 : decode cX0_othersOf 92 = .ok (.invokestatic 66, 3) := by decide +kernel
theorem dX0_othersOf_95 : decode cX0_othersOf 95 = .ok (.ireturn, 1) := by decide +kernel
theorem dX0_remove_0 : decode cX0_remove 0 = .ok (.iload_n 1, 1) := by decide +kernel
theorem dX0_remove_1 : decode cX0_remove 1 = .ok (.istore_n 2, 1) := by decide +kernel
theorem dX0_remove_2 : decode cX0_remove 2 = .ok (.iload_n 2, 1) := by decide +kernel
theorem dX0_remove_3 : decode cX0_remove 3 = .ok (.iconst 1, 1) := by decide +kernel
theorem dX0_remove_4 : decode cX0_remove 4 = .ok (.iadd, 1) := by decide +kernel
theorem dX0_remove_5 : decode cX0_remove 5 = .ok (.aload_n 0, 1) := by decide +kernel
theorem dX0_remove_6 : decode cX0_remove 6 = .ok (.getfield 39, 3) := by decide +kernel
theorem dX0_remove_9 : decode cX0_remove 9 = .ok (.if_icmp .ge 18, 3) := by decide +kernel
theorem dX0_remove_12 : decode cX0_remove 12 = .ok (.aload_n 0, 1) := by decide +kernel
theorem dX0_remove_13 : decode cX0_remove 13 = .ok (.aload_n 0, 1) := by decide +kernel
theorem dX0_remove_14 : decode cX0_remove 14 = .ok (.iload_n 2, 1) := by decide +kernel
theorem dX0_remove_15 : decode cX0_remove 15 = .ok (.iconst 1, 1) := by decide +kernel
theorem dX0_remove_16 : decode cX0_remove 16 = .ok (.iadd, 1) := by decide +kernel
theorem dX0_remove_17 : decode cX0_remove 17 = .ok (.iload_n 2, 1) := by decide +kernel
theorem dX0_remove_18 : decode cX0_remove 18 = .ok (.invokevirtual 46, 3) := by decide +kernel
theorem dX0_remove_21 : decode cX0_remove 21 = .ok (.iinc 2 1, 3) := by decide +kernel
theorem dX0_remove_24 : decode cX0_remove 24 = .ok (.goto (-22), 3) := by decide +kernel
theorem dX0_remove_27 : decode cX0_remove 27 = .ok (.aload_n 0, 1) := by decide +kernel
theorem dX0_remove_28 : decode cX0_remove 28 = .ok (.dup, 1) := by decide +kernel
theorem dX0_remove_29 : decode cX0_remove 29 = .ok (.getfield 39, 3) := by decide +kernel
theorem dX0_remove_32 : decode cX0_remove 32 = .ok (.iconst 1, 1) := by decide +kernel
theorem dX0_remove_33 : decode cX0_remove 33 = .ok (.isub, 1) := by decide +kernel
theorem dX0_remove_34 : decode cX0_remove 34 = .ok (.putfield 39, 3) := by decide +kernel
theorem dX0_remove_37 : decode cX0_remove 37 = .ok (.return_, 1) := by decide +kernel
theorem dX0_removeOpen_0 : decode cX0_removeOpen 0 = .ok (.aload_n 0, 1) := by decide +kernel
theorem dX0_removeOpen_1 : decode cX0_removeOpen 1 = .ok (.getfield 39, 3) := by decide +kernel
theorem dX0_removeOpen_4 : decode cX0_removeOpen 4 = .ok (.iconst 1, 1) := by decide +kernel
theorem dX0_removeOpen_5 : decode cX0_removeOpen 5 = .ok (.isub, 1) := by decide +kernel
theorem dX0_removeOpen_6 : decode cX0_removeOpen 6 = .ok (.istore_n 2, 1) := by decide +kernel
theorem dX0_removeOpen_7 : decode cX0_removeOpen 7 = .ok (.iload_n 2, 1) := by decide +kernel
theorem dX0_removeOpen_8 : decode cX0_removeOpen 8 = .ok (.ifCond .lt 33, 3) := by decide +kernel
theorem dX0_removeOpen_11 : decode cX0_removeOpen 11 = .ok (.aload_n 0, 1) := by decide +kernel
theorem dX0_removeOpen_12 : decode cX0_removeOpen 12 = .ok (.getfield 18, 3) := by decide +kernel
theorem dX0_removeOpen_15 : decode cX0_removeOpen 15 = .ok (.iload_n 2, 1) := by decide +kernel
theorem dX0_removeOpen_16 : decode cX0_removeOpen 16 = .ok (.iaload, 1) := by decide +kernel
theorem dX0_removeOpen_17 : decode cX0_removeOpen 17 = .ok (.iload_n 1, 1) := by decide +kernel
theorem dX0_removeOpen_18 : decode cX0_removeOpen 18 = .ok (.if_icmp .ne 17, 3) := by decide +kernel
theorem dX0_removeOpen_21 : decode cX0_removeOpen 21 = .ok (.aload_n 0, 1) := by decide +kernel
theorem dX0_removeOpen_22 : decode cX0_removeOpen 22 = .ok (.getfield 25, 3) := by decide +kernel
theorem dX0_removeOpen_25 : decode cX0_removeOpen 25 = .ok (.iload_n 2, 1) := by decide +kernel
theorem dX0_removeOpen_26 : decode cX0_removeOpen 26 = .ok (.baload, 1) := by decide +kernel
theorem dX0_removeOpen_27 : decode cX0_removeOpen 27 = .ok (.ifCond .ne 8, 3) := by decide +kernel
theorem dX0_removeOpen_30 : decode cX0_removeOpen 30 = .ok (.aload_n 0, 1) := by decide +kernel
theorem dX0_removeOpen_31 : decode cX0_removeOpen 31 = .ok (.iload_n 2, 1) := by decide +kernel
theorem dX0_removeOpen_32 : decode cX0_removeOpen 32 = .ok (.invokevirtual 56, 3) := by decide +kernel
theorem dX0_removeOpen_35 : decode cX0_removeOpen 35 = .ok (.iinc 2 (-1), 3) := by decide +kernel
theorem dX0_removeOpen_38 : decode cX0_removeOpen 38 = .ok (.goto (-31), 3) := by decide +kernel
theorem dX0_removeOpen_41 : decode cX0_removeOpen 41 = .ok (.return_, 1) := by decide +kernel
theorem dX11_cell_0 : decode cX11_cell 0 = .ok (.iload_n 0, 1) := by decide +kernel
theorem dX11_cell_1 : decode cX11_cell 1 = .ok (.bipush 8, 2) := by decide +kernel
theorem dX11_cell_3 : decode cX11_cell 3 = .ok (.imul, 1) := by decide +kernel
theorem dX11_cell_4 : decode cX11_cell 4 = .ok (.iload_n 1, 1) := by decide +kernel
theorem dX11_cell_5 : decode cX11_cell 5 = .ok (.iadd, 1) := by decide +kernel
theorem dX11_cell_6 : decode cX11_cell 6 = .ok (.ireturn, 1) := by decide +kernel
theorem dX3_appendKind_0 : decode cX3_appendKind 0 = .ok (.aload_n 0, 1) := by decide +kernel
theorem dX3_appendKind_1 : decode cX3_appendKind 1 = .ok (.getfield 23, 3) := by decide +kernel
theorem dX3_appendKind_4 : decode cX3_appendKind 4 = .ok (.iconst 4, 1) := by decide +kernel
theorem dX3_appendKind_5 : decode cX3_appendKind 5 = .ok (.if_icmp .ge 27, 3) := by decide +kernel
theorem dX3_appendKind_8 : decode cX3_appendKind 8 = .ok (.aload_n 0, 1) := by decide +kernel
theorem dX3_appendKind_9 : decode cX3_appendKind 9 = .ok (.bipush 8, 2) := by decide +kernel
theorem dX3_appendKind_11 : decode cX3_appendKind 11 = .ok (.aload_n 0, 1) := by decide +kernel
theorem dX3_appendKind_12 : decode cX3_appendKind 12 = .ok (.getfield 23, 3) := by decide +kernel
theorem dX3_appendKind_15 : decode cX3_appendKind 15 = .ok (.iadd, 1) := by decide +kernel
theorem dX3_appendKind_16 : decode cX3_appendKind 16 = .ok (.aload_n 1, 1) := by decide +kernel
theorem dX3_appendKind_17 : decode cX3_appendKind 17 = .ok (.iload_n 2, 1) := by decide +kernel
theorem dX3_appendKind_18 : decode cX3_appendKind 18 = .ok (.iload_n 3, 1) := by decide +kernel
theorem dX3_appendKind_19 : decode cX3_appendKind 19 = .ok (.invokevirtual 26, 3) := by decide +kernel
theorem dX3_appendKind_22 : decode cX3_appendKind 22 = .ok (.aload_n 0, 1) := by decide +kernel
theorem dX3_appendKind_23 : decode cX3_appendKind 23 = .ok (.dup, 1) := by decide +kernel
theorem dX3_appendKind_24 : decode cX3_appendKind 24 = .ok (.getfield 23, 3) := by decide +kernel
theorem dX3_appendKind_27 : decode cX3_appendKind 27 = .ok (.iconst 1, 1) := by decide +kernel
theorem dX3_appendKind_28 : decode cX3_appendKind 28 = .ok (.iadd, 1) := by decide +kernel
theorem dX3_appendKind_29 : decode cX3_appendKind 29 = .ok (.putfield 23, 3) := by decide +kernel
theorem dX3_appendKind_32 : decode cX3_appendKind 32 = .ok (.return_, 1) := by decide +kernel
theorem dX3_appendParty_0 : decode cX3_appendParty 0 = .ok (.aload_n 0, 1) := by decide +kernel
theorem dX3_appendParty_1 : decode cX3_appendParty 1 = .ok (.getfield 19, 3) := by decide +kernel
theorem dX3_appendParty_4 : decode cX3_appendParty 4 = .ok (.bipush 8, 2) := by decide +kernel
theorem dX3_appendParty_6 : decode cX3_appendParty 6 = .ok (.if_icmp .ge 24, 3) := by decide +kernel
theorem dX3_appendParty_9 : decode cX3_appendParty 9 = .ok (.aload_n 0, 1) := by decide +kernel
theorem dX3_appendParty_10 : decode cX3_appendParty 10 = .ok (.aload_n 0, 1) := by decide +kernel
theorem dX3_appendParty_11 : decode cX3_appendParty 11 = .ok (.getfield 19, 3) := by decide +kernel
theorem dX3_appendParty_14 : decode cX3_appendParty 14 = .ok (.aload_n 1, 1) := by decide +kernel
theorem dX3_appendParty_15 : decode cX3_appendParty 15 = .ok (.iload_n 2, 1) := by decide +kernel
theorem dX3_appendParty_16 : decode cX3_appendParty 16 = .ok (.iload_n 3, 1) := by decide +kernel
theorem dX3_appendParty_17 : decode cX3_appendParty 17 = .ok (.invokevirtual 26, 3) := by decide +kernel
theorem dX3_appendParty_20 : decode cX3_appendParty 20 = .ok (.aload_n 0, 1) := by decide +kernel
theorem dX3_appendParty_21 : decode cX3_appendParty 21 = .ok (.dup, 1) := by decide +kernel
theorem dX3_appendParty_22 : decode cX3_appendParty 22 = .ok (.getfield 19, 3) := by decide +kernel
theorem dX3_appendParty_25 : decode cX3_appendParty 25 = .ok (.iconst 1, 1) := by decide +kernel
theorem dX3_appendParty_26 : decode cX3_appendParty 26 = .ok (.iadd, 1) := by decide +kernel
theorem dX3_appendParty_27 : decode cX3_appendParty 27 = .ok (.putfield 19, 3) := by decide +kernel
theorem dX3_appendParty_30 : decode cX3_appendParty 30 = .ok (.return_, 1) := by decide +kernel
theorem dX3_clear_0 : decode cX3_clear 0 = .ok (.aload_n 0, 1) := by decide +kernel
theorem dX3_clear_1 : decode cX3_clear 1 = .ok (.iconst 0, 1) := by decide +kernel
theorem dX3_clear_2 : decode cX3_clear 2 = .ok (.putfield 19, 3) := by decide +kernel
theorem dX3_clear_5 : decode cX3_clear 5 = .ok (.aload_n 0, 1) := by decide +kernel
theorem dX3_clear_6 : decode cX3_clear 6 = .ok (.iconst 0, 1) := by decide +kernel
theorem dX3_clear_7 : decode cX3_clear 7 = .ok (.putfield 23, 3) := by decide +kernel
theorem dX3_clear_10 : decode cX3_clear 10 = .ok (.return_, 1) := by decide +kernel
theorem dX3_find_0 : decode cX3_find 0 = .ok (.iconst 0, 1) := by decide +kernel
theorem dX3_find_1 : decode cX3_find 1 = .ok (.istore 6, 2) := by decide +kernel
theorem dX3_find_3 : decode cX3_find 3 = .ok (.iload 6, 2) := by decide +kernel
theorem dX3_find_5 : decode cX3_find 5 = .ok (.iload_n 2, 1) := by decide +kernel
theorem dX3_find_6 : decode cX3_find 6 = .ok (.if_icmp .ge 28, 3) := by decide +kernel
theorem dX3_find_9 : decode cX3_find 9 = .ok (.aload_n 0, 1) := by decide +kernel
theorem dX3_find_10 : decode cX3_find 10 = .ok (.iload_n 1, 1) := by decide +kernel
theorem dX3_find_11 : decode cX3_find 11 = .ok (.iload 6, 2) := by decide +kernel
theorem dX3_find_13 : decode cX3_find 13 = .ok (.iadd, 1) := by decide +kernel
theorem dX3_find_14 : decode cX3_find 14 = .ok (.aload_n 3, 1) := by decide +kernel
theorem dX3_find_15 : decode cX3_find 15 = .ok (.iload 4, 2) := by decide +kernel
theorem dX3_find_17 : decode cX3_find 17 = .ok (.iload 5, 2) := by decide +kernel
theorem dX3_find_19 : decode cX3_find 19 = .ok (.invokevirtual 30, 3) := by decide +kernel
theorem dX3_find_22 : decode cX3_find 22 = .ok (.ifCond .eq 6, 3) := by decide +kernel
theorem dX3_find_25 : decode cX3_find 25 = .ok (.iload 6, 2) := by decide +kernel
theorem dX3_find_27 : decode cX3_find 27 = .ok (.ireturn, 1) := by decide +kernel
theorem dX3_find_28 : decode cX3_find 28 = .ok (.iinc 6 1, 3) := by decide +kernel
theorem dX3_find_31 : decode cX3_find 31 = .ok (.goto (-28), 3) := by decide +kernel
theorem dX3_find_34 : decode cX3_find 34 = .ok (.iconst (-1), 1) := by decide +kernel
theorem dX3_find_35 : decode cX3_find 35 = .ok (.ireturn, 1) := by decide +kernel
theorem dX3_put_0 : decode cX3_put 0 = .ok (.aload_n 0, 1) := by decide +kernel
theorem dX3_put_1 : decode cX3_put 1 = .ok (.getfield 15, 3) := by decide +kernel
theorem dX3_put_4 : decode cX3_put 4 = .ok (.iload_n 1, 1) := by decide +kernel
theorem dX3_put_5 : decode cX3_put 5 = .ok (.iload 4, 2) := by decide +kernel
theorem dX3_put_7 : decode cX3_put 7 = .ok (.bipush 8, 2) := by decide +kernel
theorem dX3_put_9 : decode cX3_put 9 = .ok (.invokestatic 34, 3) := by decide +kernel
theorem dX3_put_12 : decode cX3_put 12 = .ok (.iastore, 1) := by decide +kernel
theorem dX3_put_13 : decode cX3_put 13 = .ok (.iconst 0, 1) := by decide +kernel
theorem dX3_put_14 : decode cX3_put 14 = .ok (.istore 5, 2) := by decide +kernel
theorem dX3_put_16 : decode cX3_put 16 = .ok (.iload 5, 2) := by decide +kernel
theorem dX3_put_18 : decode cX3_put 18 = .ok (.aload_n 0, 1) := by decide +kernel
theorem dX3_put_19 : decode cX3_put 19 = .ok (.getfield 15, 3) := by decide +kernel
theorem dX3_put_22 : decode cX3_put 22 = .ok (.iload_n 1, 1) := by decide +kernel
theorem dX3_put_23 : decode cX3_put 23 = .ok (.iaload, 1) := by decide +kernel
theorem dX3_put_24 : decode cX3_put 24 = .ok (.if_icmp .ge 27, 3) := by decide +kernel
theorem dX3_put_27 : decode cX3_put 27 = .ok (.aload_n 0, 1) := by decide +kernel
theorem dX3_put_28 : decode cX3_put 28 = .ok (.getfield 11, 3) := by decide +kernel
theorem dX3_put_31 : decode cX3_put 31 = .ok (.iload_n 1, 1) := by decide +kernel
theorem dX3_put_32 : decode cX3_put 32 = .ok (.bipush 8, 2) := by decide +kernel
theorem dX3_put_34 : decode cX3_put 34 = .ok (.imul, 1) := by decide +kernel
theorem dX3_put_35 : decode cX3_put 35 = .ok (.iload 5, 2) := by decide +kernel
theorem dX3_put_37 : decode cX3_put 37 = .ok (.iadd, 1) := by decide +kernel
theorem dX3_put_38 : decode cX3_put 38 = .ok (.aload_n 2, 1) := by decide +kernel
theorem dX3_put_39 : decode cX3_put 39 = .ok (.iload_n 3, 1) := by decide +kernel
theorem dX3_put_40 : decode cX3_put 40 = .ok (.iload 5, 2) := by decide +kernel
theorem dX3_put_42 : decode cX3_put 42 = .ok (.iadd, 1) := by decide +kernel
theorem dX3_put_43 : decode cX3_put 43 = .ok (.baload, 1) := by decide +kernel
theorem dX3_put_44 : decode cX3_put 44 = .ok (.bastore, 1) := by decide +kernel
theorem dX3_put_45 : decode cX3_put 45 = .ok (.iinc 5 1, 3) := by decide +kernel
theorem dX3_put_48 : decode cX3_put 48 = .ok (.goto (-32), 3) := by decide +kernel
theorem dX3_put_51 : decode cX3_put 51 = .ok (.return_, 1) := by decide +kernel
theorem dX3_same_0 : decode cX3_same 0 = .ok (.aload_n 0, 1) := by decide +kernel
theorem dX3_same_1 : decode cX3_same 1 = .ok (.getfield 15, 3) := by decide +kernel
theorem dX3_same_4 : decode cX3_same 4 = .ok (.iload_n 1, 1) := by decide +kernel
theorem dX3_same_5 : decode cX3_same 5 = .ok (.iaload, 1) := by decide +kernel
theorem dX3_same_6 : decode cX3_same 6 = .ok (.iload 4, 2) := by decide +kernel
theorem dX3_same_8 : decode cX3_same 8 = .ok (.if_icmp .eq 5, 3) := by decide +kernel
theorem dX3_same_11 : decode cX3_same 11 = .ok (.iconst 0, 1) := by decide +kernel
theorem dX3_same_12 : decode cX3_same 12 = .ok (.ireturn, 1) := by decide +kernel
theorem dX3_same_13 : decode cX3_same 13 = .ok (.iconst 0, 1) := by decide +kernel
theorem dX3_same_14 : decode cX3_same 14 = .ok (.istore 5, 2) := by decide +kernel
theorem dX3_same_16 : decode cX3_same 16 = .ok (.iload 5, 2) := by decide +kernel
theorem dX3_same_18 : decode cX3_same 18 = .ok (.iload 4, 2) := by decide +kernel
theorem dX3_same_20 : decode cX3_same 20 = .ok (.if_icmp .ge 32, 3) := by decide +kernel
theorem dX3_same_23 : decode cX3_same 23 = .ok (.aload_n 0, 1) := by decide +kernel
theorem dX3_same_24 : decode cX3_same 24 = .ok (.getfield 11, 3) := by decide +kernel
theorem dX3_same_27 : decode cX3_same 27 = .ok (.iload_n 1, 1) := by decide +kernel
theorem dX3_same_28 : decode cX3_same 28 = .ok (.bipush 8, 2) := by decide +kernel
theorem dX3_same_30 : decode cX3_same 30 = .ok (.imul, 1) := by decide +kernel
theorem dX3_same_31 : decode cX3_same 31 = .ok (.iload 5, 2) := by decide +kernel
theorem dX3_same_33 : decode cX3_same 33 = .ok (.iadd, 1) := by decide +kernel
theorem dX3_same_34 : decode cX3_same 34 = .ok (.baload, 1) := by decide +kernel
theorem dX3_same_35 : decode cX3_same 35 = .ok (.aload_n 2, 1) := by decide +kernel
theorem dX3_same_36 : decode cX3_same 36 = .ok (.iload_n 3, 1) := by decide +kernel
theorem dX3_same_37 : decode cX3_same 37 = .ok (.iload 5, 2) := by decide +kernel
theorem dX3_same_39 : decode cX3_same 39 = .ok (.iadd, 1) := by decide +kernel
theorem dX3_same_40 : decode cX3_same 40 = .ok (.baload, 1) := by decide +kernel
theorem dX3_same_41 : decode cX3_same 41 = .ok (.if_icmp .eq 5, 3) := by decide +kernel
theorem dX3_same_44 : decode cX3_same 44 = .ok (.iconst 0, 1) := by decide +kernel
theorem dX3_same_45 : decode cX3_same 45 = .ok (.ireturn, 1) := by decide +kernel
theorem dX3_same_46 : decode cX3_same 46 = .ok (.iinc 5 1, 3) := by decide +kernel
theorem dX3_same_49 : decode cX3_same 49 = .ok (.goto (-33), 3) := by decide +kernel
theorem dX3_same_52 : decode cX3_same 52 = .ok (.iconst 1, 1) := by decide +kernel
theorem dX3_same_53 : decode cX3_same 53 = .ok (.ireturn, 1) := by decide +kernel
theorem dX4_put_0 : decode cX4_put 0 = .ok (.aload_n 0, 1) := by decide +kernel
theorem dX4_put_1 : decode cX4_put 1 = .ok (.getfield 18, 3) := by decide +kernel
theorem dX4_put_4 : decode cX4_put 4 = .ok (.bipush 64, 2) := by decide +kernel
theorem dX4_put_6 : decode cX4_put 6 = .ok (.if_icmp .ge 24, 3) := by decide +kernel
theorem dX4_put_9 : decode cX4_put 9 = .ok (.aload_n 0, 1) := by decide +kernel
theorem dX4_put_10 : decode cX4_put 10 = .ok (.getfield 11, 3) := by decide +kernel
theorem dX4_put_13 : decode cX4_put 13 = .ok (.aload_n 0, 1) := by decide +kernel
theorem dX4_put_14 : decode cX4_put 14 = .ok (.getfield 18, 3) := by decide +kernel
theorem dX4_put_17 : decode cX4_put 17 = .ok (.iload_n 1, 1) := by decide +kernel
theorem dX4_put_18 : decode cX4_put 18 = .ok (.i2b, 1) := by decide +kernel
theorem dX4_put_19 : decode cX4_put 19 = .ok (.bastore, 1) := by decide +kernel
theorem dX4_put_20 : decode cX4_put 20 = .ok (.aload_n 0, 1) := by decide +kernel
theorem dX4_put_21 : decode cX4_put 21 = .ok (.dup, 1) := by decide +kernel
theorem dX4_put_22 : decode cX4_put 22 = .ok (.getfield 18, 3) := by decide +kernel
theorem dX4_put_25 : decode cX4_put 25 = .ok (.iconst 1, 1) := by decide +kernel
theorem dX4_put_26 : decode cX4_put 26 = .ok (.iadd, 1) := by decide +kernel
theorem dX4_put_27 : decode cX4_put 27 = .ok (.putfield 18, 3) := by decide +kernel
theorem dX4_put_30 : decode cX4_put 30 = .ok (.return_, 1) := by decide +kernel
theorem dX4_putName_0 : decode cX4_putName 0 = .ok (.iconst 0, 1) := by decide +kernel
theorem dX4_putName_1 : decode cX4_putName 1 = .ok (.istore_n 3, 1) := by decide +kernel
theorem dX4_putName_2 : decode cX4_putName 2 = .ok (.iload_n 3, 1) := by decide +kernel
theorem dX4_putName_3 : decode cX4_putName 3 = .ok (.aload_n 1, 1) := by decide +kernel
theorem dX4_putName_4 : decode cX4_putName 4 = .ok (.getfield 56, 3) := by decide +kernel
theorem dX4_putName_7 : decode cX4_putName 7 = .ok (.iload_n 2, 1) := by decide +kernel
theorem dX4_putName_8 : decode cX4_putName 8 = .ok (.iaload, 1) := by decide +kernel
theorem dX4_putName_9 : decode cX4_putName 9 = .ok (.if_icmp .ge 24, 3) := by decide +kernel
theorem dX4_putName_12 : decode cX4_putName 12 = .ok (.aload_n 0, 1) := by decide +kernel
theorem dX4_putName_13 : decode cX4_putName 13 = .ok (.aload_n 1, 1) := by decide +kernel
theorem dX4_putName_14 : decode cX4_putName 14 = .ok (.getfield 59, 3) := by decide +kernel
theorem dX4_putName_17 : decode cX4_putName 17 = .ok (.iload_n 2, 1) := by decide +kernel
theorem dX4_putName_18 : decode cX4_putName 18 = .ok (.bipush 8, 2) := by decide +kernel
theorem dX4_putName_20 : decode cX4_putName 20 = .ok (.imul, 1) := by decide +kernel
theorem dX4_putName_21 : decode cX4_putName 21 = .ok (.iload_n 3, 1) := by decide +kernel
theorem dX4_putName_22 : decode cX4_putName 22 = .ok (.iadd, 1) := by decide +kernel
theorem dX4_putName_23 : decode cX4_putName 23 = .ok (.baload, 1) := by decide +kernel
theorem dX4_putName_24 : decode cX4_putName 24 = .ok (.invokevirtual 32, 3) := by decide +kernel
theorem dX4_putName_27 : decode cX4_putName 27 = .ok (.iinc 3 1, 3) := by decide +kernel
theorem dX4_putName_30 : decode cX4_putName 30 = .ok (.goto (-28), 3) := by decide +kernel
theorem dX4_putName_33 : decode cX4_putName 33 = .ok (.return_, 1) := by decide +kernel
theorem dX4_putNumber_0 : decode cX4_putNumber 0 = .ok (.iconst 0, 1) := by decide +kernel
theorem dX4_putNumber_1 : decode cX4_putNumber 1 = .ok (.istore_n 3, 1) := by decide +kernel
theorem dX4_putNumber_2 : decode cX4_putNumber 2 = .ok (.lload_n 1, 1) := by decide +kernel
theorem dX4_putNumber_3 : decode cX4_putNumber 3 = .ok (.lstore 4, 2) := by decide +kernel
theorem dX4_putNumber_5 : decode cX4_putNumber 5 = .ok (.aload_n 0, 1) := by decide +kernel
theorem dX4_putNumber_6 : decode cX4_putNumber 6 = .ok (.getfield 15, 3) := by decide +kernel
theorem dX4_putNumber_9 : decode cX4_putNumber 9 = .ok (.iload_n 3, 1) := by decide +kernel
theorem dX4_putNumber_10 : decode cX4_putNumber 10 = .ok (.ldc2_w 62, 3) := by decide +kernel
theorem dX4_putNumber_13 : decode cX4_putNumber 13 = .ok (.lload 4, 2) := by decide +kernel
theorem dX4_putNumber_15 : decode cX4_putNumber 15 = .ok (.ldc2_w 64, 3) := by decide +kernel
theorem dX4_putNumber_18 : decode cX4_putNumber 18 = .ok (.lrem, 1) := by decide +kernel
theorem dX4_putNumber_19 : decode cX4_putNumber 19 = .ok (.ladd, 1) := by decide +kernel
theorem dX4_putNumber_20 : decode cX4_putNumber 20 = .ok (.l2i, 1) := by decide +kernel
theorem dX4_putNumber_21 : decode cX4_putNumber 21 = .ok (.i2b, 1) := by decide +kernel
theorem dX4_putNumber_22 : decode cX4_putNumber 22 = .ok (.bastore, 1) := by decide +kernel
theorem dX4_putNumber_23 : decode cX4_putNumber 23 = .ok (.lload 4, 2) := by decide +kernel
theorem dX4_putNumber_25 : decode cX4_putNumber 25 = .ok (.ldc2_w 64, 3) := by decide +kernel
theorem dX4_putNumber_28 : decode cX4_putNumber 28 = .ok (.ldiv, 1) := by decide +kernel
theorem dX4_putNumber_29 : decode cX4_putNumber 29 = .ok (.lstore 4, 2) := by decide +kernel
theorem dX4_putNumber_31 : decode cX4_putNumber 31 = .ok (.iinc 3 1, 3) := by decide +kernel
theorem dX4_putNumber_34 : decode cX4_putNumber 34 = .ok (.lload 4, 2) := by decide +kernel
theorem dX4_putNumber_36 : decode cX4_putNumber 36 = .ok (.lconst 0, 1) := by decide +kernel
theorem dX4_putNumber_37 : decode cX4_putNumber 37 = .ok (.lcmp, 1) := by decide +kernel
theorem dX4_putNumber_38 : decode cX4_putNumber 38 = .ok (.ifCond .le 9, 3) := by decide +kernel
theorem dX4_putNumber_41 : decode cX4_putNumber 41 = .ok (.iload_n 3, 1) := by decide +kernel
theorem dX4_putNumber_42 : decode cX4_putNumber 42 = .ok (.bipush 19, 2) := by decide +kernel
theorem dX4_putNumber_44 : decode cX4_putNumber 44 = .ok (.if_icmp .lt (-39), 3) := by decide +kernel
theorem dX4_putNumber_47 : decode cX4_putNumber 47 = .ok (.iload_n 3, 1) := by decide +kernel
theorem dX4_putNumber_48 : decode cX4_putNumber 48 = .ok (.iconst 1, 1) := by decide +kernel
theorem dX4_putNumber_49 : decode cX4_putNumber 49 = .ok (.isub, 1) := by decide +kernel
theorem dX4_putNumber_50 : decode cX4_putNumber 50 = .ok (.istore 6, 2) := by decide +kernel
theorem dX4_putNumber_52 : decode cX4_putNumber 52 = .ok (.iload 6, 2) := by decide +kernel
theorem dX4_putNumber_54 : decode cX4_putNumber 54 = .ok (.ifCond .lt 20, 3) := by decide +kernel
theorem dX4_putNumber_57 : decode cX4_putNumber 57 = .ok (.aload_n 0, 1) := by decide +kernel
theorem dX4_putNumber_58 : decode cX4_putNumber 58 = .ok (.aload_n 0, 1) := by decide +kernel
theorem dX4_putNumber_59 : decode cX4_putNumber 59 = .ok (.getfield 15, 3) := by decide +kernel
theorem dX4_putNumber_62 : decode cX4_putNumber 62 = .ok (.iload 6, 2) := by decide +kernel
theorem dX4_putNumber_64 : decode cX4_putNumber 64 = .ok (.baload, 1) := by decide +kernel
theorem dX4_putNumber_65 : decode cX4_putNumber 65 = .ok (.invokevirtual 32, 3) := by decide +kernel
theorem dX4_putNumber_68 : decode cX4_putNumber 68 = .ok (.iinc 6 (-1), 3) := by decide +kernel
theorem dX4_putNumber_71 : decode cX4_putNumber 71 = .ok (.goto (-19), 3) := by decide +kernel
theorem dX4_putNumber_74 : decode cX4_putNumber 74 = .ok (.return_, 1) := by decide +kernel
theorem dX4_write_0 : decode cX4_write 0 = .ok (.aload_n 0, 1) := by decide +kernel
theorem dX4_write_1 : decode cX4_write 1 = .ok (.iconst 0, 1) := by decide +kernel
theorem dX4_write_2 : decode cX4_write 2 = .ok (.putfield 18, 3) := by decide +kernel
theorem dX4_write_5 : decode cX4_write 5 = .ok (.aload_n 0, 1) := by decide +kernel
theorem dX4_write_6 : decode cX4_write 6 = .ok (.aload_n 1, 1) := by decide +kernel
theorem dX4_write_7 : decode cX4_write 7 = .ok (.aload_n 2, 1) := by decide +kernel
theorem dX4_write_8 : decode cX4_write 8 = .ok (.getfield 22, 3) := by decide +kernel
theorem dX4_write_11 : decode cX4_write 11 = .ok (.iload_n 3, 1) := by decide +kernel
theorem dX4_write_12 : decode cX4_write 12 = .ok (.iaload, 1) := by decide +kernel
theorem dX4_write_13 : decode cX4_write 13 = .ok (.invokevirtual 28, 3) := by decide +kernel
theorem dX4_write_16 : decode cX4_write 16 = .ok (.aload_n 0, 1) := by decide +kernel
theorem dX4_write_17 : decode cX4_write 17 = .ok (.bipush 62, 2) := by decide +kernel
theorem dX4_write_19 : decode cX4_write 19 = .ok (.invokevirtual 32, 3) := by decide +kernel
theorem dX4_write_22 : decode cX4_write 22 = .ok (.aload_n 0, 1) := by decide +kernel
theorem dX4_write_23 : decode cX4_write 23 = .ok (.aload_n 1, 1) := by decide +kernel
theorem dX4_write_24 : decode cX4_write 24 = .ok (.aload_n 2, 1) := by decide +kernel
theorem dX4_write_25 : decode cX4_write 25 = .ok (.getfield 36, 3) := by decide +kernel
theorem dX4_write_28 : decode cX4_write 28 = .ok (.iload_n 3, 1) := by decide +kernel
theorem dX4_write_29 : decode cX4_write 29 = .ok (.iaload, 1) := by decide +kernel
theorem dX4_write_30 : decode cX4_write 30 = .ok (.invokevirtual 28, 3) := by decide +kernel
theorem dX4_write_33 : decode cX4_write 33 = .ok (.aload_n 0, 1) := by decide +kernel
theorem dX4_write_34 : decode cX4_write 34 = .ok (.bipush 32, 2) := by decide +kernel
theorem dX4_write_36 : decode cX4_write 36 = .ok (.invokevirtual 32, 3) := by decide +kernel
theorem dX4_write_39 : decode cX4_write 39 = .ok (.aload_n 0, 1) := by decide +kernel
theorem dX4_write_40 : decode cX4_write 40 = .ok (.aload_n 2, 1) := by decide +kernel
theorem dX4_write_41 : decode cX4_write 41 = .ok (.getfield 39, 3) := by decide +kernel
theorem dX4_write_44 : decode cX4_write 44 = .ok (.iload_n 3, 1) := by decide +kernel
theorem dX4_write_45 : decode cX4_write 45 = .ok (.laload, 1) := by decide +kernel
theorem dX4_write_46 : decode cX4_write 46 = .ok (.invokevirtual 43, 3) := by decide +kernel
theorem dX4_write_49 : decode cX4_write 49 = .ok (.aload_n 0, 1) := by decide +kernel
theorem dX4_write_50 : decode cX4_write 50 = .ok (.bipush 32, 2) := by decide +kernel
theorem dX4_write_52 : decode cX4_write 52 = .ok (.invokevirtual 32, 3) := by decide +kernel
theorem dX4_write_55 : decode cX4_write 55 = .ok (.aload_n 0, 1) := by decide +kernel
theorem dX4_write_56 : decode cX4_write 56 = .ok (.aload_n 1, 1) := by decide +kernel
theorem dX4_write_57 : decode cX4_write 57 = .ok (.bipush 8, 2) := by decide +kernel
theorem dX4_write_59 : decode cX4_write 59 = .ok (.aload_n 2, 1) := by decide +kernel
theorem dX4_write_60 : decode cX4_write 60 = .ok (.getfield 49, 3) := by decide +kernel
theorem dX4_write_63 : decode cX4_write 63 = .ok (.iload_n 3, 1) := by decide +kernel
theorem dX4_write_64 : decode cX4_write 64 = .ok (.iaload, 1) := by decide +kernel
theorem dX4_write_65 : decode cX4_write 65 = .ok (.iadd, 1) := by decide +kernel
theorem dX4_write_66 : decode cX4_write 66 = .ok (.invokevirtual 28, 3) := by decide +kernel
theorem dX4_write_69 : decode cX4_write 69 = .ok (.aload_n 2, 1) := by decide +kernel
theorem dX4_write_70 : decode cX4_write 70 = .ok (.getfield 52, 3) := by decide +kernel
theorem dX4_write_73 : decode cX4_write 73 = .ok (.iload_n 3, 1) := by decide +kernel
theorem dX4_write_74 : decode cX4_write 74 = .ok (.baload, 1) := by decide +kernel
theorem dX4_write_75 : decode cX4_write 75 = .ok (.ifCond .eq 15, 3) := by decide +kernel
theorem dX4_write_78 : decode cX4_write 78 = .ok (.aload_n 0, 1) := by decide +kernel
theorem dX4_write_79 : decode cX4_write 79 = .ok (.bipush 32, 2) := by decide +kernel
theorem dX4_write_81 : decode cX4_write 81 = .ok (.invokevirtual 32, 3) := by decide +kernel
theorem dX4_write_84 : decode cX4_write 84 = .ok (.aload_n 0, 1) := by decide +kernel
theorem dX4_write_85 : decode cX4_write 85 = .ok (.bipush 42, 2) := by decide +kernel
theorem dX4_write_87 : decode cX4_write 87 = .ok (.invokevirtual 32, 3) := by decide +kernel
theorem dX4_write_90 : decode cX4_write 90 = .ok (.return_, 1) := by decide +kernel
theorem dX5_forgetOldest_0 : decode cX5_forgetOldest 0 = .ok (.aload_n 0, 1) := by decide +kernel
theorem dX5_forgetOldest_1 : decode cX5_forgetOldest 1 = .ok (.getfield 11, 3) := by decide +kernel
theorem dX5_forgetOldest_4 : decode cX5_forgetOldest 4 = .ok (.iconst 0, 1) := by decide +kernel
theorem dX5_forgetOldest_5 : decode cX5_forgetOldest 5 = .ok (.aaload, 1) := by decide +kernel
theorem dX5_forgetOldest_6 : decode cX5_forgetOldest 6 = .ok (.astore_n 1, 1) := by decide +kernel
theorem dX5_forgetOldest_7 : decode cX5_forgetOldest 7 = .ok (.iconst 0, 1) := by decide +kernel
theorem dX5_forgetOldest_8 : decode cX5_forgetOldest 8 = .ok (.istore_n 2, 1) := by decide +kernel
theorem dX5_forgetOldest_9 : decode cX5_forgetOldest 9 = .ok (.iload_n 2, 1) := by decide +kernel
theorem dX5_forgetOldest_10 : decode cX5_forgetOldest 10 = .ok (.iconst 1, 1) := by decide +kernel
theorem dX5_forgetOldest_11 : decode cX5_forgetOldest 11 = .ok (.iadd, 1) := by decide +kernel
theorem dX5_forgetOldest_12 : decode cX5_forgetOldest 12 = .ok (.bipush 10, 2) := by decide +kernel
theorem dX5_forgetOldest_14 : decode cX5_forgetOldest 14 = .ok (.if_icmp .ge 23, 3) := by decide +kernel
theorem dX5_forgetOldest_17 : decode cX5_forgetOldest 17 = .ok (.aload_n 0, 1) := by decide +kernel
theorem dX5_forgetOldest_18 : decode cX5_forgetOldest 18 = .ok (.getfield 11, 3) := by decide +kernel
theorem dX5_forgetOldest_21 : decode cX5_forgetOldest 21 = .ok (.iload_n 2, 1) := by decide +kernel
theorem dX5_forgetOldest_22 : decode cX5_forgetOldest 22 = .ok (.aload_n 0, 1) := by decide +kernel
theorem dX5_forgetOldest_23 : decode cX5_forgetOldest 23 = .ok (.getfield 11, 3) := by decide +kernel
theorem dX5_forgetOldest_26 : decode cX5_forgetOldest 26 = .ok (.iload_n 2, 1) := by decide +kernel
theorem dX5_forgetOldest_27 : decode cX5_forgetOldest 27 = .ok (.iconst 1, 1) := by decide +kernel
theorem dX5_forgetOldest_28 : decode cX5_forgetOldest 28 = .ok (.iadd, 1) := by decide +kernel
theorem dX5_forgetOldest_29 : decode cX5_forgetOldest 29 = .ok (.aaload, 1) := by decide +kernel
theorem dX5_forgetOldest_30 : decode cX5_forgetOldest 30 = .ok (.aastore, 1) := by decide +kernel
theorem dX5_forgetOldest_31 : decode cX5_forgetOldest 31 = .ok (.iinc 2 1, 3) := by decide +kernel
theorem dX5_forgetOldest_34 : decode cX5_forgetOldest 34 = .ok (.goto (-25), 3) := by decide +kernel
theorem dX5_forgetOldest_37 : decode cX5_forgetOldest 37 = .ok (.aload_n 0, 1) := by decide +kernel
theorem dX5_forgetOldest_38 : decode cX5_forgetOldest 38 = .ok (.getfield 11, 3) := by decide +kernel
theorem dX5_forgetOldest_41 : decode cX5_forgetOldest 41 = .ok (.bipush 9, 2) := by decide +kernel
theorem dX5_forgetOldest_43 : decode cX5_forgetOldest 43 = .ok (.aload_n 1, 1) := by decide +kernel
theorem dX5_forgetOldest_44 : decode cX5_forgetOldest 44 = .ok (.aastore, 1) := by decide +kernel
theorem dX5_forgetOldest_45 : decode cX5_forgetOldest 45 = .ok (.aload_n 0, 1) := by decide +kernel
theorem dX5_forgetOldest_46 : decode cX5_forgetOldest 46 = .ok (.dup, 1) := by decide +kernel
theorem dX5_forgetOldest_47 : decode cX5_forgetOldest 47 = .ok (.getfield 18, 3) := by decide +kernel
theorem dX5_forgetOldest_50 : decode cX5_forgetOldest 50 = .ok (.iconst 1, 1) := by decide +kernel
theorem dX5_forgetOldest_51 : decode cX5_forgetOldest 51 = .ok (.isub, 1) := by decide +kernel
theorem dX5_forgetOldest_52 : decode cX5_forgetOldest 52 = .ok (.putfield 18, 3) := by decide +kernel
theorem dX5_forgetOldest_55 : decode cX5_forgetOldest 55 = .ok (.return_, 1) := by decide +kernel
