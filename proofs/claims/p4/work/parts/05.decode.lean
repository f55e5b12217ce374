theorem dJ6_bitCount_0f7a4_0 : decode cJ6_bitCount_0f7a4 0 = .ok (.iload_n 0, 1) := by decide +kernel
theorem dJ6_bitCount_0f7a4_1 : decode cJ6_bitCount_0f7a4 1 = .ok (.iload_n 0, 1) := by decide +kernel
theorem dJ6_bitCount_0f7a4_2 : decode cJ6_bitCount_0f7a4 2 = .ok (.iconst 1, 1) := by decide +kernel
theorem dJ6_bitCount_0f7a4_3 : decode cJ6_bitCount_0f7a4 3 = .ok (.iushr, 1) := by decide +kernel
theorem dJ6_bitCount_0f7a4_4 : decode cJ6_bitCount_0f7a4 4 = .ok (.ldc_w 265, 3) := by decide +kernel
theorem dJ6_bitCount_0f7a4_7 : decode cJ6_bitCount_0f7a4 7 = .ok (.iand, 1) := by decide +kernel
theorem dJ6_bitCount_0f7a4_8 : decode cJ6_bitCount_0f7a4 8 = .ok (.isub, 1) := by decide +kernel
theorem dJ6_bitCount_0f7a4_9 : decode cJ6_bitCount_0f7a4 9 = .ok (.istore_n 0, 1) := by decide +kernel
theorem dJ6_bitCount_0f7a4_10 : decode cJ6_bitCount_0f7a4 10 = .ok (.iload_n 0, 1) := by decide +kernel
theorem dJ6_bitCount_0f7a4_11 : decode cJ6_bitCount_0f7a4 11 = .ok (.ldc_w 266, 3) := by decide +kernel
theorem dJ6_bitCount_0f7a4_14 : decode cJ6_bitCount_0f7a4 14 = .ok (.iand, 1) := by decide +kernel
theorem dJ6_bitCount_0f7a4_15 : decode cJ6_bitCount_0f7a4 15 = .ok (.iload_n 0, 1) := by decide +kernel
theorem dJ6_bitCount_0f7a4_16 : decode cJ6_bitCount_0f7a4 16 = .ok (.iconst 2, 1) := by decide +kernel
theorem dJ6_bitCount_0f7a4_17 : decode cJ6_bitCount_0f7a4 17 = .ok (.iushr, 1) := by decide +kernel
theorem dJ6_bitCount_0f7a4_18 : decode cJ6_bitCount_0f7a4 18 = .ok (.ldc_w 266, 3) := by decide +kernel
theorem dJ6_bitCount_0f7a4_21 : decode cJ6_bitCount_0f7a4 21 = .ok (.iand, 1) := by decide +kernel
theorem dJ6_bitCount_0f7a4_22 : decode cJ6_bitCount_0f7a4 22 = .ok (.iadd, 1) := by decide +kernel
theorem dJ6_bitCount_0f7a4_23 : decode cJ6_bitCount_0f7a4 23 = .ok (.istore_n 0, 1) := by decide +kernel
theorem dJ6_bitCount_0f7a4_24 : decode cJ6_bitCount_0f7a4 24 = .ok (.iload_n 0, 1) := by decide +kernel
theorem dJ6_bitCount_0f7a4_25 : decode cJ6_bitCount_0f7a4 25 = .ok (.iload_n 0, 1) := by decide +kernel
theorem dJ6_bitCount_0f7a4_26 : decode cJ6_bitCount_0f7a4 26 = .ok (.iconst 4, 1) := by decide +kernel
theorem dJ6_bitCount_0f7a4_27 : decode cJ6_bitCount_0f7a4 27 = .ok (.iushr, 1) := by decide +kernel
theorem dJ6_bitCount_0f7a4_28 : decode cJ6_bitCount_0f7a4 28 = .ok (.iadd, 1) := by decide +kernel
theorem dJ6_bitCount_0f7a4_29 : decode cJ6_bitCount_0f7a4 29 = .ok (.ldc_w 267, 3) := by decide +kernel
theorem dJ6_bitCount_0f7a4_32 : decode cJ6_bitCount_0f7a4 32 = .ok (.iand, 1) := by decide +kernel
theorem dJ6_bitCount_0f7a4_33 : decode cJ6_bitCount_0f7a4 33 = .ok (.istore_n 0, 1) := by decide +kernel
theorem dJ6_bitCount_0f7a4_34 : decode cJ6_bitCount_0f7a4 34 = .ok (.iload_n 0, 1) := by decide +kernel
theorem dJ6_bitCount_0f7a4_35 : decode cJ6_bitCount_0f7a4 35 = .ok (.iload_n 0, 1) := by decide +kernel
theorem dJ6_bitCount_0f7a4_36 : decode cJ6_bitCount_0f7a4 36 = .ok (.bipush 8, 2) := by decide +kernel
theorem dJ6_bitCount_0f7a4_38 : decode cJ6_bitCount_0f7a4 38 = .ok (.iushr, 1) := by decide +kernel
theorem dJ6_bitCount_0f7a4_39 : decode cJ6_bitCount_0f7a4 39 = .ok (.iadd, 1) := by decide +kernel
theorem dJ6_bitCount_0f7a4_40 : decode cJ6_bitCount_0f7a4 40 = .ok (.istore_n 0, 1) := by decide +kernel
theorem dJ6_bitCount_0f7a4_41 : decode cJ6_bitCount_0f7a4 41 = .ok (.iload_n 0, 1) := by decide +kernel
theorem dJ6_bitCount_0f7a4_42 : decode cJ6_bitCount_0f7a4 42 = .ok (.iload_n 0, 1) := by decide +kernel
theorem dJ6_bitCount_0f7a4_43 : decode cJ6_bitCount_0f7a4 43 = .ok (.bipush 16, 2) := by decide +kernel
theorem dJ6_bitCount_0f7a4_45 : decode cJ6_bitCount_0f7a4 45 = .ok (.iushr, 1) := by decide +kernel
theorem dJ6_bitCount_0f7a4_46 : decode cJ6_bitCount_0f7a4 46 = .ok (.iadd, 1) := by decide +kernel
theorem dJ6_bitCount_0f7a4_47 : decode cJ6_bitCount_0f7a4 47 = .ok (.istore_n 0, 1) := by decide +kernel
theorem dJ6_bitCount_0f7a4_48 : decode cJ6_bitCount_0f7a4 48 = .ok (.iload_n 0, 1) := by decide +kernel
theorem dJ6_bitCount_0f7a4_49 : decode cJ6_bitCount_0f7a4 49 = .ok (.bipush 63, 2) := by decide +kernel
theorem dJ6_bitCount_0f7a4_51 : decode cJ6_bitCount_0f7a4 51 = .ok (.iand, 1) := by decide +kernel
theorem dJ6_bitCount_0f7a4_52 : decode cJ6_bitCount_0f7a4 52 = .ok (.ireturn, 1) := by decide +kernel
theorem dJ7_fill_53178_0 : decode cJ7_fill_53178 0 = .ok (.iconst 0, 1) := by decide +kernel
theorem dJ7_fill_53178_1 : decode cJ7_fill_53178 1 = .ok (.istore_n 2, 1) := by decide +kernel
theorem dJ7_fill_53178_2 : decode cJ7_fill_53178 2 = .ok (.aload_n 0, 1) := by decide +kernel
theorem dJ7_fill_53178_3 : decode cJ7_fill_53178 3 = .ok (.arraylength, 1) := by decide +kernel
theorem dJ7_fill_53178_4 : decode cJ7_fill_53178 4 = .ok (.istore_n 3, 1) := by decide +kernel
theorem dJ7_fill_53178_5 : decode cJ7_fill_53178 5 = .ok (.iload_n 2, 1) := by decide +kernel
theorem dJ7_fill_53178_6 : decode cJ7_fill_53178 6 = .ok (.iload_n 3, 1) := by decide +kernel
theorem dJ7_fill_53178_7 : decode cJ7_fill_53178 7 = .ok (.if_icmp .ge 13, 3) := by decide +kernel
theorem dJ7_fill_53178_10 : decode cJ7_fill_53178 10 = .ok (.aload_n 0, 1) := by decide +kernel
theorem dJ7_fill_53178_11 : decode cJ7_fill_53178 11 = .ok (.iload_n 2, 1) := by decide +kernel
theorem dJ7_fill_53178_12 : decode cJ7_fill_53178 12 = .ok (.iload_n 1, 1) := by decide +kernel
theorem dJ7_fill_53178_13 : decode cJ7_fill_53178 13 = .ok (.iastore, 1) := by decide +kernel
theorem dJ7_fill_53178_14 : decode cJ7_fill_53178 14 = .ok (.iinc 2 1, 3) := by decide +kernel
theorem dJ7_fill_53178_17 : decode cJ7_fill_53178 17 = .ok (.goto (-12), 3) := by decide +kernel
theorem dJ7_fill_53178_20 : decode cJ7_fill_53178 20 = .ok (.return_, 1) := by decide +kernel
theorem dJ7_fill_d0a16_0 : decode cJ7_fill_d0a16 0 = .ok (.iconst 0, 1) := by decide +kernel
theorem dJ7_fill_d0a16_1 : decode cJ7_fill_d0a16 1 = .ok (.istore_n 3, 1) := by decide +kernel
theorem dJ7_fill_d0a16_2 : decode cJ7_fill_d0a16 2 = .ok (.aload_n 0, 1) := by decide +kernel
theorem dJ7_fill_d0a16_3 : decode cJ7_fill_d0a16 3 = .ok (.arraylength, 1) := by decide +kernel
theorem dJ7_fill_d0a16_4 : decode cJ7_fill_d0a16 4 = .ok (.istore 4, 2) := by decide +kernel
theorem dJ7_fill_d0a16_6 : decode cJ7_fill_d0a16 6 = .ok (.iload_n 3, 1) := by decide +kernel
theorem dJ7_fill_d0a16_7 : decode cJ7_fill_d0a16 7 = .ok (.iload 4, 2) := by decide +kernel
theorem dJ7_fill_d0a16_9 : decode cJ7_fill_d0a16 9 = .ok (.if_icmp .ge 13, 3) := by decide +kernel
theorem dJ7_fill_d0a16_12 : decode cJ7_fill_d0a16 12 = .ok (.aload_n 0, 1) := by decide +kernel
theorem dJ7_fill_d0a16_13 : decode cJ7_fill_d0a16 13 = .ok (.iload_n 3, 1) := by decide +kernel
theorem dJ7_fill_d0a16_14 : decode cJ7_fill_d0a16 14 = .ok (.lload_n 1, 1) := by decide +kernel
theorem dJ7_fill_d0a16_15 : decode cJ7_fill_d0a16 15 = .ok (.lastore, 1) := by decide +kernel
theorem dJ7_fill_d0a16_16 : decode cJ7_fill_d0a16 16 = .ok (.iinc 3 1, 3) := by decide +kernel
theorem dJ7_fill_d0a16_19 : decode cJ7_fill_d0a16 19 = .ok (.goto (-13), 3) := by decide +kernel
theorem dJ7_fill_d0a16_22 : decode cJ7_fill_d0a16 22 = .ok (.return_, 1) := by decide +kernel
theorem dX0_allFrom_0 : decode cX0_allFrom 0 = .ok (.lconst 0, 1) := by decide +kernel
theorem dX0_allFrom_1 : decode cX0_allFrom 1 = .ok (.lstore_n 3, 1) := by decide +kernel
theorem dX0_allFrom_2 : decode cX0_allFrom 2 = .ok (.iconst 0, 1) := by decide +kernel
theorem dX0_allFrom_3 : decode cX0_allFrom 3 = .ok (.istore 5, 2) := by decide +kernel
theorem dX0_allFrom_5 : decode cX0_allFrom 5 = .ok (.iload 5, 2) := by decide +kernel
theorem dX0_allFrom_7 : decode cX0_allFrom 7 = .ok (.aload_n 0, 1) := by decide +kernel
theorem dX0_allFrom_8 : decode cX0_allFrom 8 = .ok (.getfield 39, 3) := by decide +kernel
theorem dX0_allFrom_11 : decode cX0_allFrom 11 = .ok (.if_icmp .ge 41, 3) := by decide +kernel
theorem dX0_allFrom_14 : decode cX0_allFrom 14 = .ok (.aload_n 0, 1) := by decide +kernel
theorem dX0_allFrom_15 : decode cX0_allFrom 15 = .ok (.getfield 18, 3) := by decide +kernel
theorem dX0_allFrom_18 : decode cX0_allFrom 18 = .ok (.iload 5, 2) := by decide +kernel
theorem dX0_allFrom_20 : decode cX0_allFrom 20 = .ok (.iaload, 1) := by decide +kernel
theorem dX0_allFrom_21 : decode cX0_allFrom 21 = .ok (.iload_n 2, 1) := by decide +kernel
theorem dX0_allFrom_22 : decode cX0_allFrom 22 = .ok (.if_icmp .ne 24, 3) := by decide +kernel
theorem dX0_allFrom_25 : decode cX0_allFrom 25 = .ok (.aload_n 0, 1) := by decide +kernel
theorem dX0_allFrom_26 : decode cX0_allFrom 26 = .ok (.getfield 9, 3) := by decide +kernel
theorem dX0_allFrom_29 : decode cX0_allFrom 29 = .ok (.iload 5, 2) := by decide +kernel
theorem dX0_allFrom_31 : decode cX0_allFrom 31 = .ok (.iaload, 1) := by decide +kernel
theorem dX0_allFrom_32 : decode cX0_allFrom 32 = .ok (.iload_n 1, 1) := by decide +kernel
theorem dX0_allFrom_33 : decode cX0_allFrom 33 = .ok (.if_icmp .ne 13, 3) := by decide +kernel
theorem dX0_allFrom_36 : decode cX0_allFrom 36 = .ok (.lload_n 3, 1) := by decide +kernel
theorem dX0_allFrom_37 : decode cX0_allFrom 37 = .ok (.aload_n 0, 1) := by decide +kernel
theorem dX0_allFrom_38 : decode cX0_allFrom 38 = .ok (.getfield 21, 3) := by decide +kernel
theorem dX0_allFrom_41 : decode cX0_allFrom 41 = .ok (.iload 5, 2) := by decide +kernel
theorem dX0_allFrom_43 : decode cX0_allFrom 43 = .ok (.laload, 1) := by decide +kernel
theorem dX0_allFrom_44 : decode cX0_allFrom 44 = .ok (.ladd, 1) := by decide +kernel
theorem dX0_allFrom_45 : decode cX0_allFrom 45 = .ok (.lstore_n 3, 1) := by decide +kernel
theorem dX0_allFrom_46 : decode cX0_allFrom 46 = .ok (.iinc 5 1, 3) := by decide +kernel
theorem dX0_allFrom_49 : decode cX0_allFrom 49 = .ok (.goto (-44), 3) := by decide +kernel
theorem dX0_allFrom_52 : decode cX0_allFrom 52 = .ok (.lload_n 3, 1) := by decide +kernel
theorem dX0_allFrom_53 : decode cX0_allFrom 53 = .ok (.lreturn, 1) := by decide +kernel
theorem dX0_allTo_0 : decode cX0_allTo 0 = .ok (.lconst 0, 1) := by decide +kernel
theorem dX0_allTo_1 : decode cX0_allTo 1 = .ok (.lstore_n 3, 1) := by decide +kernel
theorem dX0_allTo_2 : decode cX0_allTo 2 = .ok (.iconst 0, 1) := by decide +kernel
theorem dX0_allTo_3 : decode cX0_allTo 3 = .ok (.istore 5, 2) := by decide +kernel
theorem dX0_allTo_5 : decode cX0_allTo 5 = .ok (.iload 5, 2) := by decide +kernel
theorem dX0_allTo_7 : decode cX0_allTo 7 = .ok (.aload_n 0, 1) := by decide +kernel
theorem dX0_allTo_8 : decode cX0_allTo 8 = .ok (.getfield 39, 3) := by decide +kernel
theorem dX0_allTo_11 : decode cX0_allTo 11 = .ok (.if_icmp .ge 41, 3) := by decide +kernel
theorem dX0_allTo_14 : decode cX0_allTo 14 = .ok (.aload_n 0, 1) := by decide +kernel
theorem dX0_allTo_15 : decode cX0_allTo 15 = .ok (.getfield 18, 3) := by decide +kernel
theorem dX0_allTo_18 : decode cX0_allTo 18 = .ok (.iload 5, 2) := by decide +kernel
theorem dX0_allTo_20 : decode cX0_allTo 20 = .ok (.iaload, 1) := by decide +kernel
theorem dX0_allTo_21 : decode cX0_allTo 21 = .ok (.iload_n 2, 1) := by decide +kernel
theorem dX0_allTo_22 : decode cX0_allTo 22 = .ok (.if_icmp .ne 24, 3) := by decide +kernel
theorem dX0_allTo_25 : decode cX0_allTo 25 = .ok (.aload_n 0, 1) := by decide +kernel
theorem dX0_allTo_26 : decode cX0_allTo 26 = .ok (.getfield 15, 3) := by decide +kernel
theorem dX0_allTo_29 : decode cX0_allTo 29 = .ok (.iload 5, 2) := by decide +kernel
theorem dX0_allTo_31 : decode cX0_allTo 31 = .ok (.iaload, 1) := by decide +kernel
theorem dX0_allTo_32 : decode cX0_allTo 32 = .ok (.iload_n 1, 1) := by decide +kernel
theorem dX0_allTo_33 : decode cX0_allTo 33 = .ok (.if_icmp .ne 13, 3) := by decide +kernel
theorem dX0_allTo_36 : decode cX0_allTo 36 = .ok (.lload_n 3, 1) := by decide +kernel
theorem dX0_allTo_37 : decode cX0_allTo 37 = .ok (.aload_n 0, 1) := by decide +kernel
theorem dX0_allTo_38 : decode cX0_allTo 38 = .ok (.getfield 21, 3) := by decide +kernel
theorem dX0_allTo_41 : decode cX0_allTo 41 = .ok (.iload 5, 2) := by decide +kernel
theorem dX0_allTo_43 : decode cX0_allTo 43 = .ok (.laload, 1) := by decide +kernel
theorem dX0_allTo_44 : decode cX0_allTo 44 = .ok (.ladd, 1) := by decide +kernel
theorem dX0_allTo_45 : decode cX0_allTo 45 = .ok (.lstore_n 3, 1) := by decide +kernel
theorem dX0_allTo_46 : decode cX0_allTo 46 = .ok (.iinc 5 1, 3) := by decide +kernel
theorem dX0_allTo_49 : decode cX0_allTo 49 = .ok (.goto (-44), 3) := by decide +kernel
theorem dX0_allTo_52 : decode cX0_allTo 52 = .ok (.lload_n 3, 1) := by decide +kernel
theorem dX0_allTo_53 : decode cX0_allTo 53 = .ok (.lreturn, 1) := by decide +kernel
theorem dX0_append_0 : decode cX0_append 0 = .ok (.aload_n 0, 1) := by decide +kernel
theorem dX0_append_1 : decode cX0_append 1 = .ok (.getfield 39, 3) := by decide +kernel
theorem dX0_append_4 : decode cX0_append 4 = .ok (.bipush 40, 2) := by decide +kernel
theorem dX0_append_6 : decode cX0_append 6 = .ok (.if_icmp .lt 4, 3) := by decide +kernel
theorem dX0_append_9 : decode cX0_append 9 = .ok (.return_, 1) := by decide +kernel
theorem dX0_append_10 : decode cX0_append 10 = .ok (.aload_n 0, 1) := by decide +kernel
theorem dX0_append_11 : decode cX0_append 11 = .ok (.getfield 9, 3) := by decide +kernel
theorem dX0_append_14 : decode cX0_append 14 = .ok (.aload_n 0, 1) := by decide +kernel
theorem dX0_append_15 : decode cX0_append 15 = .ok (.getfield 39, 3) := by decide +kernel
theorem dX0_append_18 : decode cX0_append 18 = .ok (.iload_n 1, 1) := by decide +kernel
theorem dX0_append_19 : decode cX0_append 19 = .ok (.iastore, 1) := by decide +kernel
theorem dX0_append_20 : decode cX0_append 20 = .ok (.aload_n 0, 1) := by decide +kernel
theorem dX0_append_21 : decode cX0_append 21 = .ok (.getfield 15, 3) := by decide +kernel
theorem dX0_append_24 : decode cX0_append 24 = .ok (.aload_n 0, 1) := by decide +kernel
theorem dX0_append_25 : decode cX0_append 25 = .ok (.getfield 39, 3) := by decide +kernel
theorem dX0_append_28 : decode cX0_append 28 = .ok (.iload_n 2, 1) := by decide +kernel
theorem dX0_append_29 : decode cX0_append 29 = .ok (.iastore, 1) := by decide +kernel
theorem dX0_append_30 : decode cX0_append 30 = .ok (.aload_n 0, 1) := by decide +kernel
theorem dX0_append_31 : decode cX0_append 31 = .ok (.getfield 21, 3) := by decide +kernel
theorem dX0_append_34 : decode cX0_append 34 = .ok (.aload_n 0, 1) := by decide +kernel
theorem dX0_append_35 : decode cX0_append 35 = .ok (.getfield 39, 3) := by decide +kernel
theorem dX0_append_38 : decode cX0_append 38 = .ok (.lload_n 3, 1) := by decide +kernel
theorem dX0_append_39 : decode cX0_append 39 = .ok (.lastore, 1) := by decide +kernel
theorem dX0_append_40 : decode cX0_append 40 = .ok (.aload_n 0, 1) := by decide +kernel
theorem dX0_append_41 : decode cX0_append 41 = .ok (.getfield 18, 3) := by decide +kernel
theorem dX0_append_44 : decode cX0_append 44 = .ok (.aload_n 0, 1) := by decide +kernel
theorem dX0_append_45 : decode cX0_append 45 = .ok (.getfield 39, 3) := by decide +kernel
theorem dX0_append_48 : decode cX0_append 48 = .ok (.iload 5, 2) := by decide +kernel
theorem dX0_append_50 : decode cX0_append 50 = .ok (.iastore, 1) := by decide +kernel
theorem dX0_append_51 : decode cX0_append 51 = .ok (.aload_n 0, 1) := by decide +kernel
theorem dX0_append_52 : decode cX0_append 52 = .ok (.getfield 25, 3) := by decide +kernel
theorem dX0_append_55 : decode cX0_append 55 = .ok (.aload_n 0, 1) := by decide +kernel
theorem dX0_append_56 : decode cX0_append 56 = .ok (.getfield 39, 3) := by decide +kernel
theorem dX0_append_59 : decode cX0_append 59 = .ok (.iconst 0, 1) := by decide +kernel
theorem dX0_append_60 : decode cX0_append 60 = .ok (.bastore, 1) := by decide +kernel
theorem dX0_append_61 : decode cX0_append 61 = .ok (.aload_n 0, 1) := by decide +kernel
theorem dX0_append_62 : decode cX0_append 62 = .ok (.dup, 1) := by decide +kernel
theorem dX0_append_63 : decode cX0_append 63 = .ok (.getfield 39, 3) := by decide +kernel
theorem dX0_append_66 : decode cX0_append 66 = .ok (.iconst 1, 1) := by decide +kernel
theorem dX0_append_67 : decode cX0_append 67 = .ok (.iadd, 1) := by decide +kernel
theorem dX0_append_68 : decode cX0_append 68 = .ok (.putfield 39, 3) := by decide +kernel
theorem dX0_append_71 : decode cX0_append 71 = .ok (.return_, 1) := by decide +kernel
theorem dX0_clear_0 : decode cX0_clear 0 = .ok (.aload_n 0, 1) := by decide +kernel
theorem dX0_clear_1 : decode cX0_clear 1 = .ok (.getfield 29, 3) := by decide +kernel
theorem dX0_clear_4 : decode cX0_clear 4 = .ok (.ldc 32, 2) := by decide +kernel
theorem dX0_clear_6 : decode cX0_clear 6 = .ok (.invokestatic 33, 3) := by decide +kernel
theorem dX0_clear_9 : decode cX0_clear 9 = .ok (.aload_n 0, 1) := by decide +kernel
theorem dX0_clear_10 : decode cX0_clear 10 = .ok (.iconst 0, 1) := by decide +kernel
theorem dX0_clear_11 : decode cX0_clear 11 = .ok (.putfield 39, 3) := by decide +kernel
theorem dX0_clear_14 : decode cX0_clear 14 = .ok (.aload_n 0, 1) := by decide +kernel
theorem dX0_clear_15 : decode cX0_clear 15 = .ok (.iconst 0, 1) := by decide +kernel
theorem dX0_clear_16 : decode cX0_clear 16 = .ok (.putfield 43, 3) := by decide +kernel
theorem dX0_clear_19 : decode cX0_clear 19 = .ok (.return_, 1) := by decide +kernel
theorem dX0_copyFrom_0 : decode cX0_copyFrom 0 = .ok (.iconst 0, 1) := by decide +kernel
theorem dX0_copyFrom_1 : decode cX0_copyFrom 1 = .ok (.istore_n 2, 1) := by decide +kernel
theorem dX0_copyFrom_2 : decode cX0_copyFrom 2 = .ok (.iload_n 2, 1) := by decide +kernel
theorem dX0_copyFrom_3 : decode cX0_copyFrom 3 = .ok (.aload_n 1, 1) := by decide +kernel
theorem dX0_copyFrom_4 : decode cX0_copyFrom 4 = .ok (.getfield 39, 3) := by decide +kernel
theorem dX0_copyFrom_7 : decode cX0_copyFrom 7 = .ok (.if_icmp .ge 16, 3) := by decide +kernel
theorem dX0_copyFrom_10 : decode cX0_copyFrom 10 = .ok (.aload_n 0, 1) := by decide +kernel
theorem dX0_copyFrom_11 : decode cX0_copyFrom 11 = .ok (.aload_n 1, 1) := by decide +kernel
theorem dX0_copyFrom_12 : decode cX0_copyFrom 12 = .ok (.iload_n 2, 1) := by decide +kernel
theorem dX0_copyFrom_13 : decode cX0_copyFrom 13 = .ok (.iload_n 2, 1) := by decide +kernel
theorem dX0_copyFrom_14 : decode cX0_copyFrom 14 = .ok (.invokevirtual 46, 3) := by decide +kernel
theorem dX0_copyFrom_17 : decode cX0_copyFrom 17 = .ok (.iinc 2 1, 3) := by decide +kernel
theorem dX0_copyFrom_20 : decode cX0_copyFrom 20 = .ok (.goto (-18), 3) := by decide +kernel
theorem dX0_copyFrom_23 : decode cX0_copyFrom 23 = .ok (.aload_n 1, 1) := by decide +kernel
theorem dX0_copyFrom_24 : decode cX0_copyFrom 24 = .ok (.getfield 29, 3) := by decide +kernel
theorem dX0_copyFrom_27 : decode cX0_copyFrom 27 = .ok (.iconst 0, 1) := by decide +kernel
theorem dX0_copyFrom_28 : decode cX0_copyFrom 28 = .ok (.aload_n 0, 1) := by decide +kernel
theorem dX0_copyFrom_29 : decode cX0_copyFrom 29 = .ok (.getfield 29, 3) := by decide +kernel
theorem dX0_copyFrom_32 : decode cX0_copyFrom 32 = .ok (.iconst 0, 1) := by decide +kernel
theorem dX0_copyFrom_33 : decode cX0_copyFrom 33 = .ok (.bipush 64, 2) := by decide +kernel
theorem dX0_copyFrom_35 : decode cX0_copyFrom 35 = .ok (.invokestatic 50, 3) := by decide +kernel
theorem dX0_copyFrom_38 : decode cX0_copyFrom 38 = .ok (.aload_n 0, 1) := by decide +kernel
theorem dX0_copyFrom_39 : decode cX0_copyFrom 39 = .ok (.aload_n 1, 1) := by decide +kernel
theorem dX0_copyFrom_40 : decode cX0_copyFrom 40 = .ok (.getfield 39, 3) := by decide +kernel
theorem dX0_copyFrom_43 : decode cX0_copyFrom 43 = .ok (.putfield 39, 3) := by decide +kernel
theorem dX0_copyFrom_46 : decode cX0_copyFrom 46 = .ok (.aload_n 0, 1) := by decide +kernel
theorem dX0_copyFrom_47 : decode cX0_copyFrom 47 = .ok (.aload_n 1, 1) := by decide +kernel
theorem dX0_copyFrom_48 : decode cX0_copyFrom 48 = .ok (.getfield 43, 3) := by decide +kernel
theorem dX0_copyFrom_51 : decode cX0_copyFrom 51 = .ok (.putfield 43, 3) := by decide +kernel
theorem dX0_copyFrom_54 : decode cX0_copyFrom 54 = .ok (.return_, 1) := by decide +kernel
theorem dX0_copyTrade_0 : decode cX0_copyTrade 0 = .ok (.aload_n 0, 1) := by decide +kernel
theorem dX0_copyTrade_1 : decode cX0_copyTrade 1 = .ok (.getfield 9, 3) := by decide +kernel
theorem dX0_copyTrade_4 : decode cX0_copyTrade 4 = .ok (.iload_n 3, 1) := by decide +kernel
theorem dX0_copyTrade_5 : decode cX0_copyTrade 5 = .ok (.aload_n 1, 1) := by decide +kernel
theorem dX0_copyTrade_6 : decode cX0_copyTrade 6 = .ok (.getfield 9, 3) := by decide +kernel
theorem dX0_copyTrade_9 : decode cX0_copyTrade 9 = .ok (.iload_n 2, 1) := by decide +kernel
theorem dX0_copyTrade_10 : decode cX0_copyTrade 10 = .ok (.iaload, 1) := by decide +kernel
theorem dX0_copyTrade_11 : decode cX0_copyTrade 11 = .ok (.iastore, 1) := by decide +kernel
theorem dX0_copyTrade_12 : decode cX0_copyTrade 12 = .ok (.aload_n 0, 1) := by decide +kernel
theorem dX0_copyTrade_13 : decode cX0_copyTrade 13 = .ok (.getfield 15, 3) := by decide +kernel
theorem dX0_copyTrade_16 : decode cX0_copyTrade 16 = .ok (.iload_n 3, 1) := by decide +kernel
theorem dX0_copyTrade_17 : decode cX0_copyTrade 17 = .ok (.aload_n 1, 1) := by decide +kernel
theorem dX0_copyTrade_18 : decode cX0_copyTrade 18 = .ok (.getfield 15, 3) := by decide +kernel
theorem dX0_copyTrade_21 : decode cX0_copyTrade 21 = .ok (.iload_n 2, 1) := by decide +kernel
theorem dX0_copyTrade_22 : decode cX0_copyTrade 22 = .ok (.iaload, 1) := by decide +kernel
theorem dX0_copyTrade_23 : decode cX0_copyTrade 23 = .ok (.iastore, 1) := by decide +kernel
theorem dX0_copyTrade_24 : decode cX0_copyTrade 24 = .ok (.aload_n 0, 1) := by decide +kernel
theorem dX0_copyTrade_25 : decode cX0_copyTrade 25 = .ok (.getfield 21, 3) := by decide +kernel
theorem dX0_copyTrade_28 : decode cX0_copyTrade 28 = .ok (.iload_n 3, 1) := by decide +kernel
theorem dX0_copyTrade_29 : decode cX0_copyTrade 29 = .ok (.aload_n 1, 1) := by decide +kernel
theorem dX0_copyTrade_30 : decode cX0_copyTrade 30 = .ok (.getfield 21, 3) := by decide +kernel
theorem dX0_copyTrade_33 : decode cX0_copyTrade 33 = .ok (.iload_n 2, 1) := by decide +kernel
theorem dX0_copyTrade_34 : decode cX0_copyTrade 34 = .ok (.laload, 1) := by decide +kernel
theorem dX0_copyTrade_35 : decode cX0_copyTrade 35 = .ok (.lastore, 1) := by decide +kernel
theorem dX0_copyTrade_36 : decode cX0_copyTrade 36 = .ok (.aload_n 0, 1) := by decide +kernel
theorem dX0_copyTrade_37 : decode cX0_copyTrade 37 = .ok (.getfield 18, 3) := by decide +kernel
theorem dX0_copyTrade_40 : decode cX0_copyTrade 40 = .ok (.iload_n 3, 1) := by decide +kernel
theorem dX0_copyTrade_41 : decode cX0_copyTrade 41 = .ok (.aload_n 1, 1) := by decide +kernel
theorem dX0_copyTrade_42 : decode cX0_copyTrade 42 = .ok (.getfield 18, 3) := by decide +kernel
theorem dX0_copyTrade_45 : decode cX0_copyTrade 45 = .ok (.iload_n 2, 1) := by decide +kernel
theorem dX0_copyTrade_46 : decode cX0_copyTrade 46 = .ok (.iaload, 1) := by decide +kernel
theorem dX0_copyTrade_47 : decode cX0_copyTrade 47 = .ok (.iastore, 1) := by decide +kernel
theorem dX0_copyTrade_48 : decode cX0_copyTrade 48 = .ok (.aload_n 0, 1) := by decide +kernel
theorem dX0_copyTrade_49 : decode cX0_copyTrade 49 = .ok (.getfield 25, 3) := by decide +kernel
theorem dX0_copyTrade_52 : decode cX0_copyTrade 52 = .ok (.iload_n 3, 1) := by decide +kernel
theorem dX0_copyTrade_53 : decode cX0_copyTrade 53 = .ok (.aload_n 1, 1) := by decide +kernel
theorem dX0_copyTrade_54 : decode cX0_copyTrade 54 = .ok (.getfield 25, 3) := by decide +kernel
theorem dX0_copyTrade_57 : decode cX0_copyTrade 57 = .ok (.iload_n 2, 1) := by decide +kernel
theorem dX0_copyTrade_58 : decode cX0_copyTrade 58 = .ok (.baload, 1) := by decide +kernel
theorem dX0_copyTrade_59 : decode cX0_copyTrade 59 = .ok (.bastore, 1) := by decide +kernel
theorem dX0_copyTrade_60 : decode cX0_copyTrade 60 = .ok (.return_, 1) := by decide +kernel
theorem dX0_keptOf_0 : decode cX0_keptOf 0 = .ok (.lconst 0, 1) := by decide +kernel
theorem dX0_keptOf_1 : decode cX0_keptOf 1 = .ok (.lstore_n 2, 1) := by decide +kernel
theorem dX0_keptOf_2 : decode cX0_keptOf 2 = .ok (.iconst 0, 1) := by decide +kernel
theorem dX0_keptOf_3 : decode cX0_keptOf 3 = .ok (.istore 4, 2) := by decide +kernel
theorem dX0_keptOf_5 : decode cX0_keptOf 5 = .ok (.iload 4, 2) := by decide +kernel
theorem dX0_keptOf_7 : decode cX0_keptOf 7 = .ok (.aload_n 0, 1) := by decide +kernel
theorem dX0_keptOf_8 : decode cX0_keptOf 8 = .ok (.getfield 39, 3) := by decide +kernel
theorem dX0_keptOf_11 : decode cX0_keptOf 11 = .ok (.if_icmp .ge 40, 3) := by decide +kernel
theorem dX0_keptOf_14 : decode cX0_keptOf 14 = .ok (.aload_n 0, 1) := by decide +kernel
theorem dX0_keptOf_15 : decode cX0_keptOf 15 = .ok (.getfield 18, 3) := by decide +kernel
theorem dX0_keptOf_18 : decode cX0_keptOf 18 = .ok (.iload 4, 2) := by decide +kernel
theorem dX0_keptOf_20 : decode cX0_keptOf 20 = .ok (.iaload, 1) := by decide +kernel
theorem dX0_keptOf_21 : decode cX0_keptOf 21 = .ok (.iload_n 1, 1) := by decide +kernel
theorem dX0_keptOf_22 : decode cX0_keptOf 22 = .ok (.if_icmp .ne 23, 3) := by decide +kernel
theorem dX0_keptOf_25 : decode cX0_keptOf 25 = .ok (.aload_n 0, 1) := by decide +kernel
theorem dX0_keptOf_26 : decode cX0_keptOf 26 = .ok (.getfield 25, 3) := by decide +kernel
theorem dX0_keptOf_29 : decode cX0_keptOf 29 = .ok (.iload 4, 2) := by decide +kernel
theorem dX0_keptOf_31 : decode cX0_keptOf 31 = .ok (.baload, 1) := by decide +kernel
theorem dX0_keptOf_32 : decode cX0_keptOf 32 = .ok (.ifCond .eq 13, 3) := by decide +kernel
theorem dX0_keptOf_35 : decode cX0_keptOf 35 = .ok (.lload_n 2, 1) := by decide +kernel
theorem dX0_keptOf_36 : decode cX0_keptOf 36 = .ok (.aload_n 0, 1) := by decide +kernel
theorem dX0_keptOf_37 : decode cX0_keptOf 37 = .ok (.getfield 21, 3) := by decide +kernel
theorem dX0_keptOf_40 : decode cX0_keptOf 40 = .ok (.iload 4, 2) := by decide +kernel
theorem dX0_keptOf_42 : decode cX0_keptOf 42 = .ok (.laload, 1) := by decide +kernel
theorem dX0_keptOf_43 : decode cX0_keptOf 43 = .ok (.ladd, 1) := by decide +kernel
theorem dX0_keptOf_44 : decode cX0_keptOf 44 = .ok (.lstore_n 2, 1) := by decide +kernel
theorem dX0_keptOf_45 : decode cX0_keptOf 45 = .ok (.iinc 4 1, 3) := by decide +kernel
theorem dX0_keptOf_48 : decode cX0_keptOf 48 = .ok (.goto (-43), 3) := by decide +kernel
theorem dX0_keptOf_51 : decode cX0_keptOf 51 = .ok (.lload_n 2, 1) := by decide +kernel
theorem dX0_keptOf_52 : decode cX0_keptOf 52 = .ok (.lreturn, 1) := by decide +kernel
theorem dX0_keptTrades_0 : decode cX0_keptTrades 0 = .ok (.iconst 0, 1) := by decide +kernel
theorem dX0_keptTrades_1 : decode cX0_keptTrades 1 = .ok (.istore_n 1, 1) := by decide +kernel
theorem dX0_keptTrades_2 : decode cX0_keptTrades 2 = .ok (.iconst 0, 1) := by decide +kernel
theorem dX0_keptTrades_3 : decode cX0_keptTrades 3 = .ok (.istore_n 2, 1) := by decide +kernel
theorem dX0_keptTrades_4 : decode cX0_keptTrades 4 = .ok (.iload_n 2, 1) := by decide +kernel
theorem dX0_keptTrades_5 : decode cX0_keptTrades 5 = .ok (.aload_n 0, 1) := by decide +kernel
theorem dX0_keptTrades_6 : decode cX0_keptTrades 6 = .ok (.getfield 39, 3) := by decide +kernel
theorem dX0_keptTrades_9 : decode cX0_keptTrades 9 = .ok (.if_icmp .ge 21, 3) := by decide +kernel
theorem dX0_keptTrades_12 : decode cX0_keptTrades 12 = .ok (.aload_n 0, 1) := by decide +kernel
theorem dX0_keptTrades_13 : decode cX0_keptTrades 13 = .ok (.getfield 25, 3) := by decide +kernel
theorem dX0_keptTrades_16 : decode cX0_keptTrades 16 = .ok (.iload_n 2, 1) := by decide +kernel
theorem dX0_keptTrades_17 : decode cX0_keptTrades 17 = .ok (.baload, 1) := by decide +kernel
theorem dX0_keptTrades_18 : decode cX0_keptTrades 18 = .ok (.ifCond .eq 6, 3) := by decide +kernel
theorem dX0_keptTrades_21 : decode cX0_keptTrades 21 = .ok (.iinc 1 1, 3) := by decide +kernel
theorem dX0_keptTrades_24 : decode cX0_keptTrades 24 = .ok (.iinc 2 1, 3) := by decide +kernel
theorem dX0_keptTrades_27 : decode cX0_keptTrades 27 = .ok (.goto (-23), 3) := by decide +kernel
theorem dX0_keptTrades_30 : decode cX0_keptTrades 30 = .ok (.iload_n 1, 1) := by decide +kernel
theorem dX0_keptTrades_31 : decode cX0_keptTrades 31 = .ok (.ireturn, 1) := by decide +kernel
theorem dX0_lessen_0 : decode cX0_lessen 0 = .ok (.lload 4, 2) := by decide +kernel
theorem dX0_lessen_2 : decode cX0_lessen 2 = .ok (.lstore 6, 2) := by decide +kernel
theorem dX0_lessen_4 : decode cX0_lessen 4 = .ok (.aload_n 0, 1) := by decide +kernel
theorem dX0_lessen_5 : decode cX0_lessen 5 = .ok (.getfield 39, 3) := by decide +kernel
theorem dX0_lessen_8 : decode cX0_lessen 8 = .ok (.iconst 1, 1) := by decide +kernel
theorem dX0_lessen_9 : decode cX0_lessen 9 = .ok (.isub, 1) := by decide +kernel
theorem dX0_lessen_10 : decode cX0_lessen 10 = .ok (.istore 8, 2) := by decide +kernel
theorem dX0_lessen_12 : decode cX0_lessen 12 = .ok (.iload 8, 2) := by decide +kernel
theorem dX0_lessen_14 : decode cX0_lessen 14 = .ok (.ifCond .lt 103, 3) := by decide +kernel
theorem dX0_lessen_17 : decode cX0_lessen 17 = .ok (.aload_n 0, 1) := by decide +kernel
theorem dX0_lessen_18 : decode cX0_lessen 18 = .ok (.getfield 9, 3) := by decide +kernel
theorem dX0_lessen_21 : decode cX0_lessen 21 = .ok (.iload 8, 2) := by decide +kernel
theorem dX0_lessen_23 : decode cX0_lessen 23 = .ok (.iaload, 1) := by decide +kernel
theorem dX0_lessen_24 : decode cX0_lessen 24 = .ok (.iload_n 1, 1) := by decide +kernel
theorem dX0_lessen_25 : decode cX0_lessen 25 = .ok (.if_icmp .ne 86, 3) := by decide +kernel
theorem dX0_lessen_28 : decode cX0_lessen 28 = .ok (.aload_n 0, 1) := by decide +kernel
theorem dX0_lessen_29 : decode cX0_lessen 29 = .ok (.getfield 15, 3) := by decide +kernel
theorem dX0_lessen_32 : decode cX0_lessen 32 = .ok (.iload 8, 2) := by decide +kernel
theorem dX0_lessen_34 : decode cX0_lessen 34 = .ok (.iaload, 1) := by decide +kernel
theorem dX0_lessen_35 : decode cX0_lessen 35 = .ok (.iload_n 2, 1) := by decide +kernel
theorem dX0_lessen_36 : decode cX0_lessen 36 = .ok (.if_icmp .ne 75, 3) := by decide +kernel
theorem dX0_lessen_39 : decode cX0_lessen 39 = .ok (.aload_n 0, 1) := by decide +kernel
theorem dX0_lessen_40 : decode cX0_lessen 40 = .ok (.getfield 18, 3) := by decide +kernel
theorem dX0_lessen_43 : decode cX0_lessen 43 = .ok (.iload 8, 2) := by decide +kernel
theorem dX0_lessen_45 : decode cX0_lessen 45 = .ok (.iaload, 1) := by decide +kernel
theorem dX0_lessen_46 : decode cX0_lessen 46 = .ok (.iload_n 3, 1) := by decide +kernel
theorem dX0_lessen_47 : decode cX0_lessen 47 = .ok (.if_icmp .ne 64, 3) := by decide +kernel
theorem dX0_lessen_50 : decode cX0_lessen 50 = .ok (.aload_n 0, 1) := by decide +kernel
theorem dX0_lessen_51 : decode cX0_lessen 51 = .ok (.getfield 25, 3) := by decide +kernel
theorem dX0_lessen_54 : decode cX0_lessen 54 = .ok (.iload 8, 2) := by decide +kernel
theorem dX0_lessen_56 : decode cX0_lessen 56 = .ok (.baload, 1) := by decide +kernel
theorem dX0_lessen_57 : decode cX0_lessen 57 = .ok (.ifCond .ne 54, 3) := by decide +kernel
theorem dX0_lessen_60 : decode cX0_lessen 60 = .ok (.lload 6, 2) := by decide +kernel
theorem dX0_lessen_62 : decode cX0_lessen 62 = .ok (.aload_n 0, 1) := by decide +kernel
theorem dX0_lessen_63 : decode cX0_lessen 63 = .ok (.getfield 21, 3) := by decide +kernel
theorem dX0_lessen_66 : decode cX0_lessen 66 = .ok (.iload 8, 2) := by decide +kernel
theorem dX0_lessen_68 : decode cX0_lessen 68 = .ok (.laload, 1) := by decide +kernel
theorem dX0_lessen_69 : decode cX0_lessen 69 = .ok (.invokestatic 60, 3) := by decide +kernel
theorem dX0_lessen_72 : decode cX0_lessen 72 = .ok (.lstore 9, 2) := by decide +kernel
theorem dX0_lessen_74 : decode cX0_lessen 74 = .ok (.aload_n 0, 1) := by decide +kernel
theorem dX0_lessen_75 : decode cX0_lessen 75 = .ok (.getfield 21, 3) := by decide +kernel
theorem dX0_lessen_78 : decode cX0_lessen 78 = .ok (.iload 8, 2) := by decide +kernel
theorem dX0_lessen_80 : decode cX0_lessen 80 = .ok (.dup2, 1) := by decide +kernel
theorem dX0_lessen_81 : decode cX0_lessen 81 = .ok (.laload, 1) := by decide +kernel
theorem dX0_lessen_82 : decode cX0_lessen 82 = .ok (.lload 9, 2) := by decide +kernel
theorem dX0_lessen_84 : decode cX0_lessen 84 = .ok (.lsub, 1) := by decide +kernel
theorem dX0_lessen_85 : decode cX0_lessen 85 = .ok (.lastore, 1) := by decide +kernel
theorem dX0_lessen_86 : decode cX0_lessen 86 = .ok (.lload 6, 2) := by decide +kernel
theorem dX0_lessen_88 : decode cX0_lessen 88 = .ok (.lload 9, 2) := by decide +kernel
theorem dX0_lessen_90 : decode cX0_lessen 90 = .ok (.lsub, 1) := by decide +kernel
theorem dX0_lessen_91 : decode cX0_lessen 91 = .ok (.lstore 6, 2) := by decide +kernel
theorem dX0_lessen_93 : decode cX0_lessen 93 = .ok (.aload_n 0, 1) := by decide +kernel
theorem dX0_lessen_94 : decode cX0_lessen 94 = .ok (.getfield 21, 3) := by decide +kernel
theorem dX0_lessen_97 : decode cX0_lessen 97 = .ok (.iload 8, 2) := by decide +kernel
theorem dX0_lessen_99 : decode cX0_lessen 99 = .ok (.laload, 1) := by decide +kernel
theorem dX0_lessen_100 : decode cX0_lessen 100 = .ok (.lconst 0, 1) := by decide +kernel
theorem dX0_lessen_101 : decode cX0_lessen 101 = .ok (.lcmp, 1) := by decide +kernel
theorem dX0_lessen_102 : decode cX0_lessen 102 = .ok (.ifCond .ne 9, 3) := by decide +kernel
theorem dX0_lessen_105 : decode cX0_lessen 105 = .ok (.aload_n 0, 1) := by decide +kernel
theorem dX0_lessen_106 : decode cX0_lessen 106 = .ok (.iload 8, 2) := by decide +kernel
theorem dX0_lessen_108 : decode cX0_lessen 108 = .ok (.invokevirtual 56, 3) := by decide +kernel
theorem dX0_lessen_111 : decode cX0_lessen 111 = .ok (.iinc 8 (-1), 3) := by decide +kernel
theorem dX0_lessen_114 : decode cX0_lessen 114 = .ok (.goto (-102), 3) := by decide +kernel
theorem dX0_lessen_117 : decode cX0_lessen 117 = .ok (.return_, 1) := by decide +kernel
theorem dX0_openOf_0 : decode cX0_openOf 0 = .ok (.iconst 0, 1) := by decide +kernel
theorem dX0_openOf_1 : decode cX0_openOf 1 = .ok (.istore_n 2, 1) := by decide +kernel
theorem dX0_openOf_2 : decode cX0_openOf 2 = .ok (.iconst 0, 1) := by decide +kernel
theorem dX0_openOf_3 : decode cX0_openOf 3 = .ok (.istore_n 3, 1) := by decide +kernel
theorem dX0_openOf_4 : decode cX0_openOf 4 = .ok (.iload_n 3, 1) := by decide +kernel
theorem dX0_openOf_5 : decode cX0_openOf 5 = .ok (.aload_n 0, 1) := by decide +kernel
theorem dX0_openOf_6 : decode cX0_openOf 6 = .ok (.getfield 39, 3) := by decide +kernel
theorem dX0_openOf_9 : decode cX0_openOf 9 = .ok (.if_icmp .ge 31, 3) := by decide +kernel
theorem dX0_openOf_12 : decode cX0_openOf 12 = .ok (.aload_n 0, 1) := by decide +kernel
theorem dX0_openOf_13 : decode cX0_openOf 13 = .ok (.getfield 18, 3) := by decide +kernel
theorem dX0_openOf_16 : decode cX0_openOf 16 = .ok (.iload_n 3, 1) := by decide +kernel
theorem dX0_openOf_17 : decode cX0_openOf 17 = .ok (.iaload, 1) := by decide +kernel
theorem dX0_openOf_18 : decode cX0_openOf 18 = .ok (.iload_n 1, 1) := by decide +kernel
theorem dX0_openOf_19 : decode cX0_openOf 19 = .ok (.if_icmp .ne 15, 3) := by decide +kernel
theorem dX0_openOf_22 : decode cX0_openOf 22 = .ok (.aload_n 0, 1) := by decide +kernel
theorem dX0_openOf_23 : decode cX0_openOf 23 = .ok (.getfield 25, 3) := by decide +kernel
theorem dX0_openOf_26 : decode cX0_openOf 26 = .ok (.iload_n 3, 1) := by decide +kernel
theorem dX0_openOf_27 : decode cX0_openOf 27 = .ok (.baload, 1) := by decide +kernel
theorem dX0_openOf_28 : decode cX0_openOf 28 = .ok (.ifCond .ne 6, 3) := by decide +kernel
theorem dX0_openOf_31 : decode cX0_openOf 31 = .ok (.iinc 2 1, 3) := by decide +kernel
theorem dX0_openOf_34 : decode cX0_openOf 34 = .ok (.iinc 3 1, 3) := by decide +kernel
theorem dX0_openOf_37 : decode cX0_openOf 37 = .ok (.goto (-33), 3) := by decide +kernel
theorem dX0_openOf_40 : decode cX0_openOf 40 = .ok (.iload_n 2, 1) := by decide +kernel
theorem dX0_openOf_41 : decode cX0_openOf 41 = .ok (.ireturn, 1) := by decide +kernel
theorem dX0_othersOf_0 : decode cX0_othersOf 0 = .ok (.iconst 0, 1) := by decide +kernel
theorem dX0_othersOf_1 : decode cX0_othersOf 1 = .ok (.istore_n 3, 1) := by decide +kernel
theorem dX0_othersOf_2 : decode cX0_othersOf 2 = .ok (.iconst 0, 1) := by decide +kernel
theorem dX0_othersOf_3 : decode cX0_othersOf 3 = .ok (.istore 4, 2) := by decide +kernel
theorem dX0_othersOf_5 : decode cX0_othersOf 5 = .ok (.iload 4, 2) := by decide +kernel
theorem dX0_othersOf_7 : decode cX0_othersOf 7 = .ok (.aload_n 0, 1) := by decide +kernel
theorem dX0_othersOf_8 : decode cX0_othersOf 8 = .ok (.getfield 39, 3) := by decide +kernel
theorem dX0_othersOf_11 : decode cX0_othersOf 11 = .ok (.if_icmp .ge 80, 3) := by decide +kernel
theorem dX0_othersOf_14 : decode cX0_othersOf 14 = .ok (.aload_n 0, 1) := by decide +kernel
theorem dX0_othersOf_15 : decode cX0_othersOf 15 = .ok (.getfield 18, 3) := by decide +kernel
theorem dX0_othersOf_18 : decode cX0_othersOf 18 = .ok (.iload 4, 2) := by decide +kernel
theorem dX0_othersOf_20 : decode cX0_othersOf 20 = .ok (.iaload, 1) := by decide +kernel
theorem dX0_othersOf_21 : decode cX0_othersOf 21 = .ok (.iload_n 2, 1) := by decide +kernel
theorem dX0_othersOf_22 : decode cX0_othersOf 22 = .ok (.if_icmp .ne 29, 3) := by decide +kernel
theorem dX0_othersOf_25 : decode cX0_othersOf 25 = .ok (.aload_n 0, 1) := by decide +kernel
theorem dX0_othersOf_26 : decode cX0_othersOf 26 = .ok (.getfield 9, 3) := by decide +kernel
theorem dX0_othersOf_29 : decode cX0_othersOf 29 = .ok (.iload 4, 2) := by decide +kernel
theorem dX0_othersOf_31 : decode cX0_othersOf 31 = .ok (.iaload, 1) := by decide +kernel
theorem dX0_othersOf_32 : decode cX0_othersOf 32 = .ok (.iload_n 1, 1) := by decide +kernel
theorem dX0_othersOf_33 : decode cX0_othersOf 33 = .ok (.if_icmp .ne 18, 3) := by decide +kernel
theorem dX0_othersOf_36 : decode cX0_othersOf 36 = .ok (.iload_n 3, 1) := by decide +kernel
theorem dX0_othersOf_37 : decode cX0_othersOf 37 = .ok (.iconst 1, 1) := by decide +kernel
theorem dX0_othersOf_38 : decode cX0_othersOf 38 = .ok (.aload_n 0, 1) := by decide +kernel
theorem dX0_othersOf_39 : decode cX0_othersOf 39 = .ok (.getfield 15, 3) := by decide +kernel
theorem dX0_othersOf_42 : decode cX0_othersOf 42 = .ok (.iload 4, 2) := by decide +kernel
theorem dX0_othersOf_44 : decode cX0_othersOf 44 = .ok (.iaload, 1) := by decide +kernel
theorem dX0_othersOf_45 : decode cX0_othersOf 45 = .ok (.ishl, 1) := by decide +kernel
theorem dX0_othersOf_46 : decode cX0_othersOf 46 = .ok (.ior, 1) := by decide +kernel
theorem dX0_othersOf_47 : decode cX0_othersOf 47 = .ok (.istore_n 3, 1) := by decide +kernel
theorem dX0_othersOf_48 : decode cX0_othersOf 48 = .ok (.goto 37, 3) := by decide +kernel
theorem dX0_othersOf_51 : decode cX0_othersOf 51 = .ok (.aload_n 0, 1) := by decide +kernel
theorem dX0_othersOf_52 : decode cX0_othersOf 52 = .ok (.getfield 18, 3) := by decide +kernel
theorem dX0_othersOf_55 : decode cX0_othersOf 55 = .ok (.iload 4, 2) := by decide +kernel
theorem dX0_othersOf_57 : decode cX0_othersOf 57 = .ok (.iaload, 1) := by decide +kernel
theorem dX0_othersOf_58 : decode cX0_othersOf 58 = .ok (.iload_n 2, 1) := by decide +kernel
theorem dX0_othersOf_59 : decode cX0_othersOf 59 = .ok (.if_icmp .ne 26, 3) := by decide +kernel
theorem dX0_othersOf_62 : decode cX0_othersOf 62 = .ok (.aload_n 0, 1) := by decide +kernel
theorem dX0_othersOf_63 : decode cX0_othersOf 63 = .ok (.getfield 15, 3) := by decide +kernel
theorem dX0_othersOf_66 : decode cX0_othersOf 66 = .ok (.iload 4, 2) := by decide +kernel
theorem dX0_othersOf_68 : decode cX0_othersOf 68 = .ok (.iaload, 1) := by decide +kernel
theorem dX0_othersOf_69 : decode cX0_othersOf 69 = .ok (.iload_n 1, 1) := by decide +kernel
theorem dX0_othersOf_70 : decode cX0_othersOf 70 = .ok (.if_icmp .ne 15, 3) := by decide +kernel
theorem dX0_othersOf_73 : decode cX0_othersOf 73 = .ok (.iload_n 3, 1) := by decide +kernel
theorem dX0_othersOf_74 : decode cX0_othersOf 74 = .ok (.iconst 1, 1) := by decide +kernel
theorem dX0_othersOf_75 : decode cX0_othersOf 75 = .ok (.aload_n 0, 1) := by decide +kernel
theorem dX0_othersOf_76 : decode cX0_othersOf 76 = .ok (.getfield 9, 3) := by decide +kernel
theorem dX0_othersOf_79 : decode cX0_othersOf 79 = .ok (.iload 4, 2) := by decide +kernel
theorem dX0_othersOf_81 : decode cX0_othersOf 81 = .ok (.iaload, 1) := by decide +kernel
theorem dX0_othersOf_82 : decode cX0_othersOf 82 = .ok (.ishl, 1) := by decide +kernel
theorem dX0_othersOf_83 : decode cX0_othersOf 83 = .ok (.ior, 1) := by decide +kernel
theorem dX0_othersOf_84 : decode cX0_othersOf 84 = .ok (.istore_n 3, 1) := by decide +kernel
theorem dX0_othersOf_85 : decode cX0_othersOf 85 = .ok (.iinc 4 1, 3) := by decide +kernel
theorem dX0_othersOf_88 : decode cX0_othersOf 88 = .ok (.goto (-83), 3) := by decide +kernel
theorem dX0_othersOf_91 : decode cX0_othersOf 91 = .ok (.iload_n 3, 1) := by decide +kernel
theorem dX0_othersOf_92 : decode cX0_othersOf 92 = .ok (.invokestatic 66, 3) := by decide +kernel
theorem dX0_othersOf_95 : decode cX0_othersOf 95 = .ok (.ireturn, 1) := by decide +kernel
theorem dX0_remove_0 : decode cX0_remove 0 = .ok (.iload_n 1, 1) := by decide +kernel
theorem dX0_remove_1 : decode cX0_remove 1 = .ok (.istore_n 2, 1) := by decide +kernel
theorem dX0_remove_2 : decode cX0_remove 2 = .ok (.iload_n 2, 1) := by decide +kernel
theorem dX0_remove_3 : decode cX0_remove 3 = .ok (.iconst 1, 1) := by decide +kernel
theorem dX0_remove_4 : decode cX0_remove 4 = .ok (.iadd, 1) := by decide +kernel
theorem dX0_remove_5 : decode cX0_remove 5 = .ok (.aload_n 0, 1) := by decide +kernel
theorem dX0_remove_6 : decode cX0_remove 6 = .ok (.getfield 39, 3) := by decide +kernel
theorem dX0_remove_9 : decode cX0_remove 9 = .ok (.if_icmp .ge 18, 3) := by decide +kernel
theorem dX0_remove_12 : decode cX0_remove 12 = .ok (.aload_n 0, 1) := by decide +kernel
theorem dX0_remove_13 : decode cX0_remove 13 = .ok (.aload_n 0, 1) := by decide +kernel
theorem dX0_remove_14 : decode cX0_remove 14 = .ok (.iload_n 2, 1) := by decide +kernel
theorem dX0_remove_15 : decode cX0_remove 15 = .ok (.iconst 1, 1) := by decide +kernel
theorem dX0_remove_16 : decode cX0_remove 16 = .ok (.iadd, 1) := by decide +kernel
theorem dX0_remove_17 : decode cX0_remove 17 = .ok (.iload_n 2, 1) := by decide +kernel
theorem dX0_remove_18 : decode cX0_remove 18 = .ok (.invokevirtual 46, 3) := by decide +kernel
theorem dX0_remove_21 : decode cX0_remove 21 = .ok (.iinc 2 1, 3) := by decide +kernel
theorem dX0_remove_24 : decode cX0_remove 24 = .ok (.goto (-22), 3) := by decide +kernel
theorem dX0_remove_27 : decode cX0_remove 27 = .ok (.aload_n 0, 1) := by decide +kernel
theorem dX0_remove_28 : decode cX0_remove 28 = .ok (.dup, 1) := by decide +kernel
theorem dX0_remove_29 : decode cX0_remove 29 = .ok (.getfield 39, 3) := by decide +kernel
theorem dX0_remove_32 : decode cX0_remove 32 = .ok (.iconst 1, 1) := by decide +kernel
theorem dX0_remove_33 : decode cX0_remove 33 = .ok (.isub, 1) := by decide +kernel
theorem dX0_remove_34 : decode cX0_remove 34 = .ok (.putfield 39, 3) := by decide +kernel
theorem dX0_remove_37 : decode cX0_remove 37 = .ok (.return_, 1) := by decide +kernel
theorem dX0_removeOpen_0 : decode cX0_removeOpen 0 = .ok (.aload_n 0, 1) := by decide +kernel
theorem dX0_removeOpen_1 : decode cX0_removeOpen 1 = .ok (.getfield 39, 3) := by decide +kernel
theorem dX0_removeOpen_4 : decode cX0_removeOpen 4 = .ok (.iconst 1, 1) := by decide +kernel
theorem dX0_removeOpen_5 : decode cX0_removeOpen 5 = .ok (.isub, 1) := by decide +kernel
theorem dX0_removeOpen_6 : decode cX0_removeOpen 6 = .ok (.istore_n 2, 1) := by decide +kernel
theorem dX0_removeOpen_7 : decode cX0_removeOpen 7 = .ok (.iload_n 2, 1) := by decide +kernel
theorem dX0_removeOpen_8 : decode cX0_removeOpen 8 = .ok (.ifCond .lt 33, 3) := by decide +kernel
theorem dX0_removeOpen_11 : decode cX0_removeOpen 11 = .ok (.aload_n 0, 1) := by decide +kernel
theorem dX0_removeOpen_12 : decode cX0_removeOpen 12 = .ok (.getfield 18, 3) := by decide +kernel
theorem dX0_removeOpen_15 : decode cX0_removeOpen 15 = .ok (.iload_n 2, 1) := by decide +kernel
theorem dX0_removeOpen_16 : decode cX0_removeOpen 16 = .ok (.iaload, 1) := by decide +kernel
theorem dX0_removeOpen_17 : decode cX0_removeOpen 17 = .ok (.iload_n 1, 1) := by decide +kernel
theorem dX0_removeOpen_18 : decode cX0_removeOpen 18 = .ok (.if_icmp .ne 17, 3) := by decide +kernel
theorem dX0_removeOpen_21 : decode cX0_removeOpen 21 = .ok (.aload_n 0, 1) := by decide +kernel
theorem dX0_removeOpen_22 : decode cX0_removeOpen 22 = .ok (.getfield 25, 3) := by decide +kernel
theorem dX0_removeOpen_25 : decode cX0_removeOpen 25 = .ok (.iload_n 2, 1) := by decide +kernel
theorem dX0_removeOpen_26 : decode cX0_removeOpen 26 = .ok (.baload, 1) := by decide +kernel
theorem dX0_removeOpen_27 : decode cX0_removeOpen 27 = .ok (.ifCond .ne 8, 3) := by decide +kernel
theorem dX0_removeOpen_30 : decode cX0_removeOpen 30 = .ok (.aload_n 0, 1) := by decide +kernel
theorem dX0_removeOpen_31 : decode cX0_removeOpen 31 = .ok (.iload_n 2, 1) := by decide +kernel
theorem dX0_removeOpen_32 : decode cX0_removeOpen 32 = .ok (.invokevirtual 56, 3) := by decide +kernel
theorem dX0_removeOpen_35 : decode cX0_removeOpen 35 = .ok (.iinc 2 (-1), 3) := by decide +kernel
theorem dX0_removeOpen_38 : decode cX0_removeOpen 38 = .ok (.goto (-31), 3) := by decide +kernel
theorem dX0_removeOpen_41 : decode cX0_removeOpen 41 = .ok (.return_, 1) := by decide +kernel
theorem dX11_boundOf_0 : decode cX11_boundOf 0 = .ok (.aload_n 0, 1) := by decide +kernel
theorem dX11_boundOf_1 : decode cX11_boundOf 1 = .ok (.getfield 143, 3) := by decide +kernel
theorem dX11_boundOf_4 : decode cX11_boundOf 4 = .ok (.lookupswitch 51 #[(0, 28), (2, 39)], 28) := by decide +kernel
theorem dX11_boundOf_32 : decode cX11_boundOf 32 = .ok (.aload_n 1, 1) := by decide +kernel
theorem dX11_boundOf_33 : decode cX11_boundOf 33 = .ok (.getfield 218, 3) := by decide +kernel
theorem dX11_boundOf_36 : decode cX11_boundOf 36 = .ok (.iload_n 2, 1) := by decide +kernel
theorem dX11_boundOf_37 : decode cX11_boundOf 37 = .ok (.iload_n 3, 1) := by decide +kernel
theorem dX11_boundOf_38 : decode cX11_boundOf 38 = .ok (.invokestatic 151, 3) := by decide +kernel
theorem dX11_boundOf_41 : decode cX11_boundOf 41 = .ok (.laload, 1) := by decide +kernel
theorem dX11_boundOf_42 : decode cX11_boundOf 42 = .ok (.lreturn, 1) := by decide +kernel
theorem dX11_boundOf_43 : decode cX11_boundOf 43 = .ok (.aload_n 0, 1) := by decide +kernel
theorem dX11_boundOf_44 : decode cX11_boundOf 44 = .ok (.getfield 147, 3) := by decide +kernel
theorem dX11_boundOf_47 : decode cX11_boundOf 47 = .ok (.iload_n 2, 1) := by decide +kernel
theorem dX11_boundOf_48 : decode cX11_boundOf 48 = .ok (.iload_n 3, 1) := by decide +kernel
theorem dX11_boundOf_49 : decode cX11_boundOf 49 = .ok (.invokestatic 151, 3) := by decide +kernel
theorem dX11_boundOf_52 : decode cX11_boundOf 52 = .ok (.iaload, 1) := by decide +kernel
theorem dX11_boundOf_53 : decode cX11_boundOf 53 = .ok (.i2l, 1) := by decide +kernel
theorem dX11_boundOf_54 : decode cX11_boundOf 54 = .ok (.lreturn, 1) := by decide +kernel
theorem dX11_boundOf_55 : decode cX11_boundOf 55 = .ok (.aload_n 1, 1) := by decide +kernel
theorem dX11_boundOf_56 : decode cX11_boundOf 56 = .ok (.getfield 218, 3) := by decide +kernel
theorem dX11_boundOf_59 : decode cX11_boundOf 59 = .ok (.iload_n 2, 1) := by decide +kernel
theorem dX11_boundOf_60 : decode cX11_boundOf 60 = .ok (.iload_n 3, 1) := by decide +kernel
theorem dX11_boundOf_61 : decode cX11_boundOf 61 = .ok (.invokestatic 151, 3) := by decide +kernel
theorem dX11_boundOf_64 : decode cX11_boundOf 64 = .ok (.laload, 1) := by decide +kernel
theorem dX11_boundOf_65 : decode cX11_boundOf 65 = .ok (.aload_n 1, 1) := by decide +kernel
theorem dX11_boundOf_66 : decode cX11_boundOf 66 = .ok (.getfield 218, 3) := by decide +kernel
theorem dX11_boundOf_69 : decode cX11_boundOf 69 = .ok (.iload_n 3, 1) := by decide +kernel
theorem dX11_boundOf_70 : decode cX11_boundOf 70 = .ok (.iload_n 2, 1) := by decide +kernel
theorem dX11_boundOf_71 : decode cX11_boundOf 71 = .ok (.invokestatic 151, 3) := by decide +kernel
theorem dX11_boundOf_74 : decode cX11_boundOf 74 = .ok (.laload, 1) := by decide +kernel
theorem dX11_boundOf_75 : decode cX11_boundOf 75 = .ok (.ladd, 1) := by decide +kernel
theorem dX11_boundOf_76 : decode cX11_boundOf 76 = .ok (.lreturn, 1) := by decide +kernel
theorem dX11_cell_0 : decode cX11_cell 0 = .ok (.iload_n 0, 1) := by decide +kernel
theorem dX11_cell_1 : decode cX11_cell 1 = .ok (.bipush 8, 2) := by decide +kernel
theorem dX11_cell_3 : decode cX11_cell 3 = .ok (.imul, 1) := by decide +kernel
theorem dX11_cell_4 : decode cX11_cell 4 = .ok (.iload_n 1, 1) := by decide +kernel
theorem dX11_cell_5 : decode cX11_cell 5 = .ok (.iadd, 1) := by decide +kernel
theorem dX11_cell_6 : decode cX11_cell 6 = .ok (.ireturn, 1) := by decide +kernel
theorem dX11_cellsAboveZero_0 : decode cX11_cellsAboveZero 0 = .ok (.iconst 0, 1) := by decide +kernel
theorem dX11_cellsAboveZero_1 : decode cX11_cellsAboveZero 1 = .ok (.istore_n 1, 1) := by decide +kernel
theorem dX11_cellsAboveZero_2 : decode cX11_cellsAboveZero 2 = .ok (.iconst 0, 1) := by decide +kernel
theorem dX11_cellsAboveZero_3 : decode cX11_cellsAboveZero 3 = .ok (.istore_n 2, 1) := by decide +kernel
theorem dX11_cellsAboveZero_4 : decode cX11_cellsAboveZero 4 = .ok (.iload_n 2, 1) := by decide +kernel
theorem dX11_cellsAboveZero_5 : decode cX11_cellsAboveZero 5 = .ok (.bipush 64, 2) := by decide +kernel
theorem dX11_cellsAboveZero_7 : decode cX11_cellsAboveZero 7 = .ok (.if_icmp .ge 20, 3) := by decide +kernel
theorem dX11_cellsAboveZero_10 : decode cX11_cellsAboveZero 10 = .ok (.aload_n 0, 1) := by decide +kernel
theorem dX11_cellsAboveZero_11 : decode cX11_cellsAboveZero 11 = .ok (.iload_n 2, 1) := by decide +kernel
theorem dX11_cellsAboveZero_12 : decode cX11_cellsAboveZero 12 = .ok (.laload, 1) := by decide +kernel
theorem dX11_cellsAboveZero_13 : decode cX11_cellsAboveZero 13 = .ok (.lconst 0, 1) := by decide +kernel
theorem dX11_cellsAboveZero_14 : decode cX11_cellsAboveZero 14 = .ok (.lcmp, 1) := by decide +kernel
theorem dX11_cellsAboveZero_15 : decode cX11_cellsAboveZero 15 = .ok (.ifCond .le 6, 3) := by decide +kernel
theorem dX11_cellsAboveZero_18 : decode cX11_cellsAboveZero 18 = .ok (.iinc 1 1, 3) := by decide +kernel
theorem dX11_cellsAboveZero_21 : decode cX11_cellsAboveZero 21 = .ok (.iinc 2 1, 3) := by decide +kernel
theorem dX11_cellsAboveZero_24 : decode cX11_cellsAboveZero 24 = .ok (.goto (-20), 3) := by decide +kernel
theorem dX11_cellsAboveZero_27 : decode cX11_cellsAboveZero 27 = .ok (.iload_n 1, 1) := by decide +kernel
theorem dX11_cellsAboveZero_28 : decode cX11_cellsAboveZero 28 = .ok (.ireturn, 1) := by decide +kernel
theorem dX11_sumIn_0 : decode cX11_sumIn 0 = .ok (.lconst 0, 1) := by decide +kernel
theorem dX11_sumIn_1 : decode cX11_sumIn 1 = .ok (.lstore_n 2, 1) := by decide +kernel
theorem dX11_sumIn_2 : decode cX11_sumIn 2 = .ok (.iconst 0, 1) := by decide +kernel
theorem dX11_sumIn_3 : decode cX11_sumIn 3 = .ok (.istore 4, 2) := by decide +kernel
theorem dX11_sumIn_5 : decode cX11_sumIn 5 = .ok (.iload 4, 2) := by decide +kernel
theorem dX11_sumIn_7 : decode cX11_sumIn 7 = .ok (.bipush 8, 2) := by decide +kernel
theorem dX11_sumIn_9 : decode cX11_sumIn 9 = .ok (.if_icmp .ge 20, 3) := by decide +kernel
theorem dX11_sumIn_12 : decode cX11_sumIn 12 = .ok (.lload_n 2, 1) := by decide +kernel
theorem dX11_sumIn_13 : decode cX11_sumIn 13 = .ok (.aload_n 0, 1) := by decide +kernel
theorem dX11_sumIn_14 : decode cX11_sumIn 14 = .ok (.iload 4, 2) := by decide +kernel
theorem dX11_sumIn_16 : decode cX11_sumIn 16 = .ok (.iload_n 1, 1) := by decide +kernel
theorem dX11_sumIn_17 : decode cX11_sumIn 17 = .ok (.invokestatic 151, 3) := by decide +kernel
theorem dX11_sumIn_20 : decode cX11_sumIn 20 = .ok (.laload, 1) := by decide +kernel
theorem dX11_sumIn_21 : decode cX11_sumIn 21 = .ok (.ladd, 1) := by decide +kernel
theorem dX11_sumIn_22 : decode cX11_sumIn 22 = .ok (.lstore_n 2, 1) := by decide +kernel
theorem dX11_sumIn_23 : decode cX11_sumIn 23 = .ok (.iinc 4 1, 3) := by decide +kernel
theorem dX11_sumIn_26 : decode cX11_sumIn 26 = .ok (.goto (-21), 3) := by decide +kernel
theorem dX11_sumIn_29 : decode cX11_sumIn 29 = .ok (.lload_n 2, 1) := by decide +kernel
theorem dX11_sumIn_30 : decode cX11_sumIn 30 = .ok (.lreturn, 1) := by decide +kernel
theorem dX11_sumOut_0 : decode cX11_sumOut 0 = .ok (.lconst 0, 1) := by decide +kernel
theorem dX11_sumOut_1 : decode cX11_sumOut 1 = .ok (.lstore_n 2, 1) := by decide +kernel
theorem dX11_sumOut_2 : decode cX11_sumOut 2 = .ok (.iconst 0, 1) := by decide +kernel
theorem dX11_sumOut_3 : decode cX11_sumOut 3 = .ok (.istore 4, 2) := by decide +kernel
theorem dX11_sumOut_5 : decode cX11_sumOut 5 = .ok (.iload 4, 2) := by decide +kernel
theorem dX11_sumOut_7 : decode cX11_sumOut 7 = .ok (.bipush 8, 2) := by decide +kernel
theorem dX11_sumOut_9 : decode cX11_sumOut 9 = .ok (.if_icmp .ge 20, 3) := by decide +kernel
theorem dX11_sumOut_12 : decode cX11_sumOut 12 = .ok (.lload_n 2, 1) := by decide +kernel
theorem dX11_sumOut_13 : decode cX11_sumOut 13 = .ok (.aload_n 0, 1) := by decide +kernel
theorem dX11_sumOut_14 : decode cX11_sumOut 14 = .ok (.iload_n 1, 1) := by decide +kernel
theorem dX11_sumOut_15 : decode cX11_sumOut 15 = .ok (.iload 4, 2) := by decide +kernel
theorem dX11_sumOut_17 : decode cX11_sumOut 17 = .ok (.invokestatic 151, 3) := by decide +kernel
theorem dX11_sumOut_20 : decode cX11_sumOut 20 = .ok (.laload, 1) := by decide +kernel
theorem dX11_sumOut_21 : decode cX11_sumOut 21 = .ok (.ladd, 1) := by decide +kernel
theorem dX11_sumOut_22 : decode cX11_sumOut 22 = .ok (.lstore_n 2, 1) := by decide +kernel
theorem dX11_sumOut_23 : decode cX11_sumOut 23 = .ok (.iinc 4 1, 3) := by decide +kernel
theorem dX11_sumOut_26 : decode cX11_sumOut 26 = .ok (.goto (-21), 3) := by decide +kernel
theorem dX11_sumOut_29 : decode cX11_sumOut 29 = .ok (.lload_n 2, 1) := by decide +kernel
theorem dX11_sumOut_30 : decode cX11_sumOut 30 = .ok (.lreturn, 1) := by decide +kernel
theorem dX1_aboveZero_0 : decode cX1_aboveZero 0 = .ok (.aload_n 0, 1) := by decide +kernel
theorem dX1_aboveZero_1 : decode cX1_aboveZero 1 = .ok (.getfield 9, 3) := by decide +kernel
theorem dX1_aboveZero_4 : decode cX1_aboveZero 4 = .ok (.invokestatic 71, 3) := by decide +kernel
theorem dX1_aboveZero_7 : decode cX1_aboveZero 7 = .ok (.ireturn, 1) := by decide +kernel
theorem dX1_gather_0 : decode cX1_gather 0 = .ok (.aload_n 0, 1) := by decide +kernel
theorem dX1_gather_1 : decode cX1_gather 1 = .ok (.getfield 9, 3) := by decide +kernel
theorem dX1_gather_4 : decode cX1_gather 4 = .ok (.lconst 0, 1) := by decide +kernel
theorem dX1_gather_5 : decode cX1_gather 5 = .ok (.invokestatic 15, 3) := by decide +kernel
theorem dX1_gather_8 : decode cX1_gather 8 = .ok (.aload_n 0, 1) := by decide +kernel
theorem dX1_gather_9 : decode cX1_gather 9 = .ok (.iload_n 2, 1) := by decide +kernel
theorem dX1_gather_10 : decode cX1_gather 10 = .ok (.putfield 21, 3) := by decide +kernel
theorem dX1_gather_13 : decode cX1_gather 13 = .ok (.iconst 0, 1) := by decide +kernel
theorem dX1_gather_14 : decode cX1_gather 14 = .ok (.istore 5, 2) := by decide +kernel
theorem dX1_gather_16 : decode cX1_gather 16 = .ok (.iload 5, 2) := by decide +kernel
theorem dX1_gather_18 : decode cX1_gather 18 = .ok (.aload_n 1, 1) := by decide +kernel
theorem dX1_gather_19 : decode cX1_gather 19 = .ok (.getfield 25, 3) := by decide +kernel
theorem dX1_gather_22 : decode cX1_gather 22 = .ok (.if_icmp .ge 86, 3) := by decide +kernel
theorem dX1_gather_25 : decode cX1_gather 25 = .ok (.aload_n 1, 1) := by decide +kernel
theorem dX1_gather_26 : decode cX1_gather 26 = .ok (.getfield 30, 3) := by decide +kernel
theorem dX1_gather_29 : decode cX1_gather 29 = .ok (.iload 5, 2) := by decide +kernel
theorem dX1_gather_31 : decode cX1_gather 31 = .ok (.iaload, 1) := by decide +kernel
theorem dX1_gather_32 : decode cX1_gather 32 = .ok (.iload_n 3, 1) := by decide +kernel
theorem dX1_gather_33 : decode cX1_gather 33 = .ok (.if_icmp .ne 69, 3) := by decide +kernel
theorem dX1_gather_36 : decode cX1_gather 36 = .ok (.aload_n 1, 1) := by decide +kernel
theorem dX1_gather_37 : decode cX1_gather 37 = .ok (.getfield 34, 3) := by decide +kernel
theorem dX1_gather_40 : decode cX1_gather 40 = .ok (.iload 5, 2) := by decide +kernel
theorem dX1_gather_42 : decode cX1_gather 42 = .ok (.baload, 1) := by decide +kernel
theorem dX1_gather_43 : decode cX1_gather 43 = .ok (.ifCond .ne 59, 3) := by decide +kernel
theorem dX1_gather_46 : decode cX1_gather 46 = .ok (.aload_n 1, 1) := by decide +kernel
theorem dX1_gather_47 : decode cX1_gather 47 = .ok (.getfield 38, 3) := by decide +kernel
theorem dX1_gather_50 : decode cX1_gather 50 = .ok (.iload 5, 2) := by decide +kernel
theorem dX1_gather_52 : decode cX1_gather 52 = .ok (.iaload, 1) := by decide +kernel
theorem dX1_gather_53 : decode cX1_gather 53 = .ok (.iload 4, 2) := by decide +kernel
theorem dX1_gather_55 : decode cX1_gather 55 = .ok (.if_icmp .eq 47, 3) := by decide +kernel
theorem dX1_gather_58 : decode cX1_gather 58 = .ok (.aload_n 1, 1) := by decide +kernel
theorem dX1_gather_59 : decode cX1_gather 59 = .ok (.getfield 41, 3) := by decide +kernel
theorem dX1_gather_62 : decode cX1_gather 62 = .ok (.iload 5, 2) := by decide +kernel
theorem dX1_gather_64 : decode cX1_gather 64 = .ok (.iaload, 1) := by decide +kernel
theorem dX1_gather_65 : decode cX1_gather 65 = .ok (.iload 4, 2) := by decide +kernel
theorem dX1_gather_67 : decode cX1_gather 67 = .ok (.if_icmp .eq 35, 3) := by decide +kernel
theorem dX1_gather_70 : decode cX1_gather 70 = .ok (.aload_n 0, 1) := by decide +kernel
theorem dX1_gather_71 : decode cX1_gather 71 = .ok (.getfield 9, 3) := by decide +kernel
theorem dX1_gather_74 : decode cX1_gather 74 = .ok (.aload_n 1, 1) := by decide +kernel
theorem dX1_gather_75 : decode cX1_gather 75 = .ok (.getfield 38, 3) := by decide +kernel
theorem dX1_gather_78 : decode cX1_gather 78 = .ok (.iload 5, 2) := by decide +kernel
theorem dX1_gather_80 : decode cX1_gather 80 = .ok (.iaload, 1) := by decide +kernel
theorem dX1_gather_81 : decode cX1_gather 81 = .ok (.aload_n 1, 1) := by decide +kernel
theorem dX1_gather_82 : decode cX1_gather 82 = .ok (.getfield 41, 3) := by decide +kernel
theorem dX1_gather_85 : decode cX1_gather 85 = .ok (.iload 5, 2) := by decide +kernel
theorem dX1_gather_87 : decode cX1_gather 87 = .ok (.iaload, 1) := by decide +kernel
theorem dX1_gather_88 : decode cX1_gather 88 = .ok (.invokestatic 44, 3) := by decide +kernel
theorem dX1_gather_91 : decode cX1_gather 91 = .ok (.dup2, 1) := by decide +kernel
theorem dX1_gather_92 : decode cX1_gather 92 = .ok (.laload, 1) := by decide +kernel
theorem dX1_gather_93 : decode cX1_gather 93 = .ok (.aload_n 1, 1) := by decide +kernel
theorem dX1_gather_94 : decode cX1_gather 94 = .ok (.getfield 48, 3) := by decide +kernel
theorem dX1_gather_97 : decode cX1_gather 97 = .ok (.iload 5, 2) := by decide +kernel
theorem dX1_gather_99 : decode cX1_gather 99 = .ok (.laload, 1) := by decide +kernel
theorem dX1_gather_100 : decode cX1_gather 100 = .ok (.ladd, 1) := by decide +kernel
theorem dX1_gather_101 : decode cX1_gather 101 = .ok (.lastore, 1) := by decide +kernel
theorem dX1_gather_102 : decode cX1_gather 102 = .ok (.iinc 5 1, 3) := by decide +kernel
theorem dX1_gather_105 : decode cX1_gather 105 = .ok (.goto (-89), 3) := by decide +kernel
theorem dX1_gather_108 : decode cX1_gather 108 = .ok (.return_, 1) := by decide +kernel
theorem dX1_goes_0 : decode cX1_goes 0 = .ok (.aload_n 0, 1) := by decide +kernel
theorem dX1_goes_1 : decode cX1_goes 1 = .ok (.getfield 9, 3) := by decide +kernel
theorem dX1_goes_4 : decode cX1_goes 4 = .ok (.iload_n 1, 1) := by decide +kernel
theorem dX1_goes_5 : decode cX1_goes 5 = .ok (.iload_n 2, 1) := by decide +kernel
theorem dX1_goes_6 : decode cX1_goes 6 = .ok (.invokestatic 44, 3) := by decide +kernel
theorem dX1_goes_9 : decode cX1_goes 9 = .ok (.laload, 1) := by decide +kernel
theorem dX1_goes_10 : decode cX1_goes 10 = .ok (.lconst 0, 1) := by decide +kernel
theorem dX1_goes_11 : decode cX1_goes 11 = .ok (.lcmp, 1) := by decide +kernel
theorem dX1_goes_12 : decode cX1_goes 12 = .ok (.ifCond .le 7, 3) := by decide +kernel
theorem dX1_goes_15 : decode cX1_goes 15 = .ok (.iconst 1, 1) := by decide +kernel
theorem dX1_goes_16 : decode cX1_goes 16 = .ok (.goto 4, 3) := by decide +kernel
theorem dX1_goes_19 : decode cX1_goes 19 = .ok (.iconst 0, 1) := by decide +kernel
theorem dX1_goes_20 : decode cX1_goes 20 = .ok (.ireturn, 1) := by decide +kernel
theorem dX1_into_0 : decode cX1_into 0 = .ok (.aload_n 0, 1) := by decide +kernel
theorem dX1_into_1 : decode cX1_into 1 = .ok (.getfield 9, 3) := by decide +kernel
theorem dX1_into_4 : decode cX1_into 4 = .ok (.iload_n 1, 1) := by decide +kernel
theorem dX1_into_5 : decode cX1_into 5 = .ok (.invokestatic 55, 3) := by decide +kernel
theorem dX1_into_8 : decode cX1_into 8 = .ok (.lreturn, 1) := by decide +kernel
theorem dX1_netOf_0 : decode cX1_netOf 0 = .ok (.aload_n 0, 1) := by decide +kernel
theorem dX1_netOf_1 : decode cX1_netOf 1 = .ok (.iload_n 1, 1) := by decide +kernel
theorem dX1_netOf_2 : decode cX1_netOf 2 = .ok (.invokevirtual 58, 3) := by decide +kernel
theorem dX1_netOf_5 : decode cX1_netOf 5 = .ok (.aload_n 0, 1) := by decide +kernel
theorem dX1_netOf_6 : decode cX1_netOf 6 = .ok (.iload_n 1, 1) := by decide +kernel
theorem dX1_netOf_7 : decode cX1_netOf 7 = .ok (.invokevirtual 62, 3) := by decide +kernel
theorem dX1_netOf_10 : decode cX1_netOf 10 = .ok (.lsub, 1) := by decide +kernel
theorem dX1_netOf_11 : decode cX1_netOf 11 = .ok (.lreturn, 1) := by decide +kernel
theorem dX1_netsAboveZero_0 : decode cX1_netsAboveZero 0 = .ok (.lconst 0, 1) := by decide +kernel
theorem dX1_netsAboveZero_1 : decode cX1_netsAboveZero 1 = .ok (.lstore_n 1, 1) := by decide +kernel
theorem dX1_netsAboveZero_2 : decode cX1_netsAboveZero 2 = .ok (.iconst 0, 1) := by decide +kernel
theorem dX1_netsAboveZero_3 : decode cX1_netsAboveZero 3 = .ok (.istore_n 3, 1) := by decide +kernel
theorem dX1_netsAboveZero_4 : decode cX1_netsAboveZero 4 = .ok (.iload_n 3, 1) := by decide +kernel
theorem dX1_netsAboveZero_5 : decode cX1_netsAboveZero 5 = .ok (.aload_n 0, 1) := by decide +kernel
theorem dX1_netsAboveZero_6 : decode cX1_netsAboveZero 6 = .ok (.getfield 21, 3) := by decide +kernel
theorem dX1_netsAboveZero_9 : decode cX1_netsAboveZero 9 = .ok (.if_icmp .ge 21, 3) := by decide +kernel
theorem dX1_netsAboveZero_12 : decode cX1_netsAboveZero 12 = .ok (.lload_n 1, 1) := by decide +kernel
theorem dX1_netsAboveZero_13 : decode cX1_netsAboveZero 13 = .ok (.lconst 0, 1) := by decide +kernel
theorem dX1_netsAboveZero_14 : decode cX1_netsAboveZero 14 = .ok (.aload_n 0, 1) := by decide +kernel
theorem dX1_netsAboveZero_15 : decode cX1_netsAboveZero 15 = .ok (.iload_n 3, 1) := by decide +kernel
theorem dX1_netsAboveZero_16 : decode cX1_netsAboveZero 16 = .ok (.invokevirtual 75, 3) := by decide +kernel
theorem dX1_netsAboveZero_19 : decode cX1_netsAboveZero 19 = .ok (.invokestatic 78, 3) := by decide +kernel
theorem dX1_netsAboveZero_22 : decode cX1_netsAboveZero 22 = .ok (.ladd, 1) := by decide +kernel
theorem dX1_netsAboveZero_23 : decode cX1_netsAboveZero 23 = .ok (.lstore_n 1, 1) := by decide +kernel
theorem dX1_netsAboveZero_24 : decode cX1_netsAboveZero 24 = .ok (.iinc 3 1, 3) := by decide +kernel
theorem dX1_netsAboveZero_27 : decode cX1_netsAboveZero 27 = .ok (.goto (-23), 3) := by decide +kernel
theorem dX1_netsAboveZero_30 : decode cX1_netsAboveZero 30 = .ok (.lload_n 1, 1) := by decide +kernel
theorem dX1_netsAboveZero_31 : decode cX1_netsAboveZero 31 = .ok (.lreturn, 1) := by decide +kernel
theorem dX1_outOf_0 : decode cX1_outOf 0 = .ok (.aload_n 0, 1) := by decide +kernel
theorem dX1_outOf_1 : decode cX1_outOf 1 = .ok (.getfield 9, 3) := by decide +kernel
theorem dX1_outOf_4 : decode cX1_outOf 4 = .ok (.iload_n 1, 1) := by decide +kernel
theorem dX1_outOf_5 : decode cX1_outOf 5 = .ok (.invokestatic 51, 3) := by decide +kernel
theorem dX1_outOf_8 : decode cX1_outOf 8 = .ok (.lreturn, 1) := by decide +kernel
theorem dX1_sum_0 : decode cX1_sum 0 = .ok (.lconst 0, 1) := by decide +kernel
theorem dX1_sum_1 : decode cX1_sum 1 = .ok (.lstore_n 1, 1) := by decide +kernel
theorem dX1_sum_2 : decode cX1_sum 2 = .ok (.iconst 0, 1) := by decide +kernel
theorem dX1_sum_3 : decode cX1_sum 3 = .ok (.istore_n 3, 1) := by decide +kernel
theorem dX1_sum_4 : decode cX1_sum 4 = .ok (.iload_n 3, 1) := by decide +kernel
theorem dX1_sum_5 : decode cX1_sum 5 = .ok (.bipush 64, 2) := by decide +kernel
theorem dX1_sum_7 : decode cX1_sum 7 = .ok (.if_icmp .ge 18, 3) := by decide +kernel
theorem dX1_sum_10 : decode cX1_sum 10 = .ok (.lload_n 1, 1) := by decide +kernel
theorem dX1_sum_11 : decode cX1_sum 11 = .ok (.aload_n 0, 1) := by decide +kernel
theorem dX1_sum_12 : decode cX1_sum 12 = .ok (.getfield 9, 3) := by decide +kernel
theorem dX1_sum_15 : decode cX1_sum 15 = .ok (.iload_n 3, 1) := by decide +kernel
theorem dX1_sum_16 : decode cX1_sum 16 = .ok (.laload, 1) := by decide +kernel
theorem dX1_sum_17 : decode cX1_sum 17 = .ok (.ladd, 1) := by decide +kernel
theorem dX1_sum_18 : decode cX1_sum 18 = .ok (.lstore_n 1, 1) := by decide +kernel
theorem dX1_sum_19 : decode cX1_sum 19 = .ok (.iinc 3 1, 3) := by decide +kernel
theorem dX1_sum_22 : decode cX1_sum 22 = .ok (.goto (-18), 3) := by decide +kernel
theorem dX1_sum_25 : decode cX1_sum 25 = .ok (.lload_n 1, 1) := by decide +kernel
theorem dX1_sum_26 : decode cX1_sum 26 = .ok (.lreturn, 1) := by decide +kernel
theorem dX1_throughOf_0 : decode cX1_throughOf 0 = .ok (.aload_n 0, 1) := by decide +kernel
theorem dX1_throughOf_1 : decode cX1_throughOf 1 = .ok (.iload_n 1, 1) := by decide +kernel
theorem dX1_throughOf_2 : decode cX1_throughOf 2 = .ok (.invokevirtual 58, 3) := by decide +kernel
theorem dX1_throughOf_5 : decode cX1_throughOf 5 = .ok (.aload_n 0, 1) := by decide +kernel
theorem dX1_throughOf_6 : decode cX1_throughOf 6 = .ok (.iload_n 1, 1) := by decide +kernel
theorem dX1_throughOf_7 : decode cX1_throughOf 7 = .ok (.invokevirtual 62, 3) := by decide +kernel
theorem dX1_throughOf_10 : decode cX1_throughOf 10 = .ok (.invokestatic 65, 3) := by decide +kernel
theorem dX1_throughOf_13 : decode cX1_throughOf 13 = .ok (.lreturn, 1) := by decide +kernel
theorem dX2_find_0 : decode cX2_find 0 = .ok (.aload_n 0, 1) := by decide +kernel
theorem dX2_find_1 : decode cX2_find 1 = .ok (.iconst 0, 1) := by decide +kernel
theorem dX2_find_2 : decode cX2_find 2 = .ok (.putfield 22, 3) := by decide +kernel
theorem dX2_find_5 : decode cX2_find 5 = .ok (.iconst 0, 1) := by decide +kernel
theorem dX2_find_6 : decode cX2_find 6 = .ok (.istore_n 2, 1) := by decide +kernel
theorem dX2_find_7 : decode cX2_find 7 = .ok (.iload_n 2, 1) := by decide +kernel
theorem dX2_find_8 : decode cX2_find 8 = .ok (.aload_n 1, 1) := by decide +kernel
theorem dX2_find_9 : decode cX2_find 9 = .ok (.getfield 26, 3) := by decide +kernel
theorem dX2_find_12 : decode cX2_find 12 = .ok (.if_icmp .ge 41, 3) := by decide +kernel
theorem dX2_find_15 : decode cX2_find 15 = .ok (.aload_n 1, 1) := by decide +kernel
theorem dX2_find_16 : decode cX2_find 16 = .ok (.iload_n 2, 1) := by decide +kernel
theorem dX2_find_17 : decode cX2_find 17 = .ok (.invokevirtual 31, 3) := by decide +kernel
theorem dX2_find_20 : decode cX2_find 20 = .ok (.lstore_n 3, 1) := by decide +kernel
theorem dX2_find_21 : decode cX2_find 21 = .ok (.lload_n 3, 1) := by decide +kernel
theorem dX2_find_22 : decode cX2_find 22 = .ok (.lconst 0, 1) := by decide +kernel
theorem dX2_find_23 : decode cX2_find 23 = .ok (.lcmp, 1) := by decide +kernel
theorem dX2_find_24 : decode cX2_find 24 = .ok (.ifCond .eq 23, 3) := by decide +kernel
theorem dX2_find_27 : decode cX2_find 27 = .ok (.aload_n 0, 1) := by decide +kernel
theorem dX2_find_28 : decode cX2_find 28 = .ok (.getfield 9, 3) := by decide +kernel
theorem dX2_find_31 : decode cX2_find 31 = .ok (.aload_n 0, 1) := by decide +kernel
theorem dX2_find_32 : decode cX2_find 32 = .ok (.getfield 22, 3) := by decide +kernel
theorem dX2_find_35 : decode cX2_find 35 = .ok (.lload_n 3, 1) := by decide +kernel
theorem dX2_find_36 : decode cX2_find 36 = .ok (.lastore, 1) := by decide +kernel
theorem dX2_find_37 : decode cX2_find 37 = .ok (.aload_n 0, 1) := by decide +kernel
theorem dX2_find_38 : decode cX2_find 38 = .ok (.dup, 1) := by decide +kernel
theorem dX2_find_39 : decode cX2_find 39 = .ok (.getfield 22, 3) := by decide +kernel
theorem dX2_find_42 : decode cX2_find 42 = .ok (.iconst 1, 1) := by decide +kernel
theorem dX2_find_43 : decode cX2_find 43 = .ok (.iadd, 1) := by decide +kernel
theorem dX2_find_44 : decode cX2_find 44 = .ok (.putfield 22, 3) := by decide +kernel
theorem dX2_find_47 : decode cX2_find 47 = .ok (.iinc 2 1, 3) := by decide +kernel
theorem dX2_find_50 : decode cX2_find 50 = .ok (.goto (-43), 3) := by decide +kernel
theorem dX2_find_53 : decode cX2_find 53 = .ok (.aload_n 0, 1) := by decide +kernel
theorem dX2_find_54 : decode cX2_find 54 = .ok (.getfield 15, 3) := by decide +kernel
theorem dX2_find_57 : decode cX2_find 57 = .ok (.iconst 0, 1) := by decide +kernel
theorem dX2_find_58 : decode cX2_find 58 = .ok (.lconst 0, 1) := by decide +kernel
theorem dX2_find_59 : decode cX2_find 59 = .ok (.lastore, 1) := by decide +kernel
theorem dX2_find_60 : decode cX2_find 60 = .ok (.aload_n 0, 1) := by decide +kernel
theorem dX2_find_61 : decode cX2_find 61 = .ok (.getfield 18, 3) := by decide +kernel
theorem dX2_find_64 : decode cX2_find 64 = .ok (.iconst 0, 1) := by decide +kernel
theorem dX2_find_65 : decode cX2_find 65 = .ok (.iconst 0, 1) := by decide +kernel
theorem dX2_find_66 : decode cX2_find 66 = .ok (.iastore, 1) := by decide +kernel
theorem dX2_find_67 : decode cX2_find 67 = .ok (.iconst 1, 1) := by decide +kernel
theorem dX2_find_68 : decode cX2_find 68 = .ok (.istore_n 2, 1) := by decide +kernel
theorem dX2_find_69 : decode cX2_find 69 = .ok (.iload_n 2, 1) := by decide +kernel
theorem dX2_find_70 : decode cX2_find 70 = .ok (.iconst 1, 1) := by decide +kernel
theorem dX2_find_71 : decode cX2_find 71 = .ok (.aload_n 0, 1) := by decide +kernel
theorem dX2_find_72 : decode cX2_find 72 = .ok (.getfield 22, 3) := by decide +kernel
theorem dX2_find_75 : decode cX2_find 75 = .ok (.ishl, 1) := by decide +kernel
theorem dX2_find_76 : decode cX2_find 76 = .ok (.if_icmp .ge 14, 3) := by decide +kernel
theorem dX2_find_79 : decode cX2_find 79 = .ok (.aload_n 0, 1) := by decide +kernel
theorem dX2_find_80 : decode cX2_find 80 = .ok (.iload_n 2, 1) := by decide +kernel
theorem dX2_find_81 : decode cX2_find 81 = .ok (.invokevirtual 35, 3) := by decide +kernel
theorem dX2_find_84 : decode cX2_find 84 = .ok (.iinc 2 1, 3) := by decide +kernel
theorem dX2_find_87 : decode cX2_find 87 = .ok (.goto (-18), 3) := by decide +kernel
theorem dX2_find_90 : decode cX2_find 90 = .ok (.aload_n 0, 1) := by decide +kernel
theorem dX2_find_91 : decode cX2_find 91 = .ok (.aload_n 0, 1) := by decide +kernel
theorem dX2_find_92 : decode cX2_find 92 = .ok (.getfield 18, 3) := by decide +kernel
theorem dX2_find_95 : decode cX2_find 95 = .ok (.iconst 1, 1) := by decide +kernel
theorem dX2_find_96 : decode cX2_find 96 = .ok (.aload_n 0, 1) := by decide +kernel
theorem dX2_find_97 : decode cX2_find 97 = .ok (.getfield 22, 3) := by decide +kernel
theorem dX2_find_100 : decode cX2_find 100 = .ok (.ishl, 1) := by decide +kernel
theorem dX2_find_101 : decode cX2_find 101 = .ok (.iconst 1, 1) := by decide +kernel
theorem dX2_find_102 : decode cX2_find 102 = .ok (.isub, 1) := by decide +kernel
theorem dX2_find_103 : decode cX2_find 103 = .ok (.iaload, 1) := by decide +kernel
theorem dX2_find_104 : decode cX2_find 104 = .ok (.putfield 39, 3) := by decide +kernel
theorem dX2_find_107 : decode cX2_find 107 = .ok (.return_, 1) := by decide +kernel
theorem dX2_measure_0 : decode cX2_measure 0 = .ok (.iconst 0, 1) := by decide +kernel
theorem dX2_measure_1 : decode cX2_measure 1 = .ok (.istore_n 2, 1) := by decide +kernel
theorem dX2_measure_2 : decode cX2_measure 2 = .ok (.iconst 0, 1) := by decide +kernel
theorem dX2_measure_3 : decode cX2_measure 3 = .ok (.istore_n 3, 1) := by decide +kernel
theorem dX2_measure_4 : decode cX2_measure 4 = .ok (.iload_n 3, 1) := by decide +kernel
theorem dX2_measure_5 : decode cX2_measure 5 = .ok (.aload_n 0, 1) := by decide +kernel
theorem dX2_measure_6 : decode cX2_measure 6 = .ok (.getfield 22, 3) := by decide +kernel
theorem dX2_measure_9 : decode cX2_measure 9 = .ok (.if_icmp .ge 56, 3) := by decide +kernel
theorem dX2_measure_12 : decode cX2_measure 12 = .ok (.iload_n 1, 1) := by decide +kernel
theorem dX2_measure_13 : decode cX2_measure 13 = .ok (.iconst 1, 1) := by decide +kernel
theorem dX2_measure_14 : decode cX2_measure 14 = .ok (.iload_n 3, 1) := by decide +kernel
theorem dX2_measure_15 : decode cX2_measure 15 = .ok (.ishl, 1) := by decide +kernel
theorem dX2_measure_16 : decode cX2_measure 16 = .ok (.iconst (-1), 1) := by decide +kernel
theorem dX2_measure_17 : decode cX2_measure 17 = .ok (.ixor, 1) := by decide +kernel
theorem dX2_measure_18 : decode cX2_measure 18 = .ok (.iand, 1) := by decide +kernel
theorem dX2_measure_19 : decode cX2_measure 19 = .ok (.istore 4, 2) := by decide +kernel
theorem dX2_measure_21 : decode cX2_measure 21 = .ok (.iload 4, 2) := by decide +kernel
theorem dX2_measure_23 : decode cX2_measure 23 = .ok (.iload_n 1, 1) := by decide +kernel
theorem dX2_measure_24 : decode cX2_measure 24 = .ok (.if_icmp .eq 35, 3) := by decide +kernel
theorem dX2_measure_27 : decode cX2_measure 27 = .ok (.iload_n 2, 1) := by decide +kernel
theorem dX2_measure_28 : decode cX2_measure 28 = .ok (.aload_n 0, 1) := by decide +kernel
theorem dX2_measure_29 : decode cX2_measure 29 = .ok (.getfield 18, 3) := by decide +kernel
theorem dX2_measure_32 : decode cX2_measure 32 = .ok (.iload 4, 2) := by decide +kernel
theorem dX2_measure_34 : decode cX2_measure 34 = .ok (.iaload, 1) := by decide +kernel
theorem dX2_measure_35 : decode cX2_measure 35 = .ok (.invokestatic 42, 3) := by decide +kernel
theorem dX2_measure_38 : decode cX2_measure 38 = .ok (.istore_n 2, 1) := by decide +kernel
theorem dX2_measure_39 : decode cX2_measure 39 = .ok (.aload_n 0, 1) := by decide +kernel
theorem dX2_measure_40 : decode cX2_measure 40 = .ok (.getfield 15, 3) := by decide +kernel
theorem dX2_measure_43 : decode cX2_measure 43 = .ok (.iload_n 1, 1) := by decide +kernel
theorem dX2_measure_44 : decode cX2_measure 44 = .ok (.aload_n 0, 1) := by decide +kernel
theorem dX2_measure_45 : decode cX2_measure 45 = .ok (.getfield 15, 3) := by decide +kernel
theorem dX2_measure_48 : decode cX2_measure 48 = .ok (.iload 4, 2) := by decide +kernel
theorem dX2_measure_50 : decode cX2_measure 50 = .ok (.laload, 1) := by decide +kernel
theorem dX2_measure_51 : decode cX2_measure 51 = .ok (.aload_n 0, 1) := by decide +kernel
theorem dX2_measure_52 : decode cX2_measure 52 = .ok (.getfield 9, 3) := by decide +kernel
theorem dX2_measure_55 : decode cX2_measure 55 = .ok (.iload_n 3, 1) := by decide +kernel
theorem dX2_measure_56 : decode cX2_measure 56 = .ok (.laload, 1) := by decide +kernel
theorem dX2_measure_57 : decode cX2_measure 57 = .ok (.ladd, 1) := by decide +kernel
theorem dX2_measure_58 : decode cX2_measure 58 = .ok (.lastore, 1) := by decide +kernel
theorem dX2_measure_59 : decode cX2_measure 59 = .ok (.iinc 3 1, 3) := by decide +kernel
theorem dX2_measure_62 : decode cX2_measure 62 = .ok (.goto (-58), 3) := by decide +kernel
theorem dX2_measure_65 : decode cX2_measure 65 = .ok (.aload_n 0, 1) := by decide +kernel
theorem dX2_measure_66 : decode cX2_measure 66 = .ok (.getfield 18, 3) := by decide +kernel
theorem dX2_measure_69 : decode cX2_measure 69 = .ok (.iload_n 1, 1) := by decide +kernel
theorem dX2_measure_70 : decode cX2_measure 70 = .ok (.aload_n 0, 1) := by decide +kernel
theorem dX2_measure_71 : decode cX2_measure 71 = .ok (.getfield 15, 3) := by decide +kernel
theorem dX2_measure_74 : decode cX2_measure 74 = .ok (.iload_n 1, 1) := by decide +kernel
theorem dX2_measure_75 : decode cX2_measure 75 = .ok (.laload, 1) := by decide +kernel
theorem dX2_measure_76 : decode cX2_measure 76 = .ok (.lconst 0, 1) := by decide +kernel
theorem dX2_measure_77 : decode cX2_measure 77 = .ok (.lcmp, 1) := by decide +kernel
theorem dX2_measure_78 : decode cX2_measure 78 = .ok (.ifCond .ne 9, 3) := by decide +kernel
theorem dX2_measure_81 : decode cX2_measure 81 = .ok (.iload_n 2, 1) := by decide +kernel
theorem dX2_measure_82 : decode cX2_measure 82 = .ok (.iconst 1, 1) := by decide +kernel
theorem dX2_measure_83 : decode cX2_measure 83 = .ok (.iadd, 1) := by decide +kernel
theorem dX2_measure_84 : decode cX2_measure 84 = .ok (.goto 4, 3) := by decide +kernel
theorem dX2_measure_87 : decode cX2_measure 87 = .ok (.iload_n 2, 1) := by decide +kernel
theorem dX2_measure_88 : decode cX2_measure 88 = .ok (.iastore, 1) := by decide +kernel
theorem dX2_measure_89 : decode cX2_measure 89 = .ok (.return_, 1) := by decide +kernel
theorem dX3_appendKind_0 : decode cX3_appendKind 0 = .ok (.aload_n 0, 1) := by decide +kernel
theorem dX3_appendKind_1 : decode cX3_appendKind 1 = .ok (.getfield 23, 3) := by decide +kernel
theorem dX3_appendKind_4 : decode cX3_appendKind 4 = .ok (.iconst 4, 1) := by decide +kernel
theorem dX3_appendKind_5 : decode cX3_appendKind 5 = .ok (.if_icmp .ge 27, 3) := by decide +kernel
theorem dX3_appendKind_8 : decode cX3_appendKind 8 = .ok (.aload_n 0, 1) := by decide +kernel
theorem dX3_appendKind_9 : decode cX3_appendKind 9 = .ok (.bipush 8, 2) := by decide +kernel
theorem dX3_appendKind_11 : decode cX3_appendKind 11 = .ok (.aload_n 0, 1) := by decide +kernel
theorem dX3_appendKind_12 : decode cX3_appendKind 12 = .ok (.getfield 23, 3) := by decide +kernel
theorem dX3_appendKind_15 : decode cX3_appendKind 15 = .ok (.iadd, 1) := by decide +kernel
theorem dX3_appendKind_16 : decode cX3_appendKind 16 = .ok (.aload_n 1, 1) := by decide +kernel
theorem dX3_appendKind_17 : decode cX3_appendKind 17 = .ok (.iload_n 2, 1) := by decide +kernel
theorem dX3_appendKind_18 : decode cX3_appendKind 18 = .ok (.iload_n 3, 1) := by decide +kernel
theorem dX3_appendKind_19 : decode cX3_appendKind 19 = .ok (.invokevirtual 26, 3) := by decide +kernel
theorem dX3_appendKind_22 : decode cX3_appendKind 22 = .ok (.aload_n 0, 1) := by decide +kernel
theorem dX3_appendKind_23 : decode cX3_appendKind 23 = .ok (.dup, 1) := by decide +kernel
theorem dX3_appendKind_24 : decode cX3_appendKind 24 = .ok (.getfield 23, 3) := by decide +kernel
theorem dX3_appendKind_27 : decode cX3_appendKind 27 = .ok (.iconst 1, 1) := by decide +kernel
theorem dX3_appendKind_28 : decode cX3_appendKind 28 = .ok (.iadd, 1) := by decide +kernel
theorem dX3_appendKind_29 : decode cX3_appendKind 29 = .ok (.putfield 23, 3) := by decide +kernel
theorem dX3_appendKind_32 : decode cX3_appendKind 32 = .ok (.return_, 1) := by decide +kernel
theorem dX3_appendParty_0 : decode cX3_appendParty 0 = .ok (.aload_n 0, 1) := by decide +kernel
theorem dX3_appendParty_1 : decode cX3_appendParty 1 = .ok (.getfield 19, 3) := by decide +kernel
theorem dX3_appendParty_4 : decode cX3_appendParty 4 = .ok (.bipush 8, 2) := by decide +kernel
theorem dX3_appendParty_6 : decode cX3_appendParty 6 = .ok (.if_icmp .ge 24, 3) := by decide +kernel
theorem dX3_appendParty_9 : decode cX3_appendParty 9 = .ok (.aload_n 0, 1) := by decide +kernel
theorem dX3_appendParty_10 : decode cX3_appendParty 10 = .ok (.aload_n 0, 1) := by decide +kernel
theorem dX3_appendParty_11 : decode cX3_appendParty 11 = .ok (.getfield 19, 3) := by decide +kernel
theorem dX3_appendParty_14 : decode cX3_appendParty 14 = .ok (.aload_n 1, 1) := by decide +kernel
theorem dX3_appendParty_15 : decode cX3_appendParty 15 = .ok (.iload_n 2, 1) := by decide +kernel
theorem dX3_appendParty_16 : decode cX3_appendParty 16 = .ok (.iload_n 3, 1) := by decide +kernel
theorem dX3_appendParty_17 : decode cX3_appendParty 17 = .ok (.invokevirtual 26, 3) := by decide +kernel
theorem dX3_appendParty_20 : decode cX3_appendParty 20 = .ok (.aload_n 0, 1) := by decide +kernel
theorem dX3_appendParty_21 : decode cX3_appendParty 21 = .ok (.dup, 1) := by decide +kernel
theorem dX3_appendParty_22 : decode cX3_appendParty 22 = .ok (.getfield 19, 3) := by decide +kernel
theorem dX3_appendParty_25 : decode cX3_appendParty 25 = .ok (.iconst 1, 1) := by decide +kernel
theorem dX3_appendParty_26 : decode cX3_appendParty 26 = .ok (.iadd, 1) := by decide +kernel
theorem dX3_appendParty_27 : decode cX3_appendParty 27 = .ok (.putfield 19, 3) := by decide +kernel
theorem dX3_appendParty_30 : decode cX3_appendParty 30 = .ok (.return_, 1) := by decide +kernel
theorem dX3_clear_0 : decode cX3_clear 0 = .ok (.aload_n 0, 1) := by decide +kernel
theorem dX3_clear_1 : decode cX3_clear 1 = .ok (.iconst 0, 1) := by decide +kernel
theorem dX3_clear_2 : decode cX3_clear 2 = .ok (.putfield 19, 3) := by decide +kernel
theorem dX3_clear_5 : decode cX3_clear 5 = .ok (.aload_n 0, 1) := by decide +kernel
theorem dX3_clear_6 : decode cX3_clear 6 = .ok (.iconst 0, 1) := by decide +kernel
theorem dX3_clear_7 : decode cX3_clear 7 = .ok (.putfield 23, 3) := by decide +kernel
theorem dX3_clear_10 : decode cX3_clear 10 = .ok (.return_, 1) := by decide +kernel
theorem dX3_find_0 : decode cX3_find 0 = .ok (.iconst 0, 1) := by decide +kernel
theorem dX3_find_1 : decode cX3_find 1 = .ok (.istore 6, 2) := by decide +kernel
theorem dX3_find_3 : decode cX3_find 3 = .ok (.iload 6, 2) := by decide +kernel
theorem dX3_find_5 : decode cX3_find 5 = .ok (.iload_n 2, 1) := by decide +kernel
theorem dX3_find_6 : decode cX3_find 6 = .ok (.if_icmp .ge 28, 3) := by decide +kernel
theorem dX3_find_9 : decode cX3_find 9 = .ok (.aload_n 0, 1) := by decide +kernel
theorem dX3_find_10 : decode cX3_find 10 = .ok (.iload_n 1, 1) := by decide +kernel
theorem dX3_find_11 : decode cX3_find 11 = .ok (.iload 6, 2) := by decide +kernel
theorem dX3_find_13 : decode cX3_find 13 = .ok (.iadd, 1) := by decide +kernel
theorem dX3_find_14 : decode cX3_find 14 = .ok (.aload_n 3, 1) := by decide +kernel
theorem dX3_find_15 : decode cX3_find 15 = .ok (.iload 4, 2) := by decide +kernel
theorem dX3_find_17 : decode cX3_find 17 = .ok (.iload 5, 2) := by decide +kernel
theorem dX3_find_19 : decode cX3_find 19 = .ok (.invokevirtual 30, 3) := by decide +kernel
theorem dX3_find_22 : decode cX3_find 22 = .ok (.ifCond .eq 6, 3) := by decide +kernel
theorem dX3_find_25 : decode cX3_find 25 = .ok (.iload 6, 2) := by decide +kernel
theorem dX3_find_27 : decode cX3_find 27 = .ok (.ireturn, 1) := by decide +kernel
theorem dX3_find_28 : decode cX3_find 28 = .ok (.iinc 6 1, 3) := by decide +kernel
theorem dX3_find_31 : decode cX3_find 31 = .ok (.goto (-28), 3) := by decide +kernel
theorem dX3_find_34 : decode cX3_find 34 = .ok (.iconst (-1), 1) := by decide +kernel
theorem dX3_find_35 : decode cX3_find 35 = .ok (.ireturn, 1) := by decide +kernel
theorem dX3_put_0 : decode cX3_put 0 = .ok (.aload_n 0, 1) := by decide +kernel
theorem dX3_put_1 : decode cX3_put 1 = .ok (.getfield 15, 3) := by decide +kernel
theorem dX3_put_4 : decode cX3_put 4 = .ok (.iload_n 1, 1) := by decide +kernel
theorem dX3_put_5 : decode cX3_put 5 = .ok (.iload 4, 2) := by decide +kernel
theorem dX3_put_7 : decode cX3_put 7 = .ok (.bipush 8, 2) := by decide +kernel
theorem dX3_put_9 : decode cX3_put 9 = .ok (.invokestatic 34, 3) := by decide +kernel
theorem dX3_put_12 : decode cX3_put 12 = .ok (.iastore, 1) := by decide +kernel
theorem dX3_put_13 : decode cX3_put 13 = .ok (.iconst 0, 1) := by decide +kernel
theorem dX3_put_14 : decode cX3_put 14 = .ok (.istore 5, 2) := by decide +kernel
theorem dX3_put_16 : decode cX3_put 16 = .ok (.iload 5, 2) := by decide +kernel
theorem dX3_put_18 : decode cX3_put 18 = .ok (.aload_n 0, 1) := by decide +kernel
theorem dX3_put_19 : decode cX3_put 19 = .ok (.getfield 15, 3) := by decide +kernel
theorem dX3_put_22 : decode cX3_put 22 = .ok (.iload_n 1, 1) := by decide +kernel
theorem dX3_put_23 : decode cX3_put 23 = .ok (.iaload, 1) := by decide +kernel
theorem dX3_put_24 : decode cX3_put 24 = .ok (.if_icmp .ge 27, 3) := by decide +kernel
theorem dX3_put_27 : decode cX3_put 27 = .ok (.aload_n 0, 1) := by decide +kernel
theorem dX3_put_28 : decode cX3_put 28 = .ok (.getfield 11, 3) := by decide +kernel
theorem dX3_put_31 : decode cX3_put 31 = .ok (.iload_n 1, 1) := by decide +kernel
theorem dX3_put_32 : decode cX3_put 32 = .ok (.bipush 8, 2) := by decide +kernel
theorem dX3_put_34 : decode cX3_put 34 = .ok (.imul, 1) := by decide +kernel
theorem dX3_put_35 : decode cX3_put 35 = .ok (.iload 5, 2) := by decide +kernel
theorem dX3_put_37 : decode cX3_put 37 = .ok (.iadd, 1) := by decide +kernel
theorem dX3_put_38 : decode cX3_put 38 = .ok (.aload_n 2, 1) := by decide +kernel
theorem dX3_put_39 : decode cX3_put 39 = .ok (.iload_n 3, 1) := by decide +kernel
theorem dX3_put_40 : decode cX3_put 40 = .ok (.iload 5, 2) := by decide +kernel
theorem dX3_put_42 : decode cX3_put 42 = .ok (.iadd, 1) := by decide +kernel
theorem dX3_put_43 : decode cX3_put 43 = .ok (.baload, 1) := by decide +kernel
theorem dX3_put_44 : decode cX3_put 44 = .ok (.bastore, 1) := by decide +kernel
theorem dX3_put_45 : decode cX3_put 45 = .ok (.iinc 5 1, 3) := by decide +kernel
theorem dX3_put_48 : decode cX3_put 48 = .ok (.goto (-32), 3) := by decide +kernel
theorem dX3_put_51 : decode cX3_put 51 = .ok (.return_, 1) := by decide +kernel
theorem dX3_same_0 : decode cX3_same 0 = .ok (.aload_n 0, 1) := by decide +kernel
theorem dX3_same_1 : decode cX3_same 1 = .ok (.getfield 15, 3) := by decide +kernel
theorem dX3_same_4 : decode cX3_same 4 = .ok (.iload_n 1, 1) := by decide +kernel
theorem dX3_same_5 : decode cX3_same 5 = .ok (.iaload, 1) := by decide +kernel
theorem dX3_same_6 : decode cX3_same 6 = .ok (.iload 4, 2) := by decide +kernel
theorem dX3_same_8 : decode cX3_same 8 = .ok (.if_icmp .eq 5, 3) := by decide +kernel
theorem dX3_same_11 : decode cX3_same 11 = .ok (.iconst 0, 1) := by decide +kernel
theorem dX3_same_12 : decode cX3_same 12 = .ok (.ireturn, 1) := by decide +kernel
theorem dX3_same_13 : decode cX3_same 13 = .ok (.iconst 0, 1) := by decide +kernel
theorem dX3_same_14 : decode cX3_same 14 = .ok (.istore 5, 2) := by decide +kernel
theorem dX3_same_16 : decode cX3_same 16 = .ok (.iload 5, 2) := by decide +kernel
theorem dX3_same_18 : decode cX3_same 18 = .ok (.iload 4, 2) := by decide +kernel
theorem dX3_same_20 : decode cX3_same 20 = .ok (.if_icmp .ge 32, 3) := by decide +kernel
theorem dX3_same_23 : decode cX3_same 23 = .ok (.aload_n 0, 1) := by decide +kernel
theorem dX3_same_24 : decode cX3_same 24 = .ok (.getfield 11, 3) := by decide +kernel
theorem dX3_same_27 : decode cX3_same 27 = .ok (.iload_n 1, 1) := by decide +kernel
theorem dX3_same_28 : decode cX3_same 28 = .ok (.bipush 8, 2) := by decide +kernel
theorem dX3_same_30 : decode cX3_same 30 = .ok (.imul, 1) := by decide +kernel
theorem dX3_same_31 : decode cX3_same 31 = .ok (.iload 5, 2) := by decide +kernel
theorem dX3_same_33 : decode cX3_same 33 = .ok (.iadd, 1) := by decide +kernel
theorem dX3_same_34 : decode cX3_same 34 = .ok (.baload, 1) := by decide +kernel
theorem dX3_same_35 : decode cX3_same 35 = .ok (.aload_n 2, 1) := by decide +kernel
theorem dX3_same_36 : decode cX3_same 36 = .ok (.iload_n 3, 1) := by decide +kernel
theorem dX3_same_37 : decode cX3_same 37 = .ok (.iload 5, 2) := by decide +kernel
theorem dX3_same_39 : decode cX3_same 39 = .ok (.iadd, 1) := by decide +kernel
theorem dX3_same_40 : decode cX3_same 40 = .ok (.baload, 1) := by decide +kernel
theorem dX3_same_41 : decode cX3_same 41 = .ok (.if_icmp .eq 5, 3) := by decide +kernel
theorem dX3_same_44 : decode cX3_same 44 = .ok (.iconst 0, 1) := by decide +kernel
theorem dX3_same_45 : decode cX3_same 45 = .ok (.ireturn, 1) := by decide +kernel
theorem dX3_same_46 : decode cX3_same 46 = .ok (.iinc 5 1, 3) := by decide +kernel
theorem dX3_same_49 : decode cX3_same 49 = .ok (.goto (-33), 3) := by decide +kernel
theorem dX3_same_52 : decode cX3_same 52 = .ok (.iconst 1, 1) := by decide +kernel
theorem dX3_same_53 : decode cX3_same 53 = .ok (.ireturn, 1) := by decide +kernel
theorem dX4_put_0 : decode cX4_put 0 = .ok (.aload_n 0, 1) := by decide +kernel
theorem dX4_put_1 : decode cX4_put 1 = .ok (.getfield 18, 3) := by decide +kernel
theorem dX4_put_4 : decode cX4_put 4 = .ok (.bipush 64, 2) := by decide +kernel
theorem dX4_put_6 : decode cX4_put 6 = .ok (.if_icmp .ge 24, 3) := by decide +kernel
theorem dX4_put_9 : decode cX4_put 9 = .ok (.aload_n 0, 1) := by decide +kernel
theorem dX4_put_10 : decode cX4_put 10 = .ok (.getfield 11, 3) := by decide +kernel
theorem dX4_put_13 : decode cX4_put 13 = .ok (.aload_n 0, 1) := by decide +kernel
theorem dX4_put_14 : decode cX4_put 14 = .ok (.getfield 18, 3) := by decide +kernel
theorem dX4_put_17 : decode cX4_put 17 = .ok (.iload_n 1, 1) := by decide +kernel
theorem dX4_put_18 : decode cX4_put 18 = .ok (.i2b, 1) := by decide +kernel
theorem dX4_put_19 : decode cX4_put 19 = .ok (.bastore, 1) := by decide +kernel
theorem dX4_put_20 : decode cX4_put 20 = .ok (.aload_n 0, 1) := by decide +kernel
theorem dX4_put_21 : decode cX4_put 21 = .ok (.dup, 1) := by decide +kernel
theorem dX4_put_22 : decode cX4_put 22 = .ok (.getfield 18, 3) := by decide +kernel
theorem dX4_put_25 : decode cX4_put 25 = .ok (.iconst 1, 1) := by decide +kernel
theorem dX4_put_26 : decode cX4_put 26 = .ok (.iadd, 1) := by decide +kernel
theorem dX4_put_27 : decode cX4_put 27 = .ok (.putfield 18, 3) := by decide +kernel
theorem dX4_put_30 : decode cX4_put 30 = .ok (.return_, 1) := by decide +kernel
theorem dX4_putName_0 : decode cX4_putName 0 = .ok (.iconst 0, 1) := by decide +kernel
theorem dX4_putName_1 : decode cX4_putName 1 = .ok (.istore_n 3, 1) := by decide +kernel
theorem dX4_putName_2 : decode cX4_putName 2 = .ok (.iload_n 3, 1) := by decide +kernel
theorem dX4_putName_3 : decode cX4_putName 3 = .ok (.aload_n 1, 1) := by decide +kernel
theorem dX4_putName_4 : decode cX4_putName 4 = .ok (.getfield 56, 3) := by decide +kernel
theorem dX4_putName_7 : decode cX4_putName 7 = .ok (.iload_n 2, 1) := by decide +kernel
theorem dX4_putName_8 : decode cX4_putName 8 = .ok (.iaload, 1) := by decide +kernel
theorem dX4_putName_9 : decode cX4_putName 9 = .ok (.if_icmp .ge 24, 3) := by decide +kernel
theorem dX4_putName_12 : decode cX4_putName 12 = .ok (.aload_n 0, 1) := by decide +kernel
theorem dX4_putName_13 : decode cX4_putName 13 = .ok (.aload_n 1, 1) := by decide +kernel
theorem dX4_putName_14 : decode cX4_putName 14 = .ok (.getfield 59, 3) := by decide +kernel
theorem dX4_putName_17 : decode cX4_putName 17 = .ok (.iload_n 2, 1) := by decide +kernel
theorem dX4_putName_18 : decode cX4_putName 18 = .ok (.bipush 8, 2) := by decide +kernel
theorem dX4_putName_20 : decode cX4_putName 20 = .ok (.imul, 1) := by decide +kernel
theorem dX4_putName_21 : decode cX4_putName 21 = .ok (.iload_n 3, 1) := by decide +kernel
theorem dX4_putName_22 : decode cX4_putName 22 = .ok (.iadd, 1) := by decide +kernel
theorem dX4_putName_23 : decode cX4_putName 23 = .ok (.baload, 1) := by decide +kernel
theorem dX4_putName_24 : decode cX4_putName 24 = .ok (.invokevirtual 32, 3) := by decide +kernel
theorem dX4_putName_27 : decode cX4_putName 27 = .ok (.iinc 3 1, 3) := by decide +kernel
theorem dX4_putName_30 : decode cX4_putName 30 = .ok (.goto (-28), 3) := by decide +kernel
theorem dX4_putName_33 : decode cX4_putName 33 = .ok (.return_, 1) := by decide +kernel
theorem dX4_putNumber_0 : decode cX4_putNumber 0 = .ok (.iconst 0, 1) := by decide +kernel
theorem dX4_putNumber_1 : decode cX4_putNumber 1 = .ok (.istore_n 3, 1) := by decide +kernel
theorem dX4_putNumber_2 : decode cX4_putNumber 2 = .ok (.lload_n 1, 1) := by decide +kernel
theorem dX4_putNumber_3 : decode cX4_putNumber 3 = .ok (.lstore 4, 2) := by decide +kernel
theorem dX4_putNumber_5 : decode cX4_putNumber 5 = .ok (.aload_n 0, 1) := by decide +kernel
theorem dX4_putNumber_6 : decode cX4_putNumber 6 = .ok (.getfield 15, 3) := by decide +kernel
theorem dX4_putNumber_9 : decode cX4_putNumber 9 = .ok (.iload_n 3, 1) := by decide +kernel
theorem dX4_putNumber_10 : decode cX4_putNumber 10 = .ok (.ldc2_w 62, 3) := by decide +kernel
theorem dX4_putNumber_13 : decode cX4_putNumber 13 = .ok (.lload 4, 2) := by decide +kernel
theorem dX4_putNumber_15 : decode cX4_putNumber 15 = .ok (.ldc2_w 64, 3) := by decide +kernel
theorem dX4_putNumber_18 : decode cX4_putNumber 18 = .ok (.lrem, 1) := by decide +kernel
theorem dX4_putNumber_19 : decode cX4_putNumber 19 = .ok (.ladd, 1) := by decide +kernel
theorem dX4_putNumber_20 : decode cX4_putNumber 20 = .ok (.l2i, 1) := by decide +kernel
theorem dX4_putNumber_21 : decode cX4_putNumber 21 = .ok (.i2b, 1) := by decide +kernel
theorem dX4_putNumber_22 : decode cX4_putNumber 22 = .ok (.bastore, 1) := by decide +kernel
theorem dX4_putNumber_23 : decode cX4_putNumber 23 = .ok (.lload 4, 2) := by decide +kernel
theorem dX4_putNumber_25 : decode cX4_putNumber 25 = .ok (.ldc2_w 64, 3) := by decide +kernel
theorem dX4_putNumber_28 : decode cX4_putNumber 28 = .ok (.ldiv, 1) := by decide +kernel
theorem dX4_putNumber_29 : decode cX4_putNumber 29 = .ok (.lstore 4, 2) := by decide +kernel
theorem dX4_putNumber_31 : decode cX4_putNumber 31 = .ok (.iinc 3 1, 3) := by decide +kernel
theorem dX4_putNumber_34 : decode cX4_putNumber 34 = .ok (.lload 4, 2) := by decide +kernel
theorem dX4_putNumber_36 : decode cX4_putNumber 36 = .ok (.lconst 0, 1) := by decide +kernel
theorem dX4_putNumber_37 : decode cX4_putNumber 37 = .ok (.lcmp, 1) := by decide +kernel
theorem dX4_putNumber_38 : decode cX4_putNumber 38 = .ok (.ifCond .le 9, 3) := by decide +kernel
theorem dX4_putNumber_41 : decode cX4_putNumber 41 = .ok (.iload_n 3, 1) := by decide +kernel
theorem dX4_putNumber_42 : decode cX4_putNumber 42 = .ok (.bipush 19, 2) := by decide +kernel
theorem dX4_putNumber_44 : decode cX4_putNumber 44 = .ok (.if_icmp .lt (-39), 3) := by decide +kernel
theorem dX4_putNumber_47 : decode cX4_putNumber 47 = .ok (.iload_n 3, 1) := by decide +kernel
theorem dX4_putNumber_48 : decode cX4_putNumber 48 = .ok (.iconst 1, 1) := by decide +kernel
theorem dX4_putNumber_49 : decode cX4_putNumber 49 = .ok (.isub, 1) := by decide +kernel
theorem dX4_putNumber_50 : decode cX4_putNumber 50 = .ok (.istore 6, 2) := by decide +kernel
theorem dX4_putNumber_52 : decode cX4_putNumber 52 = .ok (.iload 6, 2) := by decide +kernel
theorem dX4_putNumber_54 : decode cX4_putNumber 54 = .ok (.ifCond .lt 20, 3) := by decide +kernel
theorem dX4_putNumber_57 : decode cX4_putNumber 57 = .ok (.aload_n 0, 1) := by decide +kernel
theorem dX4_putNumber_58 : decode cX4_putNumber 58 = .ok (.aload_n 0, 1) := by decide +kernel
theorem dX4_putNumber_59 : decode cX4_putNumber 59 = .ok (.getfield 15, 3) := by decide +kernel
theorem dX4_putNumber_62 : decode cX4_putNumber 62 = .ok (.iload 6, 2) := by decide +kernel
theorem dX4_putNumber_64 : decode cX4_putNumber 64 = .ok (.baload, 1) := by decide +kernel
theorem dX4_putNumber_65 : decode cX4_putNumber 65 = .ok (.invokevirtual 32, 3) := by decide +kernel
theorem dX4_putNumber_68 : decode cX4_putNumber 68 = .ok (.iinc 6 (-1), 3) := by decide +kernel
theorem dX4_putNumber_71 : decode cX4_putNumber 71 = .ok (.goto (-19), 3) := by decide +kernel
theorem dX4_putNumber_74 : decode cX4_putNumber 74 = .ok (.return_, 1) := by decide +kernel
theorem dX4_write_0 : decode cX4_write 0 = .ok (.aload_n 0, 1) := by decide +kernel
theorem dX4_write_1 : decode cX4_write 1 = .ok (.iconst 0, 1) := by decide +kernel
theorem dX4_write_2 : decode cX4_write 2 = .ok (.putfield 18, 3) := by decide +kernel
theorem dX4_write_5 : decode cX4_write 5 = .ok (.aload_n 0, 1) := by decide +kernel
theorem dX4_write_6 : decode cX4_write 6 = .ok (.aload_n 1, 1) := by decide +kernel
theorem dX4_write_7 : decode cX4_write 7 = .ok (.aload_n 2, 1) := by decide +kernel
theorem dX4_write_8 : decode cX4_write 8 = .ok (.getfield 22, 3) := by decide +kernel
theorem dX4_write_11 : decode cX4_write 11 = .ok (.iload_n 3, 1) := by decide +kernel
theorem dX4_write_12 : decode cX4_write 12 = .ok (.iaload, 1) := by decide +kernel
theorem dX4_write_13 : decode cX4_write 13 = .ok (.invokevirtual 28, 3) := by decide +kernel
theorem dX4_write_16 : decode cX4_write 16 = .ok (.aload_n 0, 1) := by decide +kernel
theorem dX4_write_17 : decode cX4_write 17 = .ok (.bipush 62, 2) := by decide +kernel
theorem dX4_write_19 : decode cX4_write 19 = .ok (.invokevirtual 32, 3) := by decide +kernel
theorem dX4_write_22 : decode cX4_write 22 = .ok (.aload_n 0, 1) := by decide +kernel
theorem dX4_write_23 : decode cX4_write 23 = .ok (.aload_n 1, 1) := by decide +kernel
theorem dX4_write_24 : decode cX4_write 24 = .ok (.aload_n 2, 1) := by decide +kernel
theorem dX4_write_25 : decode cX4_write 25 = .ok (.getfield 36, 3) := by decide +kernel
theorem dX4_write_28 : decode cX4_write 28 = .ok (.iload_n 3, 1) := by decide +kernel
theorem dX4_write_29 : decode cX4_write 29 = .ok (.iaload, 1) := by decide +kernel
theorem dX4_write_30 : decode cX4_write 30 = .ok (.invokevirtual 28, 3) := by decide +kernel
theorem dX4_write_33 : decode cX4_write 33 = .ok (.aload_n 0, 1) := by decide +kernel
theorem dX4_write_34 : decode cX4_write 34 = .ok (.bipush 32, 2) := by decide +kernel
theorem dX4_write_36 : decode cX4_write 36 = .ok (.invokevirtual 32, 3) := by decide +kernel
theorem dX4_write_39 : decode cX4_write 39 = .ok (.aload_n 0, 1) := by decide +kernel
theorem dX4_write_40 : decode cX4_write 40 = .ok (.aload_n 2, 1) := by decide +kernel
theorem dX4_write_41 : decode cX4_write 41 = .ok (.getfield 39, 3) := by decide +kernel
theorem dX4_write_44 : decode cX4_write 44 = .ok (.iload_n 3, 1) := by decide +kernel
theorem dX4_write_45 : decode cX4_write 45 = .ok (.laload, 1) := by decide +kernel
theorem dX4_write_46 : decode cX4_write 46 = .ok (.invokevirtual 43, 3) := by decide +kernel
theorem dX4_write_49 : decode cX4_write 49 = .ok (.aload_n 0, 1) := by decide +kernel
theorem dX4_write_50 : decode cX4_write 50 = .ok (.bipush 32, 2) := by decide +kernel
theorem dX4_write_52 : decode cX4_write 52 = .ok (.invokevirtual 32, 3) := by decide +kernel
theorem dX4_write_55 : decode cX4_write 55 = .ok (.aload_n 0, 1) := by decide +kernel
theorem dX4_write_56 : decode cX4_write 56 = .ok (.aload_n 1, 1) := by decide +kernel
theorem dX4_write_57 : decode cX4_write 57 = .ok (.bipush 8, 2) := by decide +kernel
theorem dX4_write_59 : decode cX4_write 59 = .ok (.aload_n 2, 1) := by decide +kernel
theorem dX4_write_60 : decode cX4_write 60 = .ok (.getfield 49, 3) := by decide +kernel
theorem dX4_write_63 : decode cX4_write 63 = .ok (.iload_n 3, 1) := by decide +kernel
theorem dX4_write_64 : decode cX4_write 64 = .ok (.iaload, 1) := by decide +kernel
theorem dX4_write_65 : decode cX4_write 65 = .ok (.iadd, 1) := by decide +kernel
theorem dX4_write_66 : decode cX4_write 66 = .ok (.invokevirtual 28, 3) := by decide +kernel
theorem dX4_write_69 : decode cX4_write 69 = .ok (.aload_n 2, 1) := by decide +kernel
theorem dX4_write_70 : decode cX4_write 70 = .ok (.getfield 52, 3) := by decide +kernel
theorem dX4_write_73 : decode cX4_write 73 = .ok (.iload_n 3, 1) := by decide +kernel
theorem dX4_write_74 : decode cX4_write 74 = .ok (.baload, 1) := by decide +kernel
theorem dX4_write_75 : decode cX4_write 75 = .ok (.ifCond .eq 15, 3) := by decide +kernel
theorem dX4_write_78 : decode cX4_write 78 = .ok (.aload_n 0, 1) := by decide +kernel
theorem dX4_write_79 : decode cX4_write 79 = .ok (.bipush 32, 2) := by decide +kernel
theorem dX4_write_81 : decode cX4_write 81 = .ok (.invokevirtual 32, 3) := by decide +kernel
theorem dX4_write_84 : decode cX4_write 84 = .ok (.aload_n 0, 1) := by decide +kernel
theorem dX4_write_85 : decode cX4_write 85 = .ok (.bipush 42, 2) := by decide +kernel
theorem dX4_write_87 : decode cX4_write 87 = .ok (.invokevirtual 32, 3) := by decide +kernel
theorem dX4_write_90 : decode cX4_write 90 = .ok (.return_, 1) := by decide +kernel
theorem dX5_forgetOldest_0 : decode cX5_forgetOldest 0 = .ok (.aload_n 0, 1) := by decide +kernel
theorem dX5_forgetOldest_1 : decode cX5_forgetOldest 1 = .ok (.getfield 11, 3) := by decide +kernel
theorem dX5_forgetOldest_4 : decode cX5_forgetOldest 4 = .ok (.iconst 0, 1) := by decide +kernel
theorem dX5_forgetOldest_5 : decode cX5_forgetOldest 5 = .ok (.aaload, 1) := by decide +kernel
theorem dX5_forgetOldest_6 : decode cX5_forgetOldest 6 = .ok (.astore_n 1, 1) := by decide +kernel
theorem dX5_forgetOldest_7 : decode cX5_forgetOldest 7 = .ok (.iconst 0, 1) := by decide +kernel
theorem dX5_forgetOldest_8 : decode cX5_forgetOldest 8 = .ok (.istore_n 2, 1) := by decide +kernel
theorem dX5_forgetOldest_9 : decode cX5_forgetOldest 9 = .ok (.iload_n 2, 1) := by decide +kernel
theorem dX5_forgetOldest_10 : decode cX5_forgetOldest 10 = .ok (.iconst 1, 1) := by decide +kernel
theorem dX5_forgetOldest_11 : decode cX5_forgetOldest 11 = .ok (.iadd, 1) := by decide +kernel
theorem dX5_forgetOldest_12 : decode cX5_forgetOldest 12 = .ok (.bipush 10, 2) := by decide +kernel
theorem dX5_forgetOldest_14 : decode cX5_forgetOldest 14 = .ok (.if_icmp .ge 23, 3) := by decide +kernel
theorem dX5_forgetOldest_17 : decode cX5_forgetOldest 17 = .ok (.aload_n 0, 1) := by decide +kernel
theorem dX5_forgetOldest_18 : decode cX5_forgetOldest 18 = .ok (.getfield 11, 3) := by decide +kernel
theorem dX5_forgetOldest_21 : decode cX5_forgetOldest 21 = .ok (.iload_n 2, 1) := by decide +kernel
theorem dX5_forgetOldest_22 : decode cX5_forgetOldest 22 = .ok (.aload_n 0, 1) := by decide +kernel
theorem dX5_forgetOldest_23 : decode cX5_forgetOldest 23 = .ok (.getfield 11, 3) := by decide +kernel
theorem dX5_forgetOldest_26 : decode cX5_forgetOldest 26 = .ok (.iload_n 2, 1) := by decide +kernel
theorem dX5_forgetOldest_27 : decode cX5_forgetOldest 27 = .ok (.iconst 1, 1) := by decide +kernel
theorem dX5_forgetOldest_28 : decode cX5_forgetOldest 28 = .ok (.iadd, 1) := by decide +kernel
theorem dX5_forgetOldest_29 : decode cX5_forgetOldest 29 = .ok (.aaload, 1) := by decide +kernel
theorem dX5_forgetOldest_30 : decode cX5_forgetOldest 30 = .ok (.aastore, 1) := by decide +kernel
theorem dX5_forgetOldest_31 : decode cX5_forgetOldest 31 = .ok (.iinc 2 1, 3) := by decide +kernel
theorem dX5_forgetOldest_34 : decode cX5_forgetOldest 34 = .ok (.goto (-25), 3) := by decide +kernel
theorem dX5_forgetOldest_37 : decode cX5_forgetOldest 37 = .ok (.aload_n 0, 1) := by decide +kernel
theorem dX5_forgetOldest_38 : decode cX5_forgetOldest 38 = .ok (.getfield 11, 3) := by decide +kernel
theorem dX5_forgetOldest_41 : decode cX5_forgetOldest 41 = .ok (.bipush 9, 2) := by decide +kernel
theorem dX5_forgetOldest_43 : decode cX5_forgetOldest 43 = .ok (.aload_n 1, 1) := by decide +kernel
theorem dX5_forgetOldest_44 : decode cX5_forgetOldest 44 = .ok (.aastore, 1) := by decide +kernel
theorem dX5_forgetOldest_45 : decode cX5_forgetOldest 45 = .ok (.aload_n 0, 1) := by decide +kernel
theorem dX5_forgetOldest_46 : decode cX5_forgetOldest 46 = .ok (.dup, 1) := by decide +kernel
theorem dX5_forgetOldest_47 : decode cX5_forgetOldest 47 = .ok (.getfield 18, 3) := by decide +kernel
theorem dX5_forgetOldest_50 : decode cX5_forgetOldest 50 = .ok (.iconst 1, 1) := by decide +kernel
theorem dX5_forgetOldest_51 : decode cX5_forgetOldest 51 = .ok (.isub, 1) := by decide +kernel
theorem dX5_forgetOldest_52 : decode cX5_forgetOldest 52 = .ok (.putfield 18, 3) := by decide +kernel
theorem dX5_forgetOldest_55 : decode cX5_forgetOldest 55 = .ok (.return_, 1) := by decide +kernel
theorem dX5_push_0 : decode cX5_push 0 = .ok (.aload_n 0, 1) := by decide +kernel
theorem dX5_push_1 : decode cX5_push 1 = .ok (.getfield 18, 3) := by decide +kernel
theorem dX5_push_4 : decode cX5_push 4 = .ok (.bipush 10, 2) := by decide +kernel
theorem dX5_push_6 : decode cX5_push 6 = .ok (.if_icmp .ne 7, 3) := by decide +kernel
theorem dX5_push_9 : decode cX5_push 9 = .ok (.aload_n 0, 1) := by decide +kernel
theorem dX5_push_10 : decode cX5_push 10 = .ok (.invokevirtual 22, 3) := by decide +kernel
theorem dX5_push_13 : decode cX5_push 13 = .ok (.aload_n 0, 1) := by decide +kernel
theorem dX5_push_14 : decode cX5_push 14 = .ok (.getfield 11, 3) := by decide +kernel
theorem dX5_push_17 : decode cX5_push 17 = .ok (.aload_n 0, 1) := by decide +kernel
theorem dX5_push_18 : decode cX5_push 18 = .ok (.getfield 18, 3) := by decide +kernel
theorem dX5_push_21 : decode cX5_push 21 = .ok (.aaload, 1) := by decide +kernel
theorem dX5_push_22 : decode cX5_push 22 = .ok (.aload_n 1, 1) := by decide +kernel
theorem dX5_push_23 : decode cX5_push 23 = .ok (.invokevirtual 25, 3) := by decide +kernel
theorem dX5_push_26 : decode cX5_push 26 = .ok (.aload_n 0, 1) := by decide +kernel
theorem dX5_push_27 : decode cX5_push 27 = .ok (.dup, 1) := by decide +kernel
theorem dX5_push_28 : decode cX5_push 28 = .ok (.getfield 18, 3) := by decide +kernel
theorem dX5_push_31 : decode cX5_push 31 = .ok (.iconst 1, 1) := by decide +kernel
theorem dX5_push_32 : decode cX5_push 32 = .ok (.iadd, 1) := by decide +kernel
theorem dX5_push_33 : decode cX5_push 33 = .ok (.putfield 18, 3) := by decide +kernel
theorem dX5_push_36 : decode cX5_push 36 = .ok (.return_, 1) := by decide +kernel
theorem dX5_takeBack_0 : decode cX5_takeBack 0 = .ok (.aload_n 0, 1) := by decide +kernel
theorem dX5_takeBack_1 : decode cX5_takeBack 1 = .ok (.getfield 18, 3) := by decide +kernel
theorem dX5_takeBack_4 : decode cX5_takeBack 4 = .ok (.ifCond .le 26, 3) := by decide +kernel
theorem dX5_takeBack_7 : decode cX5_takeBack 7 = .ok (.aload_n 0, 1) := by decide +kernel
theorem dX5_takeBack_8 : decode cX5_takeBack 8 = .ok (.dup, 1) := by decide +kernel
theorem dX5_takeBack_9 : decode cX5_takeBack 9 = .ok (.getfield 18, 3) := by decide +kernel
theorem dX5_takeBack_12 : decode cX5_takeBack 12 = .ok (.iconst 1, 1) := by decide +kernel
theorem dX5_takeBack_13 : decode cX5_takeBack 13 = .ok (.isub, 1) := by decide +kernel
theorem dX5_takeBack_14 : decode cX5_takeBack 14 = .ok (.putfield 18, 3) := by decide +kernel
theorem dX5_takeBack_17 : decode cX5_takeBack 17 = .ok (.aload_n 1, 1) := by decide +kernel
theorem dX5_takeBack_18 : decode cX5_takeBack 18 = .ok (.aload_n 0, 1) := by decide +kernel
theorem dX5_takeBack_19 : decode cX5_takeBack 19 = .ok (.getfield 11, 3) := by decide +kernel
theorem dX5_takeBack_22 : decode cX5_takeBack 22 = .ok (.aload_n 0, 1) := by decide +kernel
theorem dX5_takeBack_23 : decode cX5_takeBack 23 = .ok (.getfield 18, 3) := by decide +kernel
theorem dX5_takeBack_26 : decode cX5_takeBack 26 = .ok (.aaload, 1) := by decide +kernel
theorem dX5_takeBack_27 : decode cX5_takeBack 27 = .ok (.invokevirtual 25, 3) := by decide +kernel
theorem dX5_takeBack_30 : decode cX5_takeBack 30 = .ok (.return_, 1) := by decide +kernel
theorem dX7_after_0 : decode cX7_after 0 = .ok (.iload_n 1, 1) := by decide +kernel
theorem dX7_after_1 : decode cX7_after 1 = .ok (.iconst 1, 1) := by decide +kernel
theorem dX7_after_2 : decode cX7_after 2 = .ok (.iadd, 1) := by decide +kernel
theorem dX7_after_3 : decode cX7_after 3 = .ok (.aload_n 0, 1) := by decide +kernel
theorem dX7_after_4 : decode cX7_after 4 = .ok (.getfield 21, 3) := by decide +kernel
theorem dX7_after_7 : decode cX7_after 7 = .ok (.if_icmp .ge 9, 3) := by decide +kernel
theorem dX7_after_10 : decode cX7_after 10 = .ok (.iload_n 1, 1) := by decide +kernel
theorem dX7_after_11 : decode cX7_after 11 = .ok (.iconst 1, 1) := by decide +kernel
theorem dX7_after_12 : decode cX7_after 12 = .ok (.iadd, 1) := by decide +kernel
theorem dX7_after_13 : decode cX7_after 13 = .ok (.goto 4, 3) := by decide +kernel
theorem dX7_after_16 : decode cX7_after 16 = .ok (.iconst 0, 1) := by decide +kernel
theorem dX7_after_17 : decode cX7_after 17 = .ok (.ireturn, 1) := by decide +kernel
theorem dX7_find_0 : decode cX7_find 0 = .ok (.aload_n 0, 1) := by decide +kernel
theorem dX7_find_1 : decode cX7_find 1 = .ok (.iconst 0, 1) := by decide +kernel
theorem dX7_find_2 : decode cX7_find 2 = .ok (.putfield 21, 3) := by decide +kernel
theorem dX7_find_5 : decode cX7_find 5 = .ok (.iconst 0, 1) := by decide +kernel
theorem dX7_find_6 : decode cX7_find 6 = .ok (.istore_n 2, 1) := by decide +kernel
theorem dX7_find_7 : decode cX7_find 7 = .ok (.iload_n 2, 1) := by decide +kernel
theorem dX7_find_8 : decode cX7_find 8 = .ok (.aload_n 1, 1) := by decide +kernel
theorem dX7_find_9 : decode cX7_find 9 = .ok (.getfield 25, 3) := by decide +kernel
theorem dX7_find_12 : decode cX7_find 12 = .ok (.if_icmp .ge 53, 3) := by decide +kernel
theorem dX7_find_15 : decode cX7_find 15 = .ok (.aload_n 0, 1) := by decide +kernel
theorem dX7_find_16 : decode cX7_find 16 = .ok (.aload_n 1, 1) := by decide +kernel
theorem dX7_find_17 : decode cX7_find 17 = .ok (.iload_n 2, 1) := by decide +kernel
theorem dX7_find_18 : decode cX7_find 18 = .ok (.invokevirtual 30, 3) := by decide +kernel
theorem dX7_find_21 : decode cX7_find 21 = .ok (.aload_n 0, 1) := by decide +kernel
theorem dX7_find_22 : decode cX7_find 22 = .ok (.aload_n 1, 1) := by decide +kernel
theorem dX7_find_23 : decode cX7_find 23 = .ok (.iload_n 2, 1) := by decide +kernel
theorem dX7_find_24 : decode cX7_find 24 = .ok (.invokevirtual 34, 3) := by decide +kernel
theorem dX7_find_27 : decode cX7_find 27 = .ok (.istore_n 3, 1) := by decide +kernel
theorem dX7_find_28 : decode cX7_find 28 = .ok (.iload_n 3, 1) := by decide +kernel
theorem dX7_find_29 : decode cX7_find 29 = .ok (.iconst (-1), 1) := by decide +kernel
theorem dX7_find_30 : decode cX7_find 30 = .ok (.if_icmp .eq 29, 3) := by decide +kernel
theorem dX7_find_33 : decode cX7_find 33 = .ok (.aload_n 0, 1) := by decide +kernel
theorem dX7_find_34 : decode cX7_find 34 = .ok (.getfield 21, 3) := by decide +kernel
theorem dX7_find_37 : decode cX7_find 37 = .ok (.ifCond .eq 11, 3) := by decide +kernel
theorem dX7_find_40 : decode cX7_find 40 = .ok (.iload_n 3, 1) := by decide +kernel
theorem dX7_find_41 : decode cX7_find 41 = .ok (.aload_n 0, 1) := by decide +kernel
theorem dX7_find_42 : decode cX7_find 42 = .ok (.getfield 21, 3) := by decide +kernel
theorem dX7_find_45 : decode cX7_find 45 = .ok (.if_icmp .ge 14, 3) := by decide +kernel
theorem dX7_find_48 : decode cX7_find 48 = .ok (.aload_n 0, 1) := by decide +kernel
theorem dX7_find_49 : decode cX7_find 49 = .ok (.iload_n 3, 1) := by decide +kernel
theorem dX7_find_50 : decode cX7_find 50 = .ok (.putfield 21, 3) := by decide +kernel
theorem dX7_find_53 : decode cX7_find 53 = .ok (.aload_n 0, 1) := by decide +kernel
theorem dX7_find_54 : decode cX7_find 54 = .ok (.aload_n 1, 1) := by decide +kernel
theorem dX7_find_55 : decode cX7_find 55 = .ok (.iload_n 2, 1) := by decide +kernel
theorem dX7_find_56 : decode cX7_find 56 = .ok (.invokevirtual 38, 3) := by decide +kernel
theorem dX7_find_59 : decode cX7_find 59 = .ok (.iinc 2 1, 3) := by decide +kernel
theorem dX7_find_62 : decode cX7_find 62 = .ok (.goto (-55), 3) := by decide +kernel
theorem dX7_find_65 : decode cX7_find 65 = .ok (.return_, 1) := by decide +kernel
theorem dX7_leastFlow_0 : decode cX7_leastFlow 0 = .ok (.aload_n 1, 1) := by decide +kernel
theorem dX7_leastFlow_1 : decode cX7_leastFlow 1 = .ok (.getfield 41, 3) := by decide +kernel
theorem dX7_leastFlow_4 : decode cX7_leastFlow 4 = .ok (.aload_n 0, 1) := by decide +kernel
theorem dX7_leastFlow_5 : decode cX7_leastFlow 5 = .ok (.getfield 9, 3) := by decide +kernel
theorem dX7_leastFlow_8 : decode cX7_leastFlow 8 = .ok (.iconst 0, 1) := by decide +kernel
theorem dX7_leastFlow_9 : decode cX7_leastFlow 9 = .ok (.iaload, 1) := by decide +kernel
theorem dX7_leastFlow_10 : decode cX7_leastFlow 10 = .ok (.aload_n 0, 1) := by decide +kernel
theorem dX7_leastFlow_11 : decode cX7_leastFlow 11 = .ok (.getfield 9, 3) := by decide +kernel
theorem dX7_leastFlow_14 : decode cX7_leastFlow 14 = .ok (.aload_n 0, 1) := by decide +kernel
theorem dX7_leastFlow_15 : decode cX7_leastFlow 15 = .ok (.iconst 0, 1) := by decide +kernel
theorem dX7_leastFlow_16 : decode cX7_leastFlow 16 = .ok (.invokevirtual 45, 3) := by decide +kernel
theorem dX7_leastFlow_19 : decode cX7_leastFlow 19 = .ok (.iaload, 1) := by decide +kernel
theorem dX7_leastFlow_20 : decode cX7_leastFlow 20 = .ok (.invokestatic 49, 3) := by decide +kernel
theorem dX7_leastFlow_23 : decode cX7_leastFlow 23 = .ok (.laload, 1) := by decide +kernel
theorem dX7_leastFlow_24 : decode cX7_leastFlow 24 = .ok (.lstore_n 2, 1) := by decide +kernel
theorem dX7_leastFlow_25 : decode cX7_leastFlow 25 = .ok (.iconst 1, 1) := by decide +kernel
theorem dX7_leastFlow_26 : decode cX7_leastFlow 26 = .ok (.istore 4, 2) := by decide +kernel
theorem dX7_leastFlow_28 : decode cX7_leastFlow 28 = .ok (.iload 4, 2) := by decide +kernel
theorem dX7_leastFlow_30 : decode cX7_leastFlow 30 = .ok (.aload_n 0, 1) := by decide +kernel
theorem dX7_leastFlow_31 : decode cX7_leastFlow 31 = .ok (.getfield 21, 3) := by decide +kernel
theorem dX7_leastFlow_34 : decode cX7_leastFlow 34 = .ok (.if_icmp .ge 40, 3) := by decide +kernel
theorem dX7_leastFlow_37 : decode cX7_leastFlow 37 = .ok (.lload_n 2, 1) := by decide +kernel
theorem dX7_leastFlow_38 : decode cX7_leastFlow 38 = .ok (.aload_n 1, 1) := by decide +kernel
theorem dX7_leastFlow_39 : decode cX7_leastFlow 39 = .ok (.getfield 41, 3) := by decide +kernel
theorem dX7_leastFlow_42 : decode cX7_leastFlow 42 = .ok (.aload_n 0, 1) := by decide +kernel
theorem dX7_leastFlow_43 : decode cX7_leastFlow 43 = .ok (.getfield 9, 3) := by decide +kernel
theorem dX7_leastFlow_46 : decode cX7_leastFlow 46 = .ok (.iload 4, 2) := by decide +kernel
theorem dX7_leastFlow_48 : decode cX7_leastFlow 48 = .ok (.iaload, 1) := by decide +kernel
theorem dX7_leastFlow_49 : decode cX7_leastFlow 49 = .ok (.aload_n 0, 1) := by decide +kernel
theorem dX7_leastFlow_50 : decode cX7_leastFlow 50 = .ok (.getfield 9, 3) := by decide +kernel
theorem dX7_leastFlow_53 : decode cX7_leastFlow 53 = .ok (.aload_n 0, 1) := by decide +kernel
theorem dX7_leastFlow_54 : decode cX7_leastFlow 54 = .ok (.iload 4, 2) := by decide +kernel
theorem dX7_leastFlow_56 : decode cX7_leastFlow 56 = .ok (.invokevirtual 45, 3) := by decide +kernel
theorem dX7_leastFlow_59 : decode cX7_leastFlow 59 = .ok (.iaload, 1) := by decide +kernel
theorem dX7_leastFlow_60 : decode cX7_leastFlow 60 = .ok (.invokestatic 49, 3) := by decide +kernel
theorem dX7_leastFlow_63 : decode cX7_leastFlow 63 = .ok (.laload, 1) := by decide +kernel
theorem dX7_leastFlow_64 : decode cX7_leastFlow 64 = .ok (.invokestatic 53, 3) := by decide +kernel
theorem dX7_leastFlow_67 : decode cX7_leastFlow 67 = .ok (.lstore_n 2, 1) := by decide +kernel
theorem dX7_leastFlow_68 : decode cX7_leastFlow 68 = .ok (.iinc 4 1, 3) := by decide +kernel
theorem dX7_leastFlow_71 : decode cX7_leastFlow 71 = .ok (.goto (-43), 3) := by decide +kernel
theorem dX7_leastFlow_74 : decode cX7_leastFlow 74 = .ok (.lload_n 2, 1) := by decide +kernel
theorem dX7_leastFlow_75 : decode cX7_leastFlow 75 = .ok (.lreturn, 1) := by decide +kernel
theorem dX7_lengthFrom_0 : decode cX7_lengthFrom 0 = .ok (.iconst (-1), 1) := by decide +kernel
theorem dX7_lengthFrom_1 : decode cX7_lengthFrom 1 = .ok (.istore_n 3, 1) := by decide +kernel
theorem dX7_lengthFrom_2 : decode cX7_lengthFrom 2 = .ok (.iload_n 2, 1) := by decide +kernel
theorem dX7_lengthFrom_3 : decode cX7_lengthFrom 3 = .ok (.iconst 1, 1) := by decide +kernel
theorem dX7_lengthFrom_4 : decode cX7_lengthFrom 4 = .ok (.iadd, 1) := by decide +kernel
theorem dX7_lengthFrom_5 : decode cX7_lengthFrom 5 = .ok (.istore 4, 2) := by decide +kernel
theorem dX7_lengthFrom_7 : decode cX7_lengthFrom 7 = .ok (.iload 4, 2) := by decide +kernel
theorem dX7_lengthFrom_9 : decode cX7_lengthFrom 9 = .ok (.aload_n 1, 1) := by decide +kernel
theorem dX7_lengthFrom_10 : decode cX7_lengthFrom 10 = .ok (.getfield 25, 3) := by decide +kernel
theorem dX7_lengthFrom_13 : decode cX7_lengthFrom 13 = .ok (.if_icmp .ge 58, 3) := by decide +kernel
theorem dX7_lengthFrom_16 : decode cX7_lengthFrom 16 = .ok (.aload_n 0, 1) := by decide +kernel
theorem dX7_lengthFrom_17 : decode cX7_lengthFrom 17 = .ok (.getfield 15, 3) := by decide +kernel
theorem dX7_lengthFrom_20 : decode cX7_lengthFrom 20 = .ok (.iload 4, 2) := by decide +kernel
theorem dX7_lengthFrom_22 : decode cX7_lengthFrom 22 = .ok (.iaload, 1) := by decide +kernel
theorem dX7_lengthFrom_23 : decode cX7_lengthFrom 23 = .ok (.iconst (-1), 1) := by decide +kernel
theorem dX7_lengthFrom_24 : decode cX7_lengthFrom 24 = .ok (.if_icmp .eq 41, 3) := by decide +kernel
theorem dX7_lengthFrom_27 : decode cX7_lengthFrom 27 = .ok (.aload_n 1, 1) := by decide +kernel
theorem dX7_lengthFrom_28 : decode cX7_lengthFrom 28 = .ok (.iload_n 2, 1) := by decide +kernel
theorem dX7_lengthFrom_29 : decode cX7_lengthFrom 29 = .ok (.iload 4, 2) := by decide +kernel
theorem dX7_lengthFrom_31 : decode cX7_lengthFrom 31 = .ok (.invokevirtual 80, 3) := by decide +kernel
theorem dX7_lengthFrom_34 : decode cX7_lengthFrom 34 = .ok (.ifCond .eq 31, 3) := by decide +kernel
theorem dX7_lengthFrom_37 : decode cX7_lengthFrom 37 = .ok (.iload_n 3, 1) := by decide +kernel
theorem dX7_lengthFrom_38 : decode cX7_lengthFrom 38 = .ok (.iconst (-1), 1) := by decide +kernel
theorem dX7_lengthFrom_39 : decode cX7_lengthFrom 39 = .ok (.if_icmp .eq 16, 3) := by decide +kernel
theorem dX7_lengthFrom_42 : decode cX7_lengthFrom 42 = .ok (.aload_n 0, 1) := by decide +kernel
theorem dX7_lengthFrom_43 : decode cX7_lengthFrom 43 = .ok (.getfield 15, 3) := by decide +kernel
theorem dX7_lengthFrom_46 : decode cX7_lengthFrom 46 = .ok (.iload 4, 2) := by decide +kernel
theorem dX7_lengthFrom_48 : decode cX7_lengthFrom 48 = .ok (.iaload, 1) := by decide +kernel
theorem dX7_lengthFrom_49 : decode cX7_lengthFrom 49 = .ok (.iconst 1, 1) := by decide +kernel
theorem dX7_lengthFrom_50 : decode cX7_lengthFrom 50 = .ok (.iadd, 1) := by decide +kernel
theorem dX7_lengthFrom_51 : decode cX7_lengthFrom 51 = .ok (.iload_n 3, 1) := by decide +kernel
theorem dX7_lengthFrom_52 : decode cX7_lengthFrom 52 = .ok (.if_icmp .ge 13, 3) := by decide +kernel
theorem dX7_lengthFrom_55 : decode cX7_lengthFrom 55 = .ok (.aload_n 0, 1) := by decide +kernel
theorem dX7_lengthFrom_56 : decode cX7_lengthFrom 56 = .ok (.getfield 15, 3) := by decide +kernel
theorem dX7_lengthFrom_59 : decode cX7_lengthFrom 59 = .ok (.iload 4, 2) := by decide +kernel
theorem dX7_lengthFrom_61 : decode cX7_lengthFrom 61 = .ok (.iaload, 1) := by decide +kernel
theorem dX7_lengthFrom_62 : decode cX7_lengthFrom 62 = .ok (.iconst 1, 1) := by decide +kernel
theorem dX7_lengthFrom_63 : decode cX7_lengthFrom 63 = .ok (.iadd, 1) := by decide +kernel
theorem dX7_lengthFrom_64 : decode cX7_lengthFrom 64 = .ok (.istore_n 3, 1) := by decide +kernel
theorem dX7_lengthFrom_65 : decode cX7_lengthFrom 65 = .ok (.iinc 4 1, 3) := by decide +kernel
theorem dX7_lengthFrom_68 : decode cX7_lengthFrom 68 = .ok (.goto (-61), 3) := by decide +kernel
theorem dX7_lengthFrom_71 : decode cX7_lengthFrom 71 = .ok (.iload_n 3, 1) := by decide +kernel
theorem dX7_lengthFrom_72 : decode cX7_lengthFrom 72 = .ok (.ireturn, 1) := by decide +kernel
theorem dX7_measureSteps_0 : decode cX7_measureSteps 0 = .ok (.aload_n 0, 1) := by decide +kernel
theorem dX7_measureSteps_1 : decode cX7_measureSteps 1 = .ok (.getfield 15, 3) := by decide +kernel
theorem dX7_measureSteps_4 : decode cX7_measureSteps 4 = .ok (.iconst (-1), 1) := by decide +kernel
theorem dX7_measureSteps_5 : decode cX7_measureSteps 5 = .ok (.invokestatic 74, 3) := by decide +kernel
theorem dX7_measureSteps_8 : decode cX7_measureSteps 8 = .ok (.aload_n 0, 1) := by decide +kernel
theorem dX7_measureSteps_9 : decode cX7_measureSteps 9 = .ok (.getfield 15, 3) := by decide +kernel
theorem dX7_measureSteps_12 : decode cX7_measureSteps 12 = .ok (.iload_n 2, 1) := by decide +kernel
theorem dX7_measureSteps_13 : decode cX7_measureSteps 13 = .ok (.iconst 0, 1) := by decide +kernel
theorem dX7_measureSteps_14 : decode cX7_measureSteps 14 = .ok (.iastore, 1) := by decide +kernel
theorem dX7_measureSteps_15 : decode cX7_measureSteps 15 = .ok (.aload_n 0, 1) := by decide +kernel
theorem dX7_measureSteps_16 : decode cX7_measureSteps 16 = .ok (.getfield 18, 3) := by decide +kernel
theorem dX7_measureSteps_19 : decode cX7_measureSteps 19 = .ok (.iconst 0, 1) := by decide +kernel
theorem dX7_measureSteps_20 : decode cX7_measureSteps 20 = .ok (.iload_n 2, 1) := by decide +kernel
theorem dX7_measureSteps_21 : decode cX7_measureSteps 21 = .ok (.iastore, 1) := by decide +kernel
theorem dX7_measureSteps_22 : decode cX7_measureSteps 22 = .ok (.iconst 1, 1) := by decide +kernel
theorem dX7_measureSteps_23 : decode cX7_measureSteps 23 = .ok (.istore_n 3, 1) := by decide +kernel
theorem dX7_measureSteps_24 : decode cX7_measureSteps 24 = .ok (.iconst 0, 1) := by decide +kernel
theorem dX7_measureSteps_25 : decode cX7_measureSteps 25 = .ok (.istore 4, 2) := by decide +kernel
theorem dX7_measureSteps_27 : decode cX7_measureSteps 27 = .ok (.iload 4, 2) := by decide +kernel
theorem dX7_measureSteps_29 : decode cX7_measureSteps 29 = .ok (.iload_n 3, 1) := by decide +kernel
theorem dX7_measureSteps_30 : decode cX7_measureSteps 30 = .ok (.if_icmp .ge 100, 3) := by decide +kernel
theorem dX7_measureSteps_33 : decode cX7_measureSteps 33 = .ok (.iload 4, 2) := by decide +kernel
theorem dX7_measureSteps_35 : decode cX7_measureSteps 35 = .ok (.bipush 8, 2) := by decide +kernel
theorem dX7_measureSteps_37 : decode cX7_measureSteps 37 = .ok (.if_icmp .ge 93, 3) := by decide +kernel
theorem dX7_measureSteps_40 : decode cX7_measureSteps 40 = .ok (.aload_n 0, 1) := by decide +kernel
theorem dX7_measureSteps_41 : decode cX7_measureSteps 41 = .ok (.getfield 18, 3) := by decide +kernel
theorem dX7_measureSteps_44 : decode cX7_measureSteps 44 = .ok (.iload 4, 2) := by decide +kernel
theorem dX7_measureSteps_46 : decode cX7_measureSteps 46 = .ok (.iaload, 1) := by decide +kernel
theorem dX7_measureSteps_47 : decode cX7_measureSteps 47 = .ok (.istore 5, 2) := by decide +kernel
theorem dX7_measureSteps_49 : decode cX7_measureSteps 49 = .ok (.iload_n 2, 1) := by decide +kernel
theorem dX7_measureSteps_50 : decode cX7_measureSteps 50 = .ok (.iconst 1, 1) := by decide +kernel
theorem dX7_measureSteps_51 : decode cX7_measureSteps 51 = .ok (.iadd, 1) := by decide +kernel
theorem dX7_measureSteps_52 : decode cX7_measureSteps 52 = .ok (.istore 6, 2) := by decide +kernel
theorem dX7_measureSteps_54 : decode cX7_measureSteps 54 = .ok (.iload 6, 2) := by decide +kernel
theorem dX7_measureSteps_56 : decode cX7_measureSteps 56 = .ok (.aload_n 1, 1) := by decide +kernel
theorem dX7_measureSteps_57 : decode cX7_measureSteps 57 = .ok (.getfield 25, 3) := by decide +kernel
theorem dX7_measureSteps_60 : decode cX7_measureSteps 60 = .ok (.if_icmp .ge 64, 3) := by decide +kernel
theorem dX7_measureSteps_63 : decode cX7_measureSteps 63 = .ok (.iload_n 3, 1) := by decide +kernel
theorem dX7_measureSteps_64 : decode cX7_measureSteps 64 = .ok (.bipush 8, 2) := by decide +kernel
theorem dX7_measureSteps_66 : decode cX7_measureSteps 66 = .ok (.if_icmp .ge 52, 3) := by decide +kernel
theorem dX7_measureSteps_69 : decode cX7_measureSteps 69 = .ok (.aload_n 0, 1) := by decide +kernel
theorem dX7_measureSteps_70 : decode cX7_measureSteps 70 = .ok (.getfield 15, 3) := by decide +kernel
theorem dX7_measureSteps_73 : decode cX7_measureSteps 73 = .ok (.iload 6, 2) := by decide +kernel
theorem dX7_measureSteps_75 : decode cX7_measureSteps 75 = .ok (.iaload, 1) := by decide +kernel
theorem dX7_measureSteps_76 : decode cX7_measureSteps 76 = .ok (.iconst (-1), 1) := by decide +kernel
theorem dX7_measureSteps_77 : decode cX7_measureSteps 77 = .ok (.if_icmp .ne 41, 3) := by decide +kernel
theorem dX7_measureSteps_80 : decode cX7_measureSteps 80 = .ok (.aload_n 1, 1) := by decide +kernel
theorem dX7_measureSteps_81 : decode cX7_measureSteps 81 = .ok (.iload 6, 2) := by decide +kernel
theorem dX7_measureSteps_83 : decode cX7_measureSteps 83 = .ok (.iload 5, 2) := by decide +kernel
theorem dX7_measureSteps_85 : decode cX7_measureSteps 85 = .ok (.invokevirtual 80, 3) := by decide +kernel
theorem dX7_measureSteps_88 : decode cX7_measureSteps 88 = .ok (.ifCond .eq 30, 3) := by decide +kernel
theorem dX7_measureSteps_91 : decode cX7_measureSteps 91 = .ok (.aload_n 0, 1) := by decide +kernel
theorem dX7_measureSteps_92 : decode cX7_measureSteps 92 = .ok (.getfield 15, 3) := by decide +kernel
theorem dX7_measureSteps_95 : decode cX7_measureSteps 95 = .ok (.iload 6, 2) := by decide +kernel
theorem dX7_measureSteps_97 : decode cX7_measureSteps 97 = .ok (.aload_n 0, 1) := by decide +kernel
theorem dX7_measureSteps_98 : decode cX7_measureSteps 98 = .ok (.getfield 15, 3) := by decide +kernel
theorem dX7_measureSteps_101 : decode cX7_measureSteps 101 = .ok (.iload 5, 2) := by decide +kernel
theorem dX7_measureSteps_103 : decode cX7_measureSteps 103 = .ok (.iaload, 1) := by decide +kernel
theorem dX7_measureSteps_104 : decode cX7_measureSteps 104 = .ok (.iconst 1, 1) := by decide +kernel
theorem dX7_measureSteps_105 : decode cX7_measureSteps 105 = .ok (.iadd, 1) := by decide +kernel
theorem dX7_measureSteps_106 : decode cX7_measureSteps 106 = .ok (.iastore, 1) := by decide +kernel
theorem dX7_measureSteps_107 : decode cX7_measureSteps 107 = .ok (.aload_n 0, 1) := by decide +kernel
theorem dX7_measureSteps_108 : decode cX7_measureSteps 108 = .ok (.getfield 18, 3) := by decide +kernel
theorem dX7_measureSteps_111 : decode cX7_measureSteps 111 = .ok (.iload_n 3, 1) := by decide +kernel
theorem dX7_measureSteps_112 : decode cX7_measureSteps 112 = .ok (.iload 6, 2) := by decide +kernel
theorem dX7_measureSteps_114 : decode cX7_measureSteps 114 = .ok (.iastore, 1) := by decide +kernel
theorem dX7_measureSteps_115 : decode cX7_measureSteps 115 = .ok (.iinc 3 1, 3) := by decide +kernel
theorem dX7_measureSteps_118 : decode cX7_measureSteps 118 = .ok (.iinc 6 1, 3) := by decide +kernel
theorem dX7_measureSteps_121 : decode cX7_measureSteps 121 = .ok (.goto (-67), 3) := by decide +kernel
theorem dX7_measureSteps_124 : decode cX7_measureSteps 124 = .ok (.iinc 4 1, 3) := by decide +kernel
theorem dX7_measureSteps_127 : decode cX7_measureSteps 127 = .ok (.goto (-100), 3) := by decide +kernel
theorem dX7_measureSteps_130 : decode cX7_measureSteps 130 = .ok (.return_, 1) := by decide +kernel
theorem dX7_nextOf_0 : decode cX7_nextOf 0 = .ok (.iload_n 3, 1) := by decide +kernel
theorem dX7_nextOf_1 : decode cX7_nextOf 1 = .ok (.iconst 1, 1) := by decide +kernel
theorem dX7_nextOf_2 : decode cX7_nextOf 2 = .ok (.iadd, 1) := by decide +kernel
theorem dX7_nextOf_3 : decode cX7_nextOf 3 = .ok (.istore 5, 2) := by decide +kernel
theorem dX7_nextOf_5 : decode cX7_nextOf 5 = .ok (.iload 5, 2) := by decide +kernel
theorem dX7_nextOf_7 : decode cX7_nextOf 7 = .ok (.aload_n 1, 1) := by decide +kernel
theorem dX7_nextOf_8 : decode cX7_nextOf 8 = .ok (.getfield 25, 3) := by decide +kernel
theorem dX7_nextOf_11 : decode cX7_nextOf 11 = .ok (.if_icmp .ge 34, 3) := by decide +kernel
theorem dX7_nextOf_14 : decode cX7_nextOf 14 = .ok (.aload_n 0, 1) := by decide +kernel
theorem dX7_nextOf_15 : decode cX7_nextOf 15 = .ok (.getfield 15, 3) := by decide +kernel
theorem dX7_nextOf_18 : decode cX7_nextOf 18 = .ok (.iload 5, 2) := by decide +kernel
theorem dX7_nextOf_20 : decode cX7_nextOf 20 = .ok (.iaload, 1) := by decide +kernel
theorem dX7_nextOf_21 : decode cX7_nextOf 21 = .ok (.iload 4, 2) := by decide +kernel
theorem dX7_nextOf_23 : decode cX7_nextOf 23 = .ok (.if_icmp .ne 16, 3) := by decide +kernel
theorem dX7_nextOf_26 : decode cX7_nextOf 26 = .ok (.aload_n 1, 1) := by decide +kernel
theorem dX7_nextOf_27 : decode cX7_nextOf 27 = .ok (.iload_n 2, 1) := by decide +kernel
theorem dX7_nextOf_28 : decode cX7_nextOf 28 = .ok (.iload 5, 2) := by decide +kernel
theorem dX7_nextOf_30 : decode cX7_nextOf 30 = .ok (.invokevirtual 80, 3) := by decide +kernel
theorem dX7_nextOf_33 : decode cX7_nextOf 33 = .ok (.ifCond .eq 6, 3) := by decide +kernel
theorem dX7_nextOf_36 : decode cX7_nextOf 36 = .ok (.iload 5, 2) := by decide +kernel
theorem dX7_nextOf_38 : decode cX7_nextOf 38 = .ok (.ireturn, 1) := by decide +kernel
theorem dX7_nextOf_39 : decode cX7_nextOf 39 = .ok (.iinc 5 1, 3) := by decide +kernel
theorem dX7_nextOf_42 : decode cX7_nextOf 42 = .ok (.goto (-37), 3) := by decide +kernel
theorem dX7_nextOf_45 : decode cX7_nextOf 45 = .ok (.iload_n 3, 1) := by decide +kernel
theorem dX7_nextOf_46 : decode cX7_nextOf 46 = .ok (.ireturn, 1) := by decide +kernel
theorem dX7_takeOut_0 : decode cX7_takeOut 0 = .ok (.aload_n 0, 1) := by decide +kernel
theorem dX7_takeOut_1 : decode cX7_takeOut 1 = .ok (.lconst 0, 1) := by decide +kernel
theorem dX7_takeOut_2 : decode cX7_takeOut 2 = .ok (.putfield 59, 3) := by decide +kernel
theorem dX7_takeOut_5 : decode cX7_takeOut 5 = .ok (.aload_n 0, 1) := by decide +kernel
theorem dX7_takeOut_6 : decode cX7_takeOut 6 = .ok (.iconst 0, 1) := by decide +kernel
theorem dX7_takeOut_7 : decode cX7_takeOut 7 = .ok (.putfield 63, 3) := by decide +kernel
theorem dX7_takeOut_10 : decode cX7_takeOut 10 = .ok (.iconst 0, 1) := by decide +kernel
theorem dX7_takeOut_11 : decode cX7_takeOut 11 = .ok (.istore_n 3, 1) := by decide +kernel
theorem dX7_takeOut_12 : decode cX7_takeOut 12 = .ok (.iload_n 3, 1) := by decide +kernel
theorem dX7_takeOut_13 : decode cX7_takeOut 13 = .ok (.iload_n 2, 1) := by decide +kernel
theorem dX7_takeOut_14 : decode cX7_takeOut 14 = .ok (.if_icmp .ge 105, 3) := by decide +kernel
theorem dX7_takeOut_17 : decode cX7_takeOut 17 = .ok (.aload_n 0, 1) := by decide +kernel
theorem dX7_takeOut_18 : decode cX7_takeOut 18 = .ok (.aload_n 1, 1) := by decide +kernel
theorem dX7_takeOut_19 : decode cX7_takeOut 19 = .ok (.invokevirtual 66, 3) := by decide +kernel
theorem dX7_takeOut_22 : decode cX7_takeOut 22 = .ok (.aload_n 0, 1) := by decide +kernel
theorem dX7_takeOut_23 : decode cX7_takeOut 23 = .ok (.getfield 21, 3) := by decide +kernel
theorem dX7_takeOut_26 : decode cX7_takeOut 26 = .ok (.ifCond .ne 4, 3) := by decide +kernel
theorem dX7_takeOut_29 : decode cX7_takeOut 29 = .ok (.return_, 1) := by decide +kernel
theorem dX7_takeOut_30 : decode cX7_takeOut 30 = .ok (.aload_n 0, 1) := by decide +kernel
theorem dX7_takeOut_31 : decode cX7_takeOut 31 = .ok (.aload_n 1, 1) := by decide +kernel
theorem dX7_takeOut_32 : decode cX7_takeOut 32 = .ok (.invokevirtual 70, 3) := by decide +kernel
theorem dX7_takeOut_35 : decode cX7_takeOut 35 = .ok (.lstore 4, 2) := by decide +kernel
theorem dX7_takeOut_37 : decode cX7_takeOut 37 = .ok (.iconst 0, 1) := by decide +kernel
theorem dX7_takeOut_38 : decode cX7_takeOut 38 = .ok (.istore 6, 2) := by decide +kernel
theorem dX7_takeOut_40 : decode cX7_takeOut 40 = .ok (.iload 6, 2) := by decide +kernel
theorem dX7_takeOut_42 : decode cX7_takeOut 42 = .ok (.aload_n 0, 1) := by decide +kernel
theorem dX7_takeOut_43 : decode cX7_takeOut 43 = .ok (.getfield 21, 3) := by decide +kernel
theorem dX7_takeOut_46 : decode cX7_takeOut 46 = .ok (.if_icmp .ge 40, 3) := by decide +kernel
theorem dX7_takeOut_49 : decode cX7_takeOut 49 = .ok (.aload_n 1, 1) := by decide +kernel
theorem dX7_takeOut_50 : decode cX7_takeOut 50 = .ok (.getfield 41, 3) := by decide +kernel
theorem dX7_takeOut_53 : decode cX7_takeOut 53 = .ok (.aload_n 0, 1) := by decide +kernel
theorem dX7_takeOut_54 : decode cX7_takeOut 54 = .ok (.getfield 9, 3) := by decide +kernel
theorem dX7_takeOut_57 : decode cX7_takeOut 57 = .ok (.iload 6, 2) := by decide +kernel
theorem dX7_takeOut_59 : decode cX7_takeOut 59 = .ok (.iaload, 1) := by decide +kernel
theorem dX7_takeOut_60 : decode cX7_takeOut 60 = .ok (.aload_n 0, 1) := by decide +kernel
theorem dX7_takeOut_61 : decode cX7_takeOut 61 = .ok (.getfield 9, 3) := by decide +kernel
theorem dX7_takeOut_64 : decode cX7_takeOut 64 = .ok (.aload_n 0, 1) := by decide +kernel
theorem dX7_takeOut_65 : decode cX7_takeOut 65 = .ok (.iload 6, 2) := by decide +kernel
theorem dX7_takeOut_67 : decode cX7_takeOut 67 = .ok (.invokevirtual 45, 3) := by decide +kernel
theorem dX7_takeOut_70 : decode cX7_takeOut 70 = .ok (.iaload, 1) := by decide +kernel
theorem dX7_takeOut_71 : decode cX7_takeOut 71 = .ok (.invokestatic 49, 3) := by decide +kernel
theorem dX7_takeOut_74 : decode cX7_takeOut 74 = .ok (.dup2, 1) := by decide +kernel
theorem dX7_takeOut_75 : decode cX7_takeOut 75 = .ok (.laload, 1) := by decide +kernel
theorem dX7_takeOut_76 : decode cX7_takeOut 76 = .ok (.lload 4, 2) := by decide +kernel
theorem dX7_takeOut_78 : decode cX7_takeOut 78 = .ok (.lsub, 1) := by decide +kernel
theorem dX7_takeOut_79 : decode cX7_takeOut 79 = .ok (.lastore, 1) := by decide +kernel
theorem dX7_takeOut_80 : decode cX7_takeOut 80 = .ok (.iinc 6 1, 3) := by decide +kernel
theorem dX7_takeOut_83 : decode cX7_takeOut 83 = .ok (.goto (-43), 3) := by decide +kernel
theorem dX7_takeOut_86 : decode cX7_takeOut 86 = .ok (.aload_n 0, 1) := by decide +kernel
theorem dX7_takeOut_87 : decode cX7_takeOut 87 = .ok (.dup, 1) := by decide +kernel
theorem dX7_takeOut_88 : decode cX7_takeOut 88 = .ok (.getfield 59, 3) := by decide +kernel
theorem dX7_takeOut_91 : decode cX7_takeOut 91 = .ok (.lload 4, 2) := by decide +kernel
theorem dX7_takeOut_93 : decode cX7_takeOut 93 = .ok (.aload_n 0, 1) := by decide +kernel
theorem dX7_takeOut_94 : decode cX7_takeOut 94 = .ok (.getfield 21, 3) := by decide +kernel
theorem dX7_takeOut_97 : decode cX7_takeOut 97 = .ok (.i2l, 1) := by decide +kernel
theorem dX7_takeOut_98 : decode cX7_takeOut 98 = .ok (.lmul, 1) := by decide +kernel
theorem dX7_takeOut_99 : decode cX7_takeOut 99 = .ok (.ladd, 1) := by decide +kernel
theorem dX7_takeOut_100 : decode cX7_takeOut 100 = .ok (.putfield 59, 3) := by decide +kernel
theorem dX7_takeOut_103 : decode cX7_takeOut 103 = .ok (.aload_n 0, 1) := by decide +kernel
theorem dX7_takeOut_104 : decode cX7_takeOut 104 = .ok (.dup, 1) := by decide +kernel
theorem dX7_takeOut_105 : decode cX7_takeOut 105 = .ok (.getfield 63, 3) := by decide +kernel
theorem dX7_takeOut_108 : decode cX7_takeOut 108 = .ok (.iconst 1, 1) := by decide +kernel
theorem dX7_takeOut_109 : decode cX7_takeOut 109 = .ok (.iadd, 1) := by decide +kernel
theorem dX7_takeOut_110 : decode cX7_takeOut 110 = .ok (.putfield 63, 3) := by decide +kernel
theorem dX7_takeOut_113 : decode cX7_takeOut 113 = .ok (.iinc 3 1, 3) := by decide +kernel
theorem dX7_takeOut_116 : decode cX7_takeOut 116 = .ok (.goto (-104), 3) := by decide +kernel
theorem dX7_takeOut_119 : decode cX7_takeOut 119 = .ok (.return_, 1) := by decide +kernel
theorem dX7_walk_0 : decode cX7_walk 0 = .ok (.aload_n 0, 1) := by decide +kernel
theorem dX7_walk_1 : decode cX7_walk 1 = .ok (.getfield 9, 3) := by decide +kernel
theorem dX7_walk_4 : decode cX7_walk 4 = .ok (.iconst 0, 1) := by decide +kernel
theorem dX7_walk_5 : decode cX7_walk 5 = .ok (.iload_n 2, 1) := by decide +kernel
theorem dX7_walk_6 : decode cX7_walk 6 = .ok (.iastore, 1) := by decide +kernel
theorem dX7_walk_7 : decode cX7_walk 7 = .ok (.iconst 1, 1) := by decide +kernel
theorem dX7_walk_8 : decode cX7_walk 8 = .ok (.istore_n 3, 1) := by decide +kernel
theorem dX7_walk_9 : decode cX7_walk 9 = .ok (.iload_n 3, 1) := by decide +kernel
theorem dX7_walk_10 : decode cX7_walk 10 = .ok (.aload_n 0, 1) := by decide +kernel
theorem dX7_walk_11 : decode cX7_walk 11 = .ok (.getfield 21, 3) := by decide +kernel
theorem dX7_walk_14 : decode cX7_walk 14 = .ok (.if_icmp .ge 35, 3) := by decide +kernel
theorem dX7_walk_17 : decode cX7_walk 17 = .ok (.aload_n 0, 1) := by decide +kernel
theorem dX7_walk_18 : decode cX7_walk 18 = .ok (.getfield 9, 3) := by decide +kernel
theorem dX7_walk_21 : decode cX7_walk 21 = .ok (.iload_n 3, 1) := by decide +kernel
theorem dX7_walk_22 : decode cX7_walk 22 = .ok (.aload_n 0, 1) := by decide +kernel
theorem dX7_walk_23 : decode cX7_walk 23 = .ok (.aload_n 1, 1) := by decide +kernel
theorem dX7_walk_24 : decode cX7_walk 24 = .ok (.aload_n 0, 1) := by decide +kernel
theorem dX7_walk_25 : decode cX7_walk 25 = .ok (.getfield 9, 3) := by decide +kernel
theorem dX7_walk_28 : decode cX7_walk 28 = .ok (.iload_n 3, 1) := by decide +kernel
theorem dX7_walk_29 : decode cX7_walk 29 = .ok (.iconst 1, 1) := by decide +kernel
theorem dX7_walk_30 : decode cX7_walk 30 = .ok (.isub, 1) := by decide +kernel
theorem dX7_walk_31 : decode cX7_walk 31 = .ok (.iaload, 1) := by decide +kernel
theorem dX7_walk_32 : decode cX7_walk 32 = .ok (.iload_n 2, 1) := by decide +kernel
theorem dX7_walk_33 : decode cX7_walk 33 = .ok (.aload_n 0, 1) := by decide +kernel
theorem dX7_walk_34 : decode cX7_walk 34 = .ok (.getfield 21, 3) := by decide +kernel
theorem dX7_walk_37 : decode cX7_walk 37 = .ok (.iload_n 3, 1) := by decide +kernel
theorem dX7_walk_38 : decode cX7_walk 38 = .ok (.isub, 1) := by decide +kernel
theorem dX7_walk_39 : decode cX7_walk 39 = .ok (.invokevirtual 84, 3) := by decide +kernel
theorem dX7_walk_42 : decode cX7_walk 42 = .ok (.iastore, 1) := by decide +kernel
theorem dX7_walk_43 : decode cX7_walk 43 = .ok (.iinc 3 1, 3) := by decide +kernel
theorem dX7_walk_46 : decode cX7_walk 46 = .ok (.goto (-37), 3) := by decide +kernel
theorem dX7_walk_49 : decode cX7_walk 49 = .ok (.return_, 1) := by decide +kernel
theorem dX8_find_0 : decode cX8_find 0 = .ok (.aload_n 0, 1) := by decide +kernel
theorem dX8_find_1 : decode cX8_find 1 = .ok (.aload_n 1, 1) := by decide +kernel
theorem dX8_find_2 : decode cX8_find 2 = .ok (.invokevirtual 18, 3) := by decide +kernel
theorem dX8_find_5 : decode cX8_find 5 = .ok (.aload_n 0, 1) := by decide +kernel
theorem dX8_find_6 : decode cX8_find 6 = .ok (.iconst 0, 1) := by decide +kernel
theorem dX8_find_7 : decode cX8_find 7 = .ok (.putfield 22, 3) := by decide +kernel
theorem dX8_find_10 : decode cX8_find 10 = .ok (.iconst 0, 1) := by decide +kernel
theorem dX8_find_11 : decode cX8_find 11 = .ok (.istore_n 2, 1) := by decide +kernel
theorem dX8_find_12 : decode cX8_find 12 = .ok (.iconst 0, 1) := by decide +kernel
theorem dX8_find_13 : decode cX8_find 13 = .ok (.istore_n 3, 1) := by decide +kernel
theorem dX8_find_14 : decode cX8_find 14 = .ok (.iload_n 3, 1) := by decide +kernel
theorem dX8_find_15 : decode cX8_find 15 = .ok (.aload_n 1, 1) := by decide +kernel
theorem dX8_find_16 : decode cX8_find 16 = .ok (.getfield 26, 3) := by decide +kernel
theorem dX8_find_19 : decode cX8_find 19 = .ok (.if_icmp .ge 20, 3) := by decide +kernel
theorem dX8_find_22 : decode cX8_find 22 = .ok (.iload_n 2, 1) := by decide +kernel
theorem dX8_find_23 : decode cX8_find 23 = .ok (.aload_n 0, 1) := by decide +kernel
theorem dX8_find_24 : decode cX8_find 24 = .ok (.getfield 15, 3) := by decide +kernel
theorem dX8_find_27 : decode cX8_find 27 = .ok (.iload_n 3, 1) := by decide +kernel
theorem dX8_find_28 : decode cX8_find 28 = .ok (.iaload, 1) := by decide +kernel
theorem dX8_find_29 : decode cX8_find 29 = .ok (.invokestatic 31, 3) := by decide +kernel
theorem dX8_find_32 : decode cX8_find 32 = .ok (.istore_n 2, 1) := by decide +kernel
theorem dX8_find_33 : decode cX8_find 33 = .ok (.iinc 3 1, 3) := by decide +kernel
theorem dX8_find_36 : decode cX8_find 36 = .ok (.goto (-22), 3) := by decide +kernel
theorem dX8_find_39 : decode cX8_find 39 = .ok (.iload_n 2, 1) := by decide +kernel
theorem dX8_find_40 : decode cX8_find 40 = .ok (.iconst 2, 1) := by decide +kernel
theorem dX8_find_41 : decode cX8_find 41 = .ok (.if_icmp .ge 4, 3) := by decide +kernel
theorem dX8_find_44 : decode cX8_find 44 = .ok (.return_, 1) := by decide +kernel
theorem dX8_find_45 : decode cX8_find 45 = .ok (.iconst 0, 1) := by decide +kernel
theorem dX8_find_46 : decode cX8_find 46 = .ok (.istore_n 3, 1) := by decide +kernel
theorem dX8_find_47 : decode cX8_find 47 = .ok (.iload_n 3, 1) := by decide +kernel
theorem dX8_find_48 : decode cX8_find 48 = .ok (.iload_n 2, 1) := by decide +kernel
theorem dX8_find_49 : decode cX8_find 49 = .ok (.if_icmp .ge 53, 3) := by decide +kernel
theorem dX8_find_52 : decode cX8_find 52 = .ok (.iload_n 3, 1) := by decide +kernel
theorem dX8_find_53 : decode cX8_find 53 = .ok (.bipush 8, 2) := by decide +kernel
theorem dX8_find_55 : decode cX8_find 55 = .ok (.if_icmp .ge 47, 3) := by decide +kernel
theorem dX8_find_58 : decode cX8_find 58 = .ok (.aload_n 0, 1) := by decide +kernel
theorem dX8_find_59 : decode cX8_find 59 = .ok (.aload_n 1, 1) := by decide +kernel
theorem dX8_find_60 : decode cX8_find 60 = .ok (.iload_n 2, 1) := by decide +kernel
theorem dX8_find_61 : decode cX8_find 61 = .ok (.iload_n 3, 1) := by decide +kernel
theorem dX8_find_62 : decode cX8_find 62 = .ok (.isub, 1) := by decide +kernel
theorem dX8_find_63 : decode cX8_find 63 = .ok (.invokevirtual 37, 3) := by decide +kernel
theorem dX8_find_66 : decode cX8_find 66 = .ok (.istore 4, 2) := by decide +kernel
theorem dX8_find_68 : decode cX8_find 68 = .ok (.iload 4, 2) := by decide +kernel
theorem dX8_find_70 : decode cX8_find 70 = .ok (.iconst (-1), 1) := by decide +kernel
theorem dX8_find_71 : decode cX8_find 71 = .ok (.if_icmp .ne 4, 3) := by decide +kernel
theorem dX8_find_74 : decode cX8_find 74 = .ok (.return_, 1) := by decide +kernel
theorem dX8_find_75 : decode cX8_find 75 = .ok (.aload_n 0, 1) := by decide +kernel
theorem dX8_find_76 : decode cX8_find 76 = .ok (.getfield 9, 3) := by decide +kernel
theorem dX8_find_79 : decode cX8_find 79 = .ok (.aload_n 0, 1) := by decide +kernel
theorem dX8_find_80 : decode cX8_find 80 = .ok (.getfield 22, 3) := by decide +kernel
theorem dX8_find_83 : decode cX8_find 83 = .ok (.iload 4, 2) := by decide +kernel
theorem dX8_find_85 : decode cX8_find 85 = .ok (.iastore, 1) := by decide +kernel
theorem dX8_find_86 : decode cX8_find 86 = .ok (.aload_n 0, 1) := by decide +kernel
theorem dX8_find_87 : decode cX8_find 87 = .ok (.dup, 1) := by decide +kernel
theorem dX8_find_88 : decode cX8_find 88 = .ok (.getfield 22, 3) := by decide +kernel
theorem dX8_find_91 : decode cX8_find 91 = .ok (.iconst 1, 1) := by decide +kernel
theorem dX8_find_92 : decode cX8_find 92 = .ok (.iadd, 1) := by decide +kernel
theorem dX8_find_93 : decode cX8_find 93 = .ok (.putfield 22, 3) := by decide +kernel
theorem dX8_find_96 : decode cX8_find 96 = .ok (.iinc 3 1, 3) := by decide +kernel
theorem dX8_find_99 : decode cX8_find 99 = .ok (.goto (-52), 3) := by decide +kernel
theorem dX8_find_102 : decode cX8_find 102 = .ok (.return_, 1) := by decide +kernel
theorem dX8_measure_0 : decode cX8_measure 0 = .ok (.aload_n 0, 1) := by decide +kernel
theorem dX8_measure_1 : decode cX8_measure 1 = .ok (.getfield 15, 3) := by decide +kernel
theorem dX8_measure_4 : decode cX8_measure 4 = .ok (.iconst 1, 1) := by decide +kernel
theorem dX8_measure_5 : decode cX8_measure 5 = .ok (.invokestatic 41, 3) := by decide +kernel
theorem dX8_measure_8 : decode cX8_measure 8 = .ok (.iconst 1, 1) := by decide +kernel
theorem dX8_measure_9 : decode cX8_measure 9 = .ok (.istore_n 2, 1) := by decide +kernel
theorem dX8_measure_10 : decode cX8_measure 10 = .ok (.iload_n 2, 1) := by decide +kernel
theorem dX8_measure_11 : decode cX8_measure 11 = .ok (.aload_n 1, 1) := by decide +kernel
theorem dX8_measure_12 : decode cX8_measure 12 = .ok (.getfield 26, 3) := by decide +kernel
theorem dX8_measure_15 : decode cX8_measure 15 = .ok (.if_icmp .ge 84, 3) := by decide +kernel
theorem dX8_measure_18 : decode cX8_measure 18 = .ok (.iconst 0, 1) := by decide +kernel
theorem dX8_measure_19 : decode cX8_measure 19 = .ok (.istore_n 3, 1) := by decide +kernel
theorem dX8_measure_20 : decode cX8_measure 20 = .ok (.iload_n 3, 1) := by decide +kernel
theorem dX8_measure_21 : decode cX8_measure 21 = .ok (.aload_n 1, 1) := by decide +kernel
theorem dX8_measure_22 : decode cX8_measure 22 = .ok (.getfield 26, 3) := by decide +kernel
theorem dX8_measure_25 : decode cX8_measure 25 = .ok (.if_icmp .ge 68, 3) := by decide +kernel
theorem dX8_measure_28 : decode cX8_measure 28 = .ok (.iconst 0, 1) := by decide +kernel
theorem dX8_measure_29 : decode cX8_measure 29 = .ok (.istore 4, 2) := by decide +kernel
theorem dX8_measure_31 : decode cX8_measure 31 = .ok (.iload 4, 2) := by decide +kernel
theorem dX8_measure_33 : decode cX8_measure 33 = .ok (.aload_n 1, 1) := by decide +kernel
theorem dX8_measure_34 : decode cX8_measure 34 = .ok (.getfield 26, 3) := by decide +kernel
theorem dX8_measure_37 : decode cX8_measure 37 = .ok (.if_icmp .ge 50, 3) := by decide +kernel
theorem dX8_measure_40 : decode cX8_measure 40 = .ok (.aload_n 1, 1) := by decide +kernel
theorem dX8_measure_41 : decode cX8_measure 41 = .ok (.iload_n 3, 1) := by decide +kernel
theorem dX8_measure_42 : decode cX8_measure 42 = .ok (.iload 4, 2) := by decide +kernel
theorem dX8_measure_44 : decode cX8_measure 44 = .ok (.invokevirtual 47, 3) := by decide +kernel
theorem dX8_measure_47 : decode cX8_measure 47 = .ok (.ifCond .eq 34, 3) := by decide +kernel
theorem dX8_measure_50 : decode cX8_measure 50 = .ok (.aload_n 0, 1) := by decide +kernel
theorem dX8_measure_51 : decode cX8_measure 51 = .ok (.getfield 15, 3) := by decide +kernel
theorem dX8_measure_54 : decode cX8_measure 54 = .ok (.iload_n 3, 1) := by decide +kernel
theorem dX8_measure_55 : decode cX8_measure 55 = .ok (.iaload, 1) := by decide +kernel
theorem dX8_measure_56 : decode cX8_measure 56 = .ok (.aload_n 0, 1) := by decide +kernel
theorem dX8_measure_57 : decode cX8_measure 57 = .ok (.getfield 15, 3) := by decide +kernel
theorem dX8_measure_60 : decode cX8_measure 60 = .ok (.iload 4, 2) := by decide +kernel
theorem dX8_measure_62 : decode cX8_measure 62 = .ok (.iaload, 1) := by decide +kernel
theorem dX8_measure_63 : decode cX8_measure 63 = .ok (.if_icmp .gt 18, 3) := by decide +kernel
theorem dX8_measure_66 : decode cX8_measure 66 = .ok (.aload_n 0, 1) := by decide +kernel
theorem dX8_measure_67 : decode cX8_measure 67 = .ok (.getfield 15, 3) := by decide +kernel
theorem dX8_measure_70 : decode cX8_measure 70 = .ok (.iload_n 3, 1) := by decide +kernel
theorem dX8_measure_71 : decode cX8_measure 71 = .ok (.aload_n 0, 1) := by decide +kernel
theorem dX8_measure_72 : decode cX8_measure 72 = .ok (.getfield 15, 3) := by decide +kernel
theorem dX8_measure_75 : decode cX8_measure 75 = .ok (.iload 4, 2) := by decide +kernel
theorem dX8_measure_77 : decode cX8_measure 77 = .ok (.iaload, 1) := by decide +kernel
theorem dX8_measure_78 : decode cX8_measure 78 = .ok (.iconst 1, 1) := by decide +kernel
theorem dX8_measure_79 : decode cX8_measure 79 = .ok (.iadd, 1) := by decide +kernel
theorem dX8_measure_80 : decode cX8_measure 80 = .ok (.iastore, 1) := by decide +kernel
theorem dX8_measure_81 : decode cX8_measure 81 = .ok (.iinc 4 1, 3) := by decide +kernel
theorem dX8_measure_84 : decode cX8_measure 84 = .ok (.goto (-53), 3) := by decide +kernel
theorem dX8_measure_87 : decode cX8_measure 87 = .ok (.iinc 3 1, 3) := by decide +kernel
theorem dX8_measure_90 : decode cX8_measure 90 = .ok (.goto (-70), 3) := by decide +kernel
theorem dX8_measure_93 : decode cX8_measure 93 = .ok (.iinc 2 1, 3) := by decide +kernel
theorem dX8_measure_96 : decode cX8_measure 96 = .ok (.goto (-86), 3) := by decide +kernel
theorem dX8_measure_99 : decode cX8_measure 99 = .ok (.return_, 1) := by decide +kernel
theorem dX8_nextOf_0 : decode cX8_nextOf 0 = .ok (.iconst 0, 1) := by decide +kernel
theorem dX8_nextOf_1 : decode cX8_nextOf 1 = .ok (.istore_n 3, 1) := by decide +kernel
theorem dX8_nextOf_2 : decode cX8_nextOf 2 = .ok (.iload_n 3, 1) := by decide +kernel
theorem dX8_nextOf_3 : decode cX8_nextOf 3 = .ok (.aload_n 1, 1) := by decide +kernel
theorem dX8_nextOf_4 : decode cX8_nextOf 4 = .ok (.getfield 26, 3) := by decide +kernel
theorem dX8_nextOf_7 : decode cX8_nextOf 7 = .ok (.if_icmp .ge 47, 3) := by decide +kernel
theorem dX8_nextOf_10 : decode cX8_nextOf 10 = .ok (.aload_n 0, 1) := by decide +kernel
theorem dX8_nextOf_11 : decode cX8_nextOf 11 = .ok (.getfield 15, 3) := by decide +kernel
theorem dX8_nextOf_14 : decode cX8_nextOf 14 = .ok (.iload_n 3, 1) := by decide +kernel
theorem dX8_nextOf_15 : decode cX8_nextOf 15 = .ok (.iaload, 1) := by decide +kernel
theorem dX8_nextOf_16 : decode cX8_nextOf 16 = .ok (.iload_n 2, 1) := by decide +kernel
theorem dX8_nextOf_17 : decode cX8_nextOf 17 = .ok (.if_icmp .ne 31, 3) := by decide +kernel
theorem dX8_nextOf_20 : decode cX8_nextOf 20 = .ok (.aload_n 0, 1) := by decide +kernel
theorem dX8_nextOf_21 : decode cX8_nextOf 21 = .ok (.getfield 22, 3) := by decide +kernel
theorem dX8_nextOf_24 : decode cX8_nextOf 24 = .ok (.ifCond .eq 22, 3) := by decide +kernel
theorem dX8_nextOf_27 : decode cX8_nextOf 27 = .ok (.aload_n 1, 1) := by decide +kernel
theorem dX8_nextOf_28 : decode cX8_nextOf 28 = .ok (.aload_n 0, 1) := by decide +kernel
theorem dX8_nextOf_29 : decode cX8_nextOf 29 = .ok (.getfield 9, 3) := by decide +kernel
theorem dX8_nextOf_32 : decode cX8_nextOf 32 = .ok (.aload_n 0, 1) := by decide +kernel
theorem dX8_nextOf_33 : decode cX8_nextOf 33 = .ok (.getfield 22, 3) := by decide +kernel
theorem dX8_nextOf_36 : decode cX8_nextOf 36 = .ok (.iconst 1, 1) := by decide +kernel
theorem dX8_nextOf_37 : decode cX8_nextOf 37 = .ok (.isub, 1) := by decide +kernel
theorem dX8_nextOf_38 : decode cX8_nextOf 38 = .ok (.iaload, 1) := by decide +kernel
theorem dX8_nextOf_39 : decode cX8_nextOf 39 = .ok (.iload_n 3, 1) := by decide +kernel
theorem dX8_nextOf_40 : decode cX8_nextOf 40 = .ok (.invokevirtual 47, 3) := by decide +kernel
theorem dX8_nextOf_43 : decode cX8_nextOf 43 = .ok (.ifCond .eq 5, 3) := by decide +kernel
theorem dX8_nextOf_46 : decode cX8_nextOf 46 = .ok (.iload_n 3, 1) := by decide +kernel
theorem dX8_nextOf_47 : decode cX8_nextOf 47 = .ok (.ireturn, 1) := by decide +kernel
theorem dX8_nextOf_48 : decode cX8_nextOf 48 = .ok (.iinc 3 1, 3) := by decide +kernel
theorem dX8_nextOf_51 : decode cX8_nextOf 51 = .ok (.goto (-49), 3) := by decide +kernel
theorem dX8_nextOf_54 : decode cX8_nextOf 54 = .ok (.iconst (-1), 1) := by decide +kernel
theorem dX8_nextOf_55 : decode cX8_nextOf 55 = .ok (.ireturn, 1) := by decide +kernel
theorem dX9_carry_0 : decode cX9_carry 0 = .ok (.aload_n 0, 1) := by decide +kernel
theorem dX9_carry_1 : decode cX9_carry 1 = .ok (.getfield 31, 3) := by decide +kernel
theorem dX9_carry_4 : decode cX9_carry 4 = .ok (.iload_n 1, 1) := by decide +kernel
theorem dX9_carry_5 : decode cX9_carry 5 = .ok (.laload, 1) := by decide +kernel
theorem dX9_carry_6 : decode cX9_carry 6 = .ok (.lneg, 1) := by decide +kernel
theorem dX9_carry_7 : decode cX9_carry 7 = .ok (.lstore_n 2, 1) := by decide +kernel
theorem dX9_carry_8 : decode cX9_carry 8 = .ok (.iload_n 1, 1) := by decide +kernel
theorem dX9_carry_9 : decode cX9_carry 9 = .ok (.istore 4, 2) := by decide +kernel
theorem dX9_carry_11 : decode cX9_carry 11 = .ok (.iconst 0, 1) := by decide +kernel
theorem dX9_carry_12 : decode cX9_carry 12 = .ok (.istore 5, 2) := by decide +kernel
theorem dX9_carry_14 : decode cX9_carry 14 = .ok (.iload 5, 2) := by decide +kernel
theorem dX9_carry_16 : decode cX9_carry 16 = .ok (.bipush 16, 2) := by decide +kernel
theorem dX9_carry_18 : decode cX9_carry 18 = .ok (.if_icmp .ge 50, 3) := by decide +kernel
theorem dX9_carry_21 : decode cX9_carry 21 = .ok (.aload_n 0, 1) := by decide +kernel
theorem dX9_carry_22 : decode cX9_carry 22 = .ok (.getfield 34, 3) := by decide +kernel
theorem dX9_carry_25 : decode cX9_carry 25 = .ok (.iload 4, 2) := by decide +kernel
theorem dX9_carry_27 : decode cX9_carry 27 = .ok (.iaload, 1) := by decide +kernel
theorem dX9_carry_28 : decode cX9_carry 28 = .ok (.ifCond .lt 40, 3) := by decide +kernel
theorem dX9_carry_31 : decode cX9_carry 31 = .ok (.lload_n 2, 1) := by decide +kernel
theorem dX9_carry_32 : decode cX9_carry 32 = .ok (.aload_n 0, 1) := by decide +kernel
theorem dX9_carry_33 : decode cX9_carry 33 = .ok (.getfield 24, 3) := by decide +kernel
theorem dX9_carry_36 : decode cX9_carry 36 = .ok (.aload_n 0, 1) := by decide +kernel
theorem dX9_carry_37 : decode cX9_carry 37 = .ok (.getfield 34, 3) := by decide +kernel
theorem dX9_carry_40 : decode cX9_carry 40 = .ok (.iload 4, 2) := by decide +kernel
theorem dX9_carry_42 : decode cX9_carry 42 = .ok (.iaload, 1) := by decide +kernel
theorem dX9_carry_43 : decode cX9_carry 43 = .ok (.iload 4, 2) := by decide +kernel
theorem dX9_carry_45 : decode cX9_carry 45 = .ok (.invokestatic 88, 3) := by decide +kernel
theorem dX9_carry_48 : decode cX9_carry 48 = .ok (.laload, 1) := by decide +kernel
theorem dX9_carry_49 : decode cX9_carry 49 = .ok (.invokestatic 97, 3) := by decide +kernel
theorem dX9_carry_52 : decode cX9_carry 52 = .ok (.lstore_n 2, 1) := by decide +kernel
theorem dX9_carry_53 : decode cX9_carry 53 = .ok (.aload_n 0, 1) := by decide +kernel
theorem dX9_carry_54 : decode cX9_carry 54 = .ok (.getfield 34, 3) := by decide +kernel
theorem dX9_carry_57 : decode cX9_carry 57 = .ok (.iload 4, 2) := by decide +kernel
theorem dX9_carry_59 : decode cX9_carry 59 = .ok (.iaload, 1) := by decide +kernel
theorem dX9_carry_60 : decode cX9_carry 60 = .ok (.istore 4, 2) := by decide +kernel
theorem dX9_carry_62 : decode cX9_carry 62 = .ok (.iinc 5 1, 3) := by decide +kernel
theorem dX9_carry_65 : decode cX9_carry 65 = .ok (.goto (-51), 3) := by decide +kernel
theorem dX9_carry_68 : decode cX9_carry 68 = .ok (.lload_n 2, 1) := by decide +kernel
theorem dX9_carry_69 : decode cX9_carry 69 = .ok (.aload_n 0, 1) := by decide +kernel
theorem dX9_carry_70 : decode cX9_carry 70 = .ok (.getfield 31, 3) := by decide +kernel
theorem dX9_carry_73 : decode cX9_carry 73 = .ok (.iload 4, 2) := by decide +kernel
theorem dX9_carry_75 : decode cX9_carry 75 = .ok (.laload, 1) := by decide +kernel
theorem dX9_carry_76 : decode cX9_carry 76 = .ok (.invokestatic 97, 3) := by decide +kernel
theorem dX9_carry_79 : decode cX9_carry 79 = .ok (.lstore_n 2, 1) := by decide +kernel
theorem dX9_carry_80 : decode cX9_carry 80 = .ok (.aload_n 0, 1) := by decide +kernel
theorem dX9_carry_81 : decode cX9_carry 81 = .ok (.getfield 31, 3) := by decide +kernel
theorem dX9_carry_84 : decode cX9_carry 84 = .ok (.iload 4, 2) := by decide +kernel
theorem dX9_carry_86 : decode cX9_carry 86 = .ok (.dup2, 1) := by decide +kernel
theorem dX9_carry_87 : decode cX9_carry 87 = .ok (.laload, 1) := by decide +kernel
theorem dX9_carry_88 : decode cX9_carry 88 = .ok (.lload_n 2, 1) := by decide +kernel
theorem dX9_carry_89 : decode cX9_carry 89 = .ok (.lsub, 1) := by decide +kernel
theorem dX9_carry_90 : decode cX9_carry 90 = .ok (.lastore, 1) := by decide +kernel
theorem dX9_carry_91 : decode cX9_carry 91 = .ok (.aload_n 0, 1) := by decide +kernel
theorem dX9_carry_92 : decode cX9_carry 92 = .ok (.getfield 31, 3) := by decide +kernel
theorem dX9_carry_95 : decode cX9_carry 95 = .ok (.iload_n 1, 1) := by decide +kernel
theorem dX9_carry_96 : decode cX9_carry 96 = .ok (.dup2, 1) := by decide +kernel
theorem dX9_carry_97 : decode cX9_carry 97 = .ok (.laload, 1) := by decide +kernel
theorem dX9_carry_98 : decode cX9_carry 98 = .ok (.lload_n 2, 1) := by decide +kernel
theorem dX9_carry_99 : decode cX9_carry 99 = .ok (.ladd, 1) := by decide +kernel
theorem dX9_carry_100 : decode cX9_carry 100 = .ok (.lastore, 1) := by decide +kernel
theorem dX9_carry_101 : decode cX9_carry 101 = .ok (.iload_n 1, 1) := by decide +kernel
theorem dX9_carry_102 : decode cX9_carry 102 = .ok (.istore 4, 2) := by decide +kernel
theorem dX9_carry_104 : decode cX9_carry 104 = .ok (.iconst 0, 1) := by decide +kernel
theorem dX9_carry_105 : decode cX9_carry 105 = .ok (.istore 5, 2) := by decide +kernel
theorem dX9_carry_107 : decode cX9_carry 107 = .ok (.iload 5, 2) := by decide +kernel
theorem dX9_carry_109 : decode cX9_carry 109 = .ok (.bipush 16, 2) := by decide +kernel
theorem dX9_carry_111 : decode cX9_carry 111 = .ok (.if_icmp .ge 70, 3) := by decide +kernel
theorem dX9_carry_114 : decode cX9_carry 114 = .ok (.aload_n 0, 1) := by decide +kernel
theorem dX9_carry_115 : decode cX9_carry 115 = .ok (.getfield 34, 3) := by decide +kernel
theorem dX9_carry_118 : decode cX9_carry 118 = .ok (.iload 4, 2) := by decide +kernel
theorem dX9_carry_120 : decode cX9_carry 120 = .ok (.iaload, 1) := by decide +kernel
theorem dX9_carry_121 : decode cX9_carry 121 = .ok (.ifCond .lt 60, 3) := by decide +kernel
theorem dX9_carry_124 : decode cX9_carry 124 = .ok (.aload_n 0, 1) := by decide +kernel
theorem dX9_carry_125 : decode cX9_carry 125 = .ok (.getfield 24, 3) := by decide +kernel
theorem dX9_carry_128 : decode cX9_carry 128 = .ok (.aload_n 0, 1) := by decide +kernel
theorem dX9_carry_129 : decode cX9_carry 129 = .ok (.getfield 34, 3) := by decide +kernel
theorem dX9_carry_132 : decode cX9_carry 132 = .ok (.iload 4, 2) := by decide +kernel
theorem dX9_carry_134 : decode cX9_carry 134 = .ok (.iaload, 1) := by decide +kernel
theorem dX9_carry_135 : decode cX9_carry 135 = .ok (.iload 4, 2) := by decide +kernel
theorem dX9_carry_137 : decode cX9_carry 137 = .ok (.invokestatic 88, 3) := by decide +kernel
theorem dX9_carry_140 : decode cX9_carry 140 = .ok (.dup2, 1) := by decide +kernel
theorem dX9_carry_141 : decode cX9_carry 141 = .ok (.laload, 1) := by decide +kernel
theorem dX9_carry_142 : decode cX9_carry 142 = .ok (.lload_n 2, 1) := by decide +kernel
theorem dX9_carry_143 : decode cX9_carry 143 = .ok (.lsub, 1) := by decide +kernel
theorem dX9_carry_144 : decode cX9_carry 144 = .ok (.lastore, 1) := by decide +kernel
theorem dX9_carry_145 : decode cX9_carry 145 = .ok (.aload_n 0, 1) := by decide +kernel
theorem dX9_carry_146 : decode cX9_carry 146 = .ok (.getfield 24, 3) := by decide +kernel
theorem dX9_carry_149 : decode cX9_carry 149 = .ok (.iload 4, 2) := by decide +kernel
theorem dX9_carry_151 : decode cX9_carry 151 = .ok (.aload_n 0, 1) := by decide +kernel
theorem dX9_carry_152 : decode cX9_carry 152 = .ok (.getfield 34, 3) := by decide +kernel
theorem dX9_carry_155 : decode cX9_carry 155 = .ok (.iload 4, 2) := by decide +kernel
theorem dX9_carry_157 : decode cX9_carry 157 = .ok (.iaload, 1) := by decide +kernel
theorem dX9_carry_158 : decode cX9_carry 158 = .ok (.invokestatic 88, 3) := by decide +kernel
theorem dX9_carry_161 : decode cX9_carry 161 = .ok (.dup2, 1) := by decide +kernel
theorem dX9_carry_162 : decode cX9_carry 162 = .ok (.laload, 1) := by decide +kernel
theorem dX9_carry_163 : decode cX9_carry 163 = .ok (.lload_n 2, 1) := by decide +kernel
theorem dX9_carry_164 : decode cX9_carry 164 = .ok (.ladd, 1) := by decide +kernel
theorem dX9_carry_165 : decode cX9_carry 165 = .ok (.lastore, 1) := by decide +kernel
theorem dX9_carry_166 : decode cX9_carry 166 = .ok (.aload_n 0, 1) := by decide +kernel
theorem dX9_carry_167 : decode cX9_carry 167 = .ok (.getfield 34, 3) := by decide +kernel
theorem dX9_carry_170 : decode cX9_carry 170 = .ok (.iload 4, 2) := by decide +kernel
theorem dX9_carry_172 : decode cX9_carry 172 = .ok (.iaload, 1) := by decide +kernel
theorem dX9_carry_173 : decode cX9_carry 173 = .ok (.istore 4, 2) := by decide +kernel
theorem dX9_carry_175 : decode cX9_carry 175 = .ok (.iinc 5 1, 3) := by decide +kernel
theorem dX9_carry_178 : decode cX9_carry 178 = .ok (.goto (-71), 3) := by decide +kernel
theorem dX9_carry_181 : decode cX9_carry 181 = .ok (.return_, 1) := by decide +kernel
theorem dX9_farthest_0 : decode cX9_farthest 0 = .ok (.aload_n 0, 1) := by decide +kernel
theorem dX9_farthest_1 : decode cX9_farthest 1 = .ok (.iload_n 1, 1) := by decide +kernel
theorem dX9_farthest_2 : decode cX9_farthest 2 = .ok (.iload_n 2, 1) := by decide +kernel
theorem dX9_farthest_3 : decode cX9_farthest 3 = .ok (.iload_n 3, 1) := by decide +kernel
theorem dX9_farthest_4 : decode cX9_farthest 4 = .ok (.invokevirtual 124, 3) := by decide +kernel
theorem dX9_farthest_7 : decode cX9_farthest 7 = .ok (.lstore 4, 2) := by decide +kernel
theorem dX9_farthest_9 : decode cX9_farthest 9 = .ok (.aload_n 0, 1) := by decide +kernel
theorem dX9_farthest_10 : decode cX9_farthest 10 = .ok (.iload_n 1, 1) := by decide +kernel
theorem dX9_farthest_11 : decode cX9_farthest 11 = .ok (.iload_n 2, 1) := by decide +kernel
theorem dX9_farthest_12 : decode cX9_farthest 12 = .ok (.lload 4, 2) := by decide +kernel
theorem dX9_farthest_14 : decode cX9_farthest 14 = .ok (.invokevirtual 100, 3) := by decide +kernel
theorem dX9_farthest_17 : decode cX9_farthest 17 = .ok (.lload 4, 2) := by decide +kernel
theorem dX9_farthest_19 : decode cX9_farthest 19 = .ok (.lreturn, 1) := by decide +kernel
theorem dX9_findFirst_0 : decode cX9_findFirst 0 = .ok (.aload_n 0, 1) := by decide +kernel
theorem dX9_findFirst_1 : decode cX9_findFirst 1 = .ok (.getfield 15, 3) := by decide +kernel
theorem dX9_findFirst_4 : decode cX9_findFirst 4 = .ok (.lconst 0, 1) := by decide +kernel
theorem dX9_findFirst_5 : decode cX9_findFirst 5 = .ok (.invokestatic 50, 3) := by decide +kernel
theorem dX9_findFirst_8 : decode cX9_findFirst 8 = .ok (.iconst 0, 1) := by decide +kernel
theorem dX9_findFirst_9 : decode cX9_findFirst 9 = .ok (.istore_n 1, 1) := by decide +kernel
theorem dX9_findFirst_10 : decode cX9_findFirst 10 = .ok (.iload_n 1, 1) := by decide +kernel
theorem dX9_findFirst_11 : decode cX9_findFirst 11 = .ok (.aload_n 0, 1) := by decide +kernel
theorem dX9_findFirst_12 : decode cX9_findFirst 12 = .ok (.getfield 46, 3) := by decide +kernel
theorem dX9_findFirst_15 : decode cX9_findFirst 15 = .ok (.if_icmp .ge 47, 3) := by decide +kernel
theorem dX9_findFirst_18 : decode cX9_findFirst 18 = .ok (.iconst 0, 1) := by decide +kernel
theorem dX9_findFirst_19 : decode cX9_findFirst 19 = .ok (.istore_n 2, 1) := by decide +kernel
theorem dX9_findFirst_20 : decode cX9_findFirst 20 = .ok (.iload_n 2, 1) := by decide +kernel
theorem dX9_findFirst_21 : decode cX9_findFirst 21 = .ok (.aload_n 0, 1) := by decide +kernel
theorem dX9_findFirst_22 : decode cX9_findFirst 22 = .ok (.getfield 46, 3) := by decide +kernel
theorem dX9_findFirst_25 : decode cX9_findFirst 25 = .ok (.if_icmp .ge 31, 3) := by decide +kernel
theorem dX9_findFirst_28 : decode cX9_findFirst 28 = .ok (.iload_n 1, 1) := by decide +kernel
theorem dX9_findFirst_29 : decode cX9_findFirst 29 = .ok (.iload_n 2, 1) := by decide +kernel
theorem dX9_findFirst_30 : decode cX9_findFirst 30 = .ok (.if_icmp .eq 20, 3) := by decide +kernel
theorem dX9_findFirst_33 : decode cX9_findFirst 33 = .ok (.aload_n 0, 1) := by decide +kernel
theorem dX9_findFirst_34 : decode cX9_findFirst 34 = .ok (.getfield 15, 3) := by decide +kernel
theorem dX9_findFirst_37 : decode cX9_findFirst 37 = .ok (.iload_n 1, 1) := by decide +kernel
theorem dX9_findFirst_38 : decode cX9_findFirst 38 = .ok (.iload_n 2, 1) := by decide +kernel
theorem dX9_findFirst_39 : decode cX9_findFirst 39 = .ok (.invokestatic 70, 3) := by decide +kernel
theorem dX9_findFirst_42 : decode cX9_findFirst 42 = .ok (.aload_n 0, 1) := by decide +kernel
theorem dX9_findFirst_43 : decode cX9_findFirst 43 = .ok (.iload_n 1, 1) := by decide +kernel
theorem dX9_findFirst_44 : decode cX9_findFirst 44 = .ok (.iload_n 2, 1) := by decide +kernel
theorem dX9_findFirst_45 : decode cX9_findFirst 45 = .ok (.iconst 0, 1) := by decide +kernel
theorem dX9_findFirst_46 : decode cX9_findFirst 46 = .ok (.invokevirtual 124, 3) := by decide +kernel
theorem dX9_findFirst_49 : decode cX9_findFirst 49 = .ok (.lastore, 1) := by decide +kernel
theorem dX9_findFirst_50 : decode cX9_findFirst 50 = .ok (.iinc 2 1, 3) := by decide +kernel
theorem dX9_findFirst_53 : decode cX9_findFirst 53 = .ok (.goto (-33), 3) := by decide +kernel
theorem dX9_findFirst_56 : decode cX9_findFirst 56 = .ok (.iinc 1 1, 3) := by decide +kernel
theorem dX9_findFirst_59 : decode cX9_findFirst 59 = .ok (.goto (-49), 3) := by decide +kernel
theorem dX9_findFirst_62 : decode cX9_findFirst 62 = .ok (.iconst 0, 1) := by decide +kernel
theorem dX9_findFirst_63 : decode cX9_findFirst 63 = .ok (.istore_n 1, 1) := by decide +kernel
theorem dX9_findFirst_64 : decode cX9_findFirst 64 = .ok (.iload_n 1, 1) := by decide +kernel
theorem dX9_findFirst_65 : decode cX9_findFirst 65 = .ok (.aload_n 0, 1) := by decide +kernel
theorem dX9_findFirst_66 : decode cX9_findFirst 66 = .ok (.getfield 46, 3) := by decide +kernel
theorem dX9_findFirst_69 : decode cX9_findFirst 69 = .ok (.if_icmp .ge 46, 3) := by decide +kernel
theorem dX9_findFirst_72 : decode cX9_findFirst 72 = .ok (.iconst 0, 1) := by decide +kernel
theorem dX9_findFirst_73 : decode cX9_findFirst 73 = .ok (.istore_n 2, 1) := by decide +kernel
theorem dX9_findFirst_74 : decode cX9_findFirst 74 = .ok (.iload_n 2, 1) := by decide +kernel
theorem dX9_findFirst_75 : decode cX9_findFirst 75 = .ok (.aload_n 0, 1) := by decide +kernel
theorem dX9_findFirst_76 : decode cX9_findFirst 76 = .ok (.getfield 46, 3) := by decide +kernel
theorem dX9_findFirst_79 : decode cX9_findFirst 79 = .ok (.if_icmp .ge 30, 3) := by decide +kernel
theorem dX9_findFirst_82 : decode cX9_findFirst 82 = .ok (.iload_n 1, 1) := by decide +kernel
theorem dX9_findFirst_83 : decode cX9_findFirst 83 = .ok (.iload_n 2, 1) := by decide +kernel
theorem dX9_findFirst_84 : decode cX9_findFirst 84 = .ok (.if_icmp .eq 19, 3) := by decide +kernel
theorem dX9_findFirst_87 : decode cX9_findFirst 87 = .ok (.aload_n 0, 1) := by decide +kernel
theorem dX9_findFirst_88 : decode cX9_findFirst 88 = .ok (.iload_n 1, 1) := by decide +kernel
theorem dX9_findFirst_89 : decode cX9_findFirst 89 = .ok (.iload_n 2, 1) := by decide +kernel
theorem dX9_findFirst_90 : decode cX9_findFirst 90 = .ok (.aload_n 0, 1) := by decide +kernel
theorem dX9_findFirst_91 : decode cX9_findFirst 91 = .ok (.getfield 15, 3) := by decide +kernel
theorem dX9_findFirst_94 : decode cX9_findFirst 94 = .ok (.iload_n 1, 1) := by decide +kernel
theorem dX9_findFirst_95 : decode cX9_findFirst 95 = .ok (.iload_n 2, 1) := by decide +kernel
theorem dX9_findFirst_96 : decode cX9_findFirst 96 = .ok (.invokestatic 70, 3) := by decide +kernel
theorem dX9_findFirst_99 : decode cX9_findFirst 99 = .ok (.laload, 1) := by decide +kernel
theorem dX9_findFirst_100 : decode cX9_findFirst 100 = .ok (.invokevirtual 100, 3) := by decide +kernel
theorem dX9_findFirst_103 : decode cX9_findFirst 103 = .ok (.iinc 2 1, 3) := by decide +kernel
theorem dX9_findFirst_106 : decode cX9_findFirst 106 = .ok (.goto (-32), 3) := by decide +kernel
theorem dX9_findFirst_109 : decode cX9_findFirst 109 = .ok (.iinc 1 1, 3) := by decide +kernel
theorem dX9_findFirst_112 : decode cX9_findFirst 112 = .ok (.goto (-48), 3) := by decide +kernel
theorem dX9_findFirst_115 : decode cX9_findFirst 115 = .ok (.return_, 1) := by decide +kernel
theorem dX9_firstAboveZero_0 : decode cX9_firstAboveZero 0 = .ok (.aload_n 0, 1) := by decide +kernel
theorem dX9_firstAboveZero_1 : decode cX9_firstAboveZero 1 = .ok (.getfield 15, 3) := by decide +kernel
theorem dX9_firstAboveZero_4 : decode cX9_firstAboveZero 4 = .ok (.invokestatic 128, 3) := by decide +kernel
theorem dX9_firstAboveZero_7 : decode cX9_firstAboveZero 7 = .ok (.ireturn, 1) := by decide +kernel
theorem dX9_in_0 : decode cX9_in 0 = .ok (.iconst 2, 1) := by decide +kernel
theorem dX9_in_1 : decode cX9_in 1 = .ok (.iload_n 0, 1) := by decide +kernel
theorem dX9_in_2 : decode cX9_in 2 = .ok (.imul, 1) := by decide +kernel
theorem dX9_in_3 : decode cX9_in 3 = .ok (.ireturn, 1) := by decide +kernel
theorem dX9_lift_0 : decode cX9_lift 0 = .ok (.iconst (-1), 1) := by decide +kernel
theorem dX9_lift_1 : decode cX9_lift 1 = .ok (.istore_n 1, 1) := by decide +kernel
theorem dX9_lift_2 : decode cX9_lift 2 = .ok (.iconst 0, 1) := by decide +kernel
theorem dX9_lift_3 : decode cX9_lift 3 = .ok (.istore_n 2, 1) := by decide +kernel
theorem dX9_lift_4 : decode cX9_lift 4 = .ok (.iload_n 2, 1) := by decide +kernel
theorem dX9_lift_5 : decode cX9_lift 5 = .ok (.aload_n 0, 1) := by decide +kernel
theorem dX9_lift_6 : decode cX9_lift 6 = .ok (.getfield 47, 3) := by decide +kernel
theorem dX9_lift_9 : decode cX9_lift 9 = .ok (.if_icmp .ge 88, 3) := by decide +kernel
theorem dX9_lift_12 : decode cX9_lift 12 = .ok (.iconst 1, 1) := by decide +kernel
theorem dX9_lift_13 : decode cX9_lift 13 = .ok (.iload_n 2, 1) := by decide +kernel
theorem dX9_lift_14 : decode cX9_lift 14 = .ok (.iconst 1, 1) := by decide +kernel
theorem dX9_lift_15 : decode cX9_lift 15 = .ok (.iand, 1) := by decide +kernel
theorem dX9_lift_16 : decode cX9_lift 16 = .ok (.isub, 1) := by decide +kernel
theorem dX9_lift_17 : decode cX9_lift 17 = .ok (.istore_n 3, 1) := by decide +kernel
theorem dX9_lift_18 : decode cX9_lift 18 = .ok (.iload_n 3, 1) := by decide +kernel
theorem dX9_lift_19 : decode cX9_lift 19 = .ok (.aload_n 0, 1) := by decide +kernel
theorem dX9_lift_20 : decode cX9_lift 20 = .ok (.getfield 47, 3) := by decide +kernel
theorem dX9_lift_23 : decode cX9_lift 23 = .ok (.if_icmp .ge 68, 3) := by decide +kernel
theorem dX9_lift_26 : decode cX9_lift 26 = .ok (.aload_n 0, 1) := by decide +kernel
theorem dX9_lift_27 : decode cX9_lift 27 = .ok (.getfield 34, 3) := by decide +kernel
theorem dX9_lift_30 : decode cX9_lift 30 = .ok (.iload_n 2, 1) := by decide +kernel
theorem dX9_lift_31 : decode cX9_lift 31 = .ok (.iaload, 1) := by decide +kernel
theorem dX9_lift_32 : decode cX9_lift 32 = .ok (.bipush (-2), 2) := by decide +kernel
theorem dX9_lift_34 : decode cX9_lift 34 = .ok (.if_icmp .eq 51, 3) := by decide +kernel
theorem dX9_lift_37 : decode cX9_lift 37 = .ok (.aload_n 0, 1) := by decide +kernel
theorem dX9_lift_38 : decode cX9_lift 38 = .ok (.getfield 34, 3) := by decide +kernel
theorem dX9_lift_41 : decode cX9_lift 41 = .ok (.iload_n 3, 1) := by decide +kernel
theorem dX9_lift_42 : decode cX9_lift 42 = .ok (.iaload, 1) := by decide +kernel
theorem dX9_lift_43 : decode cX9_lift 43 = .ok (.bipush (-2), 2) := by decide +kernel
theorem dX9_lift_45 : decode cX9_lift 45 = .ok (.if_icmp .ne 40, 3) := by decide +kernel
theorem dX9_lift_48 : decode cX9_lift 48 = .ok (.aload_n 0, 1) := by decide +kernel
theorem dX9_lift_49 : decode cX9_lift 49 = .ok (.getfield 24, 3) := by decide +kernel
theorem dX9_lift_52 : decode cX9_lift 52 = .ok (.iload_n 2, 1) := by decide +kernel
theorem dX9_lift_53 : decode cX9_lift 53 = .ok (.iload_n 3, 1) := by decide +kernel
theorem dX9_lift_54 : decode cX9_lift 54 = .ok (.invokestatic 88, 3) := by decide +kernel
theorem dX9_lift_57 : decode cX9_lift 57 = .ok (.laload, 1) := by decide +kernel
theorem dX9_lift_58 : decode cX9_lift 58 = .ok (.lconst 0, 1) := by decide +kernel
theorem dX9_lift_59 : decode cX9_lift 59 = .ok (.lcmp, 1) := by decide +kernel
theorem dX9_lift_60 : decode cX9_lift 60 = .ok (.ifCond .le 25, 3) := by decide +kernel
theorem dX9_lift_63 : decode cX9_lift 63 = .ok (.iload_n 1, 1) := by decide +kernel
theorem dX9_lift_64 : decode cX9_lift 64 = .ok (.iconst (-1), 1) := by decide +kernel
theorem dX9_lift_65 : decode cX9_lift 65 = .ok (.if_icmp .eq 13, 3) := by decide +kernel
theorem dX9_lift_68 : decode cX9_lift 68 = .ok (.aload_n 0, 1) := by decide +kernel
theorem dX9_lift_69 : decode cX9_lift 69 = .ok (.iload_n 2, 1) := by decide +kernel
theorem dX9_lift_70 : decode cX9_lift 70 = .ok (.iload_n 3, 1) := by decide +kernel
theorem dX9_lift_71 : decode cX9_lift 71 = .ok (.invokevirtual 132, 3) := by decide +kernel
theorem dX9_lift_74 : decode cX9_lift 74 = .ok (.iload_n 1, 1) := by decide +kernel
theorem dX9_lift_75 : decode cX9_lift 75 = .ok (.if_icmp .ge 10, 3) := by decide +kernel
theorem dX9_lift_78 : decode cX9_lift 78 = .ok (.aload_n 0, 1) := by decide +kernel
theorem dX9_lift_79 : decode cX9_lift 79 = .ok (.iload_n 2, 1) := by decide +kernel
theorem dX9_lift_80 : decode cX9_lift 80 = .ok (.iload_n 3, 1) := by decide +kernel
theorem dX9_lift_81 : decode cX9_lift 81 = .ok (.invokevirtual 132, 3) := by decide +kernel
theorem dX9_lift_84 : decode cX9_lift 84 = .ok (.istore_n 1, 1) := by decide +kernel
theorem dX9_lift_85 : decode cX9_lift 85 = .ok (.iinc 3 2, 3) := by decide +kernel
theorem dX9_lift_88 : decode cX9_lift 88 = .ok (.goto (-70), 3) := by decide +kernel
theorem dX9_lift_91 : decode cX9_lift 91 = .ok (.iinc 2 1, 3) := by decide +kernel
theorem dX9_lift_94 : decode cX9_lift 94 = .ok (.goto (-90), 3) := by decide +kernel
theorem dX9_lift_97 : decode cX9_lift 97 = .ok (.iload_n 1, 1) := by decide +kernel
theorem dX9_lift_98 : decode cX9_lift 98 = .ok (.iconst (-1), 1) := by decide +kernel
theorem dX9_lift_99 : decode cX9_lift 99 = .ok (.if_icmp .ne 5, 3) := by decide +kernel
theorem dX9_lift_102 : decode cX9_lift 102 = .ok (.iconst 0, 1) := by decide +kernel
theorem dX9_lift_103 : decode cX9_lift 103 = .ok (.ireturn, 1) := by decide +kernel
theorem dX9_lift_104 : decode cX9_lift 104 = .ok (.iconst 0, 1) := by decide +kernel
theorem dX9_lift_105 : decode cX9_lift 105 = .ok (.istore_n 2, 1) := by decide +kernel
theorem dX9_lift_106 : decode cX9_lift 106 = .ok (.iload_n 2, 1) := by decide +kernel
theorem dX9_lift_107 : decode cX9_lift 107 = .ok (.aload_n 0, 1) := by decide +kernel
theorem dX9_lift_108 : decode cX9_lift 108 = .ok (.getfield 47, 3) := by decide +kernel
theorem dX9_lift_111 : decode cX9_lift 111 = .ok (.if_icmp .ge 30, 3) := by decide +kernel
theorem dX9_lift_114 : decode cX9_lift 114 = .ok (.aload_n 0, 1) := by decide +kernel
theorem dX9_lift_115 : decode cX9_lift 115 = .ok (.getfield 34, 3) := by decide +kernel
theorem dX9_lift_118 : decode cX9_lift 118 = .ok (.iload_n 2, 1) := by decide +kernel
theorem dX9_lift_119 : decode cX9_lift 119 = .ok (.iaload, 1) := by decide +kernel
theorem dX9_lift_120 : decode cX9_lift 120 = .ok (.bipush (-2), 2) := by decide +kernel
theorem dX9_lift_122 : decode cX9_lift 122 = .ok (.if_icmp .ne 13, 3) := by decide +kernel
theorem dX9_lift_125 : decode cX9_lift 125 = .ok (.aload_n 0, 1) := by decide +kernel
theorem dX9_lift_126 : decode cX9_lift 126 = .ok (.getfield 27, 3) := by decide +kernel
theorem dX9_lift_129 : decode cX9_lift 129 = .ok (.iload_n 2, 1) := by decide +kernel
theorem dX9_lift_130 : decode cX9_lift 130 = .ok (.dup2, 1) := by decide +kernel
theorem dX9_lift_131 : decode cX9_lift 131 = .ok (.iaload, 1) := by decide +kernel
theorem dX9_lift_132 : decode cX9_lift 132 = .ok (.iload_n 1, 1) := by decide +kernel
theorem dX9_lift_133 : decode cX9_lift 133 = .ok (.iadd, 1) := by decide +kernel
theorem dX9_lift_134 : decode cX9_lift 134 = .ok (.iastore, 1) := by decide +kernel
theorem dX9_lift_135 : decode cX9_lift 135 = .ok (.iinc 2 1, 3) := by decide +kernel
theorem dX9_lift_138 : decode cX9_lift 138 = .ok (.goto (-32), 3) := by decide +kernel
theorem dX9_lift_141 : decode cX9_lift 141 = .ok (.iconst 1, 1) := by decide +kernel
theorem dX9_lift_142 : decode cX9_lift 142 = .ok (.ireturn, 1) := by decide +kernel
theorem dX9_move_0 : decode cX9_move 0 = .ok (.aload_n 0, 1) := by decide +kernel
theorem dX9_move_1 : decode cX9_move 1 = .ok (.getfield 31, 3) := by decide +kernel
theorem dX9_move_4 : decode cX9_move 4 = .ok (.lconst 0, 1) := by decide +kernel
theorem dX9_move_5 : decode cX9_move 5 = .ok (.invokestatic 50, 3) := by decide +kernel
theorem dX9_move_8 : decode cX9_move 8 = .ok (.aload_n 0, 1) := by decide +kernel
theorem dX9_move_9 : decode cX9_move 9 = .ok (.getfield 31, 3) := by decide +kernel
theorem dX9_move_12 : decode cX9_move 12 = .ok (.iload_n 1, 1) := by decide +kernel
theorem dX9_move_13 : decode cX9_move 13 = .ok (.lload_n 3, 1) := by decide +kernel
theorem dX9_move_14 : decode cX9_move 14 = .ok (.lastore, 1) := by decide +kernel
theorem dX9_move_15 : decode cX9_move 15 = .ok (.aload_n 0, 1) := by decide +kernel
theorem dX9_move_16 : decode cX9_move 16 = .ok (.getfield 31, 3) := by decide +kernel
theorem dX9_move_19 : decode cX9_move 19 = .ok (.iload_n 2, 1) := by decide +kernel
theorem dX9_move_20 : decode cX9_move 20 = .ok (.lload_n 3, 1) := by decide +kernel
theorem dX9_move_21 : decode cX9_move 21 = .ok (.lneg, 1) := by decide +kernel
theorem dX9_move_22 : decode cX9_move 22 = .ok (.lastore, 1) := by decide +kernel
theorem dX9_move_23 : decode cX9_move 23 = .ok (.aload_n 0, 1) := by decide +kernel
theorem dX9_move_24 : decode cX9_move 24 = .ok (.iconst 0, 1) := by decide +kernel
theorem dX9_move_25 : decode cX9_move 25 = .ok (.invokevirtual 104, 3) := by decide +kernel
theorem dX9_move_28 : decode cX9_move 28 = .ok (.lload_n 3, 1) := by decide +kernel
theorem dX9_move_29 : decode cX9_move 29 = .ok (.aload_n 0, 1) := by decide +kernel
theorem dX9_move_30 : decode cX9_move 30 = .ok (.getfield 31, 3) := by decide +kernel
theorem dX9_move_33 : decode cX9_move 33 = .ok (.iload_n 1, 1) := by decide +kernel
theorem dX9_move_34 : decode cX9_move 34 = .ok (.laload, 1) := by decide +kernel
theorem dX9_move_35 : decode cX9_move 35 = .ok (.lsub, 1) := by decide +kernel
theorem dX9_move_36 : decode cX9_move 36 = .ok (.lreturn, 1) := by decide +kernel
theorem dX9_nothingLeft_0 : decode cX9_nothingLeft 0 = .ok (.iconst 0, 1) := by decide +kernel
theorem dX9_nothingLeft_1 : decode cX9_nothingLeft 1 = .ok (.istore_n 1, 1) := by decide +kernel
theorem dX9_nothingLeft_2 : decode cX9_nothingLeft 2 = .ok (.iload_n 1, 1) := by decide +kernel
theorem dX9_nothingLeft_3 : decode cX9_nothingLeft 3 = .ok (.aload_n 0, 1) := by decide +kernel
theorem dX9_nothingLeft_4 : decode cX9_nothingLeft 4 = .ok (.getfield 47, 3) := by decide +kernel
theorem dX9_nothingLeft_7 : decode cX9_nothingLeft 7 = .ok (.if_icmp .ge 22, 3) := by decide +kernel
theorem dX9_nothingLeft_10 : decode cX9_nothingLeft 10 = .ok (.aload_n 0, 1) := by decide +kernel
theorem dX9_nothingLeft_11 : decode cX9_nothingLeft 11 = .ok (.getfield 31, 3) := by decide +kernel
theorem dX9_nothingLeft_14 : decode cX9_nothingLeft 14 = .ok (.iload_n 1, 1) := by decide +kernel
theorem dX9_nothingLeft_15 : decode cX9_nothingLeft 15 = .ok (.laload, 1) := by decide +kernel
theorem dX9_nothingLeft_16 : decode cX9_nothingLeft 16 = .ok (.lconst 0, 1) := by decide +kernel
theorem dX9_nothingLeft_17 : decode cX9_nothingLeft 17 = .ok (.lcmp, 1) := by decide +kernel
theorem dX9_nothingLeft_18 : decode cX9_nothingLeft 18 = .ok (.ifCond .eq 5, 3) := by decide +kernel
theorem dX9_nothingLeft_21 : decode cX9_nothingLeft 21 = .ok (.iconst 0, 1) := by decide +kernel
theorem dX9_nothingLeft_22 : decode cX9_nothingLeft 22 = .ok (.ireturn, 1) := by decide +kernel
theorem dX9_nothingLeft_23 : decode cX9_nothingLeft 23 = .ok (.iinc 1 1, 3) := by decide +kernel
theorem dX9_nothingLeft_26 : decode cX9_nothingLeft 26 = .ok (.goto (-24), 3) := by decide +kernel
theorem dX9_nothingLeft_29 : decode cX9_nothingLeft 29 = .ok (.iconst 1, 1) := by decide +kernel
theorem dX9_nothingLeft_30 : decode cX9_nothingLeft 30 = .ok (.ireturn, 1) := by decide +kernel
theorem dX9_numbersTogether_0 : decode cX9_numbersTogether 0 = .ok (.lconst 0, 1) := by decide +kernel
theorem dX9_numbersTogether_1 : decode cX9_numbersTogether 1 = .ok (.lstore_n 1, 1) := by decide +kernel
theorem dX9_numbersTogether_2 : decode cX9_numbersTogether 2 = .ok (.iconst 0, 1) := by decide +kernel
theorem dX9_numbersTogether_3 : decode cX9_numbersTogether 3 = .ok (.istore_n 3, 1) := by decide +kernel
theorem dX9_numbersTogether_4 : decode cX9_numbersTogether 4 = .ok (.iload_n 3, 1) := by decide +kernel
theorem dX9_numbersTogether_5 : decode cX9_numbersTogether 5 = .ok (.aload_n 0, 1) := by decide +kernel
theorem dX9_numbersTogether_6 : decode cX9_numbersTogether 6 = .ok (.getfield 46, 3) := by decide +kernel
theorem dX9_numbersTogether_9 : decode cX9_numbersTogether 9 = .ok (.if_icmp .ge 53, 3) := by decide +kernel
theorem dX9_numbersTogether_12 : decode cX9_numbersTogether 12 = .ok (.iconst 0, 1) := by decide +kernel
theorem dX9_numbersTogether_13 : decode cX9_numbersTogether 13 = .ok (.istore 4, 2) := by decide +kernel
theorem dX9_numbersTogether_15 : decode cX9_numbersTogether 15 = .ok (.iload 4, 2) := by decide +kernel
theorem dX9_numbersTogether_17 : decode cX9_numbersTogether 17 = .ok (.aload_n 0, 1) := by decide +kernel
theorem dX9_numbersTogether_18 : decode cX9_numbersTogether 18 = .ok (.getfield 46, 3) := by decide +kernel
theorem dX9_numbersTogether_21 : decode cX9_numbersTogether 21 = .ok (.if_icmp .ge 35, 3) := by decide +kernel
theorem dX9_numbersTogether_24 : decode cX9_numbersTogether 24 = .ok (.iload_n 3, 1) := by decide +kernel
theorem dX9_numbersTogether_25 : decode cX9_numbersTogether 25 = .ok (.iload 4, 2) := by decide +kernel
theorem dX9_numbersTogether_27 : decode cX9_numbersTogether 27 = .ok (.if_icmp .eq 23, 3) := by decide +kernel
theorem dX9_numbersTogether_30 : decode cX9_numbersTogether 30 = .ok (.lload_n 1, 1) := by decide +kernel
theorem dX9_numbersTogether_31 : decode cX9_numbersTogether 31 = .ok (.aload_n 0, 1) := by decide +kernel
theorem dX9_numbersTogether_32 : decode cX9_numbersTogether 32 = .ok (.getfield 24, 3) := by decide +kernel
theorem dX9_numbersTogether_35 : decode cX9_numbersTogether 35 = .ok (.iload 4, 2) := by decide +kernel
theorem dX9_numbersTogether_37 : decode cX9_numbersTogether 37 = .ok (.invokestatic 81, 3) := by decide +kernel
theorem dX9_numbersTogether_40 : decode cX9_numbersTogether 40 = .ok (.iload_n 3, 1) := by decide +kernel
theorem dX9_numbersTogether_41 : decode cX9_numbersTogether 41 = .ok (.invokestatic 85, 3) := by decide +kernel
theorem dX9_numbersTogether_44 : decode cX9_numbersTogether 44 = .ok (.invokestatic 88, 3) := by decide +kernel
theorem dX9_numbersTogether_47 : decode cX9_numbersTogether 47 = .ok (.laload, 1) := by decide +kernel
theorem dX9_numbersTogether_48 : decode cX9_numbersTogether 48 = .ok (.ladd, 1) := by decide +kernel
theorem dX9_numbersTogether_49 : decode cX9_numbersTogether 49 = .ok (.lstore_n 1, 1) := by decide +kernel
theorem dX9_numbersTogether_50 : decode cX9_numbersTogether 50 = .ok (.iinc 4 1, 3) := by decide +kernel
theorem dX9_numbersTogether_53 : decode cX9_numbersTogether 53 = .ok (.goto (-38), 3) := by decide +kernel
theorem dX9_numbersTogether_56 : decode cX9_numbersTogether 56 = .ok (.iinc 3 1, 3) := by decide +kernel
theorem dX9_numbersTogether_59 : decode cX9_numbersTogether 59 = .ok (.goto (-55), 3) := by decide +kernel
theorem dX9_numbersTogether_62 : decode cX9_numbersTogether 62 = .ok (.lload_n 1, 1) := by decide +kernel
theorem dX9_numbersTogether_63 : decode cX9_numbersTogether 63 = .ok (.lreturn, 1) := by decide +kernel
theorem dX9_open_0 : decode cX9_open 0 = .ok (.aload_n 0, 1) := by decide +kernel
theorem dX9_open_1 : decode cX9_open 1 = .ok (.getfield 24, 3) := by decide +kernel
theorem dX9_open_4 : decode cX9_open 4 = .ok (.iload_n 1, 1) := by decide +kernel
theorem dX9_open_5 : decode cX9_open 5 = .ok (.invokestatic 85, 3) := by decide +kernel
theorem dX9_open_8 : decode cX9_open 8 = .ok (.iload_n 2, 1) := by decide +kernel
theorem dX9_open_9 : decode cX9_open 9 = .ok (.invokestatic 81, 3) := by decide +kernel
theorem dX9_open_12 : decode cX9_open 12 = .ok (.invokestatic 88, 3) := by decide +kernel
theorem dX9_open_15 : decode cX9_open 15 = .ok (.aload_n 0, 1) := by decide +kernel
theorem dX9_open_16 : decode cX9_open 16 = .ok (.getfield 9, 3) := by decide +kernel
theorem dX9_open_19 : decode cX9_open 19 = .ok (.iload_n 1, 1) := by decide +kernel
theorem dX9_open_20 : decode cX9_open 20 = .ok (.iload_n 2, 1) := by decide +kernel
theorem dX9_open_21 : decode cX9_open 21 = .ok (.invokestatic 70, 3) := by decide +kernel
theorem dX9_open_24 : decode cX9_open 24 = .ok (.laload, 1) := by decide +kernel
theorem dX9_open_25 : decode cX9_open 25 = .ok (.lload_n 3, 1) := by decide +kernel
theorem dX9_open_26 : decode cX9_open 26 = .ok (.lsub, 1) := by decide +kernel
theorem dX9_open_27 : decode cX9_open 27 = .ok (.lastore, 1) := by decide +kernel
theorem dX9_open_28 : decode cX9_open 28 = .ok (.aload_n 0, 1) := by decide +kernel
theorem dX9_open_29 : decode cX9_open 29 = .ok (.getfield 24, 3) := by decide +kernel
theorem dX9_open_32 : decode cX9_open 32 = .ok (.iload_n 2, 1) := by decide +kernel
theorem dX9_open_33 : decode cX9_open 33 = .ok (.invokestatic 81, 3) := by decide +kernel
theorem dX9_open_36 : decode cX9_open 36 = .ok (.iload_n 1, 1) := by decide +kernel
theorem dX9_open_37 : decode cX9_open 37 = .ok (.invokestatic 85, 3) := by decide +kernel
theorem dX9_open_40 : decode cX9_open 40 = .ok (.invokestatic 88, 3) := by decide +kernel
theorem dX9_open_43 : decode cX9_open 43 = .ok (.lload_n 3, 1) := by decide +kernel
theorem dX9_open_44 : decode cX9_open 44 = .ok (.lastore, 1) := by decide +kernel
theorem dX9_open_45 : decode cX9_open 45 = .ok (.return_, 1) := by decide +kernel
theorem dX9_out_0 : decode cX9_out 0 = .ok (.iconst 2, 1) := by decide +kernel
theorem dX9_out_1 : decode cX9_out 1 = .ok (.iload_n 0, 1) := by decide +kernel
theorem dX9_out_2 : decode cX9_out 2 = .ok (.imul, 1) := by decide +kernel
theorem dX9_out_3 : decode cX9_out 3 = .ok (.iconst 1, 1) := by decide +kernel
theorem dX9_out_4 : decode cX9_out 4 = .ok (.iadd, 1) := by decide +kernel
theorem dX9_out_5 : decode cX9_out 5 = .ok (.ireturn, 1) := by decide +kernel
theorem dX9_prepare_0 : decode cX9_prepare 0 = .ok (.aload_n 0, 1) := by decide +kernel
theorem dX9_prepare_1 : decode cX9_prepare 1 = .ok (.aload_n 2, 1) := by decide +kernel
theorem dX9_prepare_2 : decode cX9_prepare 2 = .ok (.getfield 40, 3) := by decide +kernel
theorem dX9_prepare_5 : decode cX9_prepare 5 = .ok (.putfield 46, 3) := by decide +kernel
theorem dX9_prepare_8 : decode cX9_prepare 8 = .ok (.aload_n 0, 1) := by decide +kernel
theorem dX9_prepare_9 : decode cX9_prepare 9 = .ok (.iconst 2, 1) := by decide +kernel
theorem dX9_prepare_10 : decode cX9_prepare 10 = .ok (.aload_n 0, 1) := by decide +kernel
theorem dX9_prepare_11 : decode cX9_prepare 11 = .ok (.getfield 46, 3) := by decide +kernel
theorem dX9_prepare_14 : decode cX9_prepare 14 = .ok (.imul, 1) := by decide +kernel
theorem dX9_prepare_15 : decode cX9_prepare 15 = .ok (.putfield 47, 3) := by decide +kernel
theorem dX9_prepare_18 : decode cX9_prepare 18 = .ok (.aload_n 0, 1) := by decide +kernel
theorem dX9_prepare_19 : decode cX9_prepare 19 = .ok (.getfield 9, 3) := by decide +kernel
theorem dX9_prepare_22 : decode cX9_prepare 22 = .ok (.lconst 0, 1) := by decide +kernel
theorem dX9_prepare_23 : decode cX9_prepare 23 = .ok (.invokestatic 50, 3) := by decide +kernel
theorem dX9_prepare_26 : decode cX9_prepare 26 = .ok (.iconst 0, 1) := by decide +kernel
theorem dX9_prepare_27 : decode cX9_prepare 27 = .ok (.istore_n 3, 1) := by decide +kernel
theorem dX9_prepare_28 : decode cX9_prepare 28 = .ok (.iload_n 3, 1) := by decide +kernel
theorem dX9_prepare_29 : decode cX9_prepare 29 = .ok (.aload_n 0, 1) := by decide +kernel
theorem dX9_prepare_30 : decode cX9_prepare 30 = .ok (.getfield 46, 3) := by decide +kernel
theorem dX9_prepare_33 : decode cX9_prepare 33 = .ok (.if_icmp .ge 88, 3) := by decide +kernel
theorem dX9_prepare_36 : decode cX9_prepare 36 = .ok (.aload_n 0, 1) := by decide +kernel
theorem dX9_prepare_37 : decode cX9_prepare 37 = .ok (.getfield 21, 3) := by decide +kernel
theorem dX9_prepare_40 : decode cX9_prepare 40 = .ok (.iload_n 3, 1) := by decide +kernel
theorem dX9_prepare_41 : decode cX9_prepare 41 = .ok (.aload_n 2, 1) := by decide +kernel
theorem dX9_prepare_42 : decode cX9_prepare 42 = .ok (.iload_n 3, 1) := by decide +kernel
theorem dX9_prepare_43 : decode cX9_prepare 43 = .ok (.invokevirtual 56, 3) := by decide +kernel
theorem dX9_prepare_46 : decode cX9_prepare 46 = .ok (.lastore, 1) := by decide +kernel
theorem dX9_prepare_47 : decode cX9_prepare 47 = .ok (.aload_n 0, 1) := by decide +kernel
theorem dX9_prepare_48 : decode cX9_prepare 48 = .ok (.getfield 18, 3) := by decide +kernel
theorem dX9_prepare_51 : decode cX9_prepare 51 = .ok (.iload_n 3, 1) := by decide +kernel
theorem dX9_prepare_52 : decode cX9_prepare 52 = .ok (.aload_n 1, 1) := by decide +kernel
theorem dX9_prepare_53 : decode cX9_prepare 53 = .ok (.getfield 60, 3) := by decide +kernel
theorem dX9_prepare_56 : decode cX9_prepare 56 = .ok (.iconst 3, 1) := by decide +kernel
theorem dX9_prepare_57 : decode cX9_prepare 57 = .ok (.if_icmp .ne 11, 3) := by decide +kernel
theorem dX9_prepare_60 : decode cX9_prepare 60 = .ok (.aload_n 2, 1) := by decide +kernel
theorem dX9_prepare_61 : decode cX9_prepare 61 = .ok (.iload_n 3, 1) := by decide +kernel
theorem dX9_prepare_62 : decode cX9_prepare 62 = .ok (.invokevirtual 65, 3) := by decide +kernel
theorem dX9_prepare_65 : decode cX9_prepare 65 = .ok (.goto 6, 3) := by decide +kernel
theorem dX9_prepare_68 : decode cX9_prepare 68 = .ok (.ldc2_w 68, 3) := by decide +kernel
theorem dX9_prepare_71 : decode cX9_prepare 71 = .ok (.lastore, 1) := by decide +kernel
theorem dX9_prepare_72 : decode cX9_prepare 72 = .ok (.iconst 0, 1) := by decide +kernel
theorem dX9_prepare_73 : decode cX9_prepare 73 = .ok (.istore 4, 2) := by decide +kernel
theorem dX9_prepare_75 : decode cX9_prepare 75 = .ok (.iload 4, 2) := by decide +kernel
theorem dX9_prepare_77 : decode cX9_prepare 77 = .ok (.aload_n 0, 1) := by decide +kernel
theorem dX9_prepare_78 : decode cX9_prepare 78 = .ok (.getfield 46, 3) := by decide +kernel
theorem dX9_prepare_81 : decode cX9_prepare 81 = .ok (.if_icmp .ge 34, 3) := by decide +kernel
theorem dX9_prepare_84 : decode cX9_prepare 84 = .ok (.iload_n 3, 1) := by decide +kernel
theorem dX9_prepare_85 : decode cX9_prepare 85 = .ok (.iload 4, 2) := by decide +kernel
theorem dX9_prepare_87 : decode cX9_prepare 87 = .ok (.if_icmp .eq 22, 3) := by decide +kernel
theorem dX9_prepare_90 : decode cX9_prepare 90 = .ok (.aload_n 0, 1) := by decide +kernel
theorem dX9_prepare_91 : decode cX9_prepare 91 = .ok (.getfield 9, 3) := by decide +kernel
theorem dX9_prepare_94 : decode cX9_prepare 94 = .ok (.iload_n 3, 1) := by decide +kernel
theorem dX9_prepare_95 : decode cX9_prepare 95 = .ok (.iload 4, 2) := by decide +kernel
theorem dX9_prepare_97 : decode cX9_prepare 97 = .ok (.invokestatic 70, 3) := by decide +kernel
theorem dX9_prepare_100 : decode cX9_prepare 100 = .ok (.aload_n 1, 1) := by decide +kernel
theorem dX9_prepare_101 : decode cX9_prepare 101 = .ok (.aload_n 2, 1) := by decide +kernel
theorem dX9_prepare_102 : decode cX9_prepare 102 = .ok (.iload_n 3, 1) := by decide +kernel
theorem dX9_prepare_103 : decode cX9_prepare 103 = .ok (.iload 4, 2) := by decide +kernel
theorem dX9_prepare_105 : decode cX9_prepare 105 = .ok (.invokestatic 74, 3) := by decide +kernel
theorem dX9_prepare_108 : decode cX9_prepare 108 = .ok (.lastore, 1) := by decide +kernel
theorem dX9_prepare_109 : decode cX9_prepare 109 = .ok (.iinc 4 1, 3) := by decide +kernel
theorem dX9_prepare_112 : decode cX9_prepare 112 = .ok (.goto (-37), 3) := by decide +kernel
theorem dX9_prepare_115 : decode cX9_prepare 115 = .ok (.iinc 3 1, 3) := by decide +kernel
theorem dX9_prepare_118 : decode cX9_prepare 118 = .ok (.goto (-90), 3) := by decide +kernel
theorem dX9_prepare_121 : decode cX9_prepare 121 = .ok (.return_, 1) := by decide +kernel
theorem dX9_price_0 : decode cX9_price 0 = .ok (.iconst 0, 1) := by decide +kernel
theorem dX9_price_1 : decode cX9_price 1 = .ok (.istore_n 3, 1) := by decide +kernel
theorem dX9_price_2 : decode cX9_price 2 = .ok (.iload_n 1, 1) := by decide +kernel
theorem dX9_price_3 : decode cX9_price 3 = .ok (.iconst 1, 1) := by decide +kernel
theorem dX9_price_4 : decode cX9_price 4 = .ok (.ishr, 1) := by decide +kernel
theorem dX9_price_5 : decode cX9_price 5 = .ok (.iload_n 2, 1) := by decide +kernel
theorem dX9_price_6 : decode cX9_price 6 = .ok (.iconst 1, 1) := by decide +kernel
theorem dX9_price_7 : decode cX9_price 7 = .ok (.ishr, 1) := by decide +kernel
theorem dX9_price_8 : decode cX9_price 8 = .ok (.if_icmp .eq 16, 3) := by decide +kernel
theorem dX9_price_11 : decode cX9_price 11 = .ok (.iload_n 1, 1) := by decide +kernel
theorem dX9_price_12 : decode cX9_price 12 = .ok (.iconst 1, 1) := by decide +kernel
theorem dX9_price_13 : decode cX9_price 13 = .ok (.iand, 1) := by decide +kernel
theorem dX9_price_14 : decode cX9_price 14 = .ok (.iconst 1, 1) := by decide +kernel
theorem dX9_price_15 : decode cX9_price 15 = .ok (.if_icmp .ne 7, 3) := by decide +kernel
theorem dX9_price_18 : decode cX9_price 18 = .ok (.iconst 1, 1) := by decide +kernel
theorem dX9_price_19 : decode cX9_price 19 = .ok (.goto 4, 3) := by decide +kernel
theorem dX9_price_22 : decode cX9_price 22 = .ok (.iconst (-1), 1) := by decide +kernel
theorem dX9_price_23 : decode cX9_price 23 = .ok (.istore_n 3, 1) := by decide +kernel
theorem dX9_price_24 : decode cX9_price 24 = .ok (.iload_n 3, 1) := by decide +kernel
theorem dX9_price_25 : decode cX9_price 25 = .ok (.aload_n 0, 1) := by decide +kernel
theorem dX9_price_26 : decode cX9_price 26 = .ok (.getfield 27, 3) := by decide +kernel
theorem dX9_price_29 : decode cX9_price 29 = .ok (.iload_n 1, 1) := by decide +kernel
theorem dX9_price_30 : decode cX9_price 30 = .ok (.iaload, 1) := by decide +kernel
theorem dX9_price_31 : decode cX9_price 31 = .ok (.iadd, 1) := by decide +kernel
theorem dX9_price_32 : decode cX9_price 32 = .ok (.aload_n 0, 1) := by decide +kernel
theorem dX9_price_33 : decode cX9_price 33 = .ok (.getfield 27, 3) := by decide +kernel
theorem dX9_price_36 : decode cX9_price 36 = .ok (.iload_n 2, 1) := by decide +kernel
theorem dX9_price_37 : decode cX9_price 37 = .ok (.iaload, 1) := by decide +kernel
theorem dX9_price_38 : decode cX9_price 38 = .ok (.isub, 1) := by decide +kernel
theorem dX9_price_39 : decode cX9_price 39 = .ok (.ireturn, 1) := by decide +kernel
theorem dX9_search_0 : decode cX9_search 0 = .ok (.iconst 0, 1) := by decide +kernel
theorem dX9_search_1 : decode cX9_search 1 = .ok (.istore_n 1, 1) := by decide +kernel
theorem dX9_search_2 : decode cX9_search 2 = .ok (.iconst 0, 1) := by decide +kernel
theorem dX9_search_3 : decode cX9_search 3 = .ok (.istore_n 2, 1) := by decide +kernel
theorem dX9_search_4 : decode cX9_search 4 = .ok (.iload_n 2, 1) := by decide +kernel
theorem dX9_search_5 : decode cX9_search 5 = .ok (.aload_n 0, 1) := by decide +kernel
theorem dX9_search_6 : decode cX9_search 6 = .ok (.getfield 47, 3) := by decide +kernel
theorem dX9_search_9 : decode cX9_search 9 = .ok (.if_icmp .ge 45, 3) := by decide +kernel
theorem dX9_search_12 : decode cX9_search 12 = .ok (.aload_n 0, 1) := by decide +kernel
theorem dX9_search_13 : decode cX9_search 13 = .ok (.getfield 34, 3) := by decide +kernel
theorem dX9_search_16 : decode cX9_search 16 = .ok (.iload_n 2, 1) := by decide +kernel
theorem dX9_search_17 : decode cX9_search 17 = .ok (.bipush (-2), 2) := by decide +kernel
theorem dX9_search_19 : decode cX9_search 19 = .ok (.iastore, 1) := by decide +kernel
theorem dX9_search_20 : decode cX9_search 20 = .ok (.aload_n 0, 1) := by decide +kernel
theorem dX9_search_21 : decode cX9_search 21 = .ok (.getfield 31, 3) := by decide +kernel
theorem dX9_search_24 : decode cX9_search 24 = .ok (.iload_n 2, 1) := by decide +kernel
theorem dX9_search_25 : decode cX9_search 25 = .ok (.laload, 1) := by decide +kernel
theorem dX9_search_26 : decode cX9_search 26 = .ok (.lconst 0, 1) := by decide +kernel
theorem dX9_search_27 : decode cX9_search 27 = .ok (.lcmp, 1) := by decide +kernel
theorem dX9_search_28 : decode cX9_search 28 = .ok (.ifCond .le 20, 3) := by decide +kernel
theorem dX9_search_31 : decode cX9_search 31 = .ok (.aload_n 0, 1) := by decide +kernel
theorem dX9_search_32 : decode cX9_search 32 = .ok (.getfield 34, 3) := by decide +kernel
theorem dX9_search_35 : decode cX9_search 35 = .ok (.iload_n 2, 1) := by decide +kernel
theorem dX9_search_36 : decode cX9_search 36 = .ok (.iconst (-1), 1) := by decide +kernel
theorem dX9_search_37 : decode cX9_search 37 = .ok (.iastore, 1) := by decide +kernel
theorem dX9_search_38 : decode cX9_search 38 = .ok (.aload_n 0, 1) := by decide +kernel
theorem dX9_search_39 : decode cX9_search 39 = .ok (.getfield 37, 3) := by decide +kernel
theorem dX9_search_42 : decode cX9_search 42 = .ok (.iload_n 1, 1) := by decide +kernel
theorem dX9_search_43 : decode cX9_search 43 = .ok (.iload_n 2, 1) := by decide +kernel
theorem dX9_search_44 : decode cX9_search 44 = .ok (.iastore, 1) := by decide +kernel
theorem dX9_search_45 : decode cX9_search 45 = .ok (.iinc 1 1, 3) := by decide +kernel
theorem dX9_search_48 : decode cX9_search 48 = .ok (.iinc 2 1, 3) := by decide +kernel
theorem dX9_search_51 : decode cX9_search 51 = .ok (.goto (-47), 3) := by decide +kernel
theorem dX9_search_54 : decode cX9_search 54 = .ok (.iconst 0, 1) := by decide +kernel
theorem dX9_search_55 : decode cX9_search 55 = .ok (.istore_n 2, 1) := by decide +kernel
theorem dX9_search_56 : decode cX9_search 56 = .ok (.iload_n 2, 1) := by decide +kernel
theorem dX9_search_57 : decode cX9_search 57 = .ok (.iload_n 1, 1) := by decide +kernel
theorem dX9_search_58 : decode cX9_search 58 = .ok (.if_icmp .ge 122, 3) := by decide +kernel
theorem dX9_search_61 : decode cX9_search 61 = .ok (.iload_n 2, 1) := by decide +kernel
theorem dX9_search_62 : decode cX9_search 62 = .ok (.bipush 16, 2) := by decide +kernel
theorem dX9_search_64 : decode cX9_search 64 = .ok (.if_icmp .ge 116, 3) := by decide +kernel
theorem dX9_search_67 : decode cX9_search 67 = .ok (.aload_n 0, 1) := by decide +kernel
theorem dX9_search_68 : decode cX9_search 68 = .ok (.getfield 37, 3) := by decide +kernel
theorem dX9_search_71 : decode cX9_search 71 = .ok (.iload_n 2, 1) := by decide +kernel
theorem dX9_search_72 : decode cX9_search 72 = .ok (.iaload, 1) := by decide +kernel
theorem dX9_search_73 : decode cX9_search 73 = .ok (.istore_n 3, 1) := by decide +kernel
theorem dX9_search_74 : decode cX9_search 74 = .ok (.iconst 1, 1) := by decide +kernel
theorem dX9_search_75 : decode cX9_search 75 = .ok (.iload_n 3, 1) := by decide +kernel
theorem dX9_search_76 : decode cX9_search 76 = .ok (.iconst 1, 1) := by decide +kernel
theorem dX9_search_77 : decode cX9_search 77 = .ok (.iand, 1) := by decide +kernel
theorem dX9_search_78 : decode cX9_search 78 = .ok (.isub, 1) := by decide +kernel
theorem dX9_search_79 : decode cX9_search 79 = .ok (.istore 4, 2) := by decide +kernel
theorem dX9_search_81 : decode cX9_search 81 = .ok (.iload 4, 2) := by decide +kernel
theorem dX9_search_83 : decode cX9_search 83 = .ok (.aload_n 0, 1) := by decide +kernel
theorem dX9_search_84 : decode cX9_search 84 = .ok (.getfield 47, 3) := by decide +kernel
theorem dX9_search_87 : decode cX9_search 87 = .ok (.if_icmp .ge 87, 3) := by decide +kernel
theorem dX9_search_90 : decode cX9_search 90 = .ok (.iload_n 1, 1) := by decide +kernel
theorem dX9_search_91 : decode cX9_search 91 = .ok (.bipush 16, 2) := by decide +kernel
theorem dX9_search_93 : decode cX9_search 93 = .ok (.if_icmp .ge 75, 3) := by decide +kernel
theorem dX9_search_96 : decode cX9_search 96 = .ok (.aload_n 0, 1) := by decide +kernel
theorem dX9_search_97 : decode cX9_search 97 = .ok (.getfield 34, 3) := by decide +kernel
theorem dX9_search_100 : decode cX9_search 100 = .ok (.iload 4, 2) := by decide +kernel
theorem dX9_search_102 : decode cX9_search 102 = .ok (.iaload, 1) := by decide +kernel
theorem dX9_search_103 : decode cX9_search 103 = .ok (.bipush (-2), 2) := by decide +kernel
theorem dX9_search_105 : decode cX9_search 105 = .ok (.if_icmp .ne 63, 3) := by decide +kernel
theorem dX9_search_108 : decode cX9_search 108 = .ok (.aload_n 0, 1) := by decide +kernel
theorem dX9_search_109 : decode cX9_search 109 = .ok (.getfield 24, 3) := by decide +kernel
theorem dX9_search_112 : decode cX9_search 112 = .ok (.iload_n 3, 1) := by decide +kernel
theorem dX9_search_113 : decode cX9_search 113 = .ok (.iload 4, 2) := by decide +kernel
theorem dX9_search_115 : decode cX9_search 115 = .ok (.invokestatic 88, 3) := by decide +kernel
theorem dX9_search_118 : decode cX9_search 118 = .ok (.laload, 1) := by decide +kernel
theorem dX9_search_119 : decode cX9_search 119 = .ok (.lconst 0, 1) := by decide +kernel
theorem dX9_search_120 : decode cX9_search 120 = .ok (.lcmp, 1) := by decide +kernel
theorem dX9_search_121 : decode cX9_search 121 = .ok (.ifCond .le 47, 3) := by decide +kernel
theorem dX9_search_124 : decode cX9_search 124 = .ok (.aload_n 0, 1) := by decide +kernel
theorem dX9_search_125 : decode cX9_search 125 = .ok (.iload_n 3, 1) := by decide +kernel
theorem dX9_search_126 : decode cX9_search 126 = .ok (.iload 4, 2) := by decide +kernel
theorem dX9_search_128 : decode cX9_search 128 = .ok (.invokevirtual 132, 3) := by decide +kernel
theorem dX9_search_131 : decode cX9_search 131 = .ok (.ifCond .ne 37, 3) := by decide +kernel
theorem dX9_search_134 : decode cX9_search 134 = .ok (.aload_n 0, 1) := by decide +kernel
theorem dX9_search_135 : decode cX9_search 135 = .ok (.getfield 34, 3) := by decide +kernel
theorem dX9_search_138 : decode cX9_search 138 = .ok (.iload 4, 2) := by decide +kernel
theorem dX9_search_140 : decode cX9_search 140 = .ok (.iload_n 3, 1) := by decide +kernel
theorem dX9_search_141 : decode cX9_search 141 = .ok (.iastore, 1) := by decide +kernel
theorem dX9_search_142 : decode cX9_search 142 = .ok (.aload_n 0, 1) := by decide +kernel
theorem dX9_search_143 : decode cX9_search 143 = .ok (.getfield 31, 3) := by decide +kernel
theorem dX9_search_146 : decode cX9_search 146 = .ok (.iload 4, 2) := by decide +kernel
theorem dX9_search_148 : decode cX9_search 148 = .ok (.laload, 1) := by decide +kernel
theorem dX9_search_149 : decode cX9_search 149 = .ok (.lconst 0, 1) := by decide +kernel
theorem dX9_search_150 : decode cX9_search 150 = .ok (.lcmp, 1) := by decide +kernel
theorem dX9_search_151 : decode cX9_search 151 = .ok (.ifCond .ge 6, 3) := by decide +kernel
theorem dX9_search_154 : decode cX9_search 154 = .ok (.iload 4, 2) := by decide +kernel
theorem dX9_search_156 : decode cX9_search 156 = .ok (.ireturn, 1) := by decide +kernel
theorem dX9_search_157 : decode cX9_search 157 = .ok (.aload_n 0, 1) := by decide +kernel
theorem dX9_search_158 : decode cX9_search 158 = .ok (.getfield 37, 3) := by decide +kernel
theorem dX9_search_161 : decode cX9_search 161 = .ok (.iload_n 1, 1) := by decide +kernel
theorem dX9_search_162 : decode cX9_search 162 = .ok (.iload 4, 2) := by decide +kernel
theorem dX9_search_164 : decode cX9_search 164 = .ok (.iastore, 1) := by decide +kernel
theorem dX9_search_165 : decode cX9_search 165 = .ok (.iinc 1 1, 3) := by decide +kernel
theorem dX9_search_168 : decode cX9_search 168 = .ok (.iinc 4 2, 3) := by decide +kernel
theorem dX9_search_171 : decode cX9_search 171 = .ok (.goto (-90), 3) := by decide +kernel
theorem dX9_search_174 : decode cX9_search 174 = .ok (.iinc 2 1, 3) := by decide +kernel
theorem dX9_search_177 : decode cX9_search 177 = .ok (.goto (-121), 3) := by decide +kernel
theorem dX9_search_180 : decode cX9_search 180 = .ok (.iconst (-1), 1) := by decide +kernel
theorem dX9_search_181 : decode cX9_search 181 = .ok (.ireturn, 1) := by decide +kernel
theorem dX9_ship_0 : decode cX9_ship 0 = .ok (.iconst 0, 1) := by decide +kernel
theorem dX9_ship_1 : decode cX9_ship 1 = .ok (.istore_n 2, 1) := by decide +kernel
theorem dX9_ship_2 : decode cX9_ship 2 = .ok (.iload_n 2, 1) := by decide +kernel
theorem dX9_ship_3 : decode cX9_ship 3 = .ok (.ldc 139, 2) := by decide +kernel
theorem dX9_ship_5 : decode cX9_ship 5 = .ok (.if_icmp .ge 39, 3) := by decide +kernel
theorem dX9_ship_8 : decode cX9_ship 8 = .ok (.aload_n 0, 1) := by decide +kernel
theorem dX9_ship_9 : decode cX9_ship 9 = .ok (.invokevirtual 140, 3) := by decide +kernel
theorem dX9_ship_12 : decode cX9_ship 12 = .ok (.istore_n 3, 1) := by decide +kernel
theorem dX9_ship_13 : decode cX9_ship 13 = .ok (.iload_n 3, 1) := by decide +kernel
theorem dX9_ship_14 : decode cX9_ship 14 = .ok (.iconst (-1), 1) := by decide +kernel
theorem dX9_ship_15 : decode cX9_ship 15 = .ok (.if_icmp .eq 11, 3) := by decide +kernel
theorem dX9_ship_18 : decode cX9_ship 18 = .ok (.aload_n 0, 1) := by decide +kernel
theorem dX9_ship_19 : decode cX9_ship 19 = .ok (.iload_n 3, 1) := by decide +kernel
theorem dX9_ship_20 : decode cX9_ship 20 = .ok (.invokevirtual 144, 3) := by decide +kernel
theorem dX9_ship_23 : decode cX9_ship 23 = .ok (.goto 15, 3) := by decide +kernel
theorem dX9_ship_26 : decode cX9_ship 26 = .ok (.iload_n 1, 1) := by decide +kernel
theorem dX9_ship_27 : decode cX9_ship 27 = .ok (.ifCond .eq 10, 3) := by decide +kernel
theorem dX9_ship_30 : decode cX9_ship 30 = .ok (.aload_n 0, 1) := by decide +kernel
theorem dX9_ship_31 : decode cX9_ship 31 = .ok (.invokevirtual 148, 3) := by decide +kernel
theorem dX9_ship_34 : decode cX9_ship 34 = .ok (.ifCond .ne 4, 3) := by decide +kernel
theorem dX9_ship_37 : decode cX9_ship 37 = .ok (.return_, 1) := by decide +kernel
theorem dX9_ship_38 : decode cX9_ship 38 = .ok (.iinc 2 1, 3) := by decide +kernel
theorem dX9_ship_41 : decode cX9_ship 41 = .ok (.goto (-39), 3) := by decide +kernel
theorem dX9_ship_44 : decode cX9_ship 44 = .ok (.return_, 1) := by decide +kernel
theorem dX9_shutFarthest_0 : decode cX9_shutFarthest 0 = .ok (.iload_n 1, 1) := by decide +kernel
theorem dX9_shutFarthest_1 : decode cX9_shutFarthest 1 = .ok (.invokestatic 85, 3) := by decide +kernel
theorem dX9_shutFarthest_4 : decode cX9_shutFarthest 4 = .ok (.istore 4, 2) := by decide +kernel
theorem dX9_shutFarthest_6 : decode cX9_shutFarthest 6 = .ok (.iload_n 2, 1) := by decide +kernel
theorem dX9_shutFarthest_7 : decode cX9_shutFarthest 7 = .ok (.invokestatic 81, 3) := by decide +kernel
theorem dX9_shutFarthest_10 : decode cX9_shutFarthest 10 = .ok (.istore 5, 2) := by decide +kernel
theorem dX9_shutFarthest_12 : decode cX9_shutFarthest 12 = .ok (.aload_n 0, 1) := by decide +kernel
theorem dX9_shutFarthest_13 : decode cX9_shutFarthest 13 = .ok (.getfield 24, 3) := by decide +kernel
theorem dX9_shutFarthest_16 : decode cX9_shutFarthest 16 = .ok (.iload 5, 2) := by decide +kernel
theorem dX9_shutFarthest_18 : decode cX9_shutFarthest 18 = .ok (.iload 4, 2) := by decide +kernel
theorem dX9_shutFarthest_20 : decode cX9_shutFarthest 20 = .ok (.invokestatic 88, 3) := by decide +kernel
theorem dX9_shutFarthest_23 : decode cX9_shutFarthest 23 = .ok (.laload, 1) := by decide +kernel
theorem dX9_shutFarthest_24 : decode cX9_shutFarthest 24 = .ok (.lstore 6, 2) := by decide +kernel
theorem dX9_shutFarthest_26 : decode cX9_shutFarthest 26 = .ok (.aload_n 0, 1) := by decide +kernel
theorem dX9_shutFarthest_27 : decode cX9_shutFarthest 27 = .ok (.getfield 24, 3) := by decide +kernel
theorem dX9_shutFarthest_30 : decode cX9_shutFarthest 30 = .ok (.iload 4, 2) := by decide +kernel
theorem dX9_shutFarthest_32 : decode cX9_shutFarthest 32 = .ok (.iload 5, 2) := by decide +kernel
theorem dX9_shutFarthest_34 : decode cX9_shutFarthest 34 = .ok (.invokestatic 88, 3) := by decide +kernel
theorem dX9_shutFarthest_37 : decode cX9_shutFarthest 37 = .ok (.laload, 1) := by decide +kernel
theorem dX9_shutFarthest_38 : decode cX9_shutFarthest 38 = .ok (.lstore 8, 2) := by decide +kernel
theorem dX9_shutFarthest_40 : decode cX9_shutFarthest 40 = .ok (.aload_n 0, 1) := by decide +kernel
theorem dX9_shutFarthest_41 : decode cX9_shutFarthest 41 = .ok (.getfield 24, 3) := by decide +kernel
theorem dX9_shutFarthest_44 : decode cX9_shutFarthest 44 = .ok (.iload 5, 2) := by decide +kernel
theorem dX9_shutFarthest_46 : decode cX9_shutFarthest 46 = .ok (.iload 4, 2) := by decide +kernel
theorem dX9_shutFarthest_48 : decode cX9_shutFarthest 48 = .ok (.invokestatic 88, 3) := by decide +kernel
theorem dX9_shutFarthest_51 : decode cX9_shutFarthest 51 = .ok (.lconst 0, 1) := by decide +kernel
theorem dX9_shutFarthest_52 : decode cX9_shutFarthest 52 = .ok (.lastore, 1) := by decide +kernel
theorem dX9_shutFarthest_53 : decode cX9_shutFarthest 53 = .ok (.aload_n 0, 1) := by decide +kernel
theorem dX9_shutFarthest_54 : decode cX9_shutFarthest 54 = .ok (.getfield 24, 3) := by decide +kernel
theorem dX9_shutFarthest_57 : decode cX9_shutFarthest 57 = .ok (.iload 4, 2) := by decide +kernel
theorem dX9_shutFarthest_59 : decode cX9_shutFarthest 59 = .ok (.iload 5, 2) := by decide +kernel
theorem dX9_shutFarthest_61 : decode cX9_shutFarthest 61 = .ok (.invokestatic 88, 3) := by decide +kernel
theorem dX9_shutFarthest_64 : decode cX9_shutFarthest 64 = .ok (.lconst 0, 1) := by decide +kernel
theorem dX9_shutFarthest_65 : decode cX9_shutFarthest 65 = .ok (.lastore, 1) := by decide +kernel
theorem dX9_shutFarthest_66 : decode cX9_shutFarthest 66 = .ok (.aload_n 0, 1) := by decide +kernel
theorem dX9_shutFarthest_67 : decode cX9_shutFarthest 67 = .ok (.iload 4, 2) := by decide +kernel
theorem dX9_shutFarthest_69 : decode cX9_shutFarthest 69 = .ok (.iload 5, 2) := by decide +kernel
theorem dX9_shutFarthest_71 : decode cX9_shutFarthest 71 = .ok (.invokevirtual 132, 3) := by decide +kernel
theorem dX9_shutFarthest_74 : decode cX9_shutFarthest 74 = .ok (.ifCond .eq 6, 3) := by decide +kernel
theorem dX9_shutFarthest_77 : decode cX9_shutFarthest 77 = .ok (.lload 6, 2) := by decide +kernel
theorem dX9_shutFarthest_79 : decode cX9_shutFarthest 79 = .ok (.lreturn, 1) := by decide +kernel
theorem dX9_shutFarthest_80 : decode cX9_shutFarthest 80 = .ok (.iload_n 3, 1) := by decide +kernel
theorem dX9_shutFarthest_81 : decode cX9_shutFarthest 81 = .ok (.ifCond .eq 19, 3) := by decide +kernel
theorem dX9_shutFarthest_84 : decode cX9_shutFarthest 84 = .ok (.lload 6, 2) := by decide +kernel
theorem dX9_shutFarthest_86 : decode cX9_shutFarthest 86 = .ok (.aload_n 0, 1) := by decide +kernel
theorem dX9_shutFarthest_87 : decode cX9_shutFarthest 87 = .ok (.iload 5, 2) := by decide +kernel
theorem dX9_shutFarthest_89 : decode cX9_shutFarthest 89 = .ok (.iload 4, 2) := by decide +kernel
theorem dX9_shutFarthest_91 : decode cX9_shutFarthest 91 = .ok (.lload 8, 2) := by decide +kernel
theorem dX9_shutFarthest_93 : decode cX9_shutFarthest 93 = .ok (.invokevirtual 135, 3) := by decide +kernel
theorem dX9_shutFarthest_96 : decode cX9_shutFarthest 96 = .ok (.ladd, 1) := by decide +kernel
theorem dX9_shutFarthest_97 : decode cX9_shutFarthest 97 = .ok (.goto 16, 3) := by decide +kernel
theorem dX9_shutFarthest_100 : decode cX9_shutFarthest 100 = .ok (.lload 6, 2) := by decide +kernel
theorem dX9_shutFarthest_102 : decode cX9_shutFarthest 102 = .ok (.aload_n 0, 1) := by decide +kernel
theorem dX9_shutFarthest_103 : decode cX9_shutFarthest 103 = .ok (.iload 4, 2) := by decide +kernel
theorem dX9_shutFarthest_105 : decode cX9_shutFarthest 105 = .ok (.iload 5, 2) := by decide +kernel
theorem dX9_shutFarthest_107 : decode cX9_shutFarthest 107 = .ok (.lload 6, 2) := by decide +kernel
theorem dX9_shutFarthest_109 : decode cX9_shutFarthest 109 = .ok (.invokevirtual 135, 3) := by decide +kernel
theorem dX9_shutFarthest_112 : decode cX9_shutFarthest 112 = .ok (.lsub, 1) := by decide +kernel
theorem dX9_shutFarthest_113 : decode cX9_shutFarthest 113 = .ok (.lreturn, 1) := by decide +kernel
theorem dX9_solve_0 : decode cX9_solve 0 = .ok (.aload_n 0, 1) := by decide +kernel
theorem dX9_solve_1 : decode cX9_solve 1 = .ok (.getfield 24, 3) := by decide +kernel
theorem dX9_solve_4 : decode cX9_solve 4 = .ok (.lconst 0, 1) := by decide +kernel
theorem dX9_solve_5 : decode cX9_solve 5 = .ok (.invokestatic 50, 3) := by decide +kernel
theorem dX9_solve_8 : decode cX9_solve 8 = .ok (.aload_n 0, 1) := by decide +kernel
theorem dX9_solve_9 : decode cX9_solve 9 = .ok (.getfield 27, 3) := by decide +kernel
theorem dX9_solve_12 : decode cX9_solve 12 = .ok (.iconst 0, 1) := by decide +kernel
theorem dX9_solve_13 : decode cX9_solve 13 = .ok (.invokestatic 78, 3) := by decide +kernel
theorem dX9_solve_16 : decode cX9_solve 16 = .ok (.aload_n 0, 1) := by decide +kernel
theorem dX9_solve_17 : decode cX9_solve 17 = .ok (.getfield 31, 3) := by decide +kernel
theorem dX9_solve_20 : decode cX9_solve 20 = .ok (.lconst 0, 1) := by decide +kernel
theorem dX9_solve_21 : decode cX9_solve 21 = .ok (.invokestatic 50, 3) := by decide +kernel
theorem dX9_solve_24 : decode cX9_solve 24 = .ok (.iconst 0, 1) := by decide +kernel
theorem dX9_solve_25 : decode cX9_solve 25 = .ok (.istore_n 1, 1) := by decide +kernel
theorem dX9_solve_26 : decode cX9_solve 26 = .ok (.iload_n 1, 1) := by decide +kernel
theorem dX9_solve_27 : decode cX9_solve 27 = .ok (.aload_n 0, 1) := by decide +kernel
theorem dX9_solve_28 : decode cX9_solve 28 = .ok (.getfield 46, 3) := by decide +kernel
theorem dX9_solve_31 : decode cX9_solve 31 = .ok (.if_icmp .ge 97, 3) := by decide +kernel
theorem dX9_solve_34 : decode cX9_solve 34 = .ok (.aload_n 0, 1) := by decide +kernel
theorem dX9_solve_35 : decode cX9_solve 35 = .ok (.getfield 24, 3) := by decide +kernel
theorem dX9_solve_38 : decode cX9_solve 38 = .ok (.iload_n 1, 1) := by decide +kernel
theorem dX9_solve_39 : decode cX9_solve 39 = .ok (.invokestatic 81, 3) := by decide +kernel
theorem dX9_solve_42 : decode cX9_solve 42 = .ok (.iload_n 1, 1) := by decide +kernel
theorem dX9_solve_43 : decode cX9_solve 43 = .ok (.invokestatic 85, 3) := by decide +kernel
theorem dX9_solve_46 : decode cX9_solve 46 = .ok (.invokestatic 88, 3) := by decide +kernel
theorem dX9_solve_49 : decode cX9_solve 49 = .ok (.aload_n 0, 1) := by decide +kernel
theorem dX9_solve_50 : decode cX9_solve 50 = .ok (.getfield 18, 3) := by decide +kernel
theorem dX9_solve_53 : decode cX9_solve 53 = .ok (.iload_n 1, 1) := by decide +kernel
theorem dX9_solve_54 : decode cX9_solve 54 = .ok (.laload, 1) := by decide +kernel
theorem dX9_solve_55 : decode cX9_solve 55 = .ok (.lastore, 1) := by decide +kernel
theorem dX9_solve_56 : decode cX9_solve 56 = .ok (.aload_n 0, 1) := by decide +kernel
theorem dX9_solve_57 : decode cX9_solve 57 = .ok (.getfield 31, 3) := by decide +kernel
theorem dX9_solve_60 : decode cX9_solve 60 = .ok (.iload_n 1, 1) := by decide +kernel
theorem dX9_solve_61 : decode cX9_solve 61 = .ok (.invokestatic 85, 3) := by decide +kernel
theorem dX9_solve_64 : decode cX9_solve 64 = .ok (.lconst 0, 1) := by decide +kernel
theorem dX9_solve_65 : decode cX9_solve 65 = .ok (.aload_n 0, 1) := by decide +kernel
theorem dX9_solve_66 : decode cX9_solve 66 = .ok (.getfield 21, 3) := by decide +kernel
theorem dX9_solve_69 : decode cX9_solve 69 = .ok (.iload_n 1, 1) := by decide +kernel
theorem dX9_solve_70 : decode cX9_solve 70 = .ok (.laload, 1) := by decide +kernel
theorem dX9_solve_71 : decode cX9_solve 71 = .ok (.invokestatic 91, 3) := by decide +kernel
theorem dX9_solve_74 : decode cX9_solve 74 = .ok (.lastore, 1) := by decide +kernel
theorem dX9_solve_75 : decode cX9_solve 75 = .ok (.aload_n 0, 1) := by decide +kernel
theorem dX9_solve_76 : decode cX9_solve 76 = .ok (.getfield 31, 3) := by decide +kernel
theorem dX9_solve_79 : decode cX9_solve 79 = .ok (.iload_n 1, 1) := by decide +kernel
theorem dX9_solve_80 : decode cX9_solve 80 = .ok (.invokestatic 81, 3) := by decide +kernel
theorem dX9_solve_83 : decode cX9_solve 83 = .ok (.lconst 0, 1) := by decide +kernel
theorem dX9_solve_84 : decode cX9_solve 84 = .ok (.aload_n 0, 1) := by decide +kernel
theorem dX9_solve_85 : decode cX9_solve 85 = .ok (.getfield 21, 3) := by decide +kernel
theorem dX9_solve_88 : decode cX9_solve 88 = .ok (.iload_n 1, 1) := by decide +kernel
theorem dX9_solve_89 : decode cX9_solve 89 = .ok (.laload, 1) := by decide +kernel
theorem dX9_solve_90 : decode cX9_solve 90 = .ok (.invokestatic 97, 3) := by decide +kernel
theorem dX9_solve_93 : decode cX9_solve 93 = .ok (.lastore, 1) := by decide +kernel
theorem dX9_solve_94 : decode cX9_solve 94 = .ok (.iconst 0, 1) := by decide +kernel
theorem dX9_solve_95 : decode cX9_solve 95 = .ok (.istore_n 2, 1) := by decide +kernel
theorem dX9_solve_96 : decode cX9_solve 96 = .ok (.iload_n 2, 1) := by decide +kernel
theorem dX9_solve_97 : decode cX9_solve 97 = .ok (.aload_n 0, 1) := by decide +kernel
theorem dX9_solve_98 : decode cX9_solve 98 = .ok (.getfield 46, 3) := by decide +kernel
theorem dX9_solve_101 : decode cX9_solve 101 = .ok (.if_icmp .ge 21, 3) := by decide +kernel
theorem dX9_solve_104 : decode cX9_solve 104 = .ok (.iload_n 1, 1) := by decide +kernel
theorem dX9_solve_105 : decode cX9_solve 105 = .ok (.iload_n 2, 1) := by decide +kernel
theorem dX9_solve_106 : decode cX9_solve 106 = .ok (.if_icmp .eq 10, 3) := by decide +kernel
theorem dX9_solve_109 : decode cX9_solve 109 = .ok (.aload_n 0, 1) := by decide +kernel
theorem dX9_solve_110 : decode cX9_solve 110 = .ok (.iload_n 1, 1) := by decide +kernel
theorem dX9_solve_111 : decode cX9_solve 111 = .ok (.iload_n 2, 1) := by decide +kernel
theorem dX9_solve_112 : decode cX9_solve 112 = .ok (.lconst 0, 1) := by decide +kernel
theorem dX9_solve_113 : decode cX9_solve 113 = .ok (.invokevirtual 100, 3) := by decide +kernel
theorem dX9_solve_116 : decode cX9_solve 116 = .ok (.iinc 2 1, 3) := by decide +kernel
theorem dX9_solve_119 : decode cX9_solve 119 = .ok (.goto (-23), 3) := by decide +kernel
theorem dX9_solve_122 : decode cX9_solve 122 = .ok (.iinc 1 1, 3) := by decide +kernel
theorem dX9_solve_125 : decode cX9_solve 125 = .ok (.goto (-99), 3) := by decide +kernel
theorem dX9_solve_128 : decode cX9_solve 128 = .ok (.aload_n 0, 1) := by decide +kernel
theorem dX9_solve_129 : decode cX9_solve 129 = .ok (.iconst 1, 1) := by decide +kernel
theorem dX9_solve_130 : decode cX9_solve 130 = .ok (.invokevirtual 104, 3) := by decide +kernel
theorem dX9_solve_133 : decode cX9_solve 133 = .ok (.aload_n 0, 1) := by decide +kernel
theorem dX9_solve_134 : decode cX9_solve 134 = .ok (.aload_n 0, 1) := by decide +kernel
theorem dX9_solve_135 : decode cX9_solve 135 = .ok (.invokevirtual 108, 3) := by decide +kernel
theorem dX9_solve_138 : decode cX9_solve 138 = .ok (.putfield 112, 3) := by decide +kernel
theorem dX9_solve_141 : decode cX9_solve 141 = .ok (.aload_n 0, 1) := by decide +kernel
theorem dX9_solve_142 : decode cX9_solve 142 = .ok (.aload_n 0, 1) := by decide +kernel
theorem dX9_solve_143 : decode cX9_solve 143 = .ok (.invokevirtual 116, 3) := by decide +kernel
theorem dX9_solve_146 : decode cX9_solve 146 = .ok (.putfield 120, 3) := by decide +kernel
theorem dX9_solve_149 : decode cX9_solve 149 = .ok (.return_, 1) := by decide +kernel
theorem dX9_step_0 : decode cX9_step 0 = .ok (.iload_n 0, 1) := by decide +kernel
theorem dX9_step_1 : decode cX9_step 1 = .ok (.bipush 16, 2) := by decide +kernel
theorem dX9_step_3 : decode cX9_step 3 = .ok (.imul, 1) := by decide +kernel
theorem dX9_step_4 : decode cX9_step 4 = .ok (.iload_n 1, 1) := by decide +kernel
theorem dX9_step_5 : decode cX9_step 5 = .ok (.iadd, 1) := by decide +kernel
theorem dX9_step_6 : decode cX9_step 6 = .ok (.ireturn, 1) := by decide +kernel
