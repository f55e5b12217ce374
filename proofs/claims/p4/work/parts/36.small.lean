theorem w1451 : (.methodLink RX12 288 yX12_throughBy : Cond) ∈ TB := mTB (List.mem_of_getElem? (i := 1451) (by decide +kernel)) (by decide +kernel)
theorem w1452 : (.static yX12_throughBy : Cond) ∈ TB := mTB (List.mem_of_getElem? (i := 1452) (by decide +kernel)) (by decide +kernel)
theorem w1453 : (.code yX12_throughBy cX12_throughBy 5 (some .int) : Cond) ∈ TB := mTB (List.mem_of_getElem? (i := 1453) (by decide +kernel)) (by decide +kernel)
theorem w1454 : (.constant RX12 292 2000000000 : Cond) ∈ TB := mTB (List.mem_of_getElem? (i := 1454) (by decide +kernel)) (by decide +kernel)
theorem w1555 : (.methodLink RX12 339 yX12_sumBy : Cond) ∈ TB := mTB (List.mem_of_getElem? (i := 1555) (by decide +kernel)) (by decide +kernel)
theorem w1557 : (.instanceMethod yX12_sumBy : Cond) ∈ TB := mTB (List.mem_of_getElem? (i := 1557) (by decide +kernel)) (by decide +kernel)
theorem w1558 : (.code yX12_sumBy cX12_sumBy 4 (some .int) : Cond) ∈ TB := mTB (List.mem_of_getElem? (i := 1558) (by decide +kernel)) (by decide +kernel)
theorem ws106 : (.selects RX12 yX12_sumBy yX12_sumBy : Cond) ∈ TB := mSel (y := yX12_sumBy) (n := 32) (List.mem_of_getElem? (i := 106) (by decide +kernel)) (by decide +kernel)
theorem dX12_even_0 : decode cX12_even 0 = .ok (.aload_n 0, 1) := by decide +kernel
theorem dX12_even_1 : decode cX12_even 1 = .ok (.iconst 0, 1) := by decide +kernel
theorem dX12_even_2 : decode cX12_even 2 = .ok (.putfield 1, 3) := by decide +kernel
theorem dX12_even_5 : decode cX12_even 5 = .ok (.aload_n 0, 1) := by decide +kernel
theorem dX12_even_6 : decode cX12_even 6 = .ok (.iload_n 2, 1) := by decide +kernel
theorem dX12_even_7 : decode cX12_even 7 = .ok (.invokevirtual 205, 3) := by decide +kernel
theorem dX12_even_10 : decode cX12_even 10 = .ok (.ifCond .eq 21, 3) := by decide +kernel
theorem dX12_even_13 : decode cX12_even 13 = .ok (.iload_n 1, 1) := by decide +kernel
theorem dX12_even_14 : decode cX12_even 14 = .ok (.i2l, 1) := by decide +kernel
theorem dX12_even_15 : decode cX12_even 15 = .ok (.lconst 0, 1) := by decide +kernel
theorem dX12_even_16 : decode cX12_even 16 = .ok (.iconst 1, 1) := by decide +kernel
theorem dX12_even_17 : decode cX12_even 17 = .ok (.aload_n 0, 1) := by decide +kernel
theorem dX12_even_18 : decode cX12_even 18 = .ok (.getfield 80, 3) := by decide +kernel
theorem dX12_even_21 : decode cX12_even 21 = .ok (.ishl, 1) := by decide +kernel
theorem dX12_even_22 : decode cX12_even 22 = .ok (.iconst 1, 1) := by decide +kernel
theorem dX12_even_23 : decode cX12_even 23 = .ok (.isub, 1) := by decide +kernel
theorem dX12_even_24 : decode cX12_even 24 = .ok (.i2l, 1) := by decide +kernel
theorem dX12_even_25 : decode cX12_even 25 = .ok (.invokestatic 103, 3) := by decide +kernel
theorem dX12_even_28 : decode cX12_even 28 = .ok (.ifCond .ne 6, 3) := by decide +kernel
theorem dX12_even_31 : decode cX12_even 31 = .ok (.bipush (-2), 2) := by decide +kernel
theorem dX12_even_33 : decode cX12_even 33 = .ok (.ireturn, 1) := by decide +kernel
theorem dX12_even_34 : decode cX12_even 34 = .ok (.iload_n 1, 1) := by decide +kernel
theorem dX12_even_35 : decode cX12_even 35 = .ok (.invokestatic 247, 3) := by decide +kernel
theorem dX12_even_38 : decode cX12_even 38 = .ok (.iconst 2, 1) := by decide +kernel
theorem dX12_even_39 : decode cX12_even 39 = .ok (.if_icmp .ge 6, 3) := by decide +kernel
theorem dX12_even_42 : decode cX12_even 42 = .ok (.bipush (-3), 2) := by decide +kernel
theorem dX12_even_44 : decode cX12_even 44 = .ok (.ireturn, 1) := by decide +kernel
theorem dX12_even_45 : decode cX12_even 45 = .ok (.aload_n 0, 1) := by decide +kernel
theorem dX12_even_46 : decode cX12_even 46 = .ok (.iload_n 2, 1) := by decide +kernel
theorem dX12_even_47 : decode cX12_even 47 = .ok (.iconst (-1), 1) := by decide +kernel
theorem dX12_even_48 : decode cX12_even 48 = .ok (.invokevirtual 234, 3) := by decide +kernel
theorem dX12_even_51 : decode cX12_even 51 = .ok (.aload_n 0, 1) := by decide +kernel
theorem dX12_even_52 : decode cX12_even 52 = .ok (.iload_n 1, 1) := by decide +kernel
theorem dX12_even_53 : decode cX12_even 53 = .ok (.invokevirtual 339, 3) := by decide +kernel
theorem dX12_even_56 : decode cX12_even 56 = .ok (.ifCond .ne 7, 3) := by decide +kernel
theorem dX12_even_59 : decode cX12_even 59 = .ok (.iconst 1, 1) := by decide +kernel
theorem dX12_even_60 : decode cX12_even 60 = .ok (.goto 4, 3) := by decide +kernel
theorem dX12_even_63 : decode cX12_even 63 = .ok (.iconst 0, 1) := by decide +kernel
theorem dX12_even_64 : decode cX12_even 64 = .ok (.ireturn, 1) := by decide +kernel
theorem dX12_laysBounds_0 : decode cX12_laysBounds 0 = .ok (.aload_n 0, 1) := by decide +kernel
theorem dX12_laysBounds_1 : decode cX12_laysBounds 1 = .ok (.iload_n 1, 1) := by decide +kernel
theorem dX12_laysBounds_2 : decode cX12_laysBounds 2 = .ok (.iload_n 2, 1) := by decide +kernel
theorem dX12_laysBounds_3 : decode cX12_laysBounds 3 = .ok (.invokevirtual 234, 3) := by decide +kernel
theorem dX12_laysBounds_6 : decode cX12_laysBounds 6 = .ok (.iconst 0, 1) := by decide +kernel
theorem dX12_laysBounds_7 : decode cX12_laysBounds 7 = .ok (.istore_n 3, 1) := by decide +kernel
theorem dX12_laysBounds_8 : decode cX12_laysBounds 8 = .ok (.iload_n 3, 1) := by decide +kernel
theorem dX12_laysBounds_9 : decode cX12_laysBounds 9 = .ok (.bipush 8, 2) := by decide +kernel
theorem dX12_laysBounds_11 : decode cX12_laysBounds 11 = .ok (.if_icmp .ge 124, 3) := by decide +kernel
theorem dX12_laysBounds_14 : decode cX12_laysBounds 14 = .ok (.aload_n 0, 1) := by decide +kernel
theorem dX12_laysBounds_15 : decode cX12_laysBounds 15 = .ok (.getfield 52, 3) := by decide +kernel
theorem dX12_laysBounds_18 : decode cX12_laysBounds 18 = .ok (.iload_n 3, 1) := by decide +kernel
theorem dX12_laysBounds_19 : decode cX12_laysBounds 19 = .ok (.aload_n 0, 1) := by decide +kernel
theorem dX12_laysBounds_20 : decode cX12_laysBounds 20 = .ok (.getfield 13, 3) := by decide +kernel
theorem dX12_laysBounds_23 : decode cX12_laysBounds 23 = .ok (.iconst 1, 1) := by decide +kernel
theorem dX12_laysBounds_24 : decode cX12_laysBounds 24 = .ok (.iaload, 1) := by decide +kernel
theorem dX12_laysBounds_25 : decode cX12_laysBounds 25 = .ok (.iconst 3, 1) := by decide +kernel
theorem dX12_laysBounds_26 : decode cX12_laysBounds 26 = .ok (.if_icmp .ne 14, 3) := by decide +kernel
theorem dX12_laysBounds_29 : decode cX12_laysBounds 29 = .ok (.aload_n 0, 1) := by decide +kernel
theorem dX12_laysBounds_30 : decode cX12_laysBounds 30 = .ok (.getfield 37, 3) := by decide +kernel
theorem dX12_laysBounds_33 : decode cX12_laysBounds 33 = .ok (.iload_n 3, 1) := by decide +kernel
theorem dX12_laysBounds_34 : decode cX12_laysBounds 34 = .ok (.invokestatic 288, 3) := by decide +kernel
theorem dX12_laysBounds_37 : decode cX12_laysBounds 37 = .ok (.goto 6, 3) := by decide +kernel
theorem dX12_laysBounds_40 : decode cX12_laysBounds 40 = .ok (.ldc_w 292, 3) := by decide +kernel
theorem dX12_laysBounds_43 : decode cX12_laysBounds 43 = .ok (.iastore, 1) := by decide +kernel
theorem dX12_laysBounds_44 : decode cX12_laysBounds 44 = .ok (.iconst 0, 1) := by decide +kernel
theorem dX12_laysBounds_45 : decode cX12_laysBounds 45 = .ok (.istore 4, 2) := by decide +kernel
theorem dX12_laysBounds_47 : decode cX12_laysBounds 47 = .ok (.iload 4, 2) := by decide +kernel
theorem dX12_laysBounds_49 : decode cX12_laysBounds 49 = .ok (.bipush 8, 2) := by decide +kernel
theorem dX12_laysBounds_51 : decode cX12_laysBounds 51 = .ok (.if_icmp .ge 78, 3) := by decide +kernel
theorem dX12_laysBounds_54 : decode cX12_laysBounds 54 = .ok (.iload_n 3, 1) := by decide +kernel
theorem dX12_laysBounds_55 : decode cX12_laysBounds 55 = .ok (.iload 4, 2) := by decide +kernel
theorem dX12_laysBounds_57 : decode cX12_laysBounds 57 = .ok (.if_icmp .eq 24, 3) := by decide +kernel
theorem dX12_laysBounds_60 : decode cX12_laysBounds 60 = .ok (.iload_n 3, 1) := by decide +kernel
theorem dX12_laysBounds_61 : decode cX12_laysBounds 61 = .ok (.aload_n 0, 1) := by decide +kernel
theorem dX12_laysBounds_62 : decode cX12_laysBounds 62 = .ok (.getfield 80, 3) := by decide +kernel
theorem dX12_laysBounds_65 : decode cX12_laysBounds 65 = .ok (.if_icmp .ge 16, 3) := by decide +kernel
theorem dX12_laysBounds_68 : decode cX12_laysBounds 68 = .ok (.iload 4, 2) := by decide +kernel
theorem dX12_laysBounds_70 : decode cX12_laysBounds 70 = .ok (.aload_n 0, 1) := by decide +kernel
theorem dX12_laysBounds_71 : decode cX12_laysBounds 71 = .ok (.getfield 80, 3) := by decide +kernel
theorem dX12_laysBounds_74 : decode cX12_laysBounds 74 = .ok (.if_icmp .ge 7, 3) := by decide +kernel
theorem dX12_laysBounds_77 : decode cX12_laysBounds 77 = .ok (.iconst 1, 1) := by decide +kernel
theorem dX12_laysBounds_78 : decode cX12_laysBounds 78 = .ok (.goto 4, 3) := by decide +kernel
theorem dX12_laysBounds_81 : decode cX12_laysBounds 81 = .ok (.iconst 0, 1) := by decide +kernel
theorem dX12_laysBounds_82 : decode cX12_laysBounds 82 = .ok (.istore 5, 2) := by decide +kernel
theorem dX12_laysBounds_84 : decode cX12_laysBounds 84 = .ok (.aload_n 0, 1) := by decide +kernel
theorem dX12_laysBounds_85 : decode cX12_laysBounds 85 = .ok (.getfield 46, 3) := by decide +kernel
theorem dX12_laysBounds_88 : decode cX12_laysBounds 88 = .ok (.iload_n 3, 1) := by decide +kernel
theorem dX12_laysBounds_89 : decode cX12_laysBounds 89 = .ok (.iload 4, 2) := by decide +kernel
theorem dX12_laysBounds_91 : decode cX12_laysBounds 91 = .ok (.invokestatic 229, 3) := by decide +kernel
theorem dX12_laysBounds_94 : decode cX12_laysBounds 94 = .ok (.iload 5, 2) := by decide +kernel
theorem dX12_laysBounds_96 : decode cX12_laysBounds 96 = .ok (.ifCond .eq 13, 3) := by decide +kernel
theorem dX12_laysBounds_99 : decode cX12_laysBounds 99 = .ok (.aload_n 0, 1) := by decide +kernel
theorem dX12_laysBounds_100 : decode cX12_laysBounds 100 = .ok (.iload_n 3, 1) := by decide +kernel
theorem dX12_laysBounds_101 : decode cX12_laysBounds 101 = .ok (.iload 4, 2) := by decide +kernel
theorem dX12_laysBounds_103 : decode cX12_laysBounds 103 = .ok (.invokevirtual 258, 3) := by decide +kernel
theorem dX12_laysBounds_106 : decode cX12_laysBounds 106 = .ok (.goto 4, 3) := by decide +kernel
theorem dX12_laysBounds_109 : decode cX12_laysBounds 109 = .ok (.iconst 0, 1) := by decide +kernel
theorem dX12_laysBounds_110 : decode cX12_laysBounds 110 = .ok (.iastore, 1) := by decide +kernel
theorem dX12_laysBounds_111 : decode cX12_laysBounds 111 = .ok (.aload_n 0, 1) := by decide +kernel
theorem dX12_laysBounds_112 : decode cX12_laysBounds 112 = .ok (.getfield 61, 3) := by decide +kernel
theorem dX12_laysBounds_115 : decode cX12_laysBounds 115 = .ok (.iload_n 3, 1) := by decide +kernel
theorem dX12_laysBounds_116 : decode cX12_laysBounds 116 = .ok (.iload 4, 2) := by decide +kernel
theorem dX12_laysBounds_118 : decode cX12_laysBounds 118 = .ok (.invokestatic 229, 3) := by decide +kernel
theorem dX12_laysBounds_121 : decode cX12_laysBounds 121 = .ok (.iconst 0, 1) := by decide +kernel
theorem dX12_laysBounds_122 : decode cX12_laysBounds 122 = .ok (.bastore, 1) := by decide +kernel
theorem dX12_laysBounds_123 : decode cX12_laysBounds 123 = .ok (.iinc 4 1, 3) := by decide +kernel
theorem dX12_laysBounds_126 : decode cX12_laysBounds 126 = .ok (.goto (-79), 3) := by decide +kernel
theorem dX12_laysBounds_129 : decode cX12_laysBounds 129 = .ok (.iinc 3 1, 3) := by decide +kernel
theorem dX12_laysBounds_132 : decode cX12_laysBounds 132 = .ok (.goto (-124), 3) := by decide +kernel
theorem dX12_laysBounds_135 : decode cX12_laysBounds 135 = .ok (.return_, 1) := by decide +kernel
theorem dX12_reliefOf_0 : decode cX12_reliefOf 0 = .ok (.ldc 237, 2) := by decide +kernel
theorem dX12_reliefOf_2 : decode cX12_reliefOf 2 = .ok (.istore_n 2, 1) := by decide +kernel
theorem dX12_reliefOf_3 : decode cX12_reliefOf 3 = .ok (.iconst 0, 1) := by decide +kernel
theorem dX12_reliefOf_4 : decode cX12_reliefOf 4 = .ok (.istore_n 3, 1) := by decide +kernel
theorem dX12_reliefOf_5 : decode cX12_reliefOf 5 = .ok (.iload_n 3, 1) := by decide +kernel
theorem dX12_reliefOf_6 : decode cX12_reliefOf 6 = .ok (.aload_n 0, 1) := by decide +kernel
theorem dX12_reliefOf_7 : decode cX12_reliefOf 7 = .ok (.getfield 80, 3) := by decide +kernel
theorem dX12_reliefOf_10 : decode cX12_reliefOf 10 = .ok (.if_icmp .ge 55, 3) := by decide +kernel
theorem dX12_reliefOf_13 : decode cX12_reliefOf 13 = .ok (.iload_n 2, 1) := by decide +kernel
theorem dX12_reliefOf_14 : decode cX12_reliefOf 14 = .ok (.aload_n 0, 1) := by decide +kernel
theorem dX12_reliefOf_15 : decode cX12_reliefOf 15 = .ok (.getfield 37, 3) := by decide +kernel
theorem dX12_reliefOf_18 : decode cX12_reliefOf 18 = .ok (.iload_n 1, 1) := by decide +kernel
theorem dX12_reliefOf_19 : decode cX12_reliefOf 19 = .ok (.iload_n 3, 1) := by decide +kernel
theorem dX12_reliefOf_20 : decode cX12_reliefOf 20 = .ok (.invokestatic 229, 3) := by decide +kernel
theorem dX12_reliefOf_23 : decode cX12_reliefOf 23 = .ok (.iaload, 1) := by decide +kernel
theorem dX12_reliefOf_24 : decode cX12_reliefOf 24 = .ok (.aload_n 0, 1) := by decide +kernel
theorem dX12_reliefOf_25 : decode cX12_reliefOf 25 = .ok (.getfield 37, 3) := by decide +kernel
theorem dX12_reliefOf_28 : decode cX12_reliefOf 28 = .ok (.iload_n 3, 1) := by decide +kernel
theorem dX12_reliefOf_29 : decode cX12_reliefOf 29 = .ok (.iload_n 1, 1) := by decide +kernel
theorem dX12_reliefOf_30 : decode cX12_reliefOf 30 = .ok (.invokestatic 229, 3) := by decide +kernel
theorem dX12_reliefOf_33 : decode cX12_reliefOf 33 = .ok (.iaload, 1) := by decide +kernel
theorem dX12_reliefOf_34 : decode cX12_reliefOf 34 = .ok (.iadd, 1) := by decide +kernel
theorem dX12_reliefOf_35 : decode cX12_reliefOf 35 = .ok (.aload_n 0, 1) := by decide +kernel
theorem dX12_reliefOf_36 : decode cX12_reliefOf 36 = .ok (.getfield 49, 3) := by decide +kernel
theorem dX12_reliefOf_39 : decode cX12_reliefOf 39 = .ok (.iload_n 1, 1) := by decide +kernel
theorem dX12_reliefOf_40 : decode cX12_reliefOf 40 = .ok (.iload_n 3, 1) := by decide +kernel
theorem dX12_reliefOf_41 : decode cX12_reliefOf 41 = .ok (.invokestatic 229, 3) := by decide +kernel
theorem dX12_reliefOf_44 : decode cX12_reliefOf 44 = .ok (.iaload, 1) := by decide +kernel
theorem dX12_reliefOf_45 : decode cX12_reliefOf 45 = .ok (.isub, 1) := by decide +kernel
theorem dX12_reliefOf_46 : decode cX12_reliefOf 46 = .ok (.aload_n 0, 1) := by decide +kernel
theorem dX12_reliefOf_47 : decode cX12_reliefOf 47 = .ok (.getfield 49, 3) := by decide +kernel
theorem dX12_reliefOf_50 : decode cX12_reliefOf 50 = .ok (.iload_n 3, 1) := by decide +kernel
theorem dX12_reliefOf_51 : decode cX12_reliefOf 51 = .ok (.iload_n 1, 1) := by decide +kernel
theorem dX12_reliefOf_52 : decode cX12_reliefOf 52 = .ok (.invokestatic 229, 3) := by decide +kernel
theorem dX12_reliefOf_55 : decode cX12_reliefOf 55 = .ok (.iaload, 1) := by decide +kernel
theorem dX12_reliefOf_56 : decode cX12_reliefOf 56 = .ok (.isub, 1) := by decide +kernel
theorem dX12_reliefOf_57 : decode cX12_reliefOf 57 = .ok (.iadd, 1) := by decide +kernel
theorem dX12_reliefOf_58 : decode cX12_reliefOf 58 = .ok (.istore_n 2, 1) := by decide +kernel
theorem dX12_reliefOf_59 : decode cX12_reliefOf 59 = .ok (.iinc 3 1, 3) := by decide +kernel
theorem dX12_reliefOf_62 : decode cX12_reliefOf 62 = .ok (.goto (-57), 3) := by decide +kernel
theorem dX12_reliefOf_65 : decode cX12_reliefOf 65 = .ok (.iload_n 2, 1) := by decide +kernel
theorem dX12_reliefOf_66 : decode cX12_reliefOf 66 = .ok (.ireturn, 1) := by decide +kernel
theorem dX12_sumBy_0 : decode cX12_sumBy 0 = .ok (.iconst 0, 1) := by decide +kernel
theorem dX12_sumBy_1 : decode cX12_sumBy 1 = .ok (.istore_n 2, 1) := by decide +kernel
theorem dX12_sumBy_2 : decode cX12_sumBy 2 = .ok (.iconst 0, 1) := by decide +kernel
theorem dX12_sumBy_3 : decode cX12_sumBy 3 = .ok (.istore_n 3, 1) := by decide +kernel
theorem dX12_sumBy_4 : decode cX12_sumBy 4 = .ok (.iload_n 3, 1) := by decide +kernel
theorem dX12_sumBy_5 : decode cX12_sumBy 5 = .ok (.aload_n 0, 1) := by decide +kernel
theorem dX12_sumBy_6 : decode cX12_sumBy 6 = .ok (.getfield 80, 3) := by decide +kernel
theorem dX12_sumBy_9 : decode cX12_sumBy 9 = .ok (.if_icmp .ge 30, 3) := by decide +kernel
theorem dX12_sumBy_12 : decode cX12_sumBy 12 = .ok (.iload_n 2, 1) := by decide +kernel
theorem dX12_sumBy_13 : decode cX12_sumBy 13 = .ok (.iload_n 1, 1) := by decide +kernel
theorem dX12_sumBy_14 : decode cX12_sumBy 14 = .ok (.iload_n 3, 1) := by decide +kernel
theorem dX12_sumBy_15 : decode cX12_sumBy 15 = .ok (.ishr, 1) := by decide +kernel
theorem dX12_sumBy_16 : decode cX12_sumBy 16 = .ok (.iconst 1, 1) := by decide +kernel
theorem dX12_sumBy_17 : decode cX12_sumBy 17 = .ok (.iand, 1) := by decide +kernel
theorem dX12_sumBy_18 : decode cX12_sumBy 18 = .ok (.iconst 1, 1) := by decide +kernel
theorem dX12_sumBy_19 : decode cX12_sumBy 19 = .ok (.if_icmp .ne 11, 3) := by decide +kernel
theorem dX12_sumBy_22 : decode cX12_sumBy 22 = .ok (.aload_n 0, 1) := by decide +kernel
theorem dX12_sumBy_23 : decode cX12_sumBy 23 = .ok (.iload_n 3, 1) := by decide +kernel
theorem dX12_sumBy_24 : decode cX12_sumBy 24 = .ok (.invokevirtual 238, 3) := by decide +kernel
theorem dX12_sumBy_27 : decode cX12_sumBy 27 = .ok (.goto 4, 3) := by decide +kernel
theorem dX12_sumBy_30 : decode cX12_sumBy 30 = .ok (.iconst 0, 1) := by decide +kernel
theorem dX12_sumBy_31 : decode cX12_sumBy 31 = .ok (.iadd, 1) := by decide +kernel
theorem dX12_sumBy_32 : decode cX12_sumBy 32 = .ok (.istore_n 2, 1) := by decide +kernel
theorem dX12_sumBy_33 : decode cX12_sumBy 33 = .ok (.iinc 3 1, 3) := by decide +kernel
theorem dX12_sumBy_36 : decode cX12_sumBy 36 = .ok (.goto (-32), 3) := by decide +kernel
theorem dX12_sumBy_39 : decode cX12_sumBy 39 = .ok (.iload_n 2, 1) := by decide +kernel
theorem dX12_sumBy_40 : decode cX12_sumBy 40 = .ok (.ireturn, 1) := by decide +kernel
set_option maxHeartbeats 4000000 in
set_option maxRecDepth 100000 in
theorem m_sumBy (l : Launch) (dC : Nat → ClassId) (dI : Nat → Nat → Nat) (cy : Nat → ClassId) (L : List Nat) (kap : Nat → Nat) (pr : Pr) (S : Nat → va_E) (sz : Nat) (o : Nat) (st : Int32) (hTy : Ty cy L kap pr S) (hT_o : TK L kap o 12) : Met l yX12_sumBy (wT yX12_sumBy cX12_sumBy 4 (some .int)) ({ frames := 2, cells := 0, slots := 0, locals := 44 }) (pcN dC dI [.ref o, .int st] sz (va_pl L S) (cyT cy) NLs []) (vp_Si (fun r => True)) 0 0 (fun _ => False) := by
  refine Met.ofW (cc := cX12_sumBy) (maxL := 4) (ret := (some .int)) (by decide) rfl ?_
  intro p e s m args below meth c s₁ B hml hv
  obtain ⟨rfl, hsz, hP, hK, hD0, hN, -⟩ := hv
  have hx := B.exec
  have hb := B.bytes
  have hr := B.returns
  have hT : ∀ wd ∈ TB, wd.before [.ref o, .int st].toArray s = true := fun wd h => atoms_spec (ws := wT yX12_sumBy cX12_sumBy 4 (some .int)) B.pre wd (List.mem_cons_of_mem _ h)
  have hown : s.vm.findClass RX12 = some m.cls := findClass_of_methodNamed B.named
  have hlocks := B.notSynchronized
  subst hsz
  have hW : PW dC dI L (AL L s.heap.size) s.heap S s.heap [] := ⟨hP, pl_self hD0, va_S.rf⟩
  have hFr : Fr kap [] S S := Fr.rf
  have hl := lv_entry ([.ref o, .int st]) (n := 4) (Nat.le_of_ble_eq_true rfl)
  rw [lg_entry_eq]
  generalize (lg_sl ([.ref o, .int st]) ++ List.replicate (4 - (lg_sl ([.ref o, .int st])).length) Slot.unset).toArray = ls at hl ⊢
  have hl : lv_has ls 4 [(0, .ref o), (1, .int st)] := hl
  refine lv_iconst (v := 0) hx hb dX12_sumBy_0 (by decide) ?_
  refine lv_istore_n (lv' := [(2, .int 0), (0, .ref o), (1, .int st)]) hx hb dX12_sumBy_1 rfl hl (by decide) rfl (fun ls hl => ?_)
  refine lv_iconst (v := 0) hx hb dX12_sumBy_2 (by decide) ?_
  refine lv_istore_n (lv' := [(3, .int 0), (2, .int 0), (0, .ref o), (1, .int st)]) hx hb dX12_sumBy_3 rfl hl (by decide) rfl (fun ls hl => ?_)
  have loop : ∀ (fuel : Nat) (i : Nat) (sm : Int32) (ls : Array Slot), 9 - i < fuel → (i ≤ 8) → lv_has ls 4 [(3, .int (nI i)), (2, .int sm), (0, .ref o), (1, .int st)] → W p l e (headSpec (wT yX12_sumBy cX12_sumBy 4 (some .int)) { frames := 2, cells := 0, slots := 0, locals := 44 }).room s m [.ref o, .int st].toArray below meth c s.heap [] 0 0 (MQ below (vp_Si (fun r => True)) [.ref o, .int st].toArray s 0 0 (fun _ => False)) (F0 m 4 ls []) := by
    intro fuel
    induction fuel with
    | zero => intro i sm ls h; exact absurd h (Nat.not_lt_zero _)
    | succ fu4 ih4 =>
      intro i sm ls hm4 hb_i hl
      refine lv_iload_n hx hb dX12_sumBy_4 rfl (lv_at hl 0 rfl) ?_
      refine lv_aload_n hx hb dX12_sumBy_5 rfl (lv_at hl 2 rfl) ?_
      obtain ⟨x_1, x_2, x_3, x_4, x_5, x_6, x_7, x_8, x_9, x_10, x_11, x_12, x_13, x_14, x_15, x_16, x_17, x_18, x_19, x_20, x_21, x_22, x_23, x_24, x_25, x_26, x_27, x_28, x_29, x_30, x_31, hS_o, hT_x_1, hT_x_2, hT_x_3, hT_x_4, hT_x_5, hb_x_6, hb_x_7, hb_x_8, hT_x_10, hb_q2, hb_x_11, hb_x_12, hT_x_17, hT_x_18, hb_x_19, hT_x_20, hT_x_21, hT_x_22, hT_x_23, hT_x_24, hT_x_25, hT_x_26, hT_x_27, hT_x_28, hT_x_29, hT_x_30, hb_x_31⟩ := hTy.k12 hT_o
      have hb_q2 : pr.2 ≤ 900 := hb_q2
      have hS_o : S o = .inr (12, [.ref x_1, .ref x_2, .ref x_3, .ref x_4, .ref x_5, .int (nI x_6), .int (nI x_7), .int (nI x_8), .int x_9, .ref x_10, .int (nI (pr.2)), .int (nI x_11), .int (nI x_12), .int x_13, .int x_14, .int x_15, .int x_16, .ref x_17, .ref x_18, .int (nI x_19), .ref x_20, .ref x_21, .ref x_22, .ref x_23, .ref x_24, .ref x_25, .ref x_26, .ref x_27, .ref x_28, .ref x_29, .ref x_30, .int (nI x_31)]) := hS_o
      refine pl_get (ci := 12) (v := .int (nI x_6)) (C := RX12) (T := TX12) (N := 32) hx hb hT iX12 hown hK hW hT_o.1 hS_o rfl 5 (by decide) w1087 rfl dX12_sumBy_6 ?_
      refine lv_icmp_ge (tgt := 39) hx hb dX12_sumBy_9 (by decide) (fun c_9 => ?_) (fun c_9 => ?_)
      · have c_9 : x_6 ≤ i := (nI_leI (a := x_6) (b := i) (by omega) (by omega)).mp c_9
        refine lv_iload_n hx hb dX12_sumBy_39 rfl (lv_at hl 1 rfl) ?_
        exact W.iret (v := sm) hx hb hr (fun t ht h9 => ⟨sm, rfl, trivial, ht⟩) (fun q h => by cases h) dX12_sumBy_40
      · have c_9 : ¬ (x_6 ≤ i) := fun hh9 => c_9 ((nI_leI (a := x_6) (b := i) (by omega) (by omega)).mpr hh9)
        refine lv_iload_n hx hb dX12_sumBy_12 rfl (lv_at hl 1 rfl) ?_
        refine lv_iload_n hx hb dX12_sumBy_13 rfl (lv_at hl 3 rfl) ?_
        refine lv_iload_n hx hb dX12_sumBy_14 rfl (lv_at hl 0 rfl) ?_
        refine lv_ishr hx hb dX12_sumBy_15 ?_
        refine lv_topi (fun z_32 ez_32 => ?_)
        refine lv_iconst (v := 1) hx hb dX12_sumBy_16 (by decide) ?_
        refine lv_iand hx hb dX12_sumBy_17 ?_
        refine lv_topi (fun z_33 ez_33 => ?_)
        refine lv_iconst (v := 1) hx hb dX12_sumBy_18 (by decide) ?_
        refine lv_icmp_ne (tgt := 30) hx hb dX12_sumBy_19 (by decide) (fun c_19 => ?_) (fun c_19 => ?_)
        · refine lv_iconst (v := 0) hx hb dX12_sumBy_30 (by decide) ?_
          refine lv_iadd hx hb dX12_sumBy_31 ?_
          refine lv_topi (fun z_34 ez_34 => ?_)
          refine lv_istore_n (lv' := [(2, .int z_34), (3, .int (nI i)), (0, .ref o), (1, .int st)]) hx hb dX12_sumBy_32 rfl hl (by decide) rfl (fun ls hl => ?_)
          refine lv_iinc (v := nI (i + 1)) (lv' := [(3, .int (nI (i + 1))), (2, .int z_34), (0, .ref o), (1, .int st)]) hx hb dX12_sumBy_33 hl (k := 1) rfl (nI_add (i) 1) (by decide) rfl (fun ls hl => ?_)
          refine lv_goto (tgt := 4) hx hb dX12_sumBy_36 (by decide) ?_
          exact ih4 (i + 1) z_34 ls (by omega) (by omega) (lv_sub hl [0, 1, 2, 3] rfl)
        · refine lv_aload_n hx hb dX12_sumBy_22 rfl (lv_at hl 2 rfl) ?_
          refine lv_iload_n hx hb dX12_sumBy_23 rfl (lv_at hl 0 rfl) ?_
          refine vp_callSi (va_Run.run (va_runV (As := [.int (nI i)]) (rest := [.int sm]) ⟨hx, hb, hml, hown, hT⟩ (m_netBy l dC dI cy L kap pr S s.heap.size o i hTy hT_o (by omega)) (cwV 1 hT (gV w1356 w1358 ws81 w14 w1359) rfl rfl rfl (by decide +kernel) ⟨(Nat.le_of_ble_eq_true rfl), (Nat.le_of_ble_eq_true rfl)⟩) ⟨pcN.blind, pl_recv hK hW hT_o.1 hS_o rfl, pcN.pre hW.1 hK hW.2.1 hN (fun q h => absurd h List.not_mem_nil)⟩ rfl rfl hl.1 rfl (lv_room (Nat.le_of_ble_eq_true rfl)) dX12_sumBy_24 ⟨(Nat.le_of_ble_eq_true rfl), (Nat.le_of_ble_eq_true rfl)⟩)) (fun r_35 hr_35 => ?_)
          refine lv_goto (tgt := 31) hx hb dX12_sumBy_27 (by decide) ?_
          refine lv_iadd hx hb dX12_sumBy_31 ?_
          refine lv_topi (fun z_36 ez_36 => ?_)
          refine lv_istore_n (lv' := [(2, .int z_36), (3, .int (nI i)), (0, .ref o), (1, .int st)]) hx hb dX12_sumBy_32 rfl hl (by decide) rfl (fun ls hl => ?_)
          refine lv_iinc (v := nI (i + 1)) (lv' := [(3, .int (nI (i + 1))), (2, .int z_36), (0, .ref o), (1, .int st)]) hx hb dX12_sumBy_33 hl (k := 1) rfl (nI_add (i) 1) (by decide) rfl (fun ls hl => ?_)
          refine lv_goto (tgt := 4) hx hb dX12_sumBy_36 (by decide) ?_
          exact ih4 (i + 1) z_36 ls (by omega) (by omega) (lv_sub hl [0, 1, 2, 3] rfl)
  exact loop ((9 - 0) + 1) 0 0 ls (Nat.lt_succ_self _) (by omega) (lv_sub hl [0, 1, 2, 3] rfl)

set_option maxHeartbeats 4000000 in
set_option maxRecDepth 100000 in
theorem m_even (l : Launch) (dC : Nat → ClassId) (dI : Nat → Nat → Nat) (cy : Nat → ClassId) (L : List Nat) (kap : Nat → Nat) (pr : Pr) (S : Nat → va_E) (sz : Nat) (o : Nat) (ps : Int32) (kd : Int32) (hTy : Ty cy L kap pr S) (hT_o : TK L kap o 12) : Met l yX12_even (wT yX12_even cX12_even 3 (some .int)) ({ frames := 3, cells := 0, slots := 0, locals := 67 }) (pcN dC dI [.ref o, .int ps, .int kd] sz (va_pl L S) (cyT cy) NLs []) (va_Qi (fun r S' => Ty cy L kap pr S' ∧ Fr kap [12, 56] S S') (fun S' t => pB dC dI (AL L sz) (va_pl L S') (cyT cy) t) (AL L sz)) 0 0 (AL L sz) := by
  refine Met.ofW (cc := cX12_even) (maxL := 3) (ret := (some .int)) (by decide) rfl ?_
  intro p e s m args below meth c s₁ B hml hv
  obtain ⟨rfl, hsz, hP, hK, hD0, hN, -⟩ := hv
  have hx := B.exec
  have hb := B.bytes
  have hr := B.returns
  have hT : ∀ wd ∈ TB, wd.before [.ref o, .int ps, .int kd].toArray s = true := fun wd h => atoms_spec (ws := wT yX12_even cX12_even 3 (some .int)) B.pre wd (List.mem_cons_of_mem _ h)
  have hown : s.vm.findClass RX12 = some m.cls := findClass_of_methodNamed B.named
  have hlocks := B.notSynchronized
  subst hsz
  have hW : PW dC dI L (AL L s.heap.size) s.heap S s.heap [] := ⟨hP, pl_self hD0, va_S.rf⟩
  have hA0 : ∀ q, q ∈ L → AL L s.heap.size q := fun _ h => Or.inl h
  have hA : ∀ q, s.heap.size ≤ q → AL L s.heap.size q := fun _ h => Or.inr h
  have hFr : Fr kap [12, 56] S S := Fr.rf
  have hl := lv_entry ([.ref o, .int ps, .int kd]) (n := 3) (Nat.le_of_ble_eq_true rfl)
  rw [lg_entry_eq]
  generalize (lg_sl ([.ref o, .int ps, .int kd]) ++ List.replicate (3 - (lg_sl ([.ref o, .int ps, .int kd])).length) Slot.unset).toArray = ls at hl ⊢
  have hl : lv_has ls 3 [(0, .ref o), (1, .int ps), (2, .int kd)] := hl
  refine lv_aload_n hx hb dX12_even_0 rfl (lv_at hl 0 rfl) ?_
  refine lv_iconst (v := 0) hx hb dX12_even_1 (by decide) ?_
  obtain ⟨x_1, x_2, x_3, x_4, x_5, x_6, x_7, x_8, x_9, x_10, x_11, x_12, x_13, x_14, x_15, x_16, x_17, x_18, x_19, x_20, x_21, x_22, x_23, x_24, x_25, x_26, x_27, x_28, x_29, x_30, x_31, hS_o, hT_x_1, hT_x_2, hT_x_3, hT_x_4, hT_x_5, hb_x_6, hb_x_7, hb_x_8, hT_x_10, hb_q2, hb_x_11, hb_x_12, hT_x_17, hT_x_18, hb_x_19, hT_x_20, hT_x_21, hT_x_22, hT_x_23, hT_x_24, hT_x_25, hT_x_26, hT_x_27, hT_x_28, hT_x_29, hT_x_30, hb_x_31⟩ := hTy.k12 hT_o
  have hb_q2 : pr.2 ≤ 900 := hb_q2
  have hS_o : S o = .inr (12, [.ref x_1, .ref x_2, .ref x_3, .ref x_4, .ref x_5, .int (nI x_6), .int (nI x_7), .int (nI x_8), .int x_9, .ref x_10, .int (nI (pr.2)), .int (nI x_11), .int (nI x_12), .int x_13, .int x_14, .int x_15, .int x_16, .ref x_17, .ref x_18, .int (nI x_19), .ref x_20, .ref x_21, .ref x_22, .ref x_23, .ref x_24, .ref x_25, .ref x_26, .ref x_27, .ref x_28, .ref x_29, .ref x_30, .int (nI x_31)]) := hS_o
  refine pl_put (ci := 12) (v := .int 0) (ty := .int) (C := RX12) (T := TX12) (N := 32) (fs' := [.ref x_1, .ref x_2, .ref x_3, .ref x_4, .ref x_5, .int (nI x_6), .int (nI x_7), .int (nI x_8), .int 0, .ref x_10, .int (nI (pr.2)), .int (nI x_11), .int (nI x_12), .int x_13, .int x_14, .int x_15, .int x_16, .ref x_17, .ref x_18, .int (nI x_19), .ref x_20, .ref x_21, .ref x_22, .ref x_23, .ref x_24, .ref x_25, .ref x_26, .ref x_27, .ref x_28, .ref x_29, .ref x_30, .int (nI x_31)]) hx hb hT iX12 tyX12 tyX12_ok nmX12 hown hK hW hT_o.1 hS_o rfl 8 (by decide) w1090 rfl (by decide +kernel) rfl rfl (Nat.le_of_ble_eq_true rfl) rfl dX12_even_2 (fun H locs S_32 e1 hW => ?_)
  have hTy := hTy.u12 e1 hT_o ⟨x_1, x_2, x_3, x_4, x_5, x_6, x_7, x_8, 0, x_10, x_11, x_12, x_13, x_14, x_15, x_16, x_17, x_18, x_19, x_20, x_21, x_22, x_23, x_24, x_25, x_26, x_27, x_28, x_29, x_30, x_31, rfl, hT_x_1, hT_x_2, hT_x_3, hT_x_4, hT_x_5, (by omega), (by omega), (by omega), hT_x_10, (by show pr.2 ≤ 900; omega), (by omega), (by omega), hT_x_17, hT_x_18, (by omega), hT_x_20, hT_x_21, hT_x_22, hT_x_23, hT_x_24, hT_x_25, hT_x_26, hT_x_27, hT_x_28, hT_x_29, hT_x_30, (by omega)⟩
  have hws := (show wrs (.inr (12, [.ref x_1, .ref x_2, .ref x_3, .ref x_4, .ref x_5, .int (nI x_6), .int (nI x_7), .int (nI x_8), .int 0, .ref x_10, .int (nI (pr.2)), .int (nI x_11), .int (nI x_12), .int x_13, .int x_14, .int x_15, .int x_16, .ref x_17, .ref x_18, .int (nI x_19), .ref x_20, .ref x_21, .ref x_22, .ref x_23, .ref x_24, .ref x_25, .ref x_26, .ref x_27, .ref x_28, .ref x_29, .ref x_30, .int (nI x_31)])) = wrs (S o) from by rw [hS_o]; rfl)
  have hFr := ufs hFr e1 hT_o (by decide) hws
  have hS_o := us e1
  refine lv_aload_n hx hb dX12_even_5 rfl (lv_at hl 0 rfl) ?_
  refine lv_iload_n hx hb dX12_even_6 rfl (lv_at hl 2 rfl) ?_
  refine vp_callSi (va_Run.run (va_runV (As := [.int kd]) (rest := []) ⟨hx, hb, hml, hown, hT⟩ (m_isKind l dC dI cy L kap pr S_32 H.size o kd hTy hT_o) (cwV 1 hT (gV w1288 w1290 ws74 w14 w1291) rfl rfl rfl (by decide +kernel) ⟨(Nat.le_of_ble_eq_true rfl), (Nat.le_of_ble_eq_true rfl)⟩) ⟨pcN.blind, pl_recv hK hW hT_o.1 hS_o rfl, pcN.pre hW.1 hK hW.2.1 hN (fun q h => absurd h List.not_mem_nil)⟩ rfl rfl hl.1 rfl (lv_room (Nat.le_of_ble_eq_true rfl)) dX12_even_7 ⟨(Nat.le_of_ble_eq_true rfl), (Nat.le_of_ble_eq_true rfl)⟩)) (fun r_33 hr_33 => ?_)
  rcases hr_33 with hc_ | hc_
  · obtain rfl : r_33 = 0 := hc_
    refine lv_if_eq (tgt := 31) hx hb dX12_even_10 (by decide) (fun _ => ?_) (fun h => absurd (by decide) h)
    refine lv_bipush (v := (-2)) hx hb dX12_even_31 (by decide) ?_
    exact W.iret (v := (-2)) hx hb hr (fun t ht h9 => ⟨⟨(-2), S_32, rfl, ⟨hTy, hFr⟩, by rw [ht]; exact hW.1, va_K.moved h9.alike hK, hW.2.1⟩, hW.2.2.F ht⟩) hW.2.2.2.2 dX12_even_33
  · obtain ⟨rfl, k_34, hb_k_34, rfl⟩ := hc_
    refine lv_if_eq (tgt := 31) hx hb dX12_even_10 (by decide) (fun h => absurd h (by decide)) (fun _ => ?_)
    refine lv_iload_n hx hb dX12_even_13 rfl (lv_at hl 1 rfl) ?_
    refine lv_i2l hx hb dX12_even_14 rfl ?_
    refine lv_topl (fun z_35 ez_35 => ?_)
    refine lv_lconst (v := 0) hx hb dX12_even_15 (by decide) ?_
    refine lv_iconst (v := 1) hx hb dX12_even_16 (by decide) ?_
    refine lv_aload_n hx hb dX12_even_17 rfl (lv_at hl 0 rfl) ?_
    refine pl_get (ci := 12) (v := .int (nI x_6)) (C := RX12) (T := TX12) (N := 32) hx hb hT iX12 hown hK hW hT_o.1 hS_o rfl 5 (by decide) w1087 rfl dX12_even_18 ?_
    refine lv_ishl hx hb dX12_even_21 ?_
    refine lv_topi (fun z_36 ez_36 => ?_)
    refine lv_iconst (v := 1) hx hb dX12_even_22 (by decide) ?_
    refine lv_isub hx hb dX12_even_23 ?_
    refine lv_topi (fun z_37 ez_37 => ?_)
    refine lv_i2l hx hb dX12_even_24 rfl ?_
    refine lv_topl (fun z_38 ez_38 => ?_)
    refine vp_callSi (va_Run.run (va_runS (As := [.long z_35, .long 0, .long z_38]) (rest := []) ⟨hx, hb, hml, hown, hT⟩ (m_isIn l dC dI H.size z_35 0 z_38) (va_cwS 3 hT (gS w1187 w1188 w14 w1189) rfl rfl rfl (by decide +kernel) ⟨(Nat.le_of_ble_eq_true rfl), (Nat.le_of_ble_eq_true rfl)⟩) ⟨pcW.blind, pcW.pre (va_P0 _ _ _) (hK.sub (tys' := []) [] rfl) (va_D0 (fun _ => True))⟩ rfl rfl hl.1 rfl (lv_room (Nat.le_of_ble_eq_true rfl)) dX12_even_25 ⟨(Nat.le_of_ble_eq_true rfl), (Nat.le_of_ble_eq_true rfl)⟩)) (fun r_39 hr_39 => ?_)
    rcases isInc hr_39 with hc_ | hc_
    · obtain ⟨rfl, hin_⟩ := hc_
      refine lv_if_ne (tgt := 34) hx hb dX12_even_28 (by decide) (fun _ => ?_) (fun h => absurd h (by decide))
      refine lv_iload_n hx hb dX12_even_34 rfl (lv_at hl 1 rfl) ?_
      refine vp_callSi (va_Run.run (va_runS (As := [.int ps]) (rest := []) ⟨hx, hb, hml, hown, hT⟩ (s_bitCount l dC dI H.size ps) (va_cwS 1 hT (gS w1369 w883 w21 w884) rfl rfl rfl (by decide +kernel) ⟨(Nat.le_of_ble_eq_true rfl), (Nat.le_of_ble_eq_true rfl)⟩) ⟨pcW.blind, pcW.pre (va_P0 _ _ _) (hK.sub (tys' := []) [] rfl) (va_D0 (fun _ => True))⟩ rfl rfl hl.1 rfl (lv_room (Nat.le_of_ble_eq_true rfl)) dX12_even_35 ⟨(Nat.le_of_ble_eq_true rfl), (Nat.le_of_ble_eq_true rfl)⟩)) (fun r_41 hr_41 => ?_)
      refine lv_iconst (v := 2) hx hb dX12_even_38 (by decide) ?_
      refine lv_icmp_ge (tgt := 45) hx hb dX12_even_39 (by decide) (fun c_39 => ?_) (fun c_39 => ?_)
      · refine lv_aload_n hx hb dX12_even_45 rfl (lv_at hl 0 rfl) ?_
        refine lv_iload_n hx hb dX12_even_46 rfl (lv_at hl 2 rfl) ?_
        refine lv_iconst (v := (-1)) hx hb dX12_even_47 (by decide) ?_
        refine pl_callv (va_runV (As := [.int (nI k_34), .int (-1)]) (rest := []) ⟨hx, hb, hml, hown, hT⟩ (m_laysFlows l dC dI cy L kap pr S_32 H.size o (nI k_34) (-1) hTy hT_o) (cwV 2 hT (gV w1336 w1338 ws78 w14 w1339) rfl rfl rfl (by decide +kernel) ⟨(Nat.le_of_ble_eq_true rfl), (Nat.le_of_ble_eq_true rfl)⟩) ⟨pcN.blind, pl_recv hK hW hT_o.1 hS_o rfl, pcN.pre hW.1 hK hW.2.1 hN (fun q h => absurd h List.not_mem_nil)⟩ rfl rfl hl.1 rfl (lv_room (Nat.le_of_ble_eq_true rfl)) dX12_even_48 ⟨(Nat.le_of_ble_eq_true rfl), (Nat.le_of_ble_eq_true rfl)⟩) hW hA0 hA (fun S_42 H locs hrel hW => ?_)
        obtain ⟨hTy, hF1⟩ := hrel
        have hFr := hFr.tr hF1 (by decide)
        have hS_o := hF1.at hT_o (by decide) hS_o
        refine lv_aload_n hx hb dX12_even_51 rfl (lv_at hl 0 rfl) ?_
        refine lv_iload_n hx hb dX12_even_52 rfl (lv_at hl 1 rfl) ?_
        refine vp_callSi (va_Run.run (va_runV (As := [.int ps]) (rest := []) ⟨hx, hb, hml, hown, hT⟩ (m_sumBy l dC dI cy L kap pr S_42 H.size o ps hTy hT_o) (cwV 1 hT (gV w1555 w1557 ws106 w14 w1558) rfl rfl rfl (by decide +kernel) ⟨(Nat.le_of_ble_eq_true rfl), (Nat.le_of_ble_eq_true rfl)⟩) ⟨pcN.blind, pl_recv hK hW hT_o.1 hS_o rfl, pcN.pre hW.1 hK hW.2.1 hN (fun q h => absurd h List.not_mem_nil)⟩ rfl rfl hl.1 rfl (lv_room (Nat.le_of_ble_eq_true rfl)) dX12_even_53 ⟨(Nat.le_of_ble_eq_true rfl), (Nat.le_of_ble_eq_true rfl)⟩)) (fun r_43 hr_43 => ?_)
        refine lv_if_ne (tgt := 63) hx hb dX12_even_56 (by decide) (fun c_56 => ?_) (fun c_56 => ?_)
        · refine lv_iconst (v := 0) hx hb dX12_even_63 (by decide) ?_
          exact W.iret (v := 0) hx hb hr (fun t ht h9 => ⟨⟨0, S_42, rfl, ⟨hTy, hFr⟩, by rw [ht]; exact hW.1, va_K.moved h9.alike hK, hW.2.1⟩, hW.2.2.F ht⟩) hW.2.2.2.2 dX12_even_64
        · refine lv_iconst (v := 1) hx hb dX12_even_59 (by decide) ?_
          refine lv_goto (tgt := 64) hx hb dX12_even_60 (by decide) ?_
          exact W.iret (v := 1) hx hb hr (fun t ht h9 => ⟨⟨1, S_42, rfl, ⟨hTy, hFr⟩, by rw [ht]; exact hW.1, va_K.moved h9.alike hK, hW.2.1⟩, hW.2.2.F ht⟩) hW.2.2.2.2 dX12_even_64
      · refine lv_bipush (v := (-3)) hx hb dX12_even_42 (by decide) ?_
        exact W.iret (v := (-3)) hx hb hr (fun t ht h9 => ⟨⟨(-3), S_32, rfl, ⟨hTy, hFr⟩, by rw [ht]; exact hW.1, va_K.moved h9.alike hK, hW.2.1⟩, hW.2.2.F ht⟩) hW.2.2.2.2 dX12_even_44
    · obtain ⟨rfl, hin_⟩ := hc_
      refine lv_if_ne (tgt := 34) hx hb dX12_even_28 (by decide) (fun h => absurd (by decide) h) (fun _ => ?_)
      refine lv_bipush (v := (-2)) hx hb dX12_even_31 (by decide) ?_
      exact W.iret (v := (-2)) hx hb hr (fun t ht h9 => ⟨⟨(-2), S_32, rfl, ⟨hTy, hFr⟩, by rw [ht]; exact hW.1, va_K.moved h9.alike hK, hW.2.1⟩, hW.2.2.F ht⟩) hW.2.2.2.2 dX12_even_33

set_option maxHeartbeats 4000000 in
set_option maxRecDepth 100000 in
theorem m_laysBounds (l : Launch) (dC : Nat → ClassId) (dI : Nat → Nat → Nat) (cy : Nat → ClassId) (L : List Nat) (kap : Nat → Nat) (pr : Pr) (S : Nat → va_E) (sz : Nat) (o : Nat) (kd : Int32) (wo : Int32) (hTy : Ty cy L kap pr S) (hT_o : TK L kap o 12) : Met l yX12_laysBounds (wT yX12_laysBounds cX12_laysBounds 6 none) ({ frames := 3, cells := 0, slots := 0, locals := 67 }) (pcN dC dI [.ref o, .int kd, .int wo] sz (va_pl L S) (cyT cy) NLs []) (va_Qv (fun S' => Ty cy L kap pr S' ∧ Fr kap [56, 59, 61, 64] S S') (fun S' t => pB dC dI (AL L sz) (va_pl L S') (cyT cy) t) (AL L sz)) 0 0 (AL L sz) := by
  refine Met.ofW (cc := cX12_laysBounds) (maxL := 6) (ret := none) (by decide) rfl ?_
  intro p e s m args below meth c s₁ B hml hv
  obtain ⟨rfl, hsz, hP, hK, hD0, hN, -⟩ := hv
  have hx := B.exec
  have hb := B.bytes
  have hr := B.returns
  have hT : ∀ wd ∈ TB, wd.before [.ref o, .int kd, .int wo].toArray s = true := fun wd h => atoms_spec (ws := wT yX12_laysBounds cX12_laysBounds 6 none) B.pre wd (List.mem_cons_of_mem _ h)
  have hown : s.vm.findClass RX12 = some m.cls := findClass_of_methodNamed B.named
  have hlocks := B.notSynchronized
  subst hsz
  have hW : PW dC dI L (AL L s.heap.size) s.heap S s.heap [] := ⟨hP, pl_self hD0, va_S.rf⟩
  have hA0 : ∀ q, q ∈ L → AL L s.heap.size q := fun _ h => Or.inl h
  have hA : ∀ q, s.heap.size ≤ q → AL L s.heap.size q := fun _ h => Or.inr h
  have hFr : Fr kap [56, 59, 61, 64] S S := Fr.rf
  have hl := lv_entry ([.ref o, .int kd, .int wo]) (n := 6) (Nat.le_of_ble_eq_true rfl)
  rw [lg_entry_eq]
  generalize (lg_sl ([.ref o, .int kd, .int wo]) ++ List.replicate (6 - (lg_sl ([.ref o, .int kd, .int wo])).length) Slot.unset).toArray = ls at hl ⊢
  have hl : lv_has ls 6 [(0, .ref o), (1, .int kd), (2, .int wo)] := hl
  refine lv_aload_n hx hb dX12_laysBounds_0 rfl (lv_at hl 0 rfl) ?_
  refine lv_iload_n hx hb dX12_laysBounds_1 rfl (lv_at hl 1 rfl) ?_
  refine lv_iload_n hx hb dX12_laysBounds_2 rfl (lv_at hl 2 rfl) ?_
  obtain ⟨x_1, x_2, x_3, x_4, x_5, x_6, x_7, x_8, x_9, x_10, x_11, x_12, x_13, x_14, x_15, x_16, x_17, x_18, x_19, x_20, x_21, x_22, x_23, x_24, x_25, x_26, x_27, x_28, x_29, x_30, x_31, hS_o, hT_x_1, hT_x_2, hT_x_3, hT_x_4, hT_x_5, hb_x_6, hb_x_7, hb_x_8, hT_x_10, hb_q2, hb_x_11, hb_x_12, hT_x_17, hT_x_18, hb_x_19, hT_x_20, hT_x_21, hT_x_22, hT_x_23, hT_x_24, hT_x_25, hT_x_26, hT_x_27, hT_x_28, hT_x_29, hT_x_30, hb_x_31⟩ := hTy.k12 hT_o
  have hb_q2 : pr.2 ≤ 900 := hb_q2
  have hS_o : S o = .inr (12, [.ref x_1, .ref x_2, .ref x_3, .ref x_4, .ref x_5, .int (nI x_6), .int (nI x_7), .int (nI x_8), .int x_9, .ref x_10, .int (nI (pr.2)), .int (nI x_11), .int (nI x_12), .int x_13, .int x_14, .int x_15, .int x_16, .ref x_17, .ref x_18, .int (nI x_19), .ref x_20, .ref x_21, .ref x_22, .ref x_23, .ref x_24, .ref x_25, .ref x_26, .ref x_27, .ref x_28, .ref x_29, .ref x_30, .int (nI x_31)]) := hS_o
  refine pl_callv (va_runV (As := [.int kd, .int wo]) (rest := []) ⟨hx, hb, hml, hown, hT⟩ (m_laysFlows l dC dI cy L kap pr S s.heap.size o kd wo hTy hT_o) (cwV 2 hT (gV w1336 w1338 ws78 w14 w1339) rfl rfl rfl (by decide +kernel) ⟨(Nat.le_of_ble_eq_true rfl), (Nat.le_of_ble_eq_true rfl)⟩) ⟨pcN.blind, pl_recv hK hW hT_o.1 hS_o rfl, pcN.pre hW.1 hK hW.2.1 hN (fun q h => absurd h List.not_mem_nil)⟩ rfl rfl hl.1 rfl (lv_room (Nat.le_of_ble_eq_true rfl)) dX12_laysBounds_3 ⟨(Nat.le_of_ble_eq_true rfl), (Nat.le_of_ble_eq_true rfl)⟩) hW hA0 hA (fun S_32 H locs hrel hW => ?_)
  obtain ⟨hTy, hF1⟩ := hrel
  have hFr := hFr.tr hF1 (by decide)
  have hS_o := hF1.at hT_o (by decide) hS_o
  refine lv_iconst (v := 0) hx hb dX12_laysBounds_6 (by decide) ?_
  refine lv_istore_n (lv' := [(3, .int 0), (0, .ref o), (1, .int kd), (2, .int wo)]) hx hb dX12_laysBounds_7 rfl hl (by decide) rfl (fun ls hl => ?_)
  have loop : ∀ (fuel : Nat) (i : Nat) (SS : Nat → va_E) (H : Heap) (locs : List Loc) (ls : Array Slot), 9 - i < fuel → (i ≤ 8) → Ty cy L kap pr SS → Fr kap [56, 59, 61, 64] S SS → Fr kap [59, 61, 64] S_32 SS → PW dC dI L (AL L s.heap.size) s.heap SS H locs → lv_has ls 6 [(3, .int (nI i)), (0, .ref o), (1, .int kd), (2, .int wo)] → W p l e (headSpec (wT yX12_laysBounds cX12_laysBounds 6 none) { frames := 3, cells := 0, slots := 0, locals := 67 }).room s m [.ref o, .int kd, .int wo].toArray below meth c H locs 0 0 (MQ below (va_Qv (fun S' => Ty cy L kap pr S' ∧ Fr kap [56, 59, 61, 64] S S') (fun S' t => pB dC dI (AL L s.heap.size) (va_pl L S') (cyT cy) t) (AL L s.heap.size)) [.ref o, .int kd, .int wo].toArray s 0 0 (AL L s.heap.size)) (F0 m 8 ls []) := by
    intro fuel
    induction fuel with
    | zero => intro i SS H locs ls h; exact absurd h (Nat.not_lt_zero _)
    | succ fu8 ih8 =>
      intro i S_33 H locs ls hm8 hb_i hTy hFr hFl8 hW hl
      have hS_o := hFl8.at hT_o (by decide) hS_o
      refine lv_iload_n hx hb dX12_laysBounds_8 rfl (lv_at hl 0 rfl) ?_
      refine lv_bipush (v := 8) hx hb dX12_laysBounds_9 (by decide) ?_
      refine lv_icmp_ge (tgt := 135) hx hb dX12_laysBounds_11 (by decide) (fun c_11 => ?_) (fun c_11 => ?_)
      · have c_11 : 8 ≤ i := (nI_leI (a := 8) (b := i) (by omega) (by omega)).mp c_11
        exact W.vret hx hb hr (fun t ht h9 => ⟨⟨S_33, rfl, ⟨hTy, hFr⟩, by rw [ht]; exact hW.1, va_K.moved h9.alike hK, hW.2.1⟩, hW.2.2.F ht⟩) hW.2.2.2.2 dX12_laysBounds_135
      · have c_11 : ¬ (8 ≤ i) := fun hh9 => c_11 ((nI_leI (a := 8) (b := i) (by omega) (by omega)).mpr hh9)
        refine lv_aload_n hx hb dX12_laysBounds_14 rfl (lv_at hl 1 rfl) ?_
        refine pl_get (ci := 12) (v := .ref x_23) (C := RX12) (T := TX12) (N := 32) hx hb hT iX12 hown hK hW hT_o.1 hS_o rfl 23 (by decide) w1105 rfl dX12_laysBounds_15 ?_
        refine lv_iload_n hx hb dX12_laysBounds_18 rfl (lv_at hl 0 rfl) ?_
        refine lv_aload_n hx hb dX12_laysBounds_19 rfl (lv_at hl 1 rfl) ?_
        refine pl_get (ci := 12) (v := .ref x_1) (C := RX12) (T := TX12) (N := 32) hx hb hT iX12 hown hK hW hT_o.1 hS_o rfl 0 (by decide) w1082 rfl dX12_laysBounds_20 ?_
        refine lv_iconst (v := 1) hx hb dX12_laysBounds_23 (by decide) ?_
        obtain ⟨f_34, hS_x_1, hi_f_34⟩ := hTy.k50 hT_x_1
        refine pl_iald hx hb hK hW hT_x_1.1 hS_x_1 (vp_in_nI (n := 1) (N := 266) (by omega) (by omega)) dX12_laysBounds_24 ?_
        refine lv_topi (fun y_35 ey_35 => ?_)
        have hv_y_35 : okS (1) y_35 := by rw [ey_35]; show okS _ (f_34 (nI (1)).toNatClampNeg); rw [nI_clamp (by omega)]; exact hi_f_34 (1) (by omega)
        refine lv_iconst (v := 3) hx hb dX12_laysBounds_25 (by decide) ?_
        refine lv_icmp_ne (tgt := 40) hx hb dX12_laysBounds_26 (by decide) (fun c_26 => ?_) (fun c_26 => ?_)
        · refine lv_ldcw (v := 2000000000) hx hb hown (hT _ w1454) dX12_laysBounds_40 ?_
          obtain ⟨f_36, hS_x_23⟩ := hTy.k61 hT_x_23
          refine pl_iast hx hb hK hW hT_x_23.1 hS_x_23 (vp_in_nI (n := i) (N := 8) (by omega) (by omega)) dX12_laysBounds_43 (fun H locs f_38 S_37 ef_f_38 e1 hW => ?_)
          have hTy := hTy.u61 e1 hT_x_23 ⟨f_38, rfl⟩
          have hS_o := un e1 hT_o hT_x_23 (by decide) hS_o
          have hS_x_1 := un e1 hT_x_1 hT_x_23 (by decide) hS_x_1
          have hFr := uf hFr e1 hT_x_23 (by decide) (by decide)
          have hFl8 := uf hFl8 e1 hT_x_23 (by decide) (by decide)
          have hS_x_23 := us e1
          refine lv_iconst (v := 0) hx hb dX12_laysBounds_44 (by decide) ?_
          refine lv_istore (lv' := [(4, .int 0), (3, .int (nI i)), (0, .ref o), (1, .int kd), (2, .int wo)]) hx hb dX12_laysBounds_45 hl (by decide) rfl (fun ls hl => ?_)
          have loop : ∀ (fuel : Nat) (j : Nat) (SS : Nat → va_E) (H : Heap) (locs : List Loc) (ls : Array Slot), 9 - j < fuel → (j ≤ 8) → Ty cy L kap pr SS → Fr kap [56, 59, 61, 64] S SS → Fr kap [59, 64] S_37 SS → PW dC dI L (AL L s.heap.size) s.heap SS H locs → lv_has ls 6 [(4, .int (nI j)), (3, .int (nI i)), (0, .ref o), (1, .int kd), (2, .int wo)] → W p l e (headSpec (wT yX12_laysBounds cX12_laysBounds 6 none) { frames := 3, cells := 0, slots := 0, locals := 67 }).room s m [.ref o, .int kd, .int wo].toArray below meth c H locs 0 0 (MQ below (va_Qv (fun S' => Ty cy L kap pr S' ∧ Fr kap [56, 59, 61, 64] S S') (fun S' t => pB dC dI (AL L s.heap.size) (va_pl L S') (cyT cy) t) (AL L s.heap.size)) [.ref o, .int kd, .int wo].toArray s 0 0 (AL L s.heap.size)) (F0 m 47 ls []) := by
            intro fuel
            induction fuel with
            | zero => intro j SS H locs ls h; exact absurd h (Nat.not_lt_zero _)
            | succ fu47 ih47 =>
              intro j S_39 H locs ls hm47 hb_j hTy hFr hFl47 hW hl
              have hS_o := hFl47.at hT_o (by decide) hS_o
              have hS_x_1 := hFl47.at hT_x_1 (by decide) hS_x_1
              have hS_x_23 := hFl47.at hT_x_23 (by decide) hS_x_23
              have hFl8 := hFl8.tr hFl47 (by decide)
              refine lv_iload hx hb dX12_laysBounds_47 (lv_at hl 0 rfl) ?_
              refine lv_bipush (v := 8) hx hb dX12_laysBounds_49 (by decide) ?_
              refine lv_icmp_ge (tgt := 129) hx hb dX12_laysBounds_51 (by decide) (fun c_51 => ?_) (fun c_51 => ?_)
              · have c_51 : 8 ≤ j := (nI_leI (a := 8) (b := j) (by omega) (by omega)).mp c_51
                refine lv_iinc (v := nI (i + 1)) (lv' := [(3, .int (nI (i + 1))), (4, .int (nI j)), (0, .ref o), (1, .int kd), (2, .int wo)]) hx hb dX12_laysBounds_129 hl (k := 1) rfl (nI_add (i) 1) (by decide) rfl (fun ls hl => ?_)
                refine lv_goto (tgt := 8) hx hb dX12_laysBounds_132 (by decide) ?_
                exact ih8 (i + 1) _ _ _ ls (by omega) (by omega) hTy hFr hFl8 hW (lv_sub hl [0, 2, 3, 4] rfl)
              · have c_51 : ¬ (8 ≤ j) := fun hh9 => c_51 ((nI_leI (a := 8) (b := j) (by omega) (by omega)).mpr hh9)
                refine lv_iload_n hx hb dX12_laysBounds_54 rfl (lv_at hl 1 rfl) ?_
                refine lv_iload hx hb dX12_laysBounds_55 (lv_at hl 0 rfl) ?_
                refine lv_icmp_eq (tgt := 81) hx hb dX12_laysBounds_57 (by decide) (fun c_57 => ?_) (fun c_57 => ?_)
                · have c_57 : i = j := (nI_eq (a := i) (b := j) (by omega) (by omega)).mp c_57
                  refine lv_iconst (v := 0) hx hb dX12_laysBounds_81 (by decide) ?_
                  refine lv_istore (lv' := [(5, .int 0), (4, .int (nI j)), (3, .int (nI i)), (0, .ref o), (1, .int kd), (2, .int wo)]) hx hb dX12_laysBounds_82 hl (by decide) rfl (fun ls hl => ?_)
                  refine lv_aload_n hx hb dX12_laysBounds_84 rfl (lv_at hl 3 rfl) ?_
                  refine pl_get (ci := 12) (v := .ref x_21) (C := RX12) (T := TX12) (N := 32) hx hb hT iX12 hown hK hW hT_o.1 hS_o rfl 21 (by decide) w1103 rfl dX12_laysBounds_85 ?_
                  refine lv_iload_n hx hb dX12_laysBounds_88 rfl (lv_at hl 2 rfl) ?_
                  refine lv_iload hx hb dX12_laysBounds_89 (lv_at hl 1 rfl) ?_
                  refine vp_callSi (va_Run.run (va_runS (As := [.int (nI i), .int (nI j)]) (rest := [.ref x_21]) ⟨hx, hb, hml, hown, hT⟩ (m_couple l dC dI H.size i j (by omega) (by omega)) (va_cwS 2 hT (gS w1348 w1349 w14 w1350) rfl rfl rfl (by decide +kernel) ⟨(Nat.le_of_ble_eq_true rfl), (Nat.le_of_ble_eq_true rfl)⟩) ⟨pcW.blind, pcW.pre (va_P0 _ _ _) (hK.sub (tys' := []) [] rfl) (va_D0 (fun _ => True))⟩ rfl rfl hl.1 rfl (lv_room (Nat.le_of_ble_eq_true rfl)) dX12_laysBounds_91 ⟨(Nat.le_of_ble_eq_true rfl), (Nat.le_of_ble_eq_true rfl)⟩)) (fun r_40 hr_40 => ?_)
                  obtain rfl : r_40 = nI (8 * i + j) := hr_40
                  refine lv_iload hx hb dX12_laysBounds_94 (lv_at hl 0 rfl) ?_
                  refine lv_if_eq (tgt := 109) hx hb dX12_laysBounds_96 (by decide) (fun _ => ?_) (fun h => absurd (by decide) h)
                  refine lv_iconst (v := 0) hx hb dX12_laysBounds_109 (by decide) ?_
                  obtain ⟨f_41, hS_x_21⟩ := hTy.k59 hT_x_21
                  refine pl_iast hx hb hK hW hT_x_21.1 hS_x_21 (vp_in_nI (n := 8 * i + j) (N := 64) (by omega) (by omega)) dX12_laysBounds_110 (fun H locs f_43 S_42 ef_f_43 e1 hW => ?_)
                  have hTy := hTy.u59 e1 hT_x_21 ⟨f_43, rfl⟩
                  have hS_o := un e1 hT_o hT_x_21 (by decide) hS_o
                  have hS_x_1 := un e1 hT_x_1 hT_x_21 (by decide) hS_x_1
                  have hS_x_23 := un e1 hT_x_23 hT_x_21 (by decide) hS_x_23
                  have hFr := uf hFr e1 hT_x_21 (by decide) (by decide)
                  have hFl8 := uf hFl8 e1 hT_x_21 (by decide) (by decide)
                  have hFl47 := uf hFl47 e1 hT_x_21 (by decide) (by decide)
                  have hS_x_21 := us e1
                  refine lv_aload_n hx hb dX12_laysBounds_111 rfl (lv_at hl 3 rfl) ?_
                  refine pl_get (ci := 12) (v := .ref x_26) (C := RX12) (T := TX12) (N := 32) hx hb hT iX12 hown hK hW hT_o.1 hS_o rfl 26 (by decide) w1108 rfl dX12_laysBounds_112 ?_
                  refine lv_iload_n hx hb dX12_laysBounds_115 rfl (lv_at hl 2 rfl) ?_
                  refine lv_iload hx hb dX12_laysBounds_116 (lv_at hl 1 rfl) ?_
                  refine vp_callSi (va_Run.run (va_runS (As := [.int (nI i), .int (nI j)]) (rest := [.ref x_26]) ⟨hx, hb, hml, hown, hT⟩ (m_couple l dC dI H.size i j (by omega) (by omega)) (va_cwS 2 hT (gS w1348 w1349 w14 w1350) rfl rfl rfl (by decide +kernel) ⟨(Nat.le_of_ble_eq_true rfl), (Nat.le_of_ble_eq_true rfl)⟩) ⟨pcW.blind, pcW.pre (va_P0 _ _ _) (hK.sub (tys' := []) [] rfl) (va_D0 (fun _ => True))⟩ rfl rfl hl.1 rfl (lv_room (Nat.le_of_ble_eq_true rfl)) dX12_laysBounds_118 ⟨(Nat.le_of_ble_eq_true rfl), (Nat.le_of_ble_eq_true rfl)⟩)) (fun r_44 hr_44 => ?_)
                  obtain rfl : r_44 = nI (8 * i + j) := hr_44
                  refine lv_iconst (v := 0) hx hb dX12_laysBounds_121 (by decide) ?_
                  obtain ⟨f_45, hS_x_26⟩ := hTy.k64 hT_x_26
                  refine pl_zast hx hb hK hW hT_x_26.1 hS_x_26 (vp_in_nI (n := 8 * i + j) (N := 64) (by omega) (by omega)) dX12_laysBounds_122 (fun H locs f_47 S_46 ef_f_47 e1 hW => ?_)
                  have hTy := hTy.u64 e1 hT_x_26 ⟨f_47, rfl⟩
                  have hS_o := un e1 hT_o hT_x_26 (by decide) hS_o
                  have hS_x_1 := un e1 hT_x_1 hT_x_26 (by decide) hS_x_1
                  have hS_x_23 := un e1 hT_x_23 hT_x_26 (by decide) hS_x_23
                  have hS_x_21 := un e1 hT_x_21 hT_x_26 (by decide) hS_x_21
                  have hFr := uf hFr e1 hT_x_26 (by decide) (by decide)
                  have hFl8 := uf hFl8 e1 hT_x_26 (by decide) (by decide)
                  have hFl47 := uf hFl47 e1 hT_x_26 (by decide) (by decide)
                  have hS_x_26 := us e1
                  refine lv_iinc (v := nI (j + 1)) (lv' := [(4, .int (nI (j + 1))), (5, .int 0), (3, .int (nI i)), (0, .ref o), (1, .int kd), (2, .int wo)]) hx hb dX12_laysBounds_123 hl (k := 1) rfl (nI_add (j) 1) (by decide) rfl (fun ls hl => ?_)
                  refine lv_goto (tgt := 47) hx hb dX12_laysBounds_126 (by decide) ?_
                  exact ih47 (j + 1) _ _ _ ls (by omega) (by omega) hTy hFr hFl47 hW (lv_sub hl [0, 2, 3, 4, 5] rfl)
                · have c_57 : ¬ (i = j) := fun hh9 => c_57 ((nI_eq (a := i) (b := j) (by omega) (by omega)).mpr hh9)
                  refine lv_iload_n hx hb dX12_laysBounds_60 rfl (lv_at hl 1 rfl) ?_
                  refine lv_aload_n hx hb dX12_laysBounds_61 rfl (lv_at hl 2 rfl) ?_
                  refine pl_get (ci := 12) (v := .int (nI x_6)) (C := RX12) (T := TX12) (N := 32) hx hb hT iX12 hown hK hW hT_o.1 hS_o rfl 5 (by decide) w1087 rfl dX12_laysBounds_62 ?_
                  refine lv_icmp_ge (tgt := 81) hx hb dX12_laysBounds_65 (by decide) (fun c_65 => ?_) (fun c_65 => ?_)
                  · have c_65 : x_6 ≤ i := (nI_leI (a := x_6) (b := i) (by omega) (by omega)).mp c_65
                    refine lv_iconst (v := 0) hx hb dX12_laysBounds_81 (by decide) ?_
                    refine lv_istore (lv' := [(5, .int 0), (4, .int (nI j)), (3, .int (nI i)), (0, .ref o), (1, .int kd), (2, .int wo)]) hx hb dX12_laysBounds_82 hl (by decide) rfl (fun ls hl => ?_)
                    refine lv_aload_n hx hb dX12_laysBounds_84 rfl (lv_at hl 3 rfl) ?_
                    refine pl_get (ci := 12) (v := .ref x_21) (C := RX12) (T := TX12) (N := 32) hx hb hT iX12 hown hK hW hT_o.1 hS_o rfl 21 (by decide) w1103 rfl dX12_laysBounds_85 ?_
                    refine lv_iload_n hx hb dX12_laysBounds_88 rfl (lv_at hl 2 rfl) ?_
                    refine lv_iload hx hb dX12_laysBounds_89 (lv_at hl 1 rfl) ?_
                    refine vp_callSi (va_Run.run (va_runS (As := [.int (nI i), .int (nI j)]) (rest := [.ref x_21]) ⟨hx, hb, hml, hown, hT⟩ (m_couple l dC dI H.size i j (by omega) (by omega)) (va_cwS 2 hT (gS w1348 w1349 w14 w1350) rfl rfl rfl (by decide +kernel) ⟨(Nat.le_of_ble_eq_true rfl), (Nat.le_of_ble_eq_true rfl)⟩) ⟨pcW.blind, pcW.pre (va_P0 _ _ _) (hK.sub (tys' := []) [] rfl) (va_D0 (fun _ => True))⟩ rfl rfl hl.1 rfl (lv_room (Nat.le_of_ble_eq_true rfl)) dX12_laysBounds_91 ⟨(Nat.le_of_ble_eq_true rfl), (Nat.le_of_ble_eq_true rfl)⟩)) (fun r_48 hr_48 => ?_)
                    obtain rfl : r_48 = nI (8 * i + j) := hr_48
                    refine lv_iload hx hb dX12_laysBounds_94 (lv_at hl 0 rfl) ?_
                    refine lv_if_eq (tgt := 109) hx hb dX12_laysBounds_96 (by decide) (fun _ => ?_) (fun h => absurd (by decide) h)
                    refine lv_iconst (v := 0) hx hb dX12_laysBounds_109 (by decide) ?_
                    obtain ⟨f_49, hS_x_21⟩ := hTy.k59 hT_x_21
                    refine pl_iast hx hb hK hW hT_x_21.1 hS_x_21 (vp_in_nI (n := 8 * i + j) (N := 64) (by omega) (by omega)) dX12_laysBounds_110 (fun H locs f_51 S_50 ef_f_51 e1 hW => ?_)
                    have hTy := hTy.u59 e1 hT_x_21 ⟨f_51, rfl⟩
                    have hS_o := un e1 hT_o hT_x_21 (by decide) hS_o
                    have hS_x_1 := un e1 hT_x_1 hT_x_21 (by decide) hS_x_1
                    have hS_x_23 := un e1 hT_x_23 hT_x_21 (by decide) hS_x_23
                    have hFr := uf hFr e1 hT_x_21 (by decide) (by decide)
                    have hFl8 := uf hFl8 e1 hT_x_21 (by decide) (by decide)
                    have hFl47 := uf hFl47 e1 hT_x_21 (by decide) (by decide)
                    have hS_x_21 := us e1
                    refine lv_aload_n hx hb dX12_laysBounds_111 rfl (lv_at hl 3 rfl) ?_
                    refine pl_get (ci := 12) (v := .ref x_26) (C := RX12) (T := TX12) (N := 32) hx hb hT iX12 hown hK hW hT_o.1 hS_o rfl 26 (by decide) w1108 rfl dX12_laysBounds_112 ?_
                    refine lv_iload_n hx hb dX12_laysBounds_115 rfl (lv_at hl 2 rfl) ?_
                    refine lv_iload hx hb dX12_laysBounds_116 (lv_at hl 1 rfl) ?_
                    refine vp_callSi (va_Run.run (va_runS (As := [.int (nI i), .int (nI j)]) (rest := [.ref x_26]) ⟨hx, hb, hml, hown, hT⟩ (m_couple l dC dI H.size i j (by omega) (by omega)) (va_cwS 2 hT (gS w1348 w1349 w14 w1350) rfl rfl rfl (by decide +kernel) ⟨(Nat.le_of_ble_eq_true rfl), (Nat.le_of_ble_eq_true rfl)⟩) ⟨pcW.blind, pcW.pre (va_P0 _ _ _) (hK.sub (tys' := []) [] rfl) (va_D0 (fun _ => True))⟩ rfl rfl hl.1 rfl (lv_room (Nat.le_of_ble_eq_true rfl)) dX12_laysBounds_118 ⟨(Nat.le_of_ble_eq_true rfl), (Nat.le_of_ble_eq_true rfl)⟩)) (fun r_52 hr_52 => ?_)
                    obtain rfl : r_52 = nI (8 * i + j) := hr_52
                    refine lv_iconst (v := 0) hx hb dX12_laysBounds_121 (by decide) ?_
                    obtain ⟨f_53, hS_x_26⟩ := hTy.k64 hT_x_26
                    refine pl_zast hx hb hK hW hT_x_26.1 hS_x_26 (vp_in_nI (n := 8 * i + j) (N := 64) (by omega) (by omega)) dX12_laysBounds_122 (fun H locs f_55 S_54 ef_f_55 e1 hW => ?_)
                    have hTy := hTy.u64 e1 hT_x_26 ⟨f_55, rfl⟩
                    have hS_o := un e1 hT_o hT_x_26 (by decide) hS_o
                    have hS_x_1 := un e1 hT_x_1 hT_x_26 (by decide) hS_x_1
                    have hS_x_23 := un e1 hT_x_23 hT_x_26 (by decide) hS_x_23
                    have hS_x_21 := un e1 hT_x_21 hT_x_26 (by decide) hS_x_21
                    have hFr := uf hFr e1 hT_x_26 (by decide) (by decide)
                    have hFl8 := uf hFl8 e1 hT_x_26 (by decide) (by decide)
                    have hFl47 := uf hFl47 e1 hT_x_26 (by decide) (by decide)
                    have hS_x_26 := us e1
                    refine lv_iinc (v := nI (j + 1)) (lv' := [(4, .int (nI (j + 1))), (5, .int 0), (3, .int (nI i)), (0, .ref o), (1, .int kd), (2, .int wo)]) hx hb dX12_laysBounds_123 hl (k := 1) rfl (nI_add (j) 1) (by decide) rfl (fun ls hl => ?_)
                    refine lv_goto (tgt := 47) hx hb dX12_laysBounds_126 (by decide) ?_
                    exact ih47 (j + 1) _ _ _ ls (by omega) (by omega) hTy hFr hFl47 hW (lv_sub hl [0, 2, 3, 4, 5] rfl)
                  · have c_65 : ¬ (x_6 ≤ i) := fun hh9 => c_65 ((nI_leI (a := x_6) (b := i) (by omega) (by omega)).mpr hh9)
                    refine lv_iload hx hb dX12_laysBounds_68 (lv_at hl 0 rfl) ?_
                    refine lv_aload_n hx hb dX12_laysBounds_70 rfl (lv_at hl 2 rfl) ?_
                    refine pl_get (ci := 12) (v := .int (nI x_6)) (C := RX12) (T := TX12) (N := 32) hx hb hT iX12 hown hK hW hT_o.1 hS_o rfl 5 (by decide) w1087 rfl dX12_laysBounds_71 ?_
                    refine lv_icmp_ge (tgt := 81) hx hb dX12_laysBounds_74 (by decide) (fun c_74 => ?_) (fun c_74 => ?_)
                    · have c_74 : x_6 ≤ j := (nI_leI (a := x_6) (b := j) (by omega) (by omega)).mp c_74
                      refine lv_iconst (v := 0) hx hb dX12_laysBounds_81 (by decide) ?_
                      refine lv_istore (lv' := [(5, .int 0), (4, .int (nI j)), (3, .int (nI i)), (0, .ref o), (1, .int kd), (2, .int wo)]) hx hb dX12_laysBounds_82 hl (by decide) rfl (fun ls hl => ?_)
                      refine lv_aload_n hx hb dX12_laysBounds_84 rfl (lv_at hl 3 rfl) ?_
                      refine pl_get (ci := 12) (v := .ref x_21) (C := RX12) (T := TX12) (N := 32) hx hb hT iX12 hown hK hW hT_o.1 hS_o rfl 21 (by decide) w1103 rfl dX12_laysBounds_85 ?_
                      refine lv_iload_n hx hb dX12_laysBounds_88 rfl (lv_at hl 2 rfl) ?_
                      refine lv_iload hx hb dX12_laysBounds_89 (lv_at hl 1 rfl) ?_
                      refine vp_callSi (va_Run.run (va_runS (As := [.int (nI i), .int (nI j)]) (rest := [.ref x_21]) ⟨hx, hb, hml, hown, hT⟩ (m_couple l dC dI H.size i j (by omega) (by omega)) (va_cwS 2 hT (gS w1348 w1349 w14 w1350) rfl rfl rfl (by decide +kernel) ⟨(Nat.le_of_ble_eq_true rfl), (Nat.le_of_ble_eq_true rfl)⟩) ⟨pcW.blind, pcW.pre (va_P0 _ _ _) (hK.sub (tys' := []) [] rfl) (va_D0 (fun _ => True))⟩ rfl rfl hl.1 rfl (lv_room (Nat.le_of_ble_eq_true rfl)) dX12_laysBounds_91 ⟨(Nat.le_of_ble_eq_true rfl), (Nat.le_of_ble_eq_true rfl)⟩)) (fun r_56 hr_56 => ?_)
                      obtain rfl : r_56 = nI (8 * i + j) := hr_56
                      refine lv_iload hx hb dX12_laysBounds_94 (lv_at hl 0 rfl) ?_
                      refine lv_if_eq (tgt := 109) hx hb dX12_laysBounds_96 (by decide) (fun _ => ?_) (fun h => absurd (by decide) h)
                      refine lv_iconst (v := 0) hx hb dX12_laysBounds_109 (by decide) ?_
                      obtain ⟨f_57, hS_x_21⟩ := hTy.k59 hT_x_21
                      refine pl_iast hx hb hK hW hT_x_21.1 hS_x_21 (vp_in_nI (n := 8 * i + j) (N := 64) (by omega) (by omega)) dX12_laysBounds_110 (fun H locs f_59 S_58 ef_f_59 e1 hW => ?_)
                      have hTy := hTy.u59 e1 hT_x_21 ⟨f_59, rfl⟩
                      have hS_o := un e1 hT_o hT_x_21 (by decide) hS_o
                      have hS_x_1 := un e1 hT_x_1 hT_x_21 (by decide) hS_x_1
                      have hS_x_23 := un e1 hT_x_23 hT_x_21 (by decide) hS_x_23
                      have hFr := uf hFr e1 hT_x_21 (by decide) (by decide)
                      have hFl8 := uf hFl8 e1 hT_x_21 (by decide) (by decide)
                      have hFl47 := uf hFl47 e1 hT_x_21 (by decide) (by decide)
                      have hS_x_21 := us e1
                      refine lv_aload_n hx hb dX12_laysBounds_111 rfl (lv_at hl 3 rfl) ?_
                      refine pl_get (ci := 12) (v := .ref x_26) (C := RX12) (T := TX12) (N := 32) hx hb hT iX12 hown hK hW hT_o.1 hS_o rfl 26 (by decide) w1108 rfl dX12_laysBounds_112 ?_
                      refine lv_iload_n hx hb dX12_laysBounds_115 rfl (lv_at hl 2 rfl) ?_
                      refine lv_iload hx hb dX12_laysBounds_116 (lv_at hl 1 rfl) ?_
                      refine vp_callSi (va_Run.run (va_runS (As := [.int (nI i), .int (nI j)]) (rest := [.ref x_26]) ⟨hx, hb, hml, hown, hT⟩ (m_couple l dC dI H.size i j (by omega) (by omega)) (va_cwS 2 hT (gS w1348 w1349 w14 w1350) rfl rfl rfl (by decide +kernel) ⟨(Nat.le_of_ble_eq_true rfl), (Nat.le_of_ble_eq_true rfl)⟩) ⟨pcW.blind, pcW.pre (va_P0 _ _ _) (hK.sub (tys' := []) [] rfl) (va_D0 (fun _ => True))⟩ rfl rfl hl.1 rfl (lv_room (Nat.le_of_ble_eq_true rfl)) dX12_laysBounds_118 ⟨(Nat.le_of_ble_eq_true rfl), (Nat.le_of_ble_eq_true rfl)⟩)) (fun r_60 hr_60 => ?_)
                      obtain rfl : r_60 = nI (8 * i + j) := hr_60
                      refine lv_iconst (v := 0) hx hb dX12_laysBounds_121 (by decide) ?_
                      obtain ⟨f_61, hS_x_26⟩ := hTy.k64 hT_x_26
                      refine pl_zast hx hb hK hW hT_x_26.1 hS_x_26 (vp_in_nI (n := 8 * i + j) (N := 64) (by omega) (by omega)) dX12_laysBounds_122 (fun H locs f_63 S_62 ef_f_63 e1 hW => ?_)
                      have hTy := hTy.u64 e1 hT_x_26 ⟨f_63, rfl⟩
                      have hS_o := un e1 hT_o hT_x_26 (by decide) hS_o
                      have hS_x_1 := un e1 hT_x_1 hT_x_26 (by decide) hS_x_1
                      have hS_x_23 := un e1 hT_x_23 hT_x_26 (by decide) hS_x_23
                      have hS_x_21 := un e1 hT_x_21 hT_x_26 (by decide) hS_x_21
                      have hFr := uf hFr e1 hT_x_26 (by decide) (by decide)
                      have hFl8 := uf hFl8 e1 hT_x_26 (by decide) (by decide)
                      have hFl47 := uf hFl47 e1 hT_x_26 (by decide) (by decide)
                      have hS_x_26 := us e1
                      refine lv_iinc (v := nI (j + 1)) (lv' := [(4, .int (nI (j + 1))), (5, .int 0), (3, .int (nI i)), (0, .ref o), (1, .int kd), (2, .int wo)]) hx hb dX12_laysBounds_123 hl (k := 1) rfl (nI_add (j) 1) (by decide) rfl (fun ls hl => ?_)
                      refine lv_goto (tgt := 47) hx hb dX12_laysBounds_126 (by decide) ?_
                      exact ih47 (j + 1) _ _ _ ls (by omega) (by omega) hTy hFr hFl47 hW (lv_sub hl [0, 2, 3, 4, 5] rfl)
                    · have c_74 : ¬ (x_6 ≤ j) := fun hh9 => c_74 ((nI_leI (a := x_6) (b := j) (by omega) (by omega)).mpr hh9)
                      refine lv_iconst (v := 1) hx hb dX12_laysBounds_77 (by decide) ?_
                      refine lv_goto (tgt := 82) hx hb dX12_laysBounds_78 (by decide) ?_
                      refine lv_istore (lv' := [(5, .int 1), (4, .int (nI j)), (3, .int (nI i)), (0, .ref o), (1, .int kd), (2, .int wo)]) hx hb dX12_laysBounds_82 hl (by decide) rfl (fun ls hl => ?_)
                      refine lv_aload_n hx hb dX12_laysBounds_84 rfl (lv_at hl 3 rfl) ?_
                      refine pl_get (ci := 12) (v := .ref x_21) (C := RX12) (T := TX12) (N := 32) hx hb hT iX12 hown hK hW hT_o.1 hS_o rfl 21 (by decide) w1103 rfl dX12_laysBounds_85 ?_
                      refine lv_iload_n hx hb dX12_laysBounds_88 rfl (lv_at hl 2 rfl) ?_
                      refine lv_iload hx hb dX12_laysBounds_89 (lv_at hl 1 rfl) ?_
                      refine vp_callSi (va_Run.run (va_runS (As := [.int (nI i), .int (nI j)]) (rest := [.ref x_21]) ⟨hx, hb, hml, hown, hT⟩ (m_couple l dC dI H.size i j (by omega) (by omega)) (va_cwS 2 hT (gS w1348 w1349 w14 w1350) rfl rfl rfl (by decide +kernel) ⟨(Nat.le_of_ble_eq_true rfl), (Nat.le_of_ble_eq_true rfl)⟩) ⟨pcW.blind, pcW.pre (va_P0 _ _ _) (hK.sub (tys' := []) [] rfl) (va_D0 (fun _ => True))⟩ rfl rfl hl.1 rfl (lv_room (Nat.le_of_ble_eq_true rfl)) dX12_laysBounds_91 ⟨(Nat.le_of_ble_eq_true rfl), (Nat.le_of_ble_eq_true rfl)⟩)) (fun r_64 hr_64 => ?_)
                      obtain rfl : r_64 = nI (8 * i + j) := hr_64
                      refine lv_iload hx hb dX12_laysBounds_94 (lv_at hl 0 rfl) ?_
                      refine lv_if_eq (tgt := 109) hx hb dX12_laysBounds_96 (by decide) (fun h => absurd h (by decide)) (fun _ => ?_)
                      refine lv_aload_n hx hb dX12_laysBounds_99 rfl (lv_at hl 3 rfl) ?_
                      refine lv_iload_n hx hb dX12_laysBounds_100 rfl (lv_at hl 2 rfl) ?_
                      refine lv_iload hx hb dX12_laysBounds_101 (lv_at hl 1 rfl) ?_
                      refine vp_callSi (va_Run.run (va_runV (As := [.int (nI i), .int (nI j)]) (rest := [.int (nI (8 * i + j)), .ref x_21]) ⟨hx, hb, hml, hown, hT⟩ (m_boundOf l dC dI cy L kap pr S_39 H.size o i j hTy hT_o (by omega) (by omega)) (cwV 2 hT (gV w1386 w1388 ws85 w14 w1389) rfl rfl rfl (by decide +kernel) ⟨(Nat.le_of_ble_eq_true rfl), (Nat.le_of_ble_eq_true rfl)⟩) ⟨pcN.blind, pl_recv hK hW hT_o.1 hS_o rfl, pcN.pre hW.1 hK hW.2.1 hN (fun q h => absurd h List.not_mem_nil)⟩ rfl rfl hl.1 rfl (lv_room (Nat.le_of_ble_eq_true rfl)) dX12_laysBounds_103 ⟨(Nat.le_of_ble_eq_true rfl), (Nat.le_of_ble_eq_true rfl)⟩)) (fun r_65 hr_65 => ?_)
                      refine lv_goto (tgt := 110) hx hb dX12_laysBounds_106 (by decide) ?_
                      obtain ⟨f_66, hS_x_21⟩ := hTy.k59 hT_x_21
                      refine pl_iast hx hb hK hW hT_x_21.1 hS_x_21 (vp_in_nI (n := 8 * i + j) (N := 64) (by omega) (by omega)) dX12_laysBounds_110 (fun H locs f_68 S_67 ef_f_68 e1 hW => ?_)
                      have hTy := hTy.u59 e1 hT_x_21 ⟨f_68, rfl⟩
                      have hS_o := un e1 hT_o hT_x_21 (by decide) hS_o
                      have hS_x_1 := un e1 hT_x_1 hT_x_21 (by decide) hS_x_1
                      have hS_x_23 := un e1 hT_x_23 hT_x_21 (by decide) hS_x_23
                      have hFr := uf hFr e1 hT_x_21 (by decide) (by decide)
                      have hFl8 := uf hFl8 e1 hT_x_21 (by decide) (by decide)
                      have hFl47 := uf hFl47 e1 hT_x_21 (by decide) (by decide)
                      have hS_x_21 := us e1
                      refine lv_aload_n hx hb dX12_laysBounds_111 rfl (lv_at hl 3 rfl) ?_
                      refine pl_get (ci := 12) (v := .ref x_26) (C := RX12) (T := TX12) (N := 32) hx hb hT iX12 hown hK hW hT_o.1 hS_o rfl 26 (by decide) w1108 rfl dX12_laysBounds_112 ?_
                      refine lv_iload_n hx hb dX12_laysBounds_115 rfl (lv_at hl 2 rfl) ?_
                      refine lv_iload hx hb dX12_laysBounds_116 (lv_at hl 1 rfl) ?_
                      refine vp_callSi (va_Run.run (va_runS (As := [.int (nI i), .int (nI j)]) (rest := [.ref x_26]) ⟨hx, hb, hml, hown, hT⟩ (m_couple l dC dI H.size i j (by omega) (by omega)) (va_cwS 2 hT (gS w1348 w1349 w14 w1350) rfl rfl rfl (by decide +kernel) ⟨(Nat.le_of_ble_eq_true rfl), (Nat.le_of_ble_eq_true rfl)⟩) ⟨pcW.blind, pcW.pre (va_P0 _ _ _) (hK.sub (tys' := []) [] rfl) (va_D0 (fun _ => True))⟩ rfl rfl hl.1 rfl (lv_room (Nat.le_of_ble_eq_true rfl)) dX12_laysBounds_118 ⟨(Nat.le_of_ble_eq_true rfl), (Nat.le_of_ble_eq_true rfl)⟩)) (fun r_69 hr_69 => ?_)
                      obtain rfl : r_69 = nI (8 * i + j) := hr_69
                      refine lv_iconst (v := 0) hx hb dX12_laysBounds_121 (by decide) ?_
                      obtain ⟨f_70, hS_x_26⟩ := hTy.k64 hT_x_26
                      refine pl_zast hx hb hK hW hT_x_26.1 hS_x_26 (vp_in_nI (n := 8 * i + j) (N := 64) (by omega) (by omega)) dX12_laysBounds_122 (fun H locs f_72 S_71 ef_f_72 e1 hW => ?_)
                      have hTy := hTy.u64 e1 hT_x_26 ⟨f_72, rfl⟩
                      have hS_o := un e1 hT_o hT_x_26 (by decide) hS_o
                      have hS_x_1 := un e1 hT_x_1 hT_x_26 (by decide) hS_x_1
                      have hS_x_23 := un e1 hT_x_23 hT_x_26 (by decide) hS_x_23
                      have hS_x_21 := un e1 hT_x_21 hT_x_26 (by decide) hS_x_21
                      have hFr := uf hFr e1 hT_x_26 (by decide) (by decide)
                      have hFl8 := uf hFl8 e1 hT_x_26 (by decide) (by decide)
                      have hFl47 := uf hFl47 e1 hT_x_26 (by decide) (by decide)
                      have hS_x_26 := us e1
                      refine lv_iinc (v := nI (j + 1)) (lv' := [(4, .int (nI (j + 1))), (5, .int 1), (3, .int (nI i)), (0, .ref o), (1, .int kd), (2, .int wo)]) hx hb dX12_laysBounds_123 hl (k := 1) rfl (nI_add (j) 1) (by decide) rfl (fun ls hl => ?_)
                      refine lv_goto (tgt := 47) hx hb dX12_laysBounds_126 (by decide) ?_
                      exact ih47 (j + 1) _ _ _ ls (by omega) (by omega) hTy hFr hFl47 hW (lv_sub hl [0, 2, 3, 4, 5] rfl)
          exact loop ((9 - 0) + 1) 0 _ _ _ ls (Nat.lt_succ_self _) (by omega) hTy hFr Fr.rf hW (lv_sub hl [0, 1, 2, 3, 4] rfl)
        · refine lv_aload_n hx hb dX12_laysBounds_29 rfl (lv_at hl 1 rfl) ?_
          refine pl_get (ci := 12) (v := .ref x_17) (C := RX12) (T := TX12) (N := 32) hx hb hT iX12 hown hK hW hT_o.1 hS_o rfl 17 (by decide) w1099 rfl dX12_laysBounds_30 ?_
          refine lv_iload_n hx hb dX12_laysBounds_33 rfl (lv_at hl 0 rfl) ?_
          refine vp_callSi (va_Run.run (va_runS (As := [.ref x_17, .int (nI i)]) (rest := [.int (nI i), .ref x_23]) ⟨hx, hb, hml, hown, hT⟩ (m_throughBy56 l dC dI cy L kap pr S_33 H.size x_17 i hTy hT_x_17 (by omega)) (va_cwS 2 hT (gS w1451 w1452 w14 w1453) rfl rfl rfl (by decide +kernel) ⟨(Nat.le_of_ble_eq_true rfl), (Nat.le_of_ble_eq_true rfl)⟩) ⟨pcN.blind, pcN.pre hW.1 hK hW.2.1 hN (fun q h => absurd h List.not_mem_nil)⟩ rfl rfl hl.1 rfl (lv_room (Nat.le_of_ble_eq_true rfl)) dX12_laysBounds_34 ⟨(Nat.le_of_ble_eq_true rfl), (Nat.le_of_ble_eq_true rfl)⟩)) (fun r_73 hr_73 => ?_)
          refine lv_goto (tgt := 43) hx hb dX12_laysBounds_37 (by decide) ?_
          obtain ⟨f_74, hS_x_23⟩ := hTy.k61 hT_x_23
          refine pl_iast hx hb hK hW hT_x_23.1 hS_x_23 (vp_in_nI (n := i) (N := 8) (by omega) (by omega)) dX12_laysBounds_43 (fun H locs f_76 S_75 ef_f_76 e1 hW => ?_)
          have hTy := hTy.u61 e1 hT_x_23 ⟨f_76, rfl⟩
          have hS_o := un e1 hT_o hT_x_23 (by decide) hS_o
          have hS_x_1 := un e1 hT_x_1 hT_x_23 (by decide) hS_x_1
          have hFr := uf hFr e1 hT_x_23 (by decide) (by decide)
          have hFl8 := uf hFl8 e1 hT_x_23 (by decide) (by decide)
          have hS_x_23 := us e1
          refine lv_iconst (v := 0) hx hb dX12_laysBounds_44 (by decide) ?_
          refine lv_istore (lv' := [(4, .int 0), (3, .int (nI i)), (0, .ref o), (1, .int kd), (2, .int wo)]) hx hb dX12_laysBounds_45 hl (by decide) rfl (fun ls hl => ?_)
          have loop : ∀ (fuel : Nat) (j : Nat) (SS : Nat → va_E) (H : Heap) (locs : List Loc) (ls : Array Slot), 9 - j < fuel → (j ≤ 8) → Ty cy L kap pr SS → Fr kap [56, 59, 61, 64] S SS → Fr kap [59, 64] S_75 SS → PW dC dI L (AL L s.heap.size) s.heap SS H locs → lv_has ls 6 [(4, .int (nI j)), (3, .int (nI i)), (0, .ref o), (1, .int kd), (2, .int wo)] → W p l e (headSpec (wT yX12_laysBounds cX12_laysBounds 6 none) { frames := 3, cells := 0, slots := 0, locals := 67 }).room s m [.ref o, .int kd, .int wo].toArray below meth c H locs 0 0 (MQ below (va_Qv (fun S' => Ty cy L kap pr S' ∧ Fr kap [56, 59, 61, 64] S S') (fun S' t => pB dC dI (AL L s.heap.size) (va_pl L S') (cyT cy) t) (AL L s.heap.size)) [.ref o, .int kd, .int wo].toArray s 0 0 (AL L s.heap.size)) (F0 m 47 ls []) := by
            intro fuel
            induction fuel with
            | zero => intro j SS H locs ls h; exact absurd h (Nat.not_lt_zero _)
            | succ fu47 ih47 =>
              intro j S_77 H locs ls hm47 hb_j hTy hFr hFl47 hW hl
              have hS_o := hFl47.at hT_o (by decide) hS_o
              have hS_x_1 := hFl47.at hT_x_1 (by decide) hS_x_1
              have hS_x_23 := hFl47.at hT_x_23 (by decide) hS_x_23
              have hFl8 := hFl8.tr hFl47 (by decide)
              refine lv_iload hx hb dX12_laysBounds_47 (lv_at hl 0 rfl) ?_
              refine lv_bipush (v := 8) hx hb dX12_laysBounds_49 (by decide) ?_
              refine lv_icmp_ge (tgt := 129) hx hb dX12_laysBounds_51 (by decide) (fun c_51 => ?_) (fun c_51 => ?_)
              · have c_51 : 8 ≤ j := (nI_leI (a := 8) (b := j) (by omega) (by omega)).mp c_51
                refine lv_iinc (v := nI (i + 1)) (lv' := [(3, .int (nI (i + 1))), (4, .int (nI j)), (0, .ref o), (1, .int kd), (2, .int wo)]) hx hb dX12_laysBounds_129 hl (k := 1) rfl (nI_add (i) 1) (by decide) rfl (fun ls hl => ?_)
                refine lv_goto (tgt := 8) hx hb dX12_laysBounds_132 (by decide) ?_
                exact ih8 (i + 1) _ _ _ ls (by omega) (by omega) hTy hFr hFl8 hW (lv_sub hl [0, 2, 3, 4] rfl)
              · have c_51 : ¬ (8 ≤ j) := fun hh9 => c_51 ((nI_leI (a := 8) (b := j) (by omega) (by omega)).mpr hh9)
                refine lv_iload_n hx hb dX12_laysBounds_54 rfl (lv_at hl 1 rfl) ?_
                refine lv_iload hx hb dX12_laysBounds_55 (lv_at hl 0 rfl) ?_
                refine lv_icmp_eq (tgt := 81) hx hb dX12_laysBounds_57 (by decide) (fun c_57 => ?_) (fun c_57 => ?_)
                · have c_57 : i = j := (nI_eq (a := i) (b := j) (by omega) (by omega)).mp c_57
                  refine lv_iconst (v := 0) hx hb dX12_laysBounds_81 (by decide) ?_
                  refine lv_istore (lv' := [(5, .int 0), (4, .int (nI j)), (3, .int (nI i)), (0, .ref o), (1, .int kd), (2, .int wo)]) hx hb dX12_laysBounds_82 hl (by decide) rfl (fun ls hl => ?_)
                  refine lv_aload_n hx hb dX12_laysBounds_84 rfl (lv_at hl 3 rfl) ?_
                  refine pl_get (ci := 12) (v := .ref x_21) (C := RX12) (T := TX12) (N := 32) hx hb hT iX12 hown hK hW hT_o.1 hS_o rfl 21 (by decide) w1103 rfl dX12_laysBounds_85 ?_
                  refine lv_iload_n hx hb dX12_laysBounds_88 rfl (lv_at hl 2 rfl) ?_
                  refine lv_iload hx hb dX12_laysBounds_89 (lv_at hl 1 rfl) ?_
                  refine vp_callSi (va_Run.run (va_runS (As := [.int (nI i), .int (nI j)]) (rest := [.ref x_21]) ⟨hx, hb, hml, hown, hT⟩ (m_couple l dC dI H.size i j (by omega) (by omega)) (va_cwS 2 hT (gS w1348 w1349 w14 w1350) rfl rfl rfl (by decide +kernel) ⟨(Nat.le_of_ble_eq_true rfl), (Nat.le_of_ble_eq_true rfl)⟩) ⟨pcW.blind, pcW.pre (va_P0 _ _ _) (hK.sub (tys' := []) [] rfl) (va_D0 (fun _ => True))⟩ rfl rfl hl.1 rfl (lv_room (Nat.le_of_ble_eq_true rfl)) dX12_laysBounds_91 ⟨(Nat.le_of_ble_eq_true rfl), (Nat.le_of_ble_eq_true rfl)⟩)) (fun r_78 hr_78 => ?_)
                  obtain rfl : r_78 = nI (8 * i + j) := hr_78
                  refine lv_iload hx hb dX12_laysBounds_94 (lv_at hl 0 rfl) ?_
                  refine lv_if_eq (tgt := 109) hx hb dX12_laysBounds_96 (by decide) (fun _ => ?_) (fun h => absurd (by decide) h)
                  refine lv_iconst (v := 0) hx hb dX12_laysBounds_109 (by decide) ?_
                  obtain ⟨f_79, hS_x_21⟩ := hTy.k59 hT_x_21
                  refine pl_iast hx hb hK hW hT_x_21.1 hS_x_21 (vp_in_nI (n := 8 * i + j) (N := 64) (by omega) (by omega)) dX12_laysBounds_110 (fun H locs f_81 S_80 ef_f_81 e1 hW => ?_)
                  have hTy := hTy.u59 e1 hT_x_21 ⟨f_81, rfl⟩
                  have hS_o := un e1 hT_o hT_x_21 (by decide) hS_o
                  have hS_x_1 := un e1 hT_x_1 hT_x_21 (by decide) hS_x_1
                  have hS_x_23 := un e1 hT_x_23 hT_x_21 (by decide) hS_x_23
                  have hFr := uf hFr e1 hT_x_21 (by decide) (by decide)
                  have hFl8 := uf hFl8 e1 hT_x_21 (by decide) (by decide)
                  have hFl47 := uf hFl47 e1 hT_x_21 (by decide) (by decide)
                  have hS_x_21 := us e1
                  refine lv_aload_n hx hb dX12_laysBounds_111 rfl (lv_at hl 3 rfl) ?_
                  refine pl_get (ci := 12) (v := .ref x_26) (C := RX12) (T := TX12) (N := 32) hx hb hT iX12 hown hK hW hT_o.1 hS_o rfl 26 (by decide) w1108 rfl dX12_laysBounds_112 ?_
                  refine lv_iload_n hx hb dX12_laysBounds_115 rfl (lv_at hl 2 rfl) ?_
                  refine lv_iload hx hb dX12_laysBounds_116 (lv_at hl 1 rfl) ?_
                  refine vp_callSi (va_Run.run (va_runS (As := [.int (nI i), .int (nI j)]) (rest := [.ref x_26]) ⟨hx, hb, hml, hown, hT⟩ (m_couple l dC dI H.size i j (by omega) (by omega)) (va_cwS 2 hT (gS w1348 w1349 w14 w1350) rfl rfl rfl (by decide +kernel) ⟨(Nat.le_of_ble_eq_true rfl), (Nat.le_of_ble_eq_true rfl)⟩) ⟨pcW.blind, pcW.pre (va_P0 _ _ _) (hK.sub (tys' := []) [] rfl) (va_D0 (fun _ => True))⟩ rfl rfl hl.1 rfl (lv_room (Nat.le_of_ble_eq_true rfl)) dX12_laysBounds_118 ⟨(Nat.le_of_ble_eq_true rfl), (Nat.le_of_ble_eq_true rfl)⟩)) (fun r_82 hr_82 => ?_)
                  obtain rfl : r_82 = nI (8 * i + j) := hr_82
                  refine lv_iconst (v := 0) hx hb dX12_laysBounds_121 (by decide) ?_
                  obtain ⟨f_83, hS_x_26⟩ := hTy.k64 hT_x_26
                  refine pl_zast hx hb hK hW hT_x_26.1 hS_x_26 (vp_in_nI (n := 8 * i + j) (N := 64) (by omega) (by omega)) dX12_laysBounds_122 (fun H locs f_85 S_84 ef_f_85 e1 hW => ?_)
                  have hTy := hTy.u64 e1 hT_x_26 ⟨f_85, rfl⟩
                  have hS_o := un e1 hT_o hT_x_26 (by decide) hS_o
                  have hS_x_1 := un e1 hT_x_1 hT_x_26 (by decide) hS_x_1
                  have hS_x_23 := un e1 hT_x_23 hT_x_26 (by decide) hS_x_23
                  have hS_x_21 := un e1 hT_x_21 hT_x_26 (by decide) hS_x_21
                  have hFr := uf hFr e1 hT_x_26 (by decide) (by decide)
                  have hFl8 := uf hFl8 e1 hT_x_26 (by decide) (by decide)
                  have hFl47 := uf hFl47 e1 hT_x_26 (by decide) (by decide)
                  have hS_x_26 := us e1
                  refine lv_iinc (v := nI (j + 1)) (lv' := [(4, .int (nI (j + 1))), (5, .int 0), (3, .int (nI i)), (0, .ref o), (1, .int kd), (2, .int wo)]) hx hb dX12_laysBounds_123 hl (k := 1) rfl (nI_add (j) 1) (by decide) rfl (fun ls hl => ?_)
                  refine lv_goto (tgt := 47) hx hb dX12_laysBounds_126 (by decide) ?_
                  exact ih47 (j + 1) _ _ _ ls (by omega) (by omega) hTy hFr hFl47 hW (lv_sub hl [0, 2, 3, 4, 5] rfl)
                · have c_57 : ¬ (i = j) := fun hh9 => c_57 ((nI_eq (a := i) (b := j) (by omega) (by omega)).mpr hh9)
                  refine lv_iload_n hx hb dX12_laysBounds_60 rfl (lv_at hl 1 rfl) ?_
                  refine lv_aload_n hx hb dX12_laysBounds_61 rfl (lv_at hl 2 rfl) ?_
                  refine pl_get (ci := 12) (v := .int (nI x_6)) (C := RX12) (T := TX12) (N := 32) hx hb hT iX12 hown hK hW hT_o.1 hS_o rfl 5 (by decide) w1087 rfl dX12_laysBounds_62 ?_
                  refine lv_icmp_ge (tgt := 81) hx hb dX12_laysBounds_65 (by decide) (fun c_65 => ?_) (fun c_65 => ?_)
                  · have c_65 : x_6 ≤ i := (nI_leI (a := x_6) (b := i) (by omega) (by omega)).mp c_65
                    refine lv_iconst (v := 0) hx hb dX12_laysBounds_81 (by decide) ?_
                    refine lv_istore (lv' := [(5, .int 0), (4, .int (nI j)), (3, .int (nI i)), (0, .ref o), (1, .int kd), (2, .int wo)]) hx hb dX12_laysBounds_82 hl (by decide) rfl (fun ls hl => ?_)
                    refine lv_aload_n hx hb dX12_laysBounds_84 rfl (lv_at hl 3 rfl) ?_
                    refine pl_get (ci := 12) (v := .ref x_21) (C := RX12) (T := TX12) (N := 32) hx hb hT iX12 hown hK hW hT_o.1 hS_o rfl 21 (by decide) w1103 rfl dX12_laysBounds_85 ?_
                    refine lv_iload_n hx hb dX12_laysBounds_88 rfl (lv_at hl 2 rfl) ?_
                    refine lv_iload hx hb dX12_laysBounds_89 (lv_at hl 1 rfl) ?_
                    refine vp_callSi (va_Run.run (va_runS (As := [.int (nI i), .int (nI j)]) (rest := [.ref x_21]) ⟨hx, hb, hml, hown, hT⟩ (m_couple l dC dI H.size i j (by omega) (by omega)) (va_cwS 2 hT (gS w1348 w1349 w14 w1350) rfl rfl rfl (by decide +kernel) ⟨(Nat.le_of_ble_eq_true rfl), (Nat.le_of_ble_eq_true rfl)⟩) ⟨pcW.blind, pcW.pre (va_P0 _ _ _) (hK.sub (tys' := []) [] rfl) (va_D0 (fun _ => True))⟩ rfl rfl hl.1 rfl (lv_room (Nat.le_of_ble_eq_true rfl)) dX12_laysBounds_91 ⟨(Nat.le_of_ble_eq_true rfl), (Nat.le_of_ble_eq_true rfl)⟩)) (fun r_86 hr_86 => ?_)
                    obtain rfl : r_86 = nI (8 * i + j) := hr_86
                    refine lv_iload hx hb dX12_laysBounds_94 (lv_at hl 0 rfl) ?_
                    refine lv_if_eq (tgt := 109) hx hb dX12_laysBounds_96 (by decide) (fun _ => ?_) (fun h => absurd (by decide) h)
                    refine lv_iconst (v := 0) hx hb dX12_laysBounds_109 (by decide) ?_
                    obtain ⟨f_87, hS_x_21⟩ := hTy.k59 hT_x_21
                    refine pl_iast hx hb hK hW hT_x_21.1 hS_x_21 (vp_in_nI (n := 8 * i + j) (N := 64) (by omega) (by omega)) dX12_laysBounds_110 (fun H locs f_89 S_88 ef_f_89 e1 hW => ?_)
                    have hTy := hTy.u59 e1 hT_x_21 ⟨f_89, rfl⟩
                    have hS_o := un e1 hT_o hT_x_21 (by decide) hS_o
                    have hS_x_1 := un e1 hT_x_1 hT_x_21 (by decide) hS_x_1
                    have hS_x_23 := un e1 hT_x_23 hT_x_21 (by decide) hS_x_23
                    have hFr := uf hFr e1 hT_x_21 (by decide) (by decide)
                    have hFl8 := uf hFl8 e1 hT_x_21 (by decide) (by decide)
                    have hFl47 := uf hFl47 e1 hT_x_21 (by decide) (by decide)
                    have hS_x_21 := us e1
                    refine lv_aload_n hx hb dX12_laysBounds_111 rfl (lv_at hl 3 rfl) ?_
                    refine pl_get (ci := 12) (v := .ref x_26) (C := RX12) (T := TX12) (N := 32) hx hb hT iX12 hown hK hW hT_o.1 hS_o rfl 26 (by decide) w1108 rfl dX12_laysBounds_112 ?_
                    refine lv_iload_n hx hb dX12_laysBounds_115 rfl (lv_at hl 2 rfl) ?_
                    refine lv_iload hx hb dX12_laysBounds_116 (lv_at hl 1 rfl) ?_
                    refine vp_callSi (va_Run.run (va_runS (As := [.int (nI i), .int (nI j)]) (rest := [.ref x_26]) ⟨hx, hb, hml, hown, hT⟩ (m_couple l dC dI H.size i j (by omega) (by omega)) (va_cwS 2 hT (gS w1348 w1349 w14 w1350) rfl rfl rfl (by decide +kernel) ⟨(Nat.le_of_ble_eq_true rfl), (Nat.le_of_ble_eq_true rfl)⟩) ⟨pcW.blind, pcW.pre (va_P0 _ _ _) (hK.sub (tys' := []) [] rfl) (va_D0 (fun _ => True))⟩ rfl rfl hl.1 rfl (lv_room (Nat.le_of_ble_eq_true rfl)) dX12_laysBounds_118 ⟨(Nat.le_of_ble_eq_true rfl), (Nat.le_of_ble_eq_true rfl)⟩)) (fun r_90 hr_90 => ?_)
                    obtain rfl : r_90 = nI (8 * i + j) := hr_90
                    refine lv_iconst (v := 0) hx hb dX12_laysBounds_121 (by decide) ?_
                    obtain ⟨f_91, hS_x_26⟩ := hTy.k64 hT_x_26
                    refine pl_zast hx hb hK hW hT_x_26.1 hS_x_26 (vp_in_nI (n := 8 * i + j) (N := 64) (by omega) (by omega)) dX12_laysBounds_122 (fun H locs f_93 S_92 ef_f_93 e1 hW => ?_)
                    have hTy := hTy.u64 e1 hT_x_26 ⟨f_93, rfl⟩
                    have hS_o := un e1 hT_o hT_x_26 (by decide) hS_o
                    have hS_x_1 := un e1 hT_x_1 hT_x_26 (by decide) hS_x_1
                    have hS_x_23 := un e1 hT_x_23 hT_x_26 (by decide) hS_x_23
                    have hS_x_21 := un e1 hT_x_21 hT_x_26 (by decide) hS_x_21
                    have hFr := uf hFr e1 hT_x_26 (by decide) (by decide)
                    have hFl8 := uf hFl8 e1 hT_x_26 (by decide) (by decide)
                    have hFl47 := uf hFl47 e1 hT_x_26 (by decide) (by decide)
                    have hS_x_26 := us e1
                    refine lv_iinc (v := nI (j + 1)) (lv' := [(4, .int (nI (j + 1))), (5, .int 0), (3, .int (nI i)), (0, .ref o), (1, .int kd), (2, .int wo)]) hx hb dX12_laysBounds_123 hl (k := 1) rfl (nI_add (j) 1) (by decide) rfl (fun ls hl => ?_)
                    refine lv_goto (tgt := 47) hx hb dX12_laysBounds_126 (by decide) ?_
                    exact ih47 (j + 1) _ _ _ ls (by omega) (by omega) hTy hFr hFl47 hW (lv_sub hl [0, 2, 3, 4, 5] rfl)
                  · have c_65 : ¬ (x_6 ≤ i) := fun hh9 => c_65 ((nI_leI (a := x_6) (b := i) (by omega) (by omega)).mpr hh9)
                    refine lv_iload hx hb dX12_laysBounds_68 (lv_at hl 0 rfl) ?_
                    refine lv_aload_n hx hb dX12_laysBounds_70 rfl (lv_at hl 2 rfl) ?_
                    refine pl_get (ci := 12) (v := .int (nI x_6)) (C := RX12) (T := TX12) (N := 32) hx hb hT iX12 hown hK hW hT_o.1 hS_o rfl 5 (by decide) w1087 rfl dX12_laysBounds_71 ?_
                    refine lv_icmp_ge (tgt := 81) hx hb dX12_laysBounds_74 (by decide) (fun c_74 => ?_) (fun c_74 => ?_)
                    · have c_74 : x_6 ≤ j := (nI_leI (a := x_6) (b := j) (by omega) (by omega)).mp c_74
                      refine lv_iconst (v := 0) hx hb dX12_laysBounds_81 (by decide) ?_
                      refine lv_istore (lv' := [(5, .int 0), (4, .int (nI j)), (3, .int (nI i)), (0, .ref o), (1, .int kd), (2, .int wo)]) hx hb dX12_laysBounds_82 hl (by decide) rfl (fun ls hl => ?_)
                      refine lv_aload_n hx hb dX12_laysBounds_84 rfl (lv_at hl 3 rfl) ?_
                      refine pl_get (ci := 12) (v := .ref x_21) (C := RX12) (T := TX12) (N := 32) hx hb hT iX12 hown hK hW hT_o.1 hS_o rfl 21 (by decide) w1103 rfl dX12_laysBounds_85 ?_
                      refine lv_iload_n hx hb dX12_laysBounds_88 rfl (lv_at hl 2 rfl) ?_
                      refine lv_iload hx hb dX12_laysBounds_89 (lv_at hl 1 rfl) ?_
                      refine vp_callSi (va_Run.run (va_runS (As := [.int (nI i), .int (nI j)]) (rest := [.ref x_21]) ⟨hx, hb, hml, hown, hT⟩ (m_couple l dC dI H.size i j (by omega) (by omega)) (va_cwS 2 hT (gS w1348 w1349 w14 w1350) rfl rfl rfl (by decide +kernel) ⟨(Nat.le_of_ble_eq_true rfl), (Nat.le_of_ble_eq_true rfl)⟩) ⟨pcW.blind, pcW.pre (va_P0 _ _ _) (hK.sub (tys' := []) [] rfl) (va_D0 (fun _ => True))⟩ rfl rfl hl.1 rfl (lv_room (Nat.le_of_ble_eq_true rfl)) dX12_laysBounds_91 ⟨(Nat.le_of_ble_eq_true rfl), (Nat.le_of_ble_eq_true rfl)⟩)) (fun r_94 hr_94 => ?_)
                      obtain rfl : r_94 = nI (8 * i + j) := hr_94
                      refine lv_iload hx hb dX12_laysBounds_94 (lv_at hl 0 rfl) ?_
                      refine lv_if_eq (tgt := 109) hx hb dX12_laysBounds_96 (by decide) (fun _ => ?_) (fun h => absurd (by decide) h)
                      refine lv_iconst (v := 0) hx hb dX12_laysBounds_109 (by decide) ?_
                      obtain ⟨f_95, hS_x_21⟩ := hTy.k59 hT_x_21
                      refine pl_iast hx hb hK hW hT_x_21.1 hS_x_21 (vp_in_nI (n := 8 * i + j) (N := 64) (by omega) (by omega)) dX12_laysBounds_110 (fun H locs f_97 S_96 ef_f_97 e1 hW => ?_)
                      have hTy := hTy.u59 e1 hT_x_21 ⟨f_97, rfl⟩
                      have hS_o := un e1 hT_o hT_x_21 (by decide) hS_o
                      have hS_x_1 := un e1 hT_x_1 hT_x_21 (by decide) hS_x_1
                      have hS_x_23 := un e1 hT_x_23 hT_x_21 (by decide) hS_x_23
                      have hFr := uf hFr e1 hT_x_21 (by decide) (by decide)
                      have hFl8 := uf hFl8 e1 hT_x_21 (by decide) (by decide)
                      have hFl47 := uf hFl47 e1 hT_x_21 (by decide) (by decide)
                      have hS_x_21 := us e1
                      refine lv_aload_n hx hb dX12_laysBounds_111 rfl (lv_at hl 3 rfl) ?_
                      refine pl_get (ci := 12) (v := .ref x_26) (C := RX12) (T := TX12) (N := 32) hx hb hT iX12 hown hK hW hT_o.1 hS_o rfl 26 (by decide) w1108 rfl dX12_laysBounds_112 ?_
                      refine lv_iload_n hx hb dX12_laysBounds_115 rfl (lv_at hl 2 rfl) ?_
                      refine lv_iload hx hb dX12_laysBounds_116 (lv_at hl 1 rfl) ?_
                      refine vp_callSi (va_Run.run (va_runS (As := [.int (nI i), .int (nI j)]) (rest := [.ref x_26]) ⟨hx, hb, hml, hown, hT⟩ (m_couple l dC dI H.size i j (by omega) (by omega)) (va_cwS 2 hT (gS w1348 w1349 w14 w1350) rfl rfl rfl (by decide +kernel) ⟨(Nat.le_of_ble_eq_true rfl), (Nat.le_of_ble_eq_true rfl)⟩) ⟨pcW.blind, pcW.pre (va_P0 _ _ _) (hK.sub (tys' := []) [] rfl) (va_D0 (fun _ => True))⟩ rfl rfl hl.1 rfl (lv_room (Nat.le_of_ble_eq_true rfl)) dX12_laysBounds_118 ⟨(Nat.le_of_ble_eq_true rfl), (Nat.le_of_ble_eq_true rfl)⟩)) (fun r_98 hr_98 => ?_)
                      obtain rfl : r_98 = nI (8 * i + j) := hr_98
                      refine lv_iconst (v := 0) hx hb dX12_laysBounds_121 (by decide) ?_
                      obtain ⟨f_99, hS_x_26⟩ := hTy.k64 hT_x_26
                      refine pl_zast hx hb hK hW hT_x_26.1 hS_x_26 (vp_in_nI (n := 8 * i + j) (N := 64) (by omega) (by omega)) dX12_laysBounds_122 (fun H locs f_101 S_100 ef_f_101 e1 hW => ?_)
                      have hTy := hTy.u64 e1 hT_x_26 ⟨f_101, rfl⟩
                      have hS_o := un e1 hT_o hT_x_26 (by decide) hS_o
                      have hS_x_1 := un e1 hT_x_1 hT_x_26 (by decide) hS_x_1
                      have hS_x_23 := un e1 hT_x_23 hT_x_26 (by decide) hS_x_23
                      have hS_x_21 := un e1 hT_x_21 hT_x_26 (by decide) hS_x_21
                      have hFr := uf hFr e1 hT_x_26 (by decide) (by decide)
                      have hFl8 := uf hFl8 e1 hT_x_26 (by decide) (by decide)
                      have hFl47 := uf hFl47 e1 hT_x_26 (by decide) (by decide)
                      have hS_x_26 := us e1
                      refine lv_iinc (v := nI (j + 1)) (lv' := [(4, .int (nI (j + 1))), (5, .int 0), (3, .int (nI i)), (0, .ref o), (1, .int kd), (2, .int wo)]) hx hb dX12_laysBounds_123 hl (k := 1) rfl (nI_add (j) 1) (by decide) rfl (fun ls hl => ?_)
                      refine lv_goto (tgt := 47) hx hb dX12_laysBounds_126 (by decide) ?_
                      exact ih47 (j + 1) _ _ _ ls (by omega) (by omega) hTy hFr hFl47 hW (lv_sub hl [0, 2, 3, 4, 5] rfl)
                    · have c_74 : ¬ (x_6 ≤ j) := fun hh9 => c_74 ((nI_leI (a := x_6) (b := j) (by omega) (by omega)).mpr hh9)
                      refine lv_iconst (v := 1) hx hb dX12_laysBounds_77 (by decide) ?_
                      refine lv_goto (tgt := 82) hx hb dX12_laysBounds_78 (by decide) ?_
                      refine lv_istore (lv' := [(5, .int 1), (4, .int (nI j)), (3, .int (nI i)), (0, .ref o), (1, .int kd), (2, .int wo)]) hx hb dX12_laysBounds_82 hl (by decide) rfl (fun ls hl => ?_)
                      refine lv_aload_n hx hb dX12_laysBounds_84 rfl (lv_at hl 3 rfl) ?_
                      refine pl_get (ci := 12) (v := .ref x_21) (C := RX12) (T := TX12) (N := 32) hx hb hT iX12 hown hK hW hT_o.1 hS_o rfl 21 (by decide) w1103 rfl dX12_laysBounds_85 ?_
                      refine lv_iload_n hx hb dX12_laysBounds_88 rfl (lv_at hl 2 rfl) ?_
                      refine lv_iload hx hb dX12_laysBounds_89 (lv_at hl 1 rfl) ?_
                      refine vp_callSi (va_Run.run (va_runS (As := [.int (nI i), .int (nI j)]) (rest := [.ref x_21]) ⟨hx, hb, hml, hown, hT⟩ (m_couple l dC dI H.size i j (by omega) (by omega)) (va_cwS 2 hT (gS w1348 w1349 w14 w1350) rfl rfl rfl (by decide +kernel) ⟨(Nat.le_of_ble_eq_true rfl), (Nat.le_of_ble_eq_true rfl)⟩) ⟨pcW.blind, pcW.pre (va_P0 _ _ _) (hK.sub (tys' := []) [] rfl) (va_D0 (fun _ => True))⟩ rfl rfl hl.1 rfl (lv_room (Nat.le_of_ble_eq_true rfl)) dX12_laysBounds_91 ⟨(Nat.le_of_ble_eq_true rfl), (Nat.le_of_ble_eq_true rfl)⟩)) (fun r_102 hr_102 => ?_)
                      obtain rfl : r_102 = nI (8 * i + j) := hr_102
                      refine lv_iload hx hb dX12_laysBounds_94 (lv_at hl 0 rfl) ?_
                      refine lv_if_eq (tgt := 109) hx hb dX12_laysBounds_96 (by decide) (fun h => absurd h (by decide)) (fun _ => ?_)
                      refine lv_aload_n hx hb dX12_laysBounds_99 rfl (lv_at hl 3 rfl) ?_
                      refine lv_iload_n hx hb dX12_laysBounds_100 rfl (lv_at hl 2 rfl) ?_
                      refine lv_iload hx hb dX12_laysBounds_101 (lv_at hl 1 rfl) ?_
                      refine vp_callSi (va_Run.run (va_runV (As := [.int (nI i), .int (nI j)]) (rest := [.int (nI (8 * i + j)), .ref x_21]) ⟨hx, hb, hml, hown, hT⟩ (m_boundOf l dC dI cy L kap pr S_77 H.size o i j hTy hT_o (by omega) (by omega)) (cwV 2 hT (gV w1386 w1388 ws85 w14 w1389) rfl rfl rfl (by decide +kernel) ⟨(Nat.le_of_ble_eq_true rfl), (Nat.le_of_ble_eq_true rfl)⟩) ⟨pcN.blind, pl_recv hK hW hT_o.1 hS_o rfl, pcN.pre hW.1 hK hW.2.1 hN (fun q h => absurd h List.not_mem_nil)⟩ rfl rfl hl.1 rfl (lv_room (Nat.le_of_ble_eq_true rfl)) dX12_laysBounds_103 ⟨(Nat.le_of_ble_eq_true rfl), (Nat.le_of_ble_eq_true rfl)⟩)) (fun r_103 hr_103 => ?_)
                      refine lv_goto (tgt := 110) hx hb dX12_laysBounds_106 (by decide) ?_
                      obtain ⟨f_104, hS_x_21⟩ := hTy.k59 hT_x_21
                      refine pl_iast hx hb hK hW hT_x_21.1 hS_x_21 (vp_in_nI (n := 8 * i + j) (N := 64) (by omega) (by omega)) dX12_laysBounds_110 (fun H locs f_106 S_105 ef_f_106 e1 hW => ?_)
                      have hTy := hTy.u59 e1 hT_x_21 ⟨f_106, rfl⟩
                      have hS_o := un e1 hT_o hT_x_21 (by decide) hS_o
                      have hS_x_1 := un e1 hT_x_1 hT_x_21 (by decide) hS_x_1
                      have hS_x_23 := un e1 hT_x_23 hT_x_21 (by decide) hS_x_23
                      have hFr := uf hFr e1 hT_x_21 (by decide) (by decide)
                      have hFl8 := uf hFl8 e1 hT_x_21 (by decide) (by decide)
                      have hFl47 := uf hFl47 e1 hT_x_21 (by decide) (by decide)
                      have hS_x_21 := us e1
                      refine lv_aload_n hx hb dX12_laysBounds_111 rfl (lv_at hl 3 rfl) ?_
                      refine pl_get (ci := 12) (v := .ref x_26) (C := RX12) (T := TX12) (N := 32) hx hb hT iX12 hown hK hW hT_o.1 hS_o rfl 26 (by decide) w1108 rfl dX12_laysBounds_112 ?_
                      refine lv_iload_n hx hb dX12_laysBounds_115 rfl (lv_at hl 2 rfl) ?_
                      refine lv_iload hx hb dX12_laysBounds_116 (lv_at hl 1 rfl) ?_
                      refine vp_callSi (va_Run.run (va_runS (As := [.int (nI i), .int (nI j)]) (rest := [.ref x_26]) ⟨hx, hb, hml, hown, hT⟩ (m_couple l dC dI H.size i j (by omega) (by omega)) (va_cwS 2 hT (gS w1348 w1349 w14 w1350) rfl rfl rfl (by decide +kernel) ⟨(Nat.le_of_ble_eq_true rfl), (Nat.le_of_ble_eq_true rfl)⟩) ⟨pcW.blind, pcW.pre (va_P0 _ _ _) (hK.sub (tys' := []) [] rfl) (va_D0 (fun _ => True))⟩ rfl rfl hl.1 rfl (lv_room (Nat.le_of_ble_eq_true rfl)) dX12_laysBounds_118 ⟨(Nat.le_of_ble_eq_true rfl), (Nat.le_of_ble_eq_true rfl)⟩)) (fun r_107 hr_107 => ?_)
                      obtain rfl : r_107 = nI (8 * i + j) := hr_107
                      refine lv_iconst (v := 0) hx hb dX12_laysBounds_121 (by decide) ?_
                      obtain ⟨f_108, hS_x_26⟩ := hTy.k64 hT_x_26
                      refine pl_zast hx hb hK hW hT_x_26.1 hS_x_26 (vp_in_nI (n := 8 * i + j) (N := 64) (by omega) (by omega)) dX12_laysBounds_122 (fun H locs f_110 S_109 ef_f_110 e1 hW => ?_)
                      have hTy := hTy.u64 e1 hT_x_26 ⟨f_110, rfl⟩
                      have hS_o := un e1 hT_o hT_x_26 (by decide) hS_o
                      have hS_x_1 := un e1 hT_x_1 hT_x_26 (by decide) hS_x_1
                      have hS_x_23 := un e1 hT_x_23 hT_x_26 (by decide) hS_x_23
                      have hS_x_21 := un e1 hT_x_21 hT_x_26 (by decide) hS_x_21
                      have hFr := uf hFr e1 hT_x_26 (by decide) (by decide)
                      have hFl8 := uf hFl8 e1 hT_x_26 (by decide) (by decide)
                      have hFl47 := uf hFl47 e1 hT_x_26 (by decide) (by decide)
                      have hS_x_26 := us e1
                      refine lv_iinc (v := nI (j + 1)) (lv' := [(4, .int (nI (j + 1))), (5, .int 1), (3, .int (nI i)), (0, .ref o), (1, .int kd), (2, .int wo)]) hx hb dX12_laysBounds_123 hl (k := 1) rfl (nI_add (j) 1) (by decide) rfl (fun ls hl => ?_)
                      refine lv_goto (tgt := 47) hx hb dX12_laysBounds_126 (by decide) ?_
                      exact ih47 (j + 1) _ _ _ ls (by omega) (by omega) hTy hFr hFl47 hW (lv_sub hl [0, 2, 3, 4, 5] rfl)
          exact loop ((9 - 0) + 1) 0 _ _ _ ls (Nat.lt_succ_self _) (by omega) hTy hFr Fr.rf hW (lv_sub hl [0, 1, 2, 3, 4] rfl)
  exact loop ((9 - 0) + 1) 0 _ _ _ ls (Nat.lt_succ_self _) (by omega) hTy hFr Fr.rf hW (lv_sub hl [0, 1, 2, 3] rfl)

set_option maxHeartbeats 4000000 in
set_option maxRecDepth 100000 in
theorem m_reliefOf (l : Launch) (dC : Nat → ClassId) (dI : Nat → Nat → Nat) (cy : Nat → ClassId) (L : List Nat) (kap : Nat → Nat) (pr : Pr) (S : Nat → va_E) (sz : Nat) (o : Nat) (pa : Nat) (hTy : Ty cy L kap pr S) (hT_o : TK L kap o 12) (hb_pa : pa < 8) : Met l yX12_reliefOf (wT yX12_reliefOf cX12_reliefOf 4 (some .int)) ({ frames := 1, cells := 0, slots := 0, locals := 21 }) (pcN dC dI [.ref o, .int (nI pa)] sz (va_pl L S) (cyT cy) NLs []) (vp_Si (fun r => True)) 0 0 (fun _ => False) := by
  refine Met.ofW (cc := cX12_reliefOf) (maxL := 4) (ret := (some .int)) (by decide) rfl ?_
  intro p e s m args below meth c s₁ B hml hv
  obtain ⟨rfl, hsz, hP, hK, hD0, hN, -⟩ := hv
  have hx := B.exec
  have hb := B.bytes
  have hr := B.returns
  have hT : ∀ wd ∈ TB, wd.before [.ref o, .int (nI pa)].toArray s = true := fun wd h => atoms_spec (ws := wT yX12_reliefOf cX12_reliefOf 4 (some .int)) B.pre wd (List.mem_cons_of_mem _ h)
  have hown : s.vm.findClass RX12 = some m.cls := findClass_of_methodNamed B.named
  have hlocks := B.notSynchronized
  subst hsz
  have hW : PW dC dI L (AL L s.heap.size) s.heap S s.heap [] := ⟨hP, pl_self hD0, va_S.rf⟩
  have hFr : Fr kap [] S S := Fr.rf
  have hl := lv_entry ([.ref o, .int (nI pa)]) (n := 4) (Nat.le_of_ble_eq_true rfl)
  rw [lg_entry_eq]
  generalize (lg_sl ([.ref o, .int (nI pa)]) ++ List.replicate (4 - (lg_sl ([.ref o, .int (nI pa)])).length) Slot.unset).toArray = ls at hl ⊢
  have hl : lv_has ls 4 [(0, .ref o), (1, .int (nI pa))] := hl
  refine lv_ldc (v := 100000000) hx hb hown (hT _ w1355) dX12_reliefOf_0 ?_
  refine lv_istore_n (lv' := [(2, .int 100000000), (0, .ref o), (1, .int (nI pa))]) hx hb dX12_reliefOf_2 rfl hl (by decide) rfl (fun ls hl => ?_)
  refine lv_iconst (v := 0) hx hb dX12_reliefOf_3 (by decide) ?_
  refine lv_istore_n (lv' := [(3, .int 0), (2, .int 100000000), (0, .ref o), (1, .int (nI pa))]) hx hb dX12_reliefOf_4 rfl hl (by decide) rfl (fun ls hl => ?_)
  have loop : ∀ (fuel : Nat) (i : Nat) (sm : Int32) (ls : Array Slot), 9 - i < fuel → (i ≤ 8) → lv_has ls 4 [(3, .int (nI i)), (2, .int sm), (0, .ref o), (1, .int (nI pa))] → W p l e (headSpec (wT yX12_reliefOf cX12_reliefOf 4 (some .int)) { frames := 1, cells := 0, slots := 0, locals := 21 }).room s m [.ref o, .int (nI pa)].toArray below meth c s.heap [] 0 0 (MQ below (vp_Si (fun r => True)) [.ref o, .int (nI pa)].toArray s 0 0 (fun _ => False)) (F0 m 5 ls []) := by
    intro fuel
    induction fuel with
    | zero => intro i sm ls h; exact absurd h (Nat.not_lt_zero _)
    | succ fu5 ih5 =>
      intro i sm ls hm5 hb_i hl
      refine lv_iload_n hx hb dX12_reliefOf_5 rfl (lv_at hl 0 rfl) ?_
      refine lv_aload_n hx hb dX12_reliefOf_6 rfl (lv_at hl 2 rfl) ?_
      obtain ⟨x_1, x_2, x_3, x_4, x_5, x_6, x_7, x_8, x_9, x_10, x_11, x_12, x_13, x_14, x_15, x_16, x_17, x_18, x_19, x_20, x_21, x_22, x_23, x_24, x_25, x_26, x_27, x_28, x_29, x_30, x_31, hS_o, hT_x_1, hT_x_2, hT_x_3, hT_x_4, hT_x_5, hb_x_6, hb_x_7, hb_x_8, hT_x_10, hb_q2, hb_x_11, hb_x_12, hT_x_17, hT_x_18, hb_x_19, hT_x_20, hT_x_21, hT_x_22, hT_x_23, hT_x_24, hT_x_25, hT_x_26, hT_x_27, hT_x_28, hT_x_29, hT_x_30, hb_x_31⟩ := hTy.k12 hT_o
      have hb_q2 : pr.2 ≤ 900 := hb_q2
      have hS_o : S o = .inr (12, [.ref x_1, .ref x_2, .ref x_3, .ref x_4, .ref x_5, .int (nI x_6), .int (nI x_7), .int (nI x_8), .int x_9, .ref x_10, .int (nI (pr.2)), .int (nI x_11), .int (nI x_12), .int x_13, .int x_14, .int x_15, .int x_16, .ref x_17, .ref x_18, .int (nI x_19), .ref x_20, .ref x_21, .ref x_22, .ref x_23, .ref x_24, .ref x_25, .ref x_26, .ref x_27, .ref x_28, .ref x_29, .ref x_30, .int (nI x_31)]) := hS_o
      refine pl_get (ci := 12) (v := .int (nI x_6)) (C := RX12) (T := TX12) (N := 32) hx hb hT iX12 hown hK hW hT_o.1 hS_o rfl 5 (by decide) w1087 rfl dX12_reliefOf_7 ?_
      refine lv_icmp_ge (tgt := 65) hx hb dX12_reliefOf_10 (by decide) (fun c_10 => ?_) (fun c_10 => ?_)
      · have c_10 : x_6 ≤ i := (nI_leI (a := x_6) (b := i) (by omega) (by omega)).mp c_10
        refine lv_iload_n hx hb dX12_reliefOf_65 rfl (lv_at hl 1 rfl) ?_
        exact W.iret (v := sm) hx hb hr (fun t ht h9 => ⟨sm, rfl, trivial, ht⟩) (fun q h => by cases h) dX12_reliefOf_66
      · have c_10 : ¬ (x_6 ≤ i) := fun hh9 => c_10 ((nI_leI (a := x_6) (b := i) (by omega) (by omega)).mpr hh9)
        refine lv_iload_n hx hb dX12_reliefOf_13 rfl (lv_at hl 1 rfl) ?_
        refine lv_aload_n hx hb dX12_reliefOf_14 rfl (lv_at hl 2 rfl) ?_
        refine pl_get (ci := 12) (v := .ref x_17) (C := RX12) (T := TX12) (N := 32) hx hb hT iX12 hown hK hW hT_o.1 hS_o rfl 17 (by decide) w1099 rfl dX12_reliefOf_15 ?_
        refine lv_iload_n hx hb dX12_reliefOf_18 rfl (lv_at hl 3 rfl) ?_
        refine lv_iload_n hx hb dX12_reliefOf_19 rfl (lv_at hl 0 rfl) ?_
        refine vp_callSi (va_Run.run (va_runS (As := [.int (nI pa), .int (nI i)]) (rest := [.ref x_17, .int sm]) ⟨hx, hb, hml, hown, hT⟩ (m_couple l dC dI s.heap.size pa i (by omega) (by omega)) (va_cwS 2 hT (gS w1348 w1349 w14 w1350) rfl rfl rfl (by decide +kernel) ⟨(Nat.le_of_ble_eq_true rfl), (Nat.le_of_ble_eq_true rfl)⟩) ⟨pcW.blind, pcW.pre (va_P0 _ _ _) (hK.sub (tys' := []) [] rfl) (va_D0 (fun _ => True))⟩ rfl rfl hl.1 rfl (lv_room (Nat.le_of_ble_eq_true rfl)) dX12_reliefOf_20 ⟨(Nat.le_of_ble_eq_true rfl), (Nat.le_of_ble_eq_true rfl)⟩)) (fun r_32 hr_32 => ?_)
        obtain rfl : r_32 = nI (8 * pa + i) := hr_32
        obtain ⟨f_33, hS_x_17⟩ := hTy.k56 hT_x_17
        refine pl_iald hx hb hK hW hT_x_17.1 hS_x_17 (vp_in_nI (n := 8 * pa + i) (N := 64) (by omega) (by omega)) dX12_reliefOf_23 ?_
        refine lv_topi (fun y_34 ey_34 => ?_)
        refine lv_aload_n hx hb dX12_reliefOf_24 rfl (lv_at hl 2 rfl) ?_
        refine pl_get (ci := 12) (v := .ref x_17) (C := RX12) (T := TX12) (N := 32) hx hb hT iX12 hown hK hW hT_o.1 hS_o rfl 17 (by decide) w1099 rfl dX12_reliefOf_25 ?_
        refine lv_iload_n hx hb dX12_reliefOf_28 rfl (lv_at hl 0 rfl) ?_
        refine lv_iload_n hx hb dX12_reliefOf_29 rfl (lv_at hl 3 rfl) ?_
        refine vp_callSi (va_Run.run (va_runS (As := [.int (nI i), .int (nI pa)]) (rest := [.ref x_17, .int y_34, .int sm]) ⟨hx, hb, hml, hown, hT⟩ (m_couple l dC dI s.heap.size i pa (by omega) (by omega)) (va_cwS 2 hT (gS w1348 w1349 w14 w1350) rfl rfl rfl (by decide +kernel) ⟨(Nat.le_of_ble_eq_true rfl), (Nat.le_of_ble_eq_true rfl)⟩) ⟨pcW.blind, pcW.pre (va_P0 _ _ _) (hK.sub (tys' := []) [] rfl) (va_D0 (fun _ => True))⟩ rfl rfl hl.1 rfl (lv_room (Nat.le_of_ble_eq_true rfl)) dX12_reliefOf_30 ⟨(Nat.le_of_ble_eq_true rfl), (Nat.le_of_ble_eq_true rfl)⟩)) (fun r_35 hr_35 => ?_)
        obtain rfl : r_35 = nI (8 * i + pa) := hr_35
        refine pl_iald hx hb hK hW hT_x_17.1 hS_x_17 (vp_in_nI (n := 8 * i + pa) (N := 64) (by omega) (by omega)) dX12_reliefOf_33 ?_
        refine lv_topi (fun y_36 ey_36 => ?_)
        refine lv_iadd hx hb dX12_reliefOf_34 ?_
        refine lv_topi (fun z_37 ez_37 => ?_)
        refine lv_aload_n hx hb dX12_reliefOf_35 rfl (lv_at hl 2 rfl) ?_
        refine pl_get (ci := 12) (v := .ref x_22) (C := RX12) (T := TX12) (N := 32) hx hb hT iX12 hown hK hW hT_o.1 hS_o rfl 22 (by decide) w1104 rfl dX12_reliefOf_36 ?_
        refine lv_iload_n hx hb dX12_reliefOf_39 rfl (lv_at hl 3 rfl) ?_
        refine lv_iload_n hx hb dX12_reliefOf_40 rfl (lv_at hl 0 rfl) ?_
        refine vp_callSi (va_Run.run (va_runS (As := [.int (nI pa), .int (nI i)]) (rest := [.ref x_22, .int z_37, .int sm]) ⟨hx, hb, hml, hown, hT⟩ (m_couple l dC dI s.heap.size pa i (by omega) (by omega)) (va_cwS 2 hT (gS w1348 w1349 w14 w1350) rfl rfl rfl (by decide +kernel) ⟨(Nat.le_of_ble_eq_true rfl), (Nat.le_of_ble_eq_true rfl)⟩) ⟨pcW.blind, pcW.pre (va_P0 _ _ _) (hK.sub (tys' := []) [] rfl) (va_D0 (fun _ => True))⟩ rfl rfl hl.1 rfl (lv_room (Nat.le_of_ble_eq_true rfl)) dX12_reliefOf_41 ⟨(Nat.le_of_ble_eq_true rfl), (Nat.le_of_ble_eq_true rfl)⟩)) (fun r_38 hr_38 => ?_)
        obtain rfl : r_38 = nI (8 * pa + i) := hr_38
        obtain ⟨f_39, hS_x_22⟩ := hTy.k60 hT_x_22
        refine pl_iald hx hb hK hW hT_x_22.1 hS_x_22 (vp_in_nI (n := 8 * pa + i) (N := 64) (by omega) (by omega)) dX12_reliefOf_44 ?_
        refine lv_topi (fun y_40 ey_40 => ?_)
        refine lv_isub hx hb dX12_reliefOf_45 ?_
        refine lv_topi (fun z_41 ez_41 => ?_)
        refine lv_aload_n hx hb dX12_reliefOf_46 rfl (lv_at hl 2 rfl) ?_
        refine pl_get (ci := 12) (v := .ref x_22) (C := RX12) (T := TX12) (N := 32) hx hb hT iX12 hown hK hW hT_o.1 hS_o rfl 22 (by decide) w1104 rfl dX12_reliefOf_47 ?_
        refine lv_iload_n hx hb dX12_reliefOf_50 rfl (lv_at hl 0 rfl) ?_
        refine lv_iload_n hx hb dX12_reliefOf_51 rfl (lv_at hl 3 rfl) ?_
        refine vp_callSi (va_Run.run (va_runS (As := [.int (nI i), .int (nI pa)]) (rest := [.ref x_22, .int z_41, .int sm]) ⟨hx, hb, hml, hown, hT⟩ (m_couple l dC dI s.heap.size i pa (by omega) (by omega)) (va_cwS 2 hT (gS w1348 w1349 w14 w1350) rfl rfl rfl (by decide +kernel) ⟨(Nat.le_of_ble_eq_true rfl), (Nat.le_of_ble_eq_true rfl)⟩) ⟨pcW.blind, pcW.pre (va_P0 _ _ _) (hK.sub (tys' := []) [] rfl) (va_D0 (fun _ => True))⟩ rfl rfl hl.1 rfl (lv_room (Nat.le_of_ble_eq_true rfl)) dX12_reliefOf_52 ⟨(Nat.le_of_ble_eq_true rfl), (Nat.le_of_ble_eq_true rfl)⟩)) (fun r_42 hr_42 => ?_)
        obtain rfl : r_42 = nI (8 * i + pa) := hr_42
        refine pl_iald hx hb hK hW hT_x_22.1 hS_x_22 (vp_in_nI (n := 8 * i + pa) (N := 64) (by omega) (by omega)) dX12_reliefOf_55 ?_
        refine lv_topi (fun y_43 ey_43 => ?_)
        refine lv_isub hx hb dX12_reliefOf_56 ?_
        refine lv_topi (fun z_44 ez_44 => ?_)
        refine lv_iadd hx hb dX12_reliefOf_57 ?_
        refine lv_topi (fun z_45 ez_45 => ?_)
        refine lv_istore_n (lv' := [(2, .int z_45), (3, .int (nI i)), (0, .ref o), (1, .int (nI pa))]) hx hb dX12_reliefOf_58 rfl hl (by decide) rfl (fun ls hl => ?_)
        refine lv_iinc (v := nI (i + 1)) (lv' := [(3, .int (nI (i + 1))), (2, .int z_45), (0, .ref o), (1, .int (nI pa))]) hx hb dX12_reliefOf_59 hl (k := 1) rfl (nI_add (i) 1) (by decide) rfl (fun ls hl => ?_)
        refine lv_goto (tgt := 5) hx hb dX12_reliefOf_62 (by decide) ?_
        exact ih5 (i + 1) z_45 ls (by omega) (by omega) (lv_sub hl [0, 1, 2, 3] rfl)
  exact loop ((9 - 0) + 1) 0 100000000 ls (Nat.lt_succ_self _) (by omega) (lv_sub hl [0, 1, 2, 3] rfl)

