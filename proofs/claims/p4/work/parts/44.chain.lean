theorem w1102 : (.fieldLink RX12 43 "SwapPressModel" "rowFrom" "[I" : Cond) ∈ TB := mTB (List.mem_of_getElem? (i := 1102) (by decide +kernel)) (by decide +kernel)
theorem w1431 : (.methodLink RX12 282 yX12_laysRows : Cond) ∈ TB := mTB (List.mem_of_getElem? (i := 1431) (by decide +kernel)) (by decide +kernel)
theorem w1433 : (.instanceMethod yX12_laysRows : Cond) ∈ TB := mTB (List.mem_of_getElem? (i := 1433) (by decide +kernel)) (by decide +kernel)
theorem w1434 : (.code yX12_laysRows cX12_laysRows 5 (some .int) : Cond) ∈ TB := mTB (List.mem_of_getElem? (i := 1434) (by decide +kernel)) (by decide +kernel)
theorem w1435 : (.methodLink RX12 285 yX12_nextOf : Cond) ∈ TB := mTB (List.mem_of_getElem? (i := 1435) (by decide +kernel)) (by decide +kernel)
theorem w1437 : (.instanceMethod yX12_nextOf : Cond) ∈ TB := mTB (List.mem_of_getElem? (i := 1437) (by decide +kernel)) (by decide +kernel)
theorem w1438 : (.code yX12_nextOf cX12_nextOf 4 (some .int) : Cond) ∈ TB := mTB (List.mem_of_getElem? (i := 1438) (by decide +kernel)) (by decide +kernel)
theorem ws91 : (.selects RX12 yX12_laysRows yX12_laysRows : Cond) ∈ TB := mSel (y := yX12_laysRows) (n := 32) (List.mem_of_getElem? (i := 91) (by decide +kernel)) (by decide +kernel)
theorem ws92 : (.selects RX12 yX12_nextOf yX12_nextOf : Cond) ∈ TB := mSel (y := yX12_nextOf) (n := 32) (List.mem_of_getElem? (i := 92) (by decide +kernel)) (by decide +kernel)
theorem dX12_chain_0 : decode cX12_chain 0 = .ok (.aload_n 0, 1) := by decide +kernel
theorem dX12_chain_1 : decode cX12_chain 1 = .ok (.iconst 0, 1) := by decide +kernel
theorem dX12_chain_2 : decode cX12_chain 2 = .ok (.putfield 1, 3) := by decide +kernel
theorem dX12_chain_5 : decode cX12_chain 5 = .ok (.aload_n 0, 1) := by decide +kernel
theorem dX12_chain_6 : decode cX12_chain 6 = .ok (.iload_n 1, 1) := by decide +kernel
theorem dX12_chain_7 : decode cX12_chain 7 = .ok (.invokevirtual 205, 3) := by decide +kernel
theorem dX12_chain_10 : decode cX12_chain 10 = .ok (.ifCond .ne 6, 3) := by decide +kernel
theorem dX12_chain_13 : decode cX12_chain 13 = .ok (.bipush (-2), 2) := by decide +kernel
theorem dX12_chain_15 : decode cX12_chain 15 = .ok (.ireturn, 1) := by decide +kernel
theorem dX12_chain_16 : decode cX12_chain 16 = .ok (.iload_n 2, 1) := by decide +kernel
theorem dX12_chain_17 : decode cX12_chain 17 = .ok (.iconst (-1), 1) := by decide +kernel
theorem dX12_chain_18 : decode cX12_chain 18 = .ok (.if_icmp .ge 6, 3) := by decide +kernel
theorem dX12_chain_21 : decode cX12_chain 21 = .ok (.bipush (-3), 2) := by decide +kernel
theorem dX12_chain_23 : decode cX12_chain 23 = .ok (.ireturn, 1) := by decide +kernel
theorem dX12_chain_24 : decode cX12_chain 24 = .ok (.aload_n 0, 1) := by decide +kernel
theorem dX12_chain_25 : decode cX12_chain 25 = .ok (.iload_n 1, 1) := by decide +kernel
theorem dX12_chain_26 : decode cX12_chain 26 = .ok (.iconst (-1), 1) := by decide +kernel
theorem dX12_chain_27 : decode cX12_chain 27 = .ok (.invokevirtual 234, 3) := by decide +kernel
theorem dX12_chain_30 : decode cX12_chain 30 = .ok (.aload_n 0, 1) := by decide +kernel
theorem dX12_chain_31 : decode cX12_chain 31 = .ok (.invokevirtual 271, 3) := by decide +kernel
theorem dX12_chain_34 : decode cX12_chain 34 = .ok (.ifCond .le 10, 3) := by decide +kernel
theorem dX12_chain_37 : decode cX12_chain 37 = .ok (.aload_n 0, 1) := by decide +kernel
theorem dX12_chain_38 : decode cX12_chain 38 = .ok (.invokevirtual 277, 3) := by decide +kernel
theorem dX12_chain_41 : decode cX12_chain 41 = .ok (.goto (-11), 3) := by decide +kernel
theorem dX12_chain_44 : decode cX12_chain 44 = .ok (.aload_n 0, 1) := by decide +kernel
theorem dX12_chain_45 : decode cX12_chain 45 = .ok (.invokevirtual 282, 3) := by decide +kernel
theorem dX12_chain_48 : decode cX12_chain 48 = .ok (.istore_n 3, 1) := by decide +kernel
theorem dX12_chain_49 : decode cX12_chain 49 = .ok (.iload_n 2, 1) := by decide +kernel
theorem dX12_chain_50 : decode cX12_chain 50 = .ok (.iconst (-1), 1) := by decide +kernel
theorem dX12_chain_51 : decode cX12_chain 51 = .ok (.if_icmp .eq 8, 3) := by decide +kernel
theorem dX12_chain_54 : decode cX12_chain 54 = .ok (.iload_n 2, 1) := by decide +kernel
theorem dX12_chain_55 : decode cX12_chain 55 = .ok (.iload_n 3, 1) := by decide +kernel
theorem dX12_chain_56 : decode cX12_chain 56 = .ok (.if_icmp .lt 14, 3) := by decide +kernel
theorem dX12_chain_59 : decode cX12_chain 59 = .ok (.iload_n 2, 1) := by decide +kernel
theorem dX12_chain_60 : decode cX12_chain 60 = .ok (.iconst (-1), 1) := by decide +kernel
theorem dX12_chain_61 : decode cX12_chain 61 = .ok (.if_icmp .ne 7, 3) := by decide +kernel
theorem dX12_chain_64 : decode cX12_chain 64 = .ok (.iload_n 3, 1) := by decide +kernel
theorem dX12_chain_65 : decode cX12_chain 65 = .ok (.goto 4, 3) := by decide +kernel
theorem dX12_chain_68 : decode cX12_chain 68 = .ok (.iconst (-1), 1) := by decide +kernel
theorem dX12_chain_69 : decode cX12_chain 69 = .ok (.ireturn, 1) := by decide +kernel
theorem dX12_chain_70 : decode cX12_chain 70 = .ok (.iconst 0, 1) := by decide +kernel
theorem dX12_chain_71 : decode cX12_chain 71 = .ok (.istore 4, 2) := by decide +kernel
theorem dX12_chain_73 : decode cX12_chain 73 = .ok (.aload_n 0, 1) := by decide +kernel
theorem dX12_chain_74 : decode cX12_chain 74 = .ok (.getfield 43, 3) := by decide +kernel
theorem dX12_chain_77 : decode cX12_chain 77 = .ok (.iload 4, 2) := by decide +kernel
theorem dX12_chain_79 : decode cX12_chain 79 = .ok (.iaload, 1) := by decide +kernel
theorem dX12_chain_80 : decode cX12_chain 80 = .ok (.iload_n 3, 1) := by decide +kernel
theorem dX12_chain_81 : decode cX12_chain 81 = .ok (.if_icmp .ge 9, 3) := by decide +kernel
theorem dX12_chain_84 : decode cX12_chain 84 = .ok (.iinc 4 1, 3) := by decide +kernel
theorem dX12_chain_87 : decode cX12_chain 87 = .ok (.goto (-14), 3) := by decide +kernel
theorem dX12_chain_90 : decode cX12_chain 90 = .ok (.iconst 1, 1) := by decide +kernel
theorem dX12_chain_91 : decode cX12_chain 91 = .ok (.istore 5, 2) := by decide +kernel
theorem dX12_chain_93 : decode cX12_chain 93 = .ok (.iload 5, 2) := by decide +kernel
theorem dX12_chain_95 : decode cX12_chain 95 = .ok (.iload_n 2, 1) := by decide +kernel
theorem dX12_chain_96 : decode cX12_chain 96 = .ok (.if_icmp .gt 21, 3) := by decide +kernel
theorem dX12_chain_99 : decode cX12_chain 99 = .ok (.aload_n 0, 1) := by decide +kernel
theorem dX12_chain_100 : decode cX12_chain 100 = .ok (.iload 4, 2) := by decide +kernel
theorem dX12_chain_102 : decode cX12_chain 102 = .ok (.iload_n 3, 1) := by decide +kernel
theorem dX12_chain_103 : decode cX12_chain 103 = .ok (.iload 5, 2) := by decide +kernel
theorem dX12_chain_105 : decode cX12_chain 105 = .ok (.isub, 1) := by decide +kernel
theorem dX12_chain_106 : decode cX12_chain 106 = .ok (.invokevirtual 285, 3) := by decide +kernel
theorem dX12_chain_109 : decode cX12_chain 109 = .ok (.istore 4, 2) := by decide +kernel
theorem dX12_chain_111 : decode cX12_chain 111 = .ok (.iinc 5 1, 3) := by decide +kernel
theorem dX12_chain_114 : decode cX12_chain 114 = .ok (.goto (-21), 3) := by decide +kernel
theorem dX12_chain_117 : decode cX12_chain 117 = .ok (.iload 4, 2) := by decide +kernel
theorem dX12_chain_119 : decode cX12_chain 119 = .ok (.ireturn, 1) := by decide +kernel
theorem dX12_laysRows_0 : decode cX12_laysRows 0 = .ok (.iconst 0, 1) := by decide +kernel
theorem dX12_laysRows_1 : decode cX12_laysRows 1 = .ok (.istore_n 1, 1) := by decide +kernel
theorem dX12_laysRows_2 : decode cX12_laysRows 2 = .ok (.iconst 0, 1) := by decide +kernel
theorem dX12_laysRows_3 : decode cX12_laysRows 3 = .ok (.istore_n 2, 1) := by decide +kernel
theorem dX12_laysRows_4 : decode cX12_laysRows 4 = .ok (.iload_n 2, 1) := by decide +kernel
theorem dX12_laysRows_5 : decode cX12_laysRows 5 = .ok (.aload_n 0, 1) := by decide +kernel
theorem dX12_laysRows_6 : decode cX12_laysRows 6 = .ok (.getfield 80, 3) := by decide +kernel
theorem dX12_laysRows_9 : decode cX12_laysRows 9 = .ok (.if_icmp .ge 16, 3) := by decide +kernel
theorem dX12_laysRows_12 : decode cX12_laysRows 12 = .ok (.aload_n 0, 1) := by decide +kernel
theorem dX12_laysRows_13 : decode cX12_laysRows 13 = .ok (.getfield 43, 3) := by decide +kernel
theorem dX12_laysRows_16 : decode cX12_laysRows 16 = .ok (.iload_n 2, 1) := by decide +kernel
theorem dX12_laysRows_17 : decode cX12_laysRows 17 = .ok (.iconst 1, 1) := by decide +kernel
theorem dX12_laysRows_18 : decode cX12_laysRows 18 = .ok (.iastore, 1) := by decide +kernel
theorem dX12_laysRows_19 : decode cX12_laysRows 19 = .ok (.iinc 2 1, 3) := by decide +kernel
theorem dX12_laysRows_22 : decode cX12_laysRows 22 = .ok (.goto (-18), 3) := by decide +kernel
theorem dX12_laysRows_25 : decode cX12_laysRows 25 = .ok (.iconst 0, 1) := by decide +kernel
theorem dX12_laysRows_26 : decode cX12_laysRows 26 = .ok (.istore_n 2, 1) := by decide +kernel
theorem dX12_laysRows_27 : decode cX12_laysRows 27 = .ok (.iload_n 2, 1) := by decide +kernel
theorem dX12_laysRows_28 : decode cX12_laysRows 28 = .ok (.aload_n 0, 1) := by decide +kernel
theorem dX12_laysRows_29 : decode cX12_laysRows 29 = .ok (.getfield 80, 3) := by decide +kernel
theorem dX12_laysRows_32 : decode cX12_laysRows 32 = .ok (.if_icmp .ge 109, 3) := by decide +kernel
theorem dX12_laysRows_35 : decode cX12_laysRows 35 = .ok (.iconst 0, 1) := by decide +kernel
theorem dX12_laysRows_36 : decode cX12_laysRows 36 = .ok (.istore_n 3, 1) := by decide +kernel
theorem dX12_laysRows_37 : decode cX12_laysRows 37 = .ok (.iload_n 3, 1) := by decide +kernel
theorem dX12_laysRows_38 : decode cX12_laysRows 38 = .ok (.aload_n 0, 1) := by decide +kernel
theorem dX12_laysRows_39 : decode cX12_laysRows 39 = .ok (.getfield 80, 3) := by decide +kernel
theorem dX12_laysRows_42 : decode cX12_laysRows 42 = .ok (.if_icmp .ge 93, 3) := by decide +kernel
theorem dX12_laysRows_45 : decode cX12_laysRows 45 = .ok (.iconst 0, 1) := by decide +kernel
theorem dX12_laysRows_46 : decode cX12_laysRows 46 = .ok (.istore 4, 2) := by decide +kernel
theorem dX12_laysRows_48 : decode cX12_laysRows 48 = .ok (.iload 4, 2) := by decide +kernel
theorem dX12_laysRows_50 : decode cX12_laysRows 50 = .ok (.aload_n 0, 1) := by decide +kernel
theorem dX12_laysRows_51 : decode cX12_laysRows 51 = .ok (.getfield 80, 3) := by decide +kernel
theorem dX12_laysRows_54 : decode cX12_laysRows 54 = .ok (.if_icmp .ge 54, 3) := by decide +kernel
theorem dX12_laysRows_57 : decode cX12_laysRows 57 = .ok (.aload_n 0, 1) := by decide +kernel
theorem dX12_laysRows_58 : decode cX12_laysRows 58 = .ok (.getfield 37, 3) := by decide +kernel
theorem dX12_laysRows_61 : decode cX12_laysRows 61 = .ok (.iload_n 3, 1) := by decide +kernel
theorem dX12_laysRows_62 : decode cX12_laysRows 62 = .ok (.iload 4, 2) := by decide +kernel
theorem dX12_laysRows_64 : decode cX12_laysRows 64 = .ok (.invokestatic 229, 3) := by decide +kernel
theorem dX12_laysRows_67 : decode cX12_laysRows 67 = .ok (.iaload, 1) := by decide +kernel
theorem dX12_laysRows_68 : decode cX12_laysRows 68 = .ok (.ifCond .le 34, 3) := by decide +kernel
theorem dX12_laysRows_71 : decode cX12_laysRows 71 = .ok (.aload_n 0, 1) := by decide +kernel
theorem dX12_laysRows_72 : decode cX12_laysRows 72 = .ok (.getfield 43, 3) := by decide +kernel
theorem dX12_laysRows_75 : decode cX12_laysRows 75 = .ok (.iload 4, 2) := by decide +kernel
theorem dX12_laysRows_77 : decode cX12_laysRows 77 = .ok (.iaload, 1) := by decide +kernel
theorem dX12_laysRows_78 : decode cX12_laysRows 78 = .ok (.aload_n 0, 1) := by decide +kernel
theorem dX12_laysRows_79 : decode cX12_laysRows 79 = .ok (.getfield 43, 3) := by decide +kernel
theorem dX12_laysRows_82 : decode cX12_laysRows 82 = .ok (.iload_n 3, 1) := by decide +kernel
theorem dX12_laysRows_83 : decode cX12_laysRows 83 = .ok (.iaload, 1) := by decide +kernel
theorem dX12_laysRows_84 : decode cX12_laysRows 84 = .ok (.if_icmp .lt 18, 3) := by decide +kernel
theorem dX12_laysRows_87 : decode cX12_laysRows 87 = .ok (.aload_n 0, 1) := by decide +kernel
theorem dX12_laysRows_88 : decode cX12_laysRows 88 = .ok (.getfield 43, 3) := by decide +kernel
theorem dX12_laysRows_91 : decode cX12_laysRows 91 = .ok (.iload_n 3, 1) := by decide +kernel
theorem dX12_laysRows_92 : decode cX12_laysRows 92 = .ok (.aload_n 0, 1) := by decide +kernel
theorem dX12_laysRows_93 : decode cX12_laysRows 93 = .ok (.getfield 43, 3) := by decide +kernel
theorem dX12_laysRows_96 : decode cX12_laysRows 96 = .ok (.iload 4, 2) := by decide +kernel
theorem dX12_laysRows_98 : decode cX12_laysRows 98 = .ok (.iaload, 1) := by decide +kernel
theorem dX12_laysRows_99 : decode cX12_laysRows 99 = .ok (.iconst 1, 1) := by decide +kernel
theorem dX12_laysRows_100 : decode cX12_laysRows 100 = .ok (.iadd, 1) := by decide +kernel
theorem dX12_laysRows_101 : decode cX12_laysRows 101 = .ok (.iastore, 1) := by decide +kernel
theorem dX12_laysRows_102 : decode cX12_laysRows 102 = .ok (.iinc 4 1, 3) := by decide +kernel
theorem dX12_laysRows_105 : decode cX12_laysRows 105 = .ok (.goto (-57), 3) := by decide +kernel
theorem dX12_laysRows_108 : decode cX12_laysRows 108 = .ok (.aload_n 0, 1) := by decide +kernel
theorem dX12_laysRows_109 : decode cX12_laysRows 109 = .ok (.getfield 43, 3) := by decide +kernel
theorem dX12_laysRows_112 : decode cX12_laysRows 112 = .ok (.iload_n 3, 1) := by decide +kernel
theorem dX12_laysRows_113 : decode cX12_laysRows 113 = .ok (.iaload, 1) := by decide +kernel
theorem dX12_laysRows_114 : decode cX12_laysRows 114 = .ok (.iload_n 1, 1) := by decide +kernel
theorem dX12_laysRows_115 : decode cX12_laysRows 115 = .ok (.if_icmp .le 12, 3) := by decide +kernel
theorem dX12_laysRows_118 : decode cX12_laysRows 118 = .ok (.aload_n 0, 1) := by decide +kernel
theorem dX12_laysRows_119 : decode cX12_laysRows 119 = .ok (.getfield 43, 3) := by decide +kernel
theorem dX12_laysRows_122 : decode cX12_laysRows 122 = .ok (.iload_n 3, 1) := by decide +kernel
theorem dX12_laysRows_123 : decode cX12_laysRows 123 = .ok (.iaload, 1) := by decide +kernel
theorem dX12_laysRows_124 : decode cX12_laysRows 124 = .ok (.goto 4, 3) := by decide +kernel
theorem dX12_laysRows_127 : decode cX12_laysRows 127 = .ok (.iload_n 1, 1) := by decide +kernel
theorem dX12_laysRows_128 : decode cX12_laysRows 128 = .ok (.istore_n 1, 1) := by decide +kernel
theorem dX12_laysRows_129 : decode cX12_laysRows 129 = .ok (.iinc 3 1, 3) := by decide +kernel
theorem dX12_laysRows_132 : decode cX12_laysRows 132 = .ok (.goto (-95), 3) := by decide +kernel
theorem dX12_laysRows_135 : decode cX12_laysRows 135 = .ok (.iinc 2 1, 3) := by decide +kernel
theorem dX12_laysRows_138 : decode cX12_laysRows 138 = .ok (.goto (-111), 3) := by decide +kernel
theorem dX12_laysRows_141 : decode cX12_laysRows 141 = .ok (.iload_n 1, 1) := by decide +kernel
theorem dX12_laysRows_142 : decode cX12_laysRows 142 = .ok (.iconst 2, 1) := by decide +kernel
theorem dX12_laysRows_143 : decode cX12_laysRows 143 = .ok (.if_icmp .ge 7, 3) := by decide +kernel
theorem dX12_laysRows_146 : decode cX12_laysRows 146 = .ok (.iconst 0, 1) := by decide +kernel
theorem dX12_laysRows_147 : decode cX12_laysRows 147 = .ok (.goto 4, 3) := by decide +kernel
theorem dX12_laysRows_150 : decode cX12_laysRows 150 = .ok (.iload_n 1, 1) := by decide +kernel
theorem dX12_laysRows_151 : decode cX12_laysRows 151 = .ok (.ireturn, 1) := by decide +kernel
theorem dX12_nextOf_0 : decode cX12_nextOf 0 = .ok (.iconst 0, 1) := by decide +kernel
theorem dX12_nextOf_1 : decode cX12_nextOf 1 = .ok (.istore_n 3, 1) := by decide +kernel
theorem dX12_nextOf_2 : decode cX12_nextOf 2 = .ok (.iload_n 3, 1) := by decide +kernel
theorem dX12_nextOf_3 : decode cX12_nextOf 3 = .ok (.aload_n 0, 1) := by decide +kernel
theorem dX12_nextOf_4 : decode cX12_nextOf 4 = .ok (.getfield 80, 3) := by decide +kernel
theorem dX12_nextOf_7 : decode cX12_nextOf 7 = .ok (.if_icmp .ge 34, 3) := by decide +kernel
theorem dX12_nextOf_10 : decode cX12_nextOf 10 = .ok (.aload_n 0, 1) := by decide +kernel
theorem dX12_nextOf_11 : decode cX12_nextOf 11 = .ok (.getfield 37, 3) := by decide +kernel
theorem dX12_nextOf_14 : decode cX12_nextOf 14 = .ok (.iload_n 1, 1) := by decide +kernel
theorem dX12_nextOf_15 : decode cX12_nextOf 15 = .ok (.iload_n 3, 1) := by decide +kernel
theorem dX12_nextOf_16 : decode cX12_nextOf 16 = .ok (.invokestatic 229, 3) := by decide +kernel
theorem dX12_nextOf_19 : decode cX12_nextOf 19 = .ok (.iaload, 1) := by decide +kernel
theorem dX12_nextOf_20 : decode cX12_nextOf 20 = .ok (.ifCond .le 15, 3) := by decide +kernel
theorem dX12_nextOf_23 : decode cX12_nextOf 23 = .ok (.aload_n 0, 1) := by decide +kernel
theorem dX12_nextOf_24 : decode cX12_nextOf 24 = .ok (.getfield 43, 3) := by decide +kernel
theorem dX12_nextOf_27 : decode cX12_nextOf 27 = .ok (.iload_n 3, 1) := by decide +kernel
theorem dX12_nextOf_28 : decode cX12_nextOf 28 = .ok (.iaload, 1) := by decide +kernel
theorem dX12_nextOf_29 : decode cX12_nextOf 29 = .ok (.iload_n 2, 1) := by decide +kernel
theorem dX12_nextOf_30 : decode cX12_nextOf 30 = .ok (.if_icmp .ne 5, 3) := by decide +kernel
theorem dX12_nextOf_33 : decode cX12_nextOf 33 = .ok (.iload_n 3, 1) := by decide +kernel
theorem dX12_nextOf_34 : decode cX12_nextOf 34 = .ok (.ireturn, 1) := by decide +kernel
theorem dX12_nextOf_35 : decode cX12_nextOf 35 = .ok (.iinc 3 1, 3) := by decide +kernel
theorem dX12_nextOf_38 : decode cX12_nextOf 38 = .ok (.goto (-36), 3) := by decide +kernel
theorem dX12_nextOf_41 : decode cX12_nextOf 41 = .ok (.iconst (-1), 1) := by decide +kernel
theorem dX12_nextOf_42 : decode cX12_nextOf 42 = .ok (.ireturn, 1) := by decide +kernel
/-! rows of the reference: what laysRows makes, by a rank -/
def RI (F : Nat → Int32) (rk : Nat → Nat) (pa : Nat) (g : Nat → Int32) : Prop := ∀ j, j < pa → ∃ k, g j = nI k ∧ 1 ≤ k ∧ k ≤ rk j + 1 ∧ (k = 1 ∨ ∃ q, q < pa ∧ 0 < F (8 * j + q) ∧ k ≤ wa g q + 1)
def ST1 (F g : Nat → Int32) (j Q : Nat) : Prop := ∀ q, q < Q → 0 < F (8 * j + q) → wa g q + 1 ≤ wa g j
def SAT (F : Nat → Int32) (rk : Nat → Nat) (pa : Nat) (g : Nat → Int32) (r P : Nat) : Prop := ∀ j, j < pa → (rk j < r ∨ (j < P ∧ rk j ≤ r)) → ST1 F g j pa
section ROWS
variable {F g g1 : Nat → Int32} {rk : Nat → Nat} {pa r p q : Nat}
theorem RI_e (h : RI F rk pa g) (hrk : ∀ p, p < pa → rk p < pa) (hpa : pa ≤ 8) {j : Nat} (hj : j < pa) : g j = nI (wa g j) ∧ 1 ≤ wa g j ∧ wa g j ≤ 8 ∧ wa g j ≤ rk j + 1 := by
  obtain ⟨k, e, h1, h2, -⟩ := h j hj
  have h3 := hrk j hj
  rw [wa_n e (by omega)]
  exact ⟨e, h1, by omega, h2⟩
theorem RI_0 (h : ∀ j, j < pa → g j = nI 1) : RI F rk pa g := fun j hj => ⟨1, h j hj, by omega, by omega, Or.inl rfl⟩
theorem SAT_0 : SAT F rk pa g 0 0 := fun j _ h => by omega
theorem SAT_n (h : SAT F rk pa g r p) (hp : pa ≤ p) : SAT F rk pa g (r + 1) 0 := fun j hj hc => h j hj (by omega)
theorem SAT_p (h : SAT F rk pa g r p) (hs : ST1 F g p pa) : SAT F rk pa g r (p + 1) := fun j hj hc => by
  by_cases e : j = p
  · rw [e]; exact hs
  · exact h j hj (by omega)
theorem ST1_0 : ST1 F g p 0 := fun q h => absurd h (Nat.not_lt_zero _)
theorem ST1_n (h : ST1 F g p q) (hn : 0 < F (8 * p + q) → wa g q + 1 ≤ wa g p) : ST1 F g p (q + 1) := fun x hx hF => by
  by_cases e : x = q
  · rw [e] at hF ⊢; exact hn hF
  · exact h x (by omega) hF
theorem row_up (hI : RI F rk pa g) (hS : SAT F rk pa g r p) (h1 : ST1 F g p q) (hrk : ∀ p, p < pa → rk p < pa) (hr2 : ∀ p q, PE F pa p q → rk q < rk p) (hpa : pa ≤ 8) (hp : p < pa) (hq : q < pa) (hF : 0 < F (8 * p + q)) (hge : wa g p ≤ wa g q) (e : g1 = upd g (nI p).toNatClampNeg (nI (wa g q + 1))) : RI F rk pa g1 ∧ SAT F rk pa g1 r p ∧ ST1 F g1 p (q + 1) ∧ wa g p ≤ wa g1 p ∧ ∀ j, j ≠ p → g1 j = g j := by
  rw [nI_clamp (by omega)] at e
  have hrp : r ≤ rk p := by
    by_cases c : r ≤ rk p
    · exact c
    · have := hS p hp (Or.inl (by omega)) q hq hF
      omega
  have hrq := hr2 p q ⟨hp, hq, hF⟩
  have hqp : q ≠ p := fun z => by rw [z] at hrq; omega
  have eq9 := RI_e hI hrk hpa hq
  have ep := RI_e hI hrk hpa hp
  have g1p : g1 p = nI (wa g q + 1) := by rw [e, pk_us]
  have w1p : wa g1 p = wa g q + 1 := wa_n g1p (by omega)
  have g1n : ∀ j, j ≠ p → g1 j = g j := fun j hj => by rw [e, pk_un hj]
  have w1n : ∀ j, j ≠ p → wa g1 j = wa g j := fun j hj => wa_c (g1n j hj)
  have w1m : ∀ j, wa g j ≤ wa g1 j := fun j => by
    by_cases c : j = p
    · rw [c, w1p]; omega
    · rw [w1n j c]; exact Nat.le_refl _
  refine ⟨fun j hj => ?_, fun j hj hc => ?_, fun x hx hF2 => ?_, w1m p, g1n⟩
  · by_cases c : j = p
    · subst c
      exact ⟨wa g q + 1, g1p, by omega, by omega, Or.inr ⟨q, hq, hF, by rw [w1n q hqp]; exact Nat.le_refl _⟩⟩
    · obtain ⟨k, a1, a2, a3, a4⟩ := hI j hj
      refine ⟨k, (g1n j c).trans a1, a2, a3, a4.imp_right (fun ⟨x, b1, b2, b3⟩ => ⟨x, b1, b2, ?_⟩)⟩
      have := w1m x
      omega
  · have c : j ≠ p := fun z => by subst z; omega
    intro x hx hF2
    have hrx := hr2 j x ⟨hj, hx, hF2⟩
    have c2 : x ≠ p := fun z => by subst z; omega
    rw [w1n j c, w1n x c2]
    exact hS j hj hc x hx hF2
  · by_cases c : x = q
    · rw [c, w1n q hqp, w1p]
      exact Nat.le_refl _
    · have hx2 : x < q := by omega
      have hrx := hr2 p x ⟨hp, by omega, hF2⟩
      have c2 : x ≠ p := fun z => by rw [z] at hrx; omega
      have := h1 x hx2 hF2
      rw [w1n x c2, w1p]
      omega
def MX (g : Nat → Int32) (pa m : Nat) : Prop := m = 0 ∨ ∃ j, j < pa ∧ m ≤ wa g j
theorem MX_e {m : Nat} (h : MX g pa m) : m = 0 ∨ ∃ j, j < pa ∧ m ≤ wa g j := h
theorem MX_0 : MX g pa 0 := Or.inl rfl
theorem MX_p (h : p < pa) : MX g pa (wa g p) := Or.inr ⟨p, h, Nat.le_refl _⟩
theorem MX_up {m : Nat} (h : MX g pa m) (h1 : wa g p ≤ wa g1 p) (h2 : ∀ j, j ≠ p → g1 j = g j) : MX g1 pa m := by
  rcases h with h | ⟨j, a, b⟩
  · exact Or.inl h
  · refine Or.inr ⟨j, a, ?_⟩
    by_cases e : j = p
    · rw [e] at b ⊢
      exact Nat.le_trans b h1
    · rw [wa_c (h2 j e)]
      exact b
def ROWN (R : Nat → Int32) (pa n : Nat) : Prop := n = 0 ∨ (2 ≤ n ∧ (∃ j, j < pa ∧ n ≤ wa R j) ∧ ∀ j, j < pa → wa R j ≤ n)
theorem ROWN_e {R : Nat → Int32} {n : Nat} (h : ROWN R pa n) : n = 0 ∨ (2 ≤ n ∧ (∃ j, j < pa ∧ n ≤ wa R j) ∧ ∀ j, j < pa → wa R j ≤ n) := h
def ROWS (F R : Nat → Int32) (pa : Nat) : Prop := ∀ j, j < pa → R j = nI (wa R j) ∧ wa R j ≤ 8 ∧ (2 ≤ wa R j → ∃ q, q < pa ∧ 0 < F (8 * j + q) ∧ R q = nI (wa R j - 1))
theorem rows_end (hI : RI F rk pa g) (hS : SAT F rk pa g r 0) (hr : r = pa) (hrk : ∀ p, p < pa → rk p < pa) (hpa : pa ≤ 8) : ROWS F g pa := fun j hj => by
  have ej := RI_e hI hrk hpa hj
  refine ⟨ej.1, ej.2.2.1, fun h2 => ?_⟩
  obtain ⟨k, a1, a2, a3, a4⟩ := hI j hj
  have hrj := hrk j hj
  have hk : wa g j = k := wa_n a1 (by omega)
  rcases a4 with a4 | ⟨q, b1, b2, b3⟩
  · omega
  · have := hS j hj (Or.inl (by have := hrk j hj; omega)) q b1 b2
    have eq := RI_e hI hrk hpa b1
    exact ⟨q, b1, b2, eq.1.trans (congrArg nI (by omega))⟩
end ROWS

set_option maxHeartbeats 4000000 in
set_option maxRecDepth 100000 in
theorem m_laysFlows2 (l : Launch) (dC : Nat → ClassId) (dI : Nat → Nat → Nat) (cy : Nat → ClassId) (L : List Nat) (kap : Nat → Nat) (pr : Pr) (S : Nat → va_E) (sz : Nat) (o : Nat) (kd : Int32) (wo : Int32) (hTy : Ty cy L kap pr S) (hT_o : TK L kap o 12) (hdg : dg (fld S o 0)) : Met l yX12_laysFlows (wT yX12_laysFlows cX12_laysFlows 4 none) ({ frames := 2, cells := 0, slots := 0, locals := 44 }) (pcN dC dI [.ref o, .int kd, .int wo] sz (va_pl L S) (cyT cy) NLs []) (va_Qv (fun S' => Ty cy L kap pr S' ∧ Fr kap [56] S S' ∧ (∀ a, a < 8 → fld S' o 17 (8 * a + a) = 0)) (fun S' t => pB dC dI (AL L sz) (va_pl L S') (cyT cy) t) (AL L sz)) 0 0 (AL L sz) := by
  refine Met.ofW (cc := cX12_laysFlows) (maxL := 4) (ret := none) (by decide) rfl ?_
  intro p e s m args below meth c s₁ B hml hv
  obtain ⟨rfl, hsz, hP, hK, hD0, hN, -⟩ := hv
  have hx := B.exec
  have hb := B.bytes
  have hr := B.returns
  have hT : ∀ wd ∈ TB, wd.before [.ref o, .int kd, .int wo].toArray s = true := fun wd h => atoms_spec (ws := wT yX12_laysFlows cX12_laysFlows 4 none) B.pre wd (List.mem_cons_of_mem _ h)
  have hown : s.vm.findClass RX12 = some m.cls := findClass_of_methodNamed B.named
  have hlocks := B.notSynchronized
  subst hsz
  have hW : PW dC dI L (AL L s.heap.size) s.heap S s.heap [] := ⟨hP, pl_self hD0, va_S.rf⟩
  have hA0 : ∀ q, q ∈ L → AL L s.heap.size q := fun _ h => Or.inl h
  have hA : ∀ q, s.heap.size ≤ q → AL L s.heap.size q := fun _ h => Or.inr h
  have hFr : Fr kap [56] S S := Fr.rf
  have hl := lv_entry ([.ref o, .int kd, .int wo]) (n := 4) (Nat.le_of_ble_eq_true rfl)
  rw [lg_entry_eq]
  generalize (lg_sl ([.ref o, .int kd, .int wo]) ++ List.replicate (4 - (lg_sl ([.ref o, .int kd, .int wo])).length) Slot.unset).toArray = ls at hl ⊢
  have hl : lv_has ls 4 [(0, .ref o), (1, .int kd), (2, .int wo)] := hl
  obtain ⟨x_1, x_2, x_3, x_4, x_5, x_6, x_7, x_8, x_9, x_10, x_11, x_12, x_13, x_14, x_15, x_16, x_17, x_18, x_19, x_20, x_21, x_22, x_23, x_24, x_25, x_26, x_27, x_28, x_29, x_30, x_31, hS_o, hT_x_1, hT_x_2, hT_x_3, hT_x_4, hT_x_5, hb_x_6, hb_x_7, hb_x_8, hT_x_10, hb_q2, hb_x_11, hb_x_12, hT_x_17, hT_x_18, hb_x_19, hT_x_20, hT_x_21, hT_x_22, hT_x_23, hT_x_24, hT_x_25, hT_x_26, hT_x_27, hT_x_28, hT_x_29, hT_x_30, hb_x_31⟩ := hTy.k12 hT_o
  have hb_q2 : pr.2 ≤ 900 := hb_q2
  have hS_o : S o = .inr (12, [.ref x_1, .ref x_2, .ref x_3, .ref x_4, .ref x_5, .int (nI x_6), .int (nI x_7), .int (nI x_8), .int x_9, .ref x_10, .int (nI (pr.2)), .int (nI x_11), .int (nI x_12), .int x_13, .int x_14, .int x_15, .int x_16, .ref x_17, .ref x_18, .int (nI x_19), .ref x_20, .ref x_21, .ref x_22, .ref x_23, .ref x_24, .ref x_25, .ref x_26, .ref x_27, .ref x_28, .ref x_29, .ref x_30, .int (nI x_31)]) := hS_o
  obtain ⟨f_32, hS_x_1, hi_f_32⟩ := hTy.k50 hT_x_1
  have hdg_ : dg f_32 := by have q := hdg; rw [fld_i hS_o rfl hS_x_1] at q; exact q
  obtain ⟨f_33, hS_x_17⟩ := hTy.k56 hT_x_17
  refine lv_iconst (v := 0) hx hb dX12_laysFlows_0 (by decide) ?_
  refine lv_istore_n (lv' := [(3, .int 0), (0, .ref o), (1, .int kd), (2, .int wo)]) hx hb dX12_laysFlows_1 rfl hl (by decide) rfl (fun ls hl => ?_)
  have loop : ∀ (fuel : Nat) (i : Nat) (gf : Nat → Int32) (SS : Nat → va_E) (H : Heap) (locs : List Loc) (ls : Array Slot), 65 - i < fuel → (i ≤ 64) → (SS x_17 = .inl (cy 0, 64, .inl gf)) → (∀ v, v < i → gf v = 0) → Ty cy L kap pr SS → Fr kap [56] S SS → Fr kap [56] S SS → PW dC dI L (AL L s.heap.size) s.heap SS H locs → lv_has ls 4 [(3, .int (nI i)), (0, .ref o), (1, .int kd), (2, .int wo)] → W p l e (headSpec (wT yX12_laysFlows cX12_laysFlows 4 none) { frames := 2, cells := 0, slots := 0, locals := 44 }).room s m [.ref o, .int kd, .int wo].toArray below meth c H locs 0 0 (MQ below (va_Qv (fun S' => Ty cy L kap pr S' ∧ Fr kap [56] S S' ∧ (∀ a, a < 8 → fld S' o 17 (8 * a + a) = 0)) (fun S' t => pB dC dI (AL L s.heap.size) (va_pl L S') (cyT cy) t) (AL L s.heap.size)) [.ref o, .int kd, .int wo].toArray s 0 0 (AL L s.heap.size)) (F0 m 2 ls []) := by
    intro fuel
    induction fuel with
    | zero => intro i gf SS H locs ls h; exact absurd h (Nat.not_lt_zero _)
    | succ fu2 ih2 =>
      intro i gf S_34 H locs ls hm2 hb_i hFs hz hTy hFr hFl2 hW hl
      have hS_o := hFl2.at hT_o (by decide) hS_o
      have hS_x_1 := hFl2.at hT_x_1 (by decide) hS_x_1
      refine lv_iload_n hx hb dX12_laysFlows_2 rfl (lv_at hl 0 rfl) ?_
      refine lv_bipush (v := 64) hx hb dX12_laysFlows_3 (by decide) ?_
      refine lv_icmp_ge (tgt := 21) hx hb dX12_laysFlows_5 (by decide) (fun c_5 => ?_) (fun c_5 => ?_)
      · have c_5 : 64 ≤ i := (nI_leI (a := 64) (b := i) (by omega) (by omega)).mp c_5
        refine lv_iconst (v := 0) hx hb dX12_laysFlows_21 (by decide) ?_
        refine lv_istore_n (lv' := [(3, .int 0), (0, .ref o), (1, .int kd), (2, .int wo)]) hx hb dX12_laysFlows_22 rfl hl (by decide) rfl (fun ls hl => ?_)
        have loop : ∀ (fuel : Nat) (i2 : Nat) (gf2 : Nat → Int32) (SS : Nat → va_E) (H : Heap) (locs : List Loc) (ls : Array Slot), 41 - i2 < fuel → (i2 ≤ 40) → (SS x_17 = .inl (cy 0, 64, .inl gf2)) → (∀ a, a < 8 → gf2 (8 * a + a) = 0) → Ty cy L kap pr SS → Fr kap [56] S SS → Fr kap [56] S_34 SS → PW dC dI L (AL L s.heap.size) s.heap SS H locs → lv_has ls 4 [(3, .int (nI i2)), (0, .ref o), (1, .int kd), (2, .int wo)] → W p l e (headSpec (wT yX12_laysFlows cX12_laysFlows 4 none) { frames := 2, cells := 0, slots := 0, locals := 44 }).room s m [.ref o, .int kd, .int wo].toArray below meth c H locs 0 0 (MQ below (va_Qv (fun S' => Ty cy L kap pr S' ∧ Fr kap [56] S S' ∧ (∀ a, a < 8 → fld S' o 17 (8 * a + a) = 0)) (fun S' t => pB dC dI (AL L s.heap.size) (va_pl L S') (cyT cy) t) (AL L s.heap.size)) [.ref o, .int kd, .int wo].toArray s 0 0 (AL L s.heap.size)) (F0 m 23 ls []) := by
          intro fuel
          induction fuel with
          | zero => intro i2 gf2 SS H locs ls h; exact absurd h (Nat.not_lt_zero _)
          | succ fu23 ih23 =>
            intro i2 gf2 S_35 H locs ls hm23 hb_i2 hFs2 hdz hTy hFr hFl23 hW hl
            have hS_o := hFl23.at hT_o (by decide) hS_o
            have hS_x_1 := hFl23.at hT_x_1 (by decide) hS_x_1
            have hFl2 := hFl2.tr hFl23 (by decide)
            refine lv_iload_n hx hb dX12_laysFlows_23 rfl (lv_at hl 0 rfl) ?_
            refine lv_aload_n hx hb dX12_laysFlows_24 rfl (lv_at hl 1 rfl) ?_
            refine pl_get (ci := 12) (v := .ref x_1) (C := RX12) (T := TX12) (N := 32) hx hb hT iX12 hown hK hW hT_o.1 hS_o rfl 0 (by decide) w1082 rfl dX12_laysFlows_25 ?_
            refine lv_iconst (v := 0) hx hb dX12_laysFlows_28 (by decide) ?_
            refine pl_iald hx hb hK hW hT_x_1.1 hS_x_1 (vp_in_nI (n := 0) (N := 266) (by omega) (by omega)) dX12_laysFlows_29 ?_
            refine lv_topi (fun y_36 ey_36 => ?_)
            have hv_y_36 : okS (0) y_36 := by rw [ey_36]; show okS _ (f_32 (nI (0)).toNatClampNeg); rw [nI_clamp (by omega)]; exact hi_f_32 (0) (by omega)
            obtain ⟨k_37, hb_k_37, hq_k_37⟩ := hv_y_36.1 rfl
            obtain rfl : y_36 = nI k_37 := hq_k_37
            refine lv_icmp_ge (tgt := 86) hx hb dX12_laysFlows_30 (by decide) (fun c_30 => ?_) (fun c_30 => ?_)
            · have c_30 : k_37 ≤ i2 := (nI_leI (a := k_37) (b := i2) (by omega) (by omega)).mp c_30
              exact W.vret hx hb hr (fun t ht h9 => ⟨⟨S_35, rfl, ⟨hTy, hFr, (by rw [fld_i (S := S_35) hS_o rfl hFs2]; exact hdz)⟩, by rw [ht]; exact hW.1, va_K.moved h9.alike hK, hW.2.1⟩, hW.2.2.F ht⟩) hW.2.2.2.2 dX12_laysFlows_86
            · have c_30 : ¬ (k_37 ≤ i2) := fun hh9 => c_30 ((nI_leI (a := k_37) (b := i2) (by omega) (by omega)).mpr hh9)
              refine lv_aload_n hx hb dX12_laysFlows_33 rfl (lv_at hl 1 rfl) ?_
              refine lv_iload_n hx hb dX12_laysFlows_34 rfl (lv_at hl 0 rfl) ?_
              refine lv_iload_n hx hb dX12_laysFlows_35 rfl (lv_at hl 2 rfl) ?_
              refine vp_callSi (va_Run.run (va_runV (As := [.int (nI i2), .int kd]) (rest := []) ⟨hx, hb, hml, hown, hT⟩ (m_isFree l dC dI cy L kap pr S_35 H.size o i2 kd hTy hT_o (by omega)) (cwV 2 hT (gV w1340 w1342 ws79 w14 w1343) rfl rfl rfl (by decide +kernel) ⟨(Nat.le_of_ble_eq_true rfl), (Nat.le_of_ble_eq_true rfl)⟩) ⟨pcN.blind, pl_recv hK hW hT_o.1 hS_o rfl, pcN.pre hW.1 hK hW.2.1 hN (fun q h => absurd h List.not_mem_nil)⟩ rfl rfl hl.1 rfl (lv_room (Nat.le_of_ble_eq_true rfl)) dX12_laysFlows_36 ⟨(Nat.le_of_ble_eq_true rfl), (Nat.le_of_ble_eq_true rfl)⟩)) (fun r_38 hr_38 => ?_)
              refine lv_if_eq (tgt := 80) hx hb dX12_laysFlows_39 (by decide) (fun c_39 => ?_) (fun c_39 => ?_)
              · refine lv_iinc (v := nI (i2 + 1)) (lv' := [(3, .int (nI (i2 + 1))), (0, .ref o), (1, .int kd), (2, .int wo)]) hx hb dX12_laysFlows_80 hl (k := 0) rfl (nI_add (i2) 1) (by decide) rfl (fun ls hl => ?_)
                refine lv_goto (tgt := 23) hx hb dX12_laysFlows_83 (by decide) ?_
                exact ih23 (i2 + 1) gf2 _ _ _ ls (by omega) (by omega) hFs2 hdz hTy hFr hFl23 hW (lv_sub hl [0, 1, 2, 3] rfl)
              · refine lv_aload_n hx hb dX12_laysFlows_42 rfl (lv_at hl 1 rfl) ?_
                refine lv_iload_n hx hb dX12_laysFlows_43 rfl (lv_at hl 0 rfl) ?_
                refine lv_iload_n hx hb dX12_laysFlows_44 rfl (lv_at hl 3 rfl) ?_
                refine vp_callSi (va_Run.run (va_runV (As := [.int (nI i2), .int wo]) (rest := []) ⟨hx, hb, hml, hown, hT⟩ (m_isOf l dC dI cy L kap pr S_35 H.size o i2 wo hTy hT_o (by omega)) (cwV 2 hT (gV w1344 w1346 ws80 w14 w1347) rfl rfl rfl (by decide +kernel) ⟨(Nat.le_of_ble_eq_true rfl), (Nat.le_of_ble_eq_true rfl)⟩) ⟨pcN.blind, pl_recv hK hW hT_o.1 hS_o rfl, pcN.pre hW.1 hK hW.2.1 hN (fun q h => absurd h List.not_mem_nil)⟩ rfl rfl hl.1 rfl (lv_room (Nat.le_of_ble_eq_true rfl)) dX12_laysFlows_45 ⟨(Nat.le_of_ble_eq_true rfl), (Nat.le_of_ble_eq_true rfl)⟩)) (fun r_39 hr_39 => ?_)
                refine lv_if_ne (tgt := 80) hx hb dX12_laysFlows_48 (by decide) (fun c_48 => ?_) (fun c_48 => ?_)
                · refine lv_iinc (v := nI (i2 + 1)) (lv' := [(3, .int (nI (i2 + 1))), (0, .ref o), (1, .int kd), (2, .int wo)]) hx hb dX12_laysFlows_80 hl (k := 0) rfl (nI_add (i2) 1) (by decide) rfl (fun ls hl => ?_)
                  refine lv_goto (tgt := 23) hx hb dX12_laysFlows_83 (by decide) ?_
                  exact ih23 (i2 + 1) gf2 _ _ _ ls (by omega) (by omega) hFs2 hdz hTy hFr hFl23 hW (lv_sub hl [0, 1, 2, 3] rfl)
                · refine lv_aload_n hx hb dX12_laysFlows_51 rfl (lv_at hl 1 rfl) ?_
                  refine pl_get (ci := 12) (v := .ref x_17) (C := RX12) (T := TX12) (N := 32) hx hb hT iX12 hown hK hW hT_o.1 hS_o rfl 17 (by decide) w1099 rfl dX12_laysFlows_52 ?_
                  refine lv_aload_n hx hb dX12_laysFlows_55 rfl (lv_at hl 1 rfl) ?_
                  refine lv_iload_n hx hb dX12_laysFlows_56 rfl (lv_at hl 0 rfl) ?_
                  refine lv_iconst (v := 0) hx hb dX12_laysFlows_57 (by decide) ?_
                  refine vp_callSi (va_Run.run (va_runV (As := [.int (nI i2), .int 0]) (rest := [.ref x_17]) ⟨hx, hb, hml, hown, hT⟩ (m_tradeAt l dC dI cy L kap pr S_35 H.size o i2 0 hTy hT_o (by omega) (by omega)) (cwV 2 hT (gV w1247 w1249 ws66 w14 w1250) rfl rfl rfl (by decide +kernel) ⟨(Nat.le_of_ble_eq_true rfl), (Nat.le_of_ble_eq_true rfl)⟩) ⟨pcN.blind, pl_recv hK hW hT_o.1 hS_o rfl, pcN.pre hW.1 hK hW.2.1 hN (fun q h => absurd h List.not_mem_nil)⟩ rfl rfl hl.1 rfl (lv_room (Nat.le_of_ble_eq_true rfl)) dX12_laysFlows_58 ⟨(Nat.le_of_ble_eq_true rfl), (Nat.le_of_ble_eq_true rfl)⟩)) (fun r_40 hr_40 => ?_)
                  obtain ⟨k_41, hb_k_41, rfl⟩ := hr_40.1.2.1 (by omega) (by omega) (by omega)
                  refine lv_aload_n hx hb dX12_laysFlows_61 rfl (lv_at hl 1 rfl) ?_
                  refine lv_iload_n hx hb dX12_laysFlows_62 rfl (lv_at hl 0 rfl) ?_
                  refine lv_iconst (v := 1) hx hb dX12_laysFlows_63 (by decide) ?_
                  refine vp_callSi (va_Run.run (va_runV (As := [.int (nI i2), .int 1]) (rest := [.int (nI k_41), .ref x_17]) ⟨hx, hb, hml, hown, hT⟩ (m_tradeAt l dC dI cy L kap pr S_35 H.size o i2 1 hTy hT_o (by omega) (by omega)) (cwV 2 hT (gV w1247 w1249 ws66 w14 w1250) rfl rfl rfl (by decide +kernel) ⟨(Nat.le_of_ble_eq_true rfl), (Nat.le_of_ble_eq_true rfl)⟩) ⟨pcN.blind, pl_recv hK hW hT_o.1 hS_o rfl, pcN.pre hW.1 hK hW.2.1 hN (fun q h => absurd h List.not_mem_nil)⟩ rfl rfl hl.1 rfl (lv_room (Nat.le_of_ble_eq_true rfl)) dX12_laysFlows_64 ⟨(Nat.le_of_ble_eq_true rfl), (Nat.le_of_ble_eq_true rfl)⟩)) (fun r_42 hr_42 => ?_)
                  obtain ⟨k_43, hb_k_43, rfl⟩ := hr_42.1.2.1 (by omega) (by omega) (by omega)
                  refine vp_callSi (va_Run.run (va_runS (As := [.int (nI k_41), .int (nI k_43)]) (rest := [.ref x_17]) ⟨hx, hb, hml, hown, hT⟩ (m_couple l dC dI H.size k_41 k_43 (by omega) (by omega)) (va_cwS 2 hT (gS w1348 w1349 w14 w1350) rfl rfl rfl (by decide +kernel) ⟨(Nat.le_of_ble_eq_true rfl), (Nat.le_of_ble_eq_true rfl)⟩) ⟨pcW.blind, pcW.pre (va_P0 _ _ _) (hK.sub (tys' := []) [] rfl) (va_D0 (fun _ => True))⟩ rfl rfl hl.1 rfl (lv_room (Nat.le_of_ble_eq_true rfl)) dX12_laysFlows_67 ⟨(Nat.le_of_ble_eq_true rfl), (Nat.le_of_ble_eq_true rfl)⟩)) (fun r_44 hr_44 => ?_)
                  obtain rfl : r_44 = nI (8 * k_41 + k_43) := hr_44
                  have hkk : k_41 ≠ k_43 := fun e_ => dg_e (n := k_37) (t := i2) hdg_ ey_36.symm (by omega) (by omega) (by have q1 : nI k_41 = fld S_35 o 0 (2 + 5 * i2) := hr_40.2; have q2 : nI k_43 = fld S_35 o 0 (2 + 5 * i2 + 1) := hr_42.2; rw [fld_i (S := S_35) hS_o rfl hS_x_1] at q1 q2; rw [e_] at q1; exact q1.symm.trans q2)
                  refine lv_dup2_11 hx hb dX12_laysFlows_70 rfl rfl ?_
                  refine pl_iald hx hb hK hW hT_x_17.1 hFs2 (vp_in_nI (n := 8 * k_41 + k_43) (N := 64) (by omega) (by omega)) dX12_laysFlows_71 ?_
                  refine lv_topi (fun y_45 ey_45 => ?_)
                  refine lv_aload_n hx hb dX12_laysFlows_72 rfl (lv_at hl 1 rfl) ?_
                  refine lv_iload_n hx hb dX12_laysFlows_73 rfl (lv_at hl 0 rfl) ?_
                  refine lv_iconst (v := 2) hx hb dX12_laysFlows_74 (by decide) ?_
                  refine vp_callSi (va_Run.run (va_runV (As := [.int (nI i2), .int 2]) (rest := [.int y_45, .int (nI (8 * k_41 + k_43)), .ref x_17]) ⟨hx, hb, hml, hown, hT⟩ (m_tradeAt l dC dI cy L kap pr S_35 H.size o i2 2 hTy hT_o (by omega) (by omega)) (cwV 2 hT (gV w1247 w1249 ws66 w14 w1250) rfl rfl rfl (by decide +kernel) ⟨(Nat.le_of_ble_eq_true rfl), (Nat.le_of_ble_eq_true rfl)⟩) ⟨pcN.blind, pl_recv hK hW hT_o.1 hS_o rfl, pcN.pre hW.1 hK hW.2.1 hN (fun q h => absurd h List.not_mem_nil)⟩ rfl rfl hl.1 rfl (lv_room (Nat.le_of_ble_eq_true rfl)) dX12_laysFlows_75 ⟨(Nat.le_of_ble_eq_true rfl), (Nat.le_of_ble_eq_true rfl)⟩)) (fun r_46 hr_46 => ?_)
                  refine lv_iadd hx hb dX12_laysFlows_78 ?_
                  refine lv_topi (fun z_47 ez_47 => ?_)
                  refine pl_iast hx hb hK hW hT_x_17.1 hFs2 (vp_in_nI (n := 8 * k_41 + k_43) (N := 64) (by omega) (by omega)) dX12_laysFlows_79 (fun H locs f_49 S_48 ef_f_49 e1 hW => ?_)
                  have hTy := hTy.u56 e1 hT_x_17 ⟨f_49, rfl⟩
                  have hS_o := un e1 hT_o hT_x_17 (by decide) hS_o
                  have hS_x_1 := un e1 hT_x_1 hT_x_17 (by decide) hS_x_1
                  have hFr := uf hFr e1 hT_x_17 (by decide) (by decide)
                  have hFl2 := uf hFl2 e1 hT_x_17 (by decide) (by decide)
                  have hFl23 := uf hFl23 e1 hT_x_17 (by decide) (by decide)
                  have hFs2 := us e1
                  have hdz1 : ∀ a, a < 8 → f_49 (8 * a + a) = 0 := fun a ha => by rw [ef_f_49, nI_clamp (by omega), pk_un (by omega)]; exact hdz a ha
                  refine lv_iinc (v := nI (i2 + 1)) (lv' := [(3, .int (nI (i2 + 1))), (0, .ref o), (1, .int kd), (2, .int wo)]) hx hb dX12_laysFlows_80 hl (k := 0) rfl (nI_add (i2) 1) (by decide) rfl (fun ls hl => ?_)
                  refine lv_goto (tgt := 23) hx hb dX12_laysFlows_83 (by decide) ?_
                  exact ih23 (i2 + 1) f_49 _ _ _ ls (by omega) (by omega) hFs2 hdz1 hTy hFr hFl23 hW (lv_sub hl [0, 1, 2, 3] rfl)
        exact loop ((41 - 0) + 1) 0 gf _ _ _ ls (Nat.lt_succ_self _) (by omega) hFs (fun a h => hz _ (by omega)) hTy hFr Fr.rf hW (lv_sub hl [0, 1, 2, 3] rfl)
      · have c_5 : ¬ (64 ≤ i) := fun hh9 => c_5 ((nI_leI (a := 64) (b := i) (by omega) (by omega)).mpr hh9)
        refine lv_aload_n hx hb dX12_laysFlows_8 rfl (lv_at hl 1 rfl) ?_
        refine pl_get (ci := 12) (v := .ref x_17) (C := RX12) (T := TX12) (N := 32) hx hb hT iX12 hown hK hW hT_o.1 hS_o rfl 17 (by decide) w1099 rfl dX12_laysFlows_9 ?_
        refine lv_iload_n hx hb dX12_laysFlows_12 rfl (lv_at hl 0 rfl) ?_
        refine lv_iconst (v := 0) hx hb dX12_laysFlows_13 (by decide) ?_
        refine pl_iast hx hb hK hW hT_x_17.1 hFs (vp_in_nI (n := i) (N := 64) (by omega) (by omega)) dX12_laysFlows_14 (fun H locs f_51 S_50 ef_f_51 e1 hW => ?_)
        have hTy := hTy.u56 e1 hT_x_17 ⟨f_51, rfl⟩
        have hS_o := un e1 hT_o hT_x_17 (by decide) hS_o
        have hS_x_1 := un e1 hT_x_1 hT_x_17 (by decide) hS_x_1
        have hFr := uf hFr e1 hT_x_17 (by decide) (by decide)
        have hFl2 := uf hFl2 e1 hT_x_17 (by decide) (by decide)
        have hFs := us e1
        have hz1 := cpy_up (P := fun _ x => x = 0) ef_f_51 (by omega) hz rfl
        refine lv_iinc (v := nI (i + 1)) (lv' := [(3, .int (nI (i + 1))), (0, .ref o), (1, .int kd), (2, .int wo)]) hx hb dX12_laysFlows_15 hl (k := 0) rfl (nI_add (i) 1) (by decide) rfl (fun ls hl => ?_)
        refine lv_goto (tgt := 2) hx hb dX12_laysFlows_18 (by decide) ?_
        exact ih2 (i + 1) f_51 _ _ _ ls (by omega) (by omega) hFs hz1 hTy hFr hFl2 hW (lv_sub hl [0, 1, 2, 3] rfl)
  exact loop ((65 - 0) + 1) 0 f_33 _ _ _ ls (Nat.lt_succ_self _) (by omega) hS_x_17 (fun v h => absurd h (Nat.not_lt_zero _)) hTy hFr Fr.rf hW (lv_sub hl [0, 1, 2, 3] rfl)

set_option maxHeartbeats 4000000 in
set_option maxRecDepth 100000 in
theorem m_nextOf (l : Launch) (dC : Nat → ClassId) (dI : Nat → Nat → Nat) (cy : Nat → ClassId) (L : List Nat) (kap : Nat → Nat) (pr : Pr) (S : Nat → va_E) (sz : Nat) (o : Nat) (pp : Nat) (mv : Int32) (hTy : Ty cy L kap pr S) (hT_o : TK L kap o 12) (hb_pp : pp < 8) (pa : Nat) (hpa : PA S o pa) : Met l yX12_nextOf (wT yX12_nextOf cX12_nextOf 4 (some .int)) ({ frames := 1, cells := 0, slots := 0, locals := 21 }) (pcN dC dI [.ref o, .int (nI pp), .int mv] sz (va_pl L S) (cyT cy) NLs []) (vp_Si (fun r => (∃ q, q < pa ∧ r = nI q ∧ fld S o 20 q = mv) ∨ (r = -1 ∧ ∀ q, q < pa → 0 < fld S o 17 (8 * pp + q) → fld S o 20 q ≠ mv))) 0 0 (fun _ => False) := by
  refine Met.ofW (cc := cX12_nextOf) (maxL := 4) (ret := (some .int)) (by decide) rfl ?_
  intro p e s m args below meth c s₁ B hml hv
  obtain ⟨rfl, hsz, hP, hK, hD0, hN, -⟩ := hv
  have hx := B.exec
  have hb := B.bytes
  have hr := B.returns
  have hT : ∀ wd ∈ TB, wd.before [.ref o, .int (nI pp), .int mv].toArray s = true := fun wd h => atoms_spec (ws := wT yX12_nextOf cX12_nextOf 4 (some .int)) B.pre wd (List.mem_cons_of_mem _ h)
  have hown : s.vm.findClass RX12 = some m.cls := findClass_of_methodNamed B.named
  have hlocks := B.notSynchronized
  subst hsz
  have hW : PW dC dI L (AL L s.heap.size) s.heap S s.heap [] := ⟨hP, pl_self hD0, va_S.rf⟩
  have hFr : Fr kap [] S S := Fr.rf
  have hl := lv_entry ([.ref o, .int (nI pp), .int mv]) (n := 4) (Nat.le_of_ble_eq_true rfl)
  rw [lg_entry_eq]
  generalize (lg_sl ([.ref o, .int (nI pp), .int mv]) ++ List.replicate (4 - (lg_sl ([.ref o, .int (nI pp), .int mv])).length) Slot.unset).toArray = ls at hl ⊢
  have hl : lv_has ls 4 [(0, .ref o), (1, .int (nI pp)), (2, .int mv)] := hl
  obtain ⟨x_1, x_2, x_3, x_4, x_5, x_6, x_7, x_8, x_9, x_10, x_11, x_12, x_13, x_14, x_15, x_16, x_17, x_18, x_19, x_20, x_21, x_22, x_23, x_24, x_25, x_26, x_27, x_28, x_29, x_30, x_31, hS_o, hT_x_1, hT_x_2, hT_x_3, hT_x_4, hT_x_5, hb_x_6, hb_x_7, hb_x_8, hT_x_10, hb_q2, hb_x_11, hb_x_12, hT_x_17, hT_x_18, hb_x_19, hT_x_20, hT_x_21, hT_x_22, hT_x_23, hT_x_24, hT_x_25, hT_x_26, hT_x_27, hT_x_28, hT_x_29, hT_x_30, hb_x_31⟩ := hTy.k12 hT_o
  have hb_q2 : pr.2 ≤ 900 := hb_q2
  have hS_o : S o = .inr (12, [.ref x_1, .ref x_2, .ref x_3, .ref x_4, .ref x_5, .int (nI x_6), .int (nI x_7), .int (nI x_8), .int x_9, .ref x_10, .int (nI (pr.2)), .int (nI x_11), .int (nI x_12), .int x_13, .int x_14, .int x_15, .int x_16, .ref x_17, .ref x_18, .int (nI x_19), .ref x_20, .ref x_21, .ref x_22, .ref x_23, .ref x_24, .ref x_25, .ref x_26, .ref x_27, .ref x_28, .ref x_29, .ref x_30, .int (nI x_31)]) := hS_o
  obtain rfl : pa = x_6 := PAe hpa hS_o rfl (by omega)
  obtain ⟨f_32, hS_x_17⟩ := hTy.k56 hT_x_17
  obtain ⟨f_33, hS_x_18, hi_f_33⟩ := hTy.k57 hT_x_18
  have h17_ : fld S o 17 = f_32 := fld_i hS_o rfl hS_x_17
  have h18_ : fld S o 18 = f_33 := fld_i hS_o rfl hS_x_18
  obtain ⟨f_34, hS_x_20⟩ := hTy.k58 hT_x_20
  have h20_ : fld S o 20 = f_34 := fld_i hS_o rfl hS_x_20
  refine lv_iconst (v := 0) hx hb dX12_nextOf_0 (by decide) ?_
  refine lv_istore_n (lv' := [(3, .int 0), (0, .ref o), (1, .int (nI pp)), (2, .int mv)]) hx hb dX12_nextOf_1 rfl hl (by decide) rfl (fun ls hl => ?_)
  have loop : ∀ (fuel : Nat) (i : Nat) (ls : Array Slot), 9 - i < fuel → (i ≤ 8) → (∀ q, q < i → 0 < f_32 (8 * pp + q) → f_34 q ≠ mv) → lv_has ls 4 [(3, .int (nI i)), (0, .ref o), (1, .int (nI pp)), (2, .int mv)] → W p l e (headSpec (wT yX12_nextOf cX12_nextOf 4 (some .int)) { frames := 1, cells := 0, slots := 0, locals := 21 }).room s m [.ref o, .int (nI pp), .int mv].toArray below meth c s.heap [] 0 0 (MQ below (vp_Si (fun r => (∃ q, q < pa ∧ r = nI q ∧ fld S o 20 q = mv) ∨ (r = -1 ∧ ∀ q, q < pa → 0 < fld S o 17 (8 * pp + q) → fld S o 20 q ≠ mv))) [.ref o, .int (nI pp), .int mv].toArray s 0 0 (fun _ => False)) (F0 m 2 ls []) := by
    intro fuel
    induction fuel with
    | zero => intro i ls h; exact absurd h (Nat.not_lt_zero _)
    | succ fu2 ih2 =>
      intro i ls hm2 hb_i hnx hl
      refine lv_iload_n hx hb dX12_nextOf_2 rfl (lv_at hl 0 rfl) ?_
      refine lv_aload_n hx hb dX12_nextOf_3 rfl (lv_at hl 1 rfl) ?_
      refine pl_get (ci := 12) (v := .int (nI pa)) (C := RX12) (T := TX12) (N := 32) hx hb hT iX12 hown hK hW hT_o.1 hS_o rfl 5 (by decide) w1087 rfl dX12_nextOf_4 ?_
      refine lv_icmp_ge (tgt := 41) hx hb dX12_nextOf_7 (by decide) (fun c_7 => ?_) (fun c_7 => ?_)
      · have c_7 : pa ≤ i := (nI_leI (a := pa) (b := i) (by omega) (by omega)).mp c_7
        refine lv_iconst (v := (-1)) hx hb dX12_nextOf_41 (by decide) ?_
        exact W.iret (v := (-1)) hx hb hr (fun t ht h9 => ⟨(-1), rfl, Or.inr ⟨rfl, by rw [h17_, h20_]; exact fun q h => hnx q (by omega)⟩, ht⟩) (fun q h => by cases h) dX12_nextOf_42
      · have c_7 : ¬ (pa ≤ i) := fun hh9 => c_7 ((nI_leI (a := pa) (b := i) (by omega) (by omega)).mpr hh9)
        refine lv_aload_n hx hb dX12_nextOf_10 rfl (lv_at hl 1 rfl) ?_
        refine pl_get (ci := 12) (v := .ref x_17) (C := RX12) (T := TX12) (N := 32) hx hb hT iX12 hown hK hW hT_o.1 hS_o rfl 17 (by decide) w1099 rfl dX12_nextOf_11 ?_
        refine lv_iload_n hx hb dX12_nextOf_14 rfl (lv_at hl 2 rfl) ?_
        refine lv_iload_n hx hb dX12_nextOf_15 rfl (lv_at hl 0 rfl) ?_
        refine vp_callSi (va_Run.run (va_runS (As := [.int (nI pp), .int (nI i)]) (rest := [.ref x_17]) ⟨hx, hb, hml, hown, hT⟩ (m_couple l dC dI s.heap.size pp i (by omega) (by omega)) (va_cwS 2 hT (gS w1348 w1349 w14 w1350) rfl rfl rfl (by decide +kernel) ⟨(Nat.le_of_ble_eq_true rfl), (Nat.le_of_ble_eq_true rfl)⟩) ⟨pcW.blind, pcW.pre (va_P0 _ _ _) (hK.sub (tys' := []) [] rfl) (va_D0 (fun _ => True))⟩ rfl rfl hl.1 rfl (lv_room (Nat.le_of_ble_eq_true rfl)) dX12_nextOf_16 ⟨(Nat.le_of_ble_eq_true rfl), (Nat.le_of_ble_eq_true rfl)⟩)) (fun r_35 hr_35 => ?_)
        obtain rfl : r_35 = nI (8 * pp + i) := hr_35
        refine pl_iald hx hb hK hW hT_x_17.1 hS_x_17 (vp_in_nI (n := 8 * pp + i) (N := 64) (by omega) (by omega)) dX12_nextOf_19 ?_
        refine lv_topi (fun y_36 ey_36 => ?_)
        refine lv_if_le (tgt := 35) hx hb dX12_nextOf_20 (by decide) (fun c_20 => ?_) (fun c_20 => ?_)
        · refine lv_iinc (v := nI (i + 1)) (lv' := [(3, .int (nI (i + 1))), (0, .ref o), (1, .int (nI pp)), (2, .int mv)]) hx hb dX12_nextOf_35 hl (k := 0) rfl (nI_add (i) 1) (by decide) rfl (fun ls hl => ?_)
          refine lv_goto (tgt := 2) hx hb dX12_nextOf_38 (by decide) ?_
          exact ih2 (i + 1) ls (by omega) (by omega) (fun q h1 h2 => by by_cases e_ : q = i; exact absurd (by rw [e_] at h2; exact h2) (by have q := iposn c_20; rw [ey_36, nI_clamp (by omega)] at q; exact q); exact hnx q (by omega) h2) (lv_sub hl [0, 1, 2, 3] rfl)
        · refine lv_aload_n hx hb dX12_nextOf_23 rfl (lv_at hl 1 rfl) ?_
          refine pl_get (ci := 12) (v := .ref x_20) (C := RX12) (T := TX12) (N := 32) hx hb hT iX12 hown hK hW hT_o.1 hS_o rfl 20 (by decide) w1102 rfl dX12_nextOf_24 ?_
          refine lv_iload_n hx hb dX12_nextOf_27 rfl (lv_at hl 0 rfl) ?_
          refine pl_iald hx hb hK hW hT_x_20.1 hS_x_20 (vp_in_nI (n := i) (N := 8) (by omega) (by omega)) dX12_nextOf_28 ?_
          refine lv_topi (fun y_37 ey_37 => ?_)
          refine lv_iload_n hx hb dX12_nextOf_29 rfl (lv_at hl 3 rfl) ?_
          refine lv_icmp_ne (tgt := 35) hx hb dX12_nextOf_30 (by decide) (fun c_30 => ?_) (fun c_30 => ?_)
          · refine lv_iinc (v := nI (i + 1)) (lv' := [(3, .int (nI (i + 1))), (0, .ref o), (1, .int (nI pp)), (2, .int mv)]) hx hb dX12_nextOf_35 hl (k := 0) rfl (nI_add (i) 1) (by decide) rfl (fun ls hl => ?_)
            refine lv_goto (tgt := 2) hx hb dX12_nextOf_38 (by decide) ?_
            exact ih2 (i + 1) ls (by omega) (by omega) (fun q h1 h2 => by by_cases e_ : q = i; rw [e_]; have q2 := c_30; rw [ey_37, nI_clamp (by omega)] at q2; exact q2; exact hnx q (by omega) h2) (lv_sub hl [0, 1, 2, 3] rfl)
          · refine lv_iload_n hx hb dX12_nextOf_33 rfl (lv_at hl 0 rfl) ?_
            exact W.iret (v := nI i) hx hb hr (fun t ht h9 => ⟨nI i, rfl, Or.inl ⟨i, by omega, rfl, by rw [h20_]; have q := c_30; rw [ey_37, nI_clamp (by omega)] at q; exact q⟩, ht⟩) (fun q h => by cases h) dX12_nextOf_34
  exact loop ((9 - 0) + 1) 0 ls (Nat.lt_succ_self _) (by omega) (fun q h => absurd h (Nat.not_lt_zero _)) (lv_sub hl [0, 1, 2, 3] rfl)

set_option maxHeartbeats 4000000 in
set_option maxRecDepth 100000 in
theorem m_laysRows (l : Launch) (dC : Nat → ClassId) (dI : Nat → Nat → Nat) (cy : Nat → ClassId) (L : List Nat) (kap : Nat → Nat) (pr : Pr) (S : Nat → va_E) (sz : Nat) (o : Nat) (hTy : Ty cy L kap pr S) (hT_o : TK L kap o 12) (pa : Nat) (hpa : PA S o pa) (rk : Nat → Nat) (hrk1 : ∀ p, p < pa → rk p < pa) (hrk2 : ∀ p q, PE (fld S o 17) pa p q → rk q < rk p) : Met l yX12_laysRows (wT yX12_laysRows cX12_laysRows 5 (some .int)) ({ frames := 1, cells := 0, slots := 0, locals := 21 }) (pcN dC dI [.ref o] sz (va_pl L S) (cyT cy) NLs []) (va_Qi (fun r S' => Ty cy L kap pr S' ∧ Fr kap [58] S S' ∧ (ROWS (fld S o 17) (fld S' o 20) pa ∧ ∃ n, n ≤ 8 ∧ r = nI n ∧ ROWN (fld S' o 20) pa n)) (fun S' t => pB dC dI (AL L sz) (va_pl L S') (cyT cy) t) (AL L sz)) 0 0 (AL L sz) := by
  refine Met.ofW (cc := cX12_laysRows) (maxL := 5) (ret := (some .int)) (by decide) rfl ?_
  intro p e s m args below meth c s₁ B hml hv
  obtain ⟨rfl, hsz, hP, hK, hD0, hN, -⟩ := hv
  have hx := B.exec
  have hb := B.bytes
  have hr := B.returns
  have hT : ∀ wd ∈ TB, wd.before [.ref o].toArray s = true := fun wd h => atoms_spec (ws := wT yX12_laysRows cX12_laysRows 5 (some .int)) B.pre wd (List.mem_cons_of_mem _ h)
  have hown : s.vm.findClass RX12 = some m.cls := findClass_of_methodNamed B.named
  have hlocks := B.notSynchronized
  subst hsz
  have hW : PW dC dI L (AL L s.heap.size) s.heap S s.heap [] := ⟨hP, pl_self hD0, va_S.rf⟩
  have hA0 : ∀ q, q ∈ L → AL L s.heap.size q := fun _ h => Or.inl h
  have hA : ∀ q, s.heap.size ≤ q → AL L s.heap.size q := fun _ h => Or.inr h
  have hFr : Fr kap [58] S S := Fr.rf
  have hl := lv_entry ([.ref o]) (n := 5) (Nat.le_of_ble_eq_true rfl)
  rw [lg_entry_eq]
  generalize (lg_sl ([.ref o]) ++ List.replicate (5 - (lg_sl ([.ref o])).length) Slot.unset).toArray = ls at hl ⊢
  have hl : lv_has ls 5 [(0, .ref o)] := hl
  obtain ⟨x_1, x_2, x_3, x_4, x_5, x_6, x_7, x_8, x_9, x_10, x_11, x_12, x_13, x_14, x_15, x_16, x_17, x_18, x_19, x_20, x_21, x_22, x_23, x_24, x_25, x_26, x_27, x_28, x_29, x_30, x_31, hS_o, hT_x_1, hT_x_2, hT_x_3, hT_x_4, hT_x_5, hb_x_6, hb_x_7, hb_x_8, hT_x_10, hb_q2, hb_x_11, hb_x_12, hT_x_17, hT_x_18, hb_x_19, hT_x_20, hT_x_21, hT_x_22, hT_x_23, hT_x_24, hT_x_25, hT_x_26, hT_x_27, hT_x_28, hT_x_29, hT_x_30, hb_x_31⟩ := hTy.k12 hT_o
  have hb_q2 : pr.2 ≤ 900 := hb_q2
  have hS_o : S o = .inr (12, [.ref x_1, .ref x_2, .ref x_3, .ref x_4, .ref x_5, .int (nI x_6), .int (nI x_7), .int (nI x_8), .int x_9, .ref x_10, .int (nI (pr.2)), .int (nI x_11), .int (nI x_12), .int x_13, .int x_14, .int x_15, .int x_16, .ref x_17, .ref x_18, .int (nI x_19), .ref x_20, .ref x_21, .ref x_22, .ref x_23, .ref x_24, .ref x_25, .ref x_26, .ref x_27, .ref x_28, .ref x_29, .ref x_30, .int (nI x_31)]) := hS_o
  obtain rfl : pa = x_6 := PAe hpa hS_o rfl (by omega)
  obtain ⟨f_32, hS_x_17⟩ := hTy.k56 hT_x_17
  obtain ⟨f_33, hS_x_18, hi_f_33⟩ := hTy.k57 hT_x_18
  have h17_ : fld S o 17 = f_32 := fld_i hS_o rfl hS_x_17
  have h18_ : fld S o 18 = f_33 := fld_i hS_o rfl hS_x_18
  obtain ⟨f_34, hS_x_20⟩ := hTy.k58 hT_x_20
  have h20_ : fld S o 20 = f_34 := fld_i hS_o rfl hS_x_20
  rw [h17_] at hrk2
  refine lv_iconst (v := 0) hx hb dX12_laysRows_0 (by decide) ?_
  refine lv_istore_n (lv' := [(1, .int 0), (0, .ref o)]) hx hb dX12_laysRows_1 rfl hl (by decide) rfl (fun ls hl => ?_)
  refine lv_iconst (v := 0) hx hb dX12_laysRows_2 (by decide) ?_
  refine lv_istore_n (lv' := [(2, .int 0), (1, .int 0), (0, .ref o)]) hx hb dX12_laysRows_3 rfl hl (by decide) rfl (fun ls hl => ?_)
  have loop : ∀ (fuel : Nat) (i : Nat) (g0 : Nat → Int32) (SS : Nat → va_E) (H : Heap) (locs : List Loc) (ls : Array Slot), 9 - i < fuel → (i ≤ 8) → (SS x_20 = .inl (cy 0, 8, .inl g0)) → (∀ v, v < i → g0 v = nI 1) → Ty cy L kap pr SS → Fr kap [58] S SS → Fr kap [58] S SS → PW dC dI L (AL L s.heap.size) s.heap SS H locs → lv_has ls 5 [(2, .int (nI i)), (1, .int 0), (0, .ref o)] → W p l e (headSpec (wT yX12_laysRows cX12_laysRows 5 (some .int)) { frames := 1, cells := 0, slots := 0, locals := 21 }).room s m [.ref o].toArray below meth c H locs 0 0 (MQ below (va_Qi (fun r S' => Ty cy L kap pr S' ∧ Fr kap [58] S S' ∧ (ROWS (fld S o 17) (fld S' o 20) pa ∧ ∃ n, n ≤ 8 ∧ r = nI n ∧ ROWN (fld S' o 20) pa n)) (fun S' t => pB dC dI (AL L s.heap.size) (va_pl L S') (cyT cy) t) (AL L s.heap.size)) [.ref o].toArray s 0 0 (AL L s.heap.size)) (F0 m 4 ls []) := by
    intro fuel
    induction fuel with
    | zero => intro i g0 SS H locs ls h; exact absurd h (Nat.not_lt_zero _)
    | succ fu4 ih4 =>
      intro i g0 S_35 H locs ls hm4 hb_i hG0 h11 hTy hFr hFl4 hW hl
      have hS_o := hFl4.at hT_o (by decide) hS_o
      have hS_x_17 := hFl4.at hT_x_17 (by decide) hS_x_17
      have hS_x_18 := hFl4.at hT_x_18 (by decide) hS_x_18
      refine lv_iload_n hx hb dX12_laysRows_4 rfl (lv_at hl 0 rfl) ?_
      refine lv_aload_n hx hb dX12_laysRows_5 rfl (lv_at hl 2 rfl) ?_
      refine pl_get (ci := 12) (v := .int (nI pa)) (C := RX12) (T := TX12) (N := 32) hx hb hT iX12 hown hK hW hT_o.1 hS_o rfl 5 (by decide) w1087 rfl dX12_laysRows_6 ?_
      refine lv_icmp_ge (tgt := 25) hx hb dX12_laysRows_9 (by decide) (fun c_9 => ?_) (fun c_9 => ?_)
      · have c_9 : pa ≤ i := (nI_leI (a := pa) (b := i) (by omega) (by omega)).mp c_9
        refine lv_iconst (v := 0) hx hb dX12_laysRows_25 (by decide) ?_
        refine lv_istore_n (lv' := [(2, .int 0), (1, .int 0), (0, .ref o)]) hx hb dX12_laysRows_26 rfl hl (by decide) rfl (fun ls hl => ?_)
        have hRI0 : RI f_32 rk pa g0 := RI_0 (fun j hj => h11 j (by omega))
        have loop : ∀ (fuel : Nat) (rd : Nat) (mo : Nat) (g1 : Nat → Int32) (SS : Nat → va_E) (H : Heap) (locs : List Loc) (ls : Array Slot), 9 - rd < fuel → (rd ≤ 8) → (mo ≤ 8) → (SS x_20 = .inl (cy 0, 8, .inl g1)) → (rd ≤ pa) → (RI f_32 rk pa g1) → (SAT f_32 rk pa g1 rd 0) → (MX g1 pa mo) → (rd = 0 ∨ ∀ j, j < pa → wa g1 j ≤ mo) → Ty cy L kap pr SS → Fr kap [58] S SS → Fr kap [58] S_35 SS → PW dC dI L (AL L s.heap.size) s.heap SS H locs → lv_has ls 5 [(2, .int (nI rd)), (1, .int (nI mo)), (0, .ref o)] → W p l e (headSpec (wT yX12_laysRows cX12_laysRows 5 (some .int)) { frames := 1, cells := 0, slots := 0, locals := 21 }).room s m [.ref o].toArray below meth c H locs 0 0 (MQ below (va_Qi (fun r S' => Ty cy L kap pr S' ∧ Fr kap [58] S S' ∧ (ROWS (fld S o 17) (fld S' o 20) pa ∧ ∃ n, n ≤ 8 ∧ r = nI n ∧ ROWN (fld S' o 20) pa n)) (fun S' t => pB dC dI (AL L s.heap.size) (va_pl L S') (cyT cy) t) (AL L s.heap.size)) [.ref o].toArray s 0 0 (AL L s.heap.size)) (F0 m 27 ls []) := by
          intro fuel
          induction fuel with
          | zero => intro rd mo g1 SS H locs ls h; exact absurd h (Nat.not_lt_zero _)
          | succ fu27 ih27 =>
            intro rd mo g1 S_36 H locs ls hm27 hb_rd hb_mo hG1 hrp hRI1 hSA1 hmx1 hmn1 hTy hFr hFl27 hW hl
            have hS_o := hFl27.at hT_o (by decide) hS_o
            have hS_x_17 := hFl27.at hT_x_17 (by decide) hS_x_17
            have hS_x_18 := hFl27.at hT_x_18 (by decide) hS_x_18
            have hFl4 := hFl4.tr hFl27 (by decide)
            refine lv_iload_n hx hb dX12_laysRows_27 rfl (lv_at hl 0 rfl) ?_
            refine lv_aload_n hx hb dX12_laysRows_28 rfl (lv_at hl 2 rfl) ?_
            refine pl_get (ci := 12) (v := .int (nI pa)) (C := RX12) (T := TX12) (N := 32) hx hb hT iX12 hown hK hW hT_o.1 hS_o rfl 5 (by decide) w1087 rfl dX12_laysRows_29 ?_
            refine lv_icmp_ge (tgt := 141) hx hb dX12_laysRows_32 (by decide) (fun c_32 => ?_) (fun c_32 => ?_)
            · have c_32 : pa ≤ rd := (nI_leI (a := pa) (b := rd) (by omega) (by omega)).mp c_32
              refine lv_iload_n hx hb dX12_laysRows_141 rfl (lv_at hl 1 rfl) ?_
              refine lv_iconst (v := 2) hx hb dX12_laysRows_142 (by decide) ?_
              refine lv_icmp_ge (tgt := 150) hx hb dX12_laysRows_143 (by decide) (fun c_143 => ?_) (fun c_143 => ?_)
              · have c_143 : 2 ≤ mo := (nI_leI (a := 2) (b := mo) (by omega) (by omega)).mp c_143
                refine lv_iload_n hx hb dX12_laysRows_150 rfl (lv_at hl 1 rfl) ?_
                exact W.iret (v := nI mo) hx hb hr (fun t ht h9 => ⟨⟨nI mo, S_36, rfl, ⟨hTy, hFr, ⟨by rw [h17_, fld_i (S := S_36) hS_o rfl hG1]; exact rows_end hRI1 hSA1 (by omega) hrk1 (by omega), mo, by omega, rfl, by rw [fld_i (S := S_36) hS_o rfl hG1]; exact Or.inr ⟨by omega, (MX_e hmx1).resolve_left (by omega), fun j hj => by rcases hmn1 with q | q; omega; exact q j hj⟩⟩⟩, by rw [ht]; exact hW.1, va_K.moved h9.alike hK, hW.2.1⟩, hW.2.2.F ht⟩) hW.2.2.2.2 dX12_laysRows_151
              · have c_143 : ¬ (2 ≤ mo) := fun hh9 => c_143 ((nI_leI (a := 2) (b := mo) (by omega) (by omega)).mpr hh9)
                refine lv_iconst (v := 0) hx hb dX12_laysRows_146 (by decide) ?_
                refine lv_goto (tgt := 151) hx hb dX12_laysRows_147 (by decide) ?_
                exact W.iret (v := 0) hx hb hr (fun t ht h9 => ⟨⟨0, S_36, rfl, ⟨hTy, hFr, ⟨by rw [h17_, fld_i (S := S_36) hS_o rfl hG1]; exact rows_end hRI1 hSA1 (by omega) hrk1 (by omega), 0, by omega, rfl, by rw [fld_i (S := S_36) hS_o rfl hG1]; exact Or.inl rfl⟩⟩, by rw [ht]; exact hW.1, va_K.moved h9.alike hK, hW.2.1⟩, hW.2.2.F ht⟩) hW.2.2.2.2 dX12_laysRows_151
            · have c_32 : ¬ (pa ≤ rd) := fun hh9 => c_32 ((nI_leI (a := pa) (b := rd) (by omega) (by omega)).mpr hh9)
              refine lv_iconst (v := 0) hx hb dX12_laysRows_35 (by decide) ?_
              refine lv_istore_n (lv' := [(3, .int 0), (2, .int (nI rd)), (1, .int (nI mo)), (0, .ref o)]) hx hb dX12_laysRows_36 rfl hl (by decide) rfl (fun ls hl => ?_)
              have loop : ∀ (fuel : Nat) (pp : Nat) (mo2 : Nat) (g2 : Nat → Int32) (SS : Nat → va_E) (H : Heap) (locs : List Loc) (ls : Array Slot), 9 - pp < fuel → (pp ≤ 8) → (mo2 ≤ 8) → (SS x_20 = .inl (cy 0, 8, .inl g2)) → (RI f_32 rk pa g2) → (SAT f_32 rk pa g2 rd pp) → (MX g2 pa mo2) → (∀ j, j < pp → wa g2 j ≤ mo2) → Ty cy L kap pr SS → Fr kap [58] S SS → Fr kap [58] S_36 SS → PW dC dI L (AL L s.heap.size) s.heap SS H locs → lv_has ls 5 [(3, .int (nI pp)), (2, .int (nI rd)), (1, .int (nI mo2)), (0, .ref o)] → W p l e (headSpec (wT yX12_laysRows cX12_laysRows 5 (some .int)) { frames := 1, cells := 0, slots := 0, locals := 21 }).room s m [.ref o].toArray below meth c H locs 0 0 (MQ below (va_Qi (fun r S' => Ty cy L kap pr S' ∧ Fr kap [58] S S' ∧ (ROWS (fld S o 17) (fld S' o 20) pa ∧ ∃ n, n ≤ 8 ∧ r = nI n ∧ ROWN (fld S' o 20) pa n)) (fun S' t => pB dC dI (AL L s.heap.size) (va_pl L S') (cyT cy) t) (AL L s.heap.size)) [.ref o].toArray s 0 0 (AL L s.heap.size)) (F0 m 37 ls []) := by
                intro fuel
                induction fuel with
                | zero => intro pp mo2 g2 SS H locs ls h; exact absurd h (Nat.not_lt_zero _)
                | succ fu37 ih37 =>
                  intro pp mo2 g2 S_37 H locs ls hm37 hb_pp hb_mo2 hG2 hRI2 hSA2 hmx2 hmn2 hTy hFr hFl37 hW hl
                  have hS_o := hFl37.at hT_o (by decide) hS_o
                  have hS_x_17 := hFl37.at hT_x_17 (by decide) hS_x_17
                  have hS_x_18 := hFl37.at hT_x_18 (by decide) hS_x_18
                  have hFl4 := hFl4.tr hFl37 (by decide)
                  have hFl27 := hFl27.tr hFl37 (by decide)
                  refine lv_iload_n hx hb dX12_laysRows_37 rfl (lv_at hl 0 rfl) ?_
                  refine lv_aload_n hx hb dX12_laysRows_38 rfl (lv_at hl 3 rfl) ?_
                  refine pl_get (ci := 12) (v := .int (nI pa)) (C := RX12) (T := TX12) (N := 32) hx hb hT iX12 hown hK hW hT_o.1 hS_o rfl 5 (by decide) w1087 rfl dX12_laysRows_39 ?_
                  refine lv_icmp_ge (tgt := 135) hx hb dX12_laysRows_42 (by decide) (fun c_42 => ?_) (fun c_42 => ?_)
                  · have c_42 : pa ≤ pp := (nI_leI (a := pa) (b := pp) (by omega) (by omega)).mp c_42
                    refine lv_iinc (v := nI (rd + 1)) (lv' := [(2, .int (nI (rd + 1))), (3, .int (nI pp)), (1, .int (nI mo2)), (0, .ref o)]) hx hb dX12_laysRows_135 hl (k := 1) rfl (nI_add (rd) 1) (by decide) rfl (fun ls hl => ?_)
                    refine lv_goto (tgt := 27) hx hb dX12_laysRows_138 (by decide) ?_
                    exact ih27 (rd + 1) mo2 g2 _ _ _ ls (by omega) (by omega) (by omega) hG2 (by omega) hRI2 (SAT_n hSA2 (by omega)) hmx2 (Or.inr (fun j hj => hmn2 j (by omega))) hTy hFr hFl27 hW (lv_sub hl [0, 2, 3] rfl)
                  · have c_42 : ¬ (pa ≤ pp) := fun hh9 => c_42 ((nI_leI (a := pa) (b := pp) (by omega) (by omega)).mpr hh9)
                    refine lv_iconst (v := 0) hx hb dX12_laysRows_45 (by decide) ?_
                    refine lv_istore (lv' := [(4, .int 0), (3, .int (nI pp)), (2, .int (nI rd)), (1, .int (nI mo2)), (0, .ref o)]) hx hb dX12_laysRows_46 hl (by decide) rfl (fun ls hl => ?_)
                    have loop : ∀ (fuel : Nat) (qq : Nat) (g3 : Nat → Int32) (SS : Nat → va_E) (H : Heap) (locs : List Loc) (ls : Array Slot), 9 - qq < fuel → (qq ≤ 8) → (SS x_20 = .inl (cy 0, 8, .inl g3)) → (qq ≤ pa) → (RI f_32 rk pa g3) → (SAT f_32 rk pa g3 rd pp) → (ST1 f_32 g3 pp qq) → (MX g3 pa mo2) → (∀ j, j < pp → wa g3 j ≤ mo2) → Ty cy L kap pr SS → Fr kap [58] S SS → Fr kap [58] S_37 SS → PW dC dI L (AL L s.heap.size) s.heap SS H locs → lv_has ls 5 [(4, .int (nI qq)), (3, .int (nI pp)), (2, .int (nI rd)), (1, .int (nI mo2)), (0, .ref o)] → W p l e (headSpec (wT yX12_laysRows cX12_laysRows 5 (some .int)) { frames := 1, cells := 0, slots := 0, locals := 21 }).room s m [.ref o].toArray below meth c H locs 0 0 (MQ below (va_Qi (fun r S' => Ty cy L kap pr S' ∧ Fr kap [58] S S' ∧ (ROWS (fld S o 17) (fld S' o 20) pa ∧ ∃ n, n ≤ 8 ∧ r = nI n ∧ ROWN (fld S' o 20) pa n)) (fun S' t => pB dC dI (AL L s.heap.size) (va_pl L S') (cyT cy) t) (AL L s.heap.size)) [.ref o].toArray s 0 0 (AL L s.heap.size)) (F0 m 48 ls []) := by
                      intro fuel
                      induction fuel with
                      | zero => intro qq g3 SS H locs ls h; exact absurd h (Nat.not_lt_zero _)
                      | succ fu48 ih48 =>
                        intro qq g3 S_38 H locs ls hm48 hb_qq hG3 hqp hRI3 hSA3 hST3 hmx3 hmn3 hTy hFr hFl48 hW hl
                        have hS_o := hFl48.at hT_o (by decide) hS_o
                        have hS_x_17 := hFl48.at hT_x_17 (by decide) hS_x_17
                        have hS_x_18 := hFl48.at hT_x_18 (by decide) hS_x_18
                        have hFl4 := hFl4.tr hFl48 (by decide)
                        have hFl27 := hFl27.tr hFl48 (by decide)
                        have hFl37 := hFl37.tr hFl48 (by decide)
                        refine lv_iload hx hb dX12_laysRows_48 (lv_at hl 0 rfl) ?_
                        refine lv_aload_n hx hb dX12_laysRows_50 rfl (lv_at hl 4 rfl) ?_
                        refine pl_get (ci := 12) (v := .int (nI pa)) (C := RX12) (T := TX12) (N := 32) hx hb hT iX12 hown hK hW hT_o.1 hS_o rfl 5 (by decide) w1087 rfl dX12_laysRows_51 ?_
                        refine lv_icmp_ge (tgt := 108) hx hb dX12_laysRows_54 (by decide) (fun c_54 => ?_) (fun c_54 => ?_)
                        · have c_54 : pa ≤ qq := (nI_leI (a := pa) (b := qq) (by omega) (by omega)).mp c_54
                          refine lv_aload_n hx hb dX12_laysRows_108 rfl (lv_at hl 4 rfl) ?_
                          refine pl_get (ci := 12) (v := .ref x_20) (C := RX12) (T := TX12) (N := 32) hx hb hT iX12 hown hK hW hT_o.1 hS_o rfl 20 (by decide) w1102 rfl dX12_laysRows_109 ?_
                          refine lv_iload_n hx hb dX12_laysRows_112 rfl (lv_at hl 1 rfl) ?_
                          refine pl_iald hx hb hK hW hT_x_20.1 hG3 (vp_in_nI (n := pp) (N := 8) (by omega) (by omega)) dX12_laysRows_113 ?_
                          refine lv_topi (fun y_39 ey_39 => ?_)
                          have he_ := RI_e hRI3 hrk1 (by omega) (j := pp) (by omega)
                          obtain rfl : y_39 = nI (wa g3 pp) := ey_39.trans (by rw [nI_clamp (by omega)]; exact he_.1)
                          refine lv_iload_n hx hb dX12_laysRows_114 rfl (lv_at hl 3 rfl) ?_
                          refine lv_icmp_le (tgt := 127) hx hb dX12_laysRows_115 (by decide) (fun c_115 => ?_) (fun c_115 => ?_)
                          · have c_115 : (wa g3 pp) ≤ mo2 := (nI_leI (a := wa g3 pp) (b := mo2) (by omega) (by omega)).mp c_115
                            refine lv_iload_n hx hb dX12_laysRows_127 rfl (lv_at hl 3 rfl) ?_
                            refine lv_istore_n (lv' := [(1, .int (nI mo2)), (4, .int (nI qq)), (3, .int (nI pp)), (2, .int (nI rd)), (0, .ref o)]) hx hb dX12_laysRows_128 rfl hl (by decide) rfl (fun ls hl => ?_)
                            refine lv_iinc (v := nI (pp + 1)) (lv' := [(3, .int (nI (pp + 1))), (1, .int (nI mo2)), (4, .int (nI qq)), (2, .int (nI rd)), (0, .ref o)]) hx hb dX12_laysRows_129 hl (k := 2) rfl (nI_add (pp) 1) (by decide) rfl (fun ls hl => ?_)
                            refine lv_goto (tgt := 37) hx hb dX12_laysRows_132 (by decide) ?_
                            exact ih37 (pp + 1) mo2 g3 _ _ _ ls (by omega) (by omega) (by omega) hG3 hRI3 (SAT_p hSA3 (by have q := hST3; rw [show qq = pa from by omega] at q; exact q)) hmx3 (fun j hj => by by_cases e_ : j = pp; rw [e_]; omega; have q := hmn3 j (by omega); omega) hTy hFr hFl37 hW (lv_sub hl [0, 3, 1, 4] rfl)
                          · have c_115 : ¬ ((wa g3 pp) ≤ mo2) := fun hh9 => c_115 ((nI_leI (a := wa g3 pp) (b := mo2) (by omega) (by omega)).mpr hh9)
                            refine lv_aload_n hx hb dX12_laysRows_118 rfl (lv_at hl 4 rfl) ?_
                            refine pl_get (ci := 12) (v := .ref x_20) (C := RX12) (T := TX12) (N := 32) hx hb hT iX12 hown hK hW hT_o.1 hS_o rfl 20 (by decide) w1102 rfl dX12_laysRows_119 ?_
                            refine lv_iload_n hx hb dX12_laysRows_122 rfl (lv_at hl 1 rfl) ?_
                            refine pl_iald hx hb hK hW hT_x_20.1 hG3 (vp_in_nI (n := pp) (N := 8) (by omega) (by omega)) dX12_laysRows_123 ?_
                            refine lv_topi (fun y_40 ey_40 => ?_)
                            have he_ := RI_e hRI3 hrk1 (by omega) (j := pp) (by omega)
                            obtain rfl : y_40 = nI (wa g3 pp) := ey_40.trans (by rw [nI_clamp (by omega)]; exact he_.1)
                            refine lv_goto (tgt := 128) hx hb dX12_laysRows_124 (by decide) ?_
                            refine lv_istore_n (lv' := [(1, .int (nI (wa g3 pp))), (4, .int (nI qq)), (3, .int (nI pp)), (2, .int (nI rd)), (0, .ref o)]) hx hb dX12_laysRows_128 rfl hl (by decide) rfl (fun ls hl => ?_)
                            refine lv_iinc (v := nI (pp + 1)) (lv' := [(3, .int (nI (pp + 1))), (1, .int (nI (wa g3 pp))), (4, .int (nI qq)), (2, .int (nI rd)), (0, .ref o)]) hx hb dX12_laysRows_129 hl (k := 2) rfl (nI_add (pp) 1) (by decide) rfl (fun ls hl => ?_)
                            refine lv_goto (tgt := 37) hx hb dX12_laysRows_132 (by decide) ?_
                            exact ih37 (pp + 1) (wa g3 pp) g3 _ _ _ ls (by omega) (by omega) (by omega) hG3 hRI3 (SAT_p hSA3 (by have q := hST3; rw [show qq = pa from by omega] at q; exact q)) (MX_p (by omega)) (fun j hj => by by_cases e_ : j = pp; rw [e_]; omega; have q := hmn3 j (by omega); omega) hTy hFr hFl37 hW (lv_sub hl [0, 3, 1, 4] rfl)
                        · have c_54 : ¬ (pa ≤ qq) := fun hh9 => c_54 ((nI_leI (a := pa) (b := qq) (by omega) (by omega)).mpr hh9)
                          refine lv_aload_n hx hb dX12_laysRows_57 rfl (lv_at hl 4 rfl) ?_
                          refine pl_get (ci := 12) (v := .ref x_17) (C := RX12) (T := TX12) (N := 32) hx hb hT iX12 hown hK hW hT_o.1 hS_o rfl 17 (by decide) w1099 rfl dX12_laysRows_58 ?_
                          refine lv_iload_n hx hb dX12_laysRows_61 rfl (lv_at hl 1 rfl) ?_
                          refine lv_iload hx hb dX12_laysRows_62 (lv_at hl 0 rfl) ?_
                          refine vp_callSi (va_Run.run (va_runS (As := [.int (nI pp), .int (nI qq)]) (rest := [.ref x_17]) ⟨hx, hb, hml, hown, hT⟩ (m_couple l dC dI H.size pp qq (by omega) (by omega)) (va_cwS 2 hT (gS w1348 w1349 w14 w1350) rfl rfl rfl (by decide +kernel) ⟨(Nat.le_of_ble_eq_true rfl), (Nat.le_of_ble_eq_true rfl)⟩) ⟨pcW.blind, pcW.pre (va_P0 _ _ _) (hK.sub (tys' := []) [] rfl) (va_D0 (fun _ => True))⟩ rfl rfl hl.1 rfl (lv_room (Nat.le_of_ble_eq_true rfl)) dX12_laysRows_64 ⟨(Nat.le_of_ble_eq_true rfl), (Nat.le_of_ble_eq_true rfl)⟩)) (fun r_41 hr_41 => ?_)
                          obtain rfl : r_41 = nI (8 * pp + qq) := hr_41
                          refine pl_iald hx hb hK hW hT_x_17.1 hS_x_17 (vp_in_nI (n := 8 * pp + qq) (N := 64) (by omega) (by omega)) dX12_laysRows_67 ?_
                          refine lv_topi (fun y_42 ey_42 => ?_)
                          refine lv_if_le (tgt := 102) hx hb dX12_laysRows_68 (by decide) (fun c_68 => ?_) (fun c_68 => ?_)
                          · refine lv_iinc (v := nI (qq + 1)) (lv' := [(4, .int (nI (qq + 1))), (3, .int (nI pp)), (2, .int (nI rd)), (1, .int (nI mo2)), (0, .ref o)]) hx hb dX12_laysRows_102 hl (k := 0) rfl (nI_add (qq) 1) (by decide) rfl (fun ls hl => ?_)
                            refine lv_goto (tgt := 48) hx hb dX12_laysRows_105 (by decide) ?_
                            exact ih48 (qq + 1) g3 _ _ _ ls (by omega) (by omega) hG3 (by omega) hRI3 hSA3 (ST1_n hST3 (fun h => absurd h (by have q := iposn c_68; rw [ey_42, nI_clamp (by omega)] at q; exact q))) hmx3 hmn3 hTy hFr hFl48 hW (lv_sub hl [0, 1, 2, 3, 4] rfl)
                          · refine lv_aload_n hx hb dX12_laysRows_71 rfl (lv_at hl 4 rfl) ?_
                            refine pl_get (ci := 12) (v := .ref x_20) (C := RX12) (T := TX12) (N := 32) hx hb hT iX12 hown hK hW hT_o.1 hS_o rfl 20 (by decide) w1102 rfl dX12_laysRows_72 ?_
                            refine lv_iload hx hb dX12_laysRows_75 (lv_at hl 0 rfl) ?_
                            refine pl_iald hx hb hK hW hT_x_20.1 hG3 (vp_in_nI (n := qq) (N := 8) (by omega) (by omega)) dX12_laysRows_77 ?_
                            refine lv_topi (fun y_43 ey_43 => ?_)
                            have he_ := RI_e hRI3 hrk1 (by omega) (j := qq) (by omega)
                            obtain rfl : y_43 = nI (wa g3 qq) := ey_43.trans (by rw [nI_clamp (by omega)]; exact he_.1)
                            refine lv_aload_n hx hb dX12_laysRows_78 rfl (lv_at hl 4 rfl) ?_
                            refine pl_get (ci := 12) (v := .ref x_20) (C := RX12) (T := TX12) (N := 32) hx hb hT iX12 hown hK hW hT_o.1 hS_o rfl 20 (by decide) w1102 rfl dX12_laysRows_79 ?_
                            refine lv_iload_n hx hb dX12_laysRows_82 rfl (lv_at hl 1 rfl) ?_
                            refine pl_iald hx hb hK hW hT_x_20.1 hG3 (vp_in_nI (n := pp) (N := 8) (by omega) (by omega)) dX12_laysRows_83 ?_
                            refine lv_topi (fun y_44 ey_44 => ?_)
                            have he_ := RI_e hRI3 hrk1 (by omega) (j := pp) (by omega)
                            obtain rfl : y_44 = nI (wa g3 pp) := ey_44.trans (by rw [nI_clamp (by omega)]; exact he_.1)
                            refine lv_icmp_lt (tgt := 102) hx hb dX12_laysRows_84 (by decide) (fun c_84 => ?_) (fun c_84 => ?_)
                            · have c_84 : (wa g3 qq) < (wa g3 pp) := (nI_ltI (a := wa g3 qq) (b := wa g3 pp) (by omega) (by omega)).mp c_84
                              refine lv_iinc (v := nI (qq + 1)) (lv' := [(4, .int (nI (qq + 1))), (3, .int (nI pp)), (2, .int (nI rd)), (1, .int (nI mo2)), (0, .ref o)]) hx hb dX12_laysRows_102 hl (k := 0) rfl (nI_add (qq) 1) (by decide) rfl (fun ls hl => ?_)
                              refine lv_goto (tgt := 48) hx hb dX12_laysRows_105 (by decide) ?_
                              exact ih48 (qq + 1) g3 _ _ _ ls (by omega) (by omega) hG3 (by omega) hRI3 hSA3 (ST1_n hST3 (fun _ => by omega)) hmx3 hmn3 hTy hFr hFl48 hW (lv_sub hl [0, 1, 2, 3, 4] rfl)
                            · have c_84 : ¬ ((wa g3 qq) < (wa g3 pp)) := fun hh9 => c_84 ((nI_ltI (a := wa g3 qq) (b := wa g3 pp) (by omega) (by omega)).mpr hh9)
                              refine lv_aload_n hx hb dX12_laysRows_87 rfl (lv_at hl 4 rfl) ?_
                              refine pl_get (ci := 12) (v := .ref x_20) (C := RX12) (T := TX12) (N := 32) hx hb hT iX12 hown hK hW hT_o.1 hS_o rfl 20 (by decide) w1102 rfl dX12_laysRows_88 ?_
                              refine lv_iload_n hx hb dX12_laysRows_91 rfl (lv_at hl 1 rfl) ?_
                              refine lv_aload_n hx hb dX12_laysRows_92 rfl (lv_at hl 4 rfl) ?_
                              refine pl_get (ci := 12) (v := .ref x_20) (C := RX12) (T := TX12) (N := 32) hx hb hT iX12 hown hK hW hT_o.1 hS_o rfl 20 (by decide) w1102 rfl dX12_laysRows_93 ?_
                              refine lv_iload hx hb dX12_laysRows_96 (lv_at hl 0 rfl) ?_
                              refine pl_iald hx hb hK hW hT_x_20.1 hG3 (vp_in_nI (n := qq) (N := 8) (by omega) (by omega)) dX12_laysRows_98 ?_
                              refine lv_topi (fun y_45 ey_45 => ?_)
                              have he_ := RI_e hRI3 hrk1 (by omega) (j := qq) (by omega)
                              obtain rfl : y_45 = nI (wa g3 qq) := ey_45.trans (by rw [nI_clamp (by omega)]; exact he_.1)
                              refine lv_iconst (v := 1) hx hb dX12_laysRows_99 (by decide) ?_
                              refine lv_iadd hx hb dX12_laysRows_100 ?_
                              refine lv_topi (fun z_46 ez_46 => ?_)
                              obtain rfl : z_46 = nI ((wa g3 qq) + 1) := ez_46.trans (nI_add (wa g3 qq) (1))
                              refine pl_iast hx hb hK hW hT_x_20.1 hG3 (vp_in_nI (n := pp) (N := 8) (by omega) (by omega)) dX12_laysRows_101 (fun H locs f_48 S_47 ef_f_48 e1 hW => ?_)
                              have hTy := hTy.u58 e1 hT_x_20 ⟨f_48, rfl⟩
                              have hS_o := un e1 hT_o hT_x_20 (by decide) hS_o
                              have hS_x_17 := un e1 hT_x_17 hT_x_20 (by decide) hS_x_17
                              have hS_x_18 := un e1 hT_x_18 hT_x_20 (by decide) hS_x_18
                              have hFr := uf hFr e1 hT_x_20 (by decide) (by decide)
                              have hFl4 := uf hFl4 e1 hT_x_20 (by decide) (by decide)
                              have hFl27 := uf hFl27 e1 hT_x_20 (by decide) (by decide)
                              have hFl37 := uf hFl37 e1 hT_x_20 (by decide) (by decide)
                              have hFl48 := uf hFl48 e1 hT_x_20 (by decide) (by decide)
                              have hG3 := us e1
                              have hF0 : 0 < f_32 (8 * pp + qq) := by have q := ipos c_68; rw [ey_42, nI_clamp (by omega)] at q; exact q
                              have hup := row_up hRI3 hSA3 hST3 hrk1 hrk2 (by omega) (by omega) (by omega) hF0 (by omega) ef_f_48
                              refine lv_iinc (v := nI (qq + 1)) (lv' := [(4, .int (nI (qq + 1))), (3, .int (nI pp)), (2, .int (nI rd)), (1, .int (nI mo2)), (0, .ref o)]) hx hb dX12_laysRows_102 hl (k := 0) rfl (nI_add (qq) 1) (by decide) rfl (fun ls hl => ?_)
                              refine lv_goto (tgt := 48) hx hb dX12_laysRows_105 (by decide) ?_
                              exact ih48 (qq + 1) f_48 _ _ _ ls (by omega) (by omega) hG3 (by omega) hup.1 hup.2.1 hup.2.2.1 (MX_up hmx3 hup.2.2.2.1 hup.2.2.2.2) (fun j hj => by rw [wa_c (hup.2.2.2.2 j (by omega))]; exact hmn3 j hj) hTy hFr hFl48 hW (lv_sub hl [0, 1, 2, 3, 4] rfl)
                    exact loop ((9 - 0) + 1) 0 g2 _ _ _ ls (Nat.lt_succ_self _) (by omega) hG2 (by omega) hRI2 hSA2 ST1_0 hmx2 hmn2 hTy hFr Fr.rf hW (lv_sub hl [0, 1, 2, 3, 4] rfl)
              exact loop ((9 - 0) + 1) 0 mo g1 _ _ _ ls (Nat.lt_succ_self _) (by omega) (by omega) hG1 hRI1 hSA1 hmx1 (fun j h => absurd h (Nat.not_lt_zero _)) hTy hFr Fr.rf hW (lv_sub hl [0, 1, 2, 3] rfl)
        exact loop ((9 - 0) + 1) 0 0 g0 _ _ _ ls (Nat.lt_succ_self _) (by omega) (by omega) hG0 (by omega) hRI0 SAT_0 MX_0 (Or.inl rfl) hTy hFr Fr.rf hW (lv_sub hl [0, 1, 2] rfl)
      · have c_9 : ¬ (pa ≤ i) := fun hh9 => c_9 ((nI_leI (a := pa) (b := i) (by omega) (by omega)).mpr hh9)
        refine lv_aload_n hx hb dX12_laysRows_12 rfl (lv_at hl 2 rfl) ?_
        refine pl_get (ci := 12) (v := .ref x_20) (C := RX12) (T := TX12) (N := 32) hx hb hT iX12 hown hK hW hT_o.1 hS_o rfl 20 (by decide) w1102 rfl dX12_laysRows_13 ?_
        refine lv_iload_n hx hb dX12_laysRows_16 rfl (lv_at hl 0 rfl) ?_
        refine lv_iconst (v := 1) hx hb dX12_laysRows_17 (by decide) ?_
        refine pl_iast hx hb hK hW hT_x_20.1 hG0 (vp_in_nI (n := i) (N := 8) (by omega) (by omega)) dX12_laysRows_18 (fun H locs f_50 S_49 ef_f_50 e1 hW => ?_)
        have hTy := hTy.u58 e1 hT_x_20 ⟨f_50, rfl⟩
        have hS_o := un e1 hT_o hT_x_20 (by decide) hS_o
        have hS_x_17 := un e1 hT_x_17 hT_x_20 (by decide) hS_x_17
        have hS_x_18 := un e1 hT_x_18 hT_x_20 (by decide) hS_x_18
        have hFr := uf hFr e1 hT_x_20 (by decide) (by decide)
        have hFl4 := uf hFl4 e1 hT_x_20 (by decide) (by decide)
        have hG0 := us e1
        have h12 := cpy_up (P := fun _ x => x = nI 1) ef_f_50 (by omega) h11 rfl
        refine lv_iinc (v := nI (i + 1)) (lv' := [(2, .int (nI (i + 1))), (1, .int 0), (0, .ref o)]) hx hb dX12_laysRows_19 hl (k := 0) rfl (nI_add (i) 1) (by decide) rfl (fun ls hl => ?_)
        refine lv_goto (tgt := 4) hx hb dX12_laysRows_22 (by decide) ?_
        exact ih4 (i + 1) f_50 _ _ _ ls (by omega) (by omega) hG0 h12 hTy hFr hFl4 hW (lv_sub hl [0, 1, 2] rfl)
  exact loop ((9 - 0) + 1) 0 f_34 _ _ _ ls (Nat.lt_succ_self _) (by omega) hS_x_20 (fun v h => absurd h (Nat.not_lt_zero _)) hTy hFr Fr.rf hW (lv_sub hl [0, 1, 2] rfl)

set_option maxHeartbeats 4000000 in
set_option maxRecDepth 100000 in
theorem m_chain (l : Launch) (dC : Nat → ClassId) (dI : Nat → Nat → Nat) (cy : Nat → ClassId) (L : List Nat) (kap : Nat → Nat) (pr : Pr) (S : Nat → va_E) (sz : Nat) (o : Nat) (kd : Int32) (ix : Int32) (hTy : Ty cy L kap pr S) (hT_o : TK L kap o 12) (hdg : dg (fld S o 0)) : Met l yX12_chain (wT yX12_chain cX12_chain 6 (some .int)) ({ frames := 10, cells := 0, slots := 0, locals := 243 }) (pcN dC dI [.ref o, .int kd, .int ix] sz (va_pl L S) (cyT cy) NLs []) (va_Qi (fun r S' => Ty cy L kap pr S' ∧ Fr kap [12, 56, 57, 58] S S') (fun S' t => pB dC dI (AL L sz) (va_pl L S') (cyT cy) t) (AL L sz)) 0 0 (AL L sz) := by
  refine Met.ofW (cc := cX12_chain) (maxL := 6) (ret := (some .int)) (by decide) rfl ?_
  intro p e s m args below meth c s₁ B hml hv
  obtain ⟨rfl, hsz, hP, hK, hD0, hN, -⟩ := hv
  have hx := B.exec
  have hb := B.bytes
  have hr := B.returns
  have hT : ∀ wd ∈ TB, wd.before [.ref o, .int kd, .int ix].toArray s = true := fun wd h => atoms_spec (ws := wT yX12_chain cX12_chain 6 (some .int)) B.pre wd (List.mem_cons_of_mem _ h)
  have hown : s.vm.findClass RX12 = some m.cls := findClass_of_methodNamed B.named
  have hlocks := B.notSynchronized
  subst hsz
  have hW : PW dC dI L (AL L s.heap.size) s.heap S s.heap [] := ⟨hP, pl_self hD0, va_S.rf⟩
  have hA0 : ∀ q, q ∈ L → AL L s.heap.size q := fun _ h => Or.inl h
  have hA : ∀ q, s.heap.size ≤ q → AL L s.heap.size q := fun _ h => Or.inr h
  have hFr : Fr kap [12, 56, 57, 58] S S := Fr.rf
  have hl := lv_entry ([.ref o, .int kd, .int ix]) (n := 6) (Nat.le_of_ble_eq_true rfl)
  rw [lg_entry_eq]
  generalize (lg_sl ([.ref o, .int kd, .int ix]) ++ List.replicate (6 - (lg_sl ([.ref o, .int kd, .int ix])).length) Slot.unset).toArray = ls at hl ⊢
  have hl : lv_has ls 6 [(0, .ref o), (1, .int kd), (2, .int ix)] := hl
  obtain ⟨x_1, x_2, x_3, x_4, x_5, x_6, x_7, x_8, x_9, x_10, x_11, x_12, x_13, x_14, x_15, x_16, x_17, x_18, x_19, x_20, x_21, x_22, x_23, x_24, x_25, x_26, x_27, x_28, x_29, x_30, x_31, hS_o, hT_x_1, hT_x_2, hT_x_3, hT_x_4, hT_x_5, hb_x_6, hb_x_7, hb_x_8, hT_x_10, hb_q2, hb_x_11, hb_x_12, hT_x_17, hT_x_18, hb_x_19, hT_x_20, hT_x_21, hT_x_22, hT_x_23, hT_x_24, hT_x_25, hT_x_26, hT_x_27, hT_x_28, hT_x_29, hT_x_30, hb_x_31⟩ := hTy.k12 hT_o
  have hb_q2 : pr.2 ≤ 900 := hb_q2
  have hS_o : S o = .inr (12, [.ref x_1, .ref x_2, .ref x_3, .ref x_4, .ref x_5, .int (nI x_6), .int (nI x_7), .int (nI x_8), .int x_9, .ref x_10, .int (nI (pr.2)), .int (nI x_11), .int (nI x_12), .int x_13, .int x_14, .int x_15, .int x_16, .ref x_17, .ref x_18, .int (nI x_19), .ref x_20, .ref x_21, .ref x_22, .ref x_23, .ref x_24, .ref x_25, .ref x_26, .ref x_27, .ref x_28, .ref x_29, .ref x_30, .int (nI x_31)]) := hS_o
  obtain ⟨f_32, hS_x_1, hi_f_32⟩ := hTy.k50 hT_x_1
  have hdg_ : dg f_32 := by have q := hdg; rw [fld_i hS_o rfl hS_x_1] at q; exact q
  refine lv_aload_n hx hb dX12_chain_0 rfl (lv_at hl 0 rfl) ?_
  refine lv_iconst (v := 0) hx hb dX12_chain_1 (by decide) ?_
  refine pl_put (ci := 12) (v := .int 0) (ty := .int) (C := RX12) (T := TX12) (N := 32) (fs' := [.ref x_1, .ref x_2, .ref x_3, .ref x_4, .ref x_5, .int (nI x_6), .int (nI x_7), .int (nI x_8), .int 0, .ref x_10, .int (nI (pr.2)), .int (nI x_11), .int (nI x_12), .int x_13, .int x_14, .int x_15, .int x_16, .ref x_17, .ref x_18, .int (nI x_19), .ref x_20, .ref x_21, .ref x_22, .ref x_23, .ref x_24, .ref x_25, .ref x_26, .ref x_27, .ref x_28, .ref x_29, .ref x_30, .int (nI x_31)]) hx hb hT iX12 tyX12 tyX12_ok nmX12 hown hK hW hT_o.1 hS_o rfl 8 (by decide) w1090 rfl (by decide +kernel) rfl rfl (Nat.le_of_ble_eq_true rfl) rfl dX12_chain_2 (fun H locs S_33 e1 hW => ?_)
  have hTy := hTy.u12 e1 hT_o ⟨x_1, x_2, x_3, x_4, x_5, x_6, x_7, x_8, 0, x_10, x_11, x_12, x_13, x_14, x_15, x_16, x_17, x_18, x_19, x_20, x_21, x_22, x_23, x_24, x_25, x_26, x_27, x_28, x_29, x_30, x_31, rfl, hT_x_1, hT_x_2, hT_x_3, hT_x_4, hT_x_5, (by omega), (by omega), (by omega), hT_x_10, (by show pr.2 ≤ 900; omega), (by omega), (by omega), hT_x_17, hT_x_18, (by omega), hT_x_20, hT_x_21, hT_x_22, hT_x_23, hT_x_24, hT_x_25, hT_x_26, hT_x_27, hT_x_28, hT_x_29, hT_x_30, (by omega)⟩
  have hS_x_1 := un e1 hT_x_1 hT_o (by decide) hS_x_1
  have hws := (show wrs (.inr (12, [.ref x_1, .ref x_2, .ref x_3, .ref x_4, .ref x_5, .int (nI x_6), .int (nI x_7), .int (nI x_8), .int 0, .ref x_10, .int (nI (pr.2)), .int (nI x_11), .int (nI x_12), .int x_13, .int x_14, .int x_15, .int x_16, .ref x_17, .ref x_18, .int (nI x_19), .ref x_20, .ref x_21, .ref x_22, .ref x_23, .ref x_24, .ref x_25, .ref x_26, .ref x_27, .ref x_28, .ref x_29, .ref x_30, .int (nI x_31)])) = wrs (S o) from by rw [hS_o]; rfl)
  have hFr := ufs hFr e1 hT_o (by decide) hws
  have hS_o := us e1
  refine lv_aload_n hx hb dX12_chain_5 rfl (lv_at hl 0 rfl) ?_
  refine lv_iload_n hx hb dX12_chain_6 rfl (lv_at hl 1 rfl) ?_
  refine vp_callSi (va_Run.run (va_runV (As := [.int kd]) (rest := []) ⟨hx, hb, hml, hown, hT⟩ (m_isKind l dC dI cy L kap pr S_33 H.size o kd hTy hT_o) (cwV 1 hT (gV w1288 w1290 ws74 w14 w1291) rfl rfl rfl (by decide +kernel) ⟨(Nat.le_of_ble_eq_true rfl), (Nat.le_of_ble_eq_true rfl)⟩) ⟨pcN.blind, pl_recv hK hW hT_o.1 hS_o rfl, pcN.pre hW.1 hK hW.2.1 hN (fun q h => absurd h List.not_mem_nil)⟩ rfl rfl hl.1 rfl (lv_room (Nat.le_of_ble_eq_true rfl)) dX12_chain_7 ⟨(Nat.le_of_ble_eq_true rfl), (Nat.le_of_ble_eq_true rfl)⟩)) (fun r_34 hr_34 => ?_)
  rcases hr_34 with hc_ | hc_
  · obtain rfl : r_34 = 0 := hc_
    refine lv_if_ne (tgt := 16) hx hb dX12_chain_10 (by decide) (fun h => absurd (by decide) h) (fun _ => ?_)
    refine lv_bipush (v := (-2)) hx hb dX12_chain_13 (by decide) ?_
    exact W.iret (v := (-2)) hx hb hr (fun t ht h9 => ⟨⟨(-2), S_33, rfl, ⟨hTy, hFr⟩, by rw [ht]; exact hW.1, va_K.moved h9.alike hK, hW.2.1⟩, hW.2.2.F ht⟩) hW.2.2.2.2 dX12_chain_15
  · obtain ⟨rfl, k_35, hb_k_35, rfl⟩ := hc_
    refine lv_if_ne (tgt := 16) hx hb dX12_chain_10 (by decide) (fun _ => ?_) (fun h => absurd h (by decide))
    refine lv_iload_n hx hb dX12_chain_16 rfl (lv_at hl 2 rfl) ?_
    refine lv_iconst (v := (-1)) hx hb dX12_chain_17 (by decide) ?_
    refine lv_icmp_ge (tgt := 24) hx hb dX12_chain_18 (by decide) (fun c_18 => ?_) (fun c_18 => ?_)
    · refine lv_aload_n hx hb dX12_chain_24 rfl (lv_at hl 0 rfl) ?_
      refine lv_iload_n hx hb dX12_chain_25 rfl (lv_at hl 1 rfl) ?_
      refine lv_iconst (v := (-1)) hx hb dX12_chain_26 (by decide) ?_
      refine pl_callv (va_runV (As := [.int (nI k_35), .int (-1)]) (rest := []) ⟨hx, hb, hml, hown, hT⟩ (m_laysFlows2 l dC dI cy L kap pr S_33 H.size o (nI k_35) (-1) hTy hT_o (by rw [fld_i hS_o rfl hS_x_1]; exact hdg_)) (cwV 2 hT (gV w1336 w1338 ws78 w14 w1339) rfl rfl rfl (by decide +kernel) ⟨(Nat.le_of_ble_eq_true rfl), (Nat.le_of_ble_eq_true rfl)⟩) ⟨pcN.blind, pl_recv hK hW hT_o.1 hS_o rfl, pcN.pre hW.1 hK hW.2.1 hN (fun q h => absurd h List.not_mem_nil)⟩ rfl rfl hl.1 rfl (lv_room (Nat.le_of_ble_eq_true rfl)) dX12_chain_27 ⟨(Nat.le_of_ble_eq_true rfl), (Nat.le_of_ble_eq_true rfl)⟩) hW hA0 hA (fun S_36 H locs hrel hW => ?_)
      obtain ⟨hTy, hF1, hx1⟩ := hrel
      have hFr := hFr.tr hF1 (by decide)
      have hS_o := hF1.at hT_o (by decide) hS_o
      have hS_x_1 := hF1.at hT_x_1 (by decide) hS_x_1
      obtain ⟨f_37, hS_x_17⟩ := hTy.k56 hT_x_17
      have hdz_ := hx1
      rw [fld_i (S := S_36) hS_o rfl hS_x_17] at hdz_
      have loop : ∀ (fuel : Nat) (gq : Nat) (gf : Nat → Int32) (SS : Nat → va_E) (H : Heap) (locs : List Loc) (ls : Array Slot), nzc gf < fuel → (SS o = .inr (12, [.ref x_1, .ref x_2, .ref x_3, .ref x_4, .ref x_5, .int (nI x_6), .int (nI x_7), .int (nI x_8), .int 0, .ref x_10, .int (nI (pr.2)), .int (nI x_11), .int (nI x_12), .int x_13, .int x_14, .int x_15, .int x_16, .ref x_17, .ref x_18, .int (nI gq), .ref x_20, .ref x_21, .ref x_22, .ref x_23, .ref x_24, .ref x_25, .ref x_26, .ref x_27, .ref x_28, .ref x_29, .ref x_30, .int (nI x_31)])) → (SS x_17 = .inl (cy 0, 64, .inl gf)) → (gq ≤ 8) → (∀ a, a < 8 → gf (8 * a + a) = 0) → Ty cy L kap pr SS → Fr kap [12, 56, 57, 58] S SS → Fr kap [12, 56, 57, 112] S_36 SS → PW dC dI L (AL L s.heap.size) s.heap SS H locs → lv_has ls 6 [(0, .ref o), (1, .int (nI k_35)), (2, .int ix)] → W p l e (headSpec (wT yX12_chain cX12_chain 6 (some .int)) { frames := 10, cells := 0, slots := 0, locals := 243 }).room s m [.ref o, .int (nI k_35), .int ix].toArray below meth c H locs 0 0 (MQ below (va_Qi (fun r S' => Ty cy L kap pr S' ∧ Fr kap [12, 56, 57, 58] S S') (fun S' t => pB dC dI (AL L s.heap.size) (va_pl L S') (cyT cy) t) (AL L s.heap.size)) [.ref o, .int (nI k_35), .int ix].toArray s 0 0 (AL L s.heap.size)) (F0 m 30 ls []) := by
        intro fuel
        induction fuel with
        | zero => intro gq gf SS H locs ls h; exact absurd h (Nat.not_lt_zero _)
        | succ fu30 ih30 =>
          intro gq gf S_38 H locs ls hm30 hS_o hFs hgq hdzf hTy hFr hFl30 hW hl
          have hS_x_1 := hFl30.at hT_x_1 (by decide) hS_x_1
          refine lv_aload_n hx hb dX12_chain_30 rfl (lv_at hl 0 rfl) ?_
          obtain ⟨f_39, hS_x_18, hi_f_39⟩ := hTy.k57 hT_x_18
          have h17_ : fld S_38 o 17 = gf := fld_i hS_o rfl hFs
          have h18_ : fld S_38 o 18 = f_39 := fld_i hS_o rfl hS_x_18
          refine pl_calli (va_runV (As := []) (rest := []) ⟨hx, hb, hml, hown, hT⟩ (m_laysRing l dC dI cy L kap pr S_38 H.size o hTy hT_o x_6 ⟨inf_i hS_o rfl, by omega⟩) (cwV 0 hT (gV w1394 w1396 ws86 w14 w1397) rfl rfl rfl (by decide +kernel) ⟨(Nat.le_of_ble_eq_true rfl), (Nat.le_of_ble_eq_true rfl)⟩) ⟨pcN.blind, pl_recv hK hW hT_o.1 hS_o rfl, pcN.pre hW.1 hK hW.2.1 hN (fun q h => absurd h List.not_mem_nil)⟩ rfl rfl hl.1 rfl (lv_room (Nat.le_of_ble_eq_true rfl)) dX12_chain_31 ⟨(Nat.le_of_ble_eq_true rfl), (Nat.le_of_ble_eq_true rfl)⟩) hW hA0 hA (fun r_41 S_40 H locs hrel hW => ?_)
          obtain ⟨hTy, hF1, hx1⟩ := hrel
          have hFr := hFr.tr hF1 (by decide)
          have hFl30 := hFl30.tr hF1 (by decide)
          have hS_x_1 := hF1.at hT_x_1 (by decide) hS_x_1
          have hFs := hF1.at hT_x_17 (by decide) hFs
          obtain ⟨n_42, hb_n_42, ho12_, hrg_⟩ := hx1
          have hS_o : S_40 o = .inr (12, [.ref x_1, .ref x_2, .ref x_3, .ref x_4, .ref x_5, .int (nI x_6), .int (nI x_7), .int (nI x_8), .int 0, .ref x_10, .int (nI (pr.2)), .int (nI x_11), .int (nI x_12), .int x_13, .int x_14, .int x_15, .int x_16, .ref x_17, .ref x_18, .int (nI n_42), .ref x_20, .ref x_21, .ref x_22, .ref x_23, .ref x_24, .ref x_25, .ref x_26, .ref x_27, .ref x_28, .ref x_29, .ref x_30, .int (nI x_31)]) := ho12_ _ hS_o
          obtain ⟨f_43, hS_x_18, hi_f_43⟩ := hTy.k57 hT_x_18
          rw [h17_, fld_i (S := S_40) hS_o rfl hS_x_18] at hrg_
          rcases hrg_ with hc_ | hc_
          · obtain ⟨rfl, hnor⟩ := hc_
            refine lv_if_le (tgt := 44) hx hb dX12_chain_34 (by decide) (fun _ => ?_) (fun h => absurd (by decide) h)
            refine lv_aload_n hx hb dX12_chain_44 rfl (lv_at hl 0 rfl) ?_
            obtain ⟨rk, hrk1, hrk2⟩ := rank_ex (F := gf) (pa := x_6) (by omega) hnor hdzf
            have h17c_ : fld S_40 o 17 = gf := fld_i hS_o rfl hFs
            refine pl_calli (va_runV (As := []) (rest := []) ⟨hx, hb, hml, hown, hT⟩ (m_laysRows l dC dI cy L kap pr S_40 H.size o hTy hT_o x_6 ⟨inf_i hS_o rfl, by omega⟩ rk hrk1 (by rw [h17c_]; exact hrk2)) (cwV 0 hT (gV w1431 w1433 ws91 w14 w1434) rfl rfl rfl (by decide +kernel) ⟨(Nat.le_of_ble_eq_true rfl), (Nat.le_of_ble_eq_true rfl)⟩) ⟨pcN.blind, pl_recv hK hW hT_o.1 hS_o rfl, pcN.pre hW.1 hK hW.2.1 hN (fun q h => absurd h List.not_mem_nil)⟩ rfl rfl hl.1 rfl (lv_room (Nat.le_of_ble_eq_true rfl)) dX12_chain_45 ⟨(Nat.le_of_ble_eq_true rfl), (Nat.le_of_ble_eq_true rfl)⟩) hW hA0 hA (fun r_45 S_44 H locs hrel hW => ?_)
            obtain ⟨hTy, hF1, hx1⟩ := hrel
            have hFr := hFr.tr hF1 (by decide)
            have hS_x_1 := hF1.at hT_x_1 (by decide) hS_x_1
            have hFs := hF1.at hT_x_17 (by decide) hFs
            have hS_o := hF1.at hT_o (by decide) hS_o
            have hS_x_18 := hF1.at hT_x_18 (by decide) hS_x_18
            obtain ⟨f_46, hS_x_20⟩ := hTy.k58 hT_x_20
            obtain ⟨hROW, n9, hb_n9, rfl, hn9⟩ := hx1
            rw [fld_i (S := S_44) hS_o rfl hS_x_20] at hROW hn9
            rw [h17c_] at hROW
            refine lv_istore_n (lv' := [(3, .int (nI n9)), (0, .ref o), (1, .int (nI k_35)), (2, .int ix)]) hx hb dX12_chain_48 rfl hl (by decide) rfl (fun ls hl => ?_)
            refine lv_iload_n hx hb dX12_chain_49 rfl (lv_at hl 3 rfl) ?_
            refine lv_iconst (v := (-1)) hx hb dX12_chain_50 (by decide) ?_
            refine lv_icmp_eq (tgt := 59) hx hb dX12_chain_51 (by decide) (fun c_51 => ?_) (fun c_51 => ?_)
            · refine lv_iload_n hx hb dX12_chain_59 rfl (lv_at hl 3 rfl) ?_
              refine lv_iconst (v := (-1)) hx hb dX12_chain_60 (by decide) ?_
              refine lv_icmp_ne (tgt := 68) hx hb dX12_chain_61 (by decide) (fun c_61 => ?_) (fun c_61 => ?_)
              · refine lv_iconst (v := (-1)) hx hb dX12_chain_68 (by decide) ?_
                exact W.iret (v := (-1)) hx hb hr (fun t ht h9 => ⟨⟨(-1), S_44, rfl, ⟨hTy, hFr⟩, by rw [ht]; exact hW.1, va_K.moved h9.alike hK, hW.2.1⟩, hW.2.2.F ht⟩) hW.2.2.2.2 dX12_chain_69
              · refine lv_iload_n hx hb dX12_chain_64 rfl (lv_at hl 0 rfl) ?_
                refine lv_goto (tgt := 69) hx hb dX12_chain_65 (by decide) ?_
                exact W.iret (v := nI n9) hx hb hr (fun t ht h9 => ⟨⟨nI n9, S_44, rfl, ⟨hTy, hFr⟩, by rw [ht]; exact hW.1, va_K.moved h9.alike hK, hW.2.1⟩, hW.2.2.F ht⟩) hW.2.2.2.2 dX12_chain_69
            · refine lv_iload_n hx hb dX12_chain_54 rfl (lv_at hl 3 rfl) ?_
              refine lv_iload_n hx hb dX12_chain_55 rfl (lv_at hl 0 rfl) ?_
              refine lv_icmp_lt (tgt := 70) hx hb dX12_chain_56 (by decide) (fun c_56 => ?_) (fun c_56 => ?_)
              · obtain ⟨ki, hb_ki, rfl⟩ := nix (n := n9) c_18 c_51 c_56 (by omega)
                obtain ⟨hn92, ⟨jx, hjx, hjn⟩, hmax⟩ := (ROWN_e hn9).resolve_left (by omega)
                refine lv_iconst (v := 0) hx hb dX12_chain_70 (by decide) ?_
                refine lv_istore (lv' := [(4, .int 0), (3, .int (nI n9)), (0, .ref o), (1, .int (nI k_35)), (2, .int (nI ki))]) hx hb dX12_chain_71 hl (by decide) rfl (fun ls hl => ?_)
                have loop : ∀ (fuel : Nat) (p9 : Nat) (SS : Nat → va_E) (H : Heap) (locs : List Loc) (ls : Array Slot), 9 - p9 < fuel → (p9 ≤ 8) → (∃ j, p9 ≤ j ∧ j < x_6 ∧ n9 ≤ wa f_46 j) → Ty cy L kap pr SS → Fr kap [12, 56, 57, 58] S SS → Fr kap [] S_44 SS → PW dC dI L (AL L s.heap.size) s.heap SS H locs → lv_has ls 6 [(4, .int (nI p9)), (3, .int (nI n9)), (0, .ref o), (1, .int (nI k_35)), (2, .int (nI ki))] → W p l e (headSpec (wT yX12_chain cX12_chain 6 (some .int)) { frames := 10, cells := 0, slots := 0, locals := 243 }).room s m [.ref o, .int (nI k_35), .int (nI ki)].toArray below meth c H locs 0 0 (MQ below (va_Qi (fun r S' => Ty cy L kap pr S' ∧ Fr kap [12, 56, 57, 58] S S') (fun S' t => pB dC dI (AL L s.heap.size) (va_pl L S') (cyT cy) t) (AL L s.heap.size)) [.ref o, .int (nI k_35), .int (nI ki)].toArray s 0 0 (AL L s.heap.size)) (F0 m 73 ls []) := by
                  intro fuel
                  induction fuel with
                  | zero => intro p9 SS H locs ls h; exact absurd h (Nat.not_lt_zero _)
                  | succ fu73 ih73 =>
                    intro p9 S_47 H locs ls hm73 hb_p9 hex hTy hFr hFl73 hW hl
                    have hS_x_1 := hFl73.at hT_x_1 (by decide) hS_x_1
                    have hFs := hFl73.at hT_x_17 (by decide) hFs
                    have hS_o := hFl73.at hT_o (by decide) hS_o
                    have hS_x_18 := hFl73.at hT_x_18 (by decide) hS_x_18
                    have hS_x_20 := hFl73.at hT_x_20 (by decide) hS_x_20
                    obtain ⟨jy, hjy1, hjy2, hjy3⟩ := hex
                    refine lv_aload_n hx hb dX12_chain_73 rfl (lv_at hl 2 rfl) ?_
                    refine pl_get (ci := 12) (v := .ref x_20) (C := RX12) (T := TX12) (N := 32) hx hb hT iX12 hown hK hW hT_o.1 hS_o rfl 20 (by decide) w1102 rfl dX12_chain_74 ?_
                    refine lv_iload hx hb dX12_chain_77 (lv_at hl 0 rfl) ?_
                    refine pl_iald hx hb hK hW hT_x_20.1 hS_x_20 (vp_in_nI (n := p9) (N := 8) (by omega) (by omega)) dX12_chain_79 ?_
                    refine lv_topi (fun y_48 ey_48 => ?_)
                    have he_ := hROW p9 (by omega)
                    obtain rfl : y_48 = nI (wa f_46 p9) := ey_48.trans (by rw [nI_clamp (by omega)]; exact he_.1)
                    refine lv_iload_n hx hb dX12_chain_80 rfl (lv_at hl 1 rfl) ?_
                    refine lv_icmp_ge (tgt := 90) hx hb dX12_chain_81 (by decide) (fun c_81 => ?_) (fun c_81 => ?_)
                    · have c_81 : n9 ≤ (wa f_46 p9) := (nI_leI (a := n9) (b := wa f_46 p9) (by omega) (by omega)).mp c_81
                      refine lv_iconst (v := 1) hx hb dX12_chain_90 (by decide) ?_
                      refine lv_istore (lv' := [(5, .int 1), (4, .int (nI p9)), (3, .int (nI n9)), (0, .ref o), (1, .int (nI k_35)), (2, .int (nI ki))]) hx hb dX12_chain_91 hl (by decide) rfl (fun ls hl => ?_)
                      have loop : ∀ (fuel : Nat) (pb : Nat) (kk : Nat) (SS : Nat → va_E) (H : Heap) (locs : List Loc) (ls : Array Slot), 10 - kk < fuel → (pb ≤ 8) → (kk ≤ 9) → (pb < x_6) → (wa f_46 pb + kk = n9 + 1) → (1 ≤ kk) → (kk ≤ ki + 1) → Ty cy L kap pr SS → Fr kap [12, 56, 57, 58] S SS → Fr kap [] S_47 SS → PW dC dI L (AL L s.heap.size) s.heap SS H locs → lv_has ls 6 [(5, .int (nI kk)), (4, .int (nI pb)), (3, .int (nI n9)), (0, .ref o), (1, .int (nI k_35)), (2, .int (nI ki))] → W p l e (headSpec (wT yX12_chain cX12_chain 6 (some .int)) { frames := 10, cells := 0, slots := 0, locals := 243 }).room s m [.ref o, .int (nI k_35), .int (nI ki)].toArray below meth c H locs 0 0 (MQ below (va_Qi (fun r S' => Ty cy L kap pr S' ∧ Fr kap [12, 56, 57, 58] S S') (fun S' t => pB dC dI (AL L s.heap.size) (va_pl L S') (cyT cy) t) (AL L s.heap.size)) [.ref o, .int (nI k_35), .int (nI ki)].toArray s 0 0 (AL L s.heap.size)) (F0 m 93 ls []) := by
                        intro fuel
                        induction fuel with
                        | zero => intro pb kk SS H locs ls h; exact absurd h (Nat.not_lt_zero _)
                        | succ fu93 ih93 =>
                          intro pb kk S_49 H locs ls hm93 hb_pb hb_kk hpb hwk hk1 hki hTy hFr hFl93 hW hl
                          have hS_x_1 := hFl93.at hT_x_1 (by decide) hS_x_1
                          have hFs := hFl93.at hT_x_17 (by decide) hFs
                          have hS_o := hFl93.at hT_o (by decide) hS_o
                          have hS_x_18 := hFl93.at hT_x_18 (by decide) hS_x_18
                          have hS_x_20 := hFl93.at hT_x_20 (by decide) hS_x_20
                          have hFl73 := hFl73.tr hFl93 (by decide)
                          refine lv_iload hx hb dX12_chain_93 (lv_at hl 0 rfl) ?_
                          refine lv_iload_n hx hb dX12_chain_95 rfl (lv_at hl 5 rfl) ?_
                          refine lv_icmp_gt (tgt := 117) hx hb dX12_chain_96 (by decide) (fun c_96 => ?_) (fun c_96 => ?_)
                          · have c_96 : ki < kk := (nI_ltI (a := ki) (b := kk) (by omega) (by omega)).mp c_96
                            refine lv_iload hx hb dX12_chain_117 (lv_at hl 1 rfl) ?_
                            exact W.iret (v := nI pb) hx hb hr (fun t ht h9 => ⟨⟨nI pb, S_49, rfl, ⟨hTy, hFr⟩, by rw [ht]; exact hW.1, va_K.moved h9.alike hK, hW.2.1⟩, hW.2.2.F ht⟩) hW.2.2.2.2 dX12_chain_119
                          · have c_96 : ¬ (ki < kk) := fun hh9 => c_96 ((nI_ltI (a := ki) (b := kk) (by omega) (by omega)).mpr hh9)
                            refine lv_aload_n hx hb dX12_chain_99 rfl (lv_at hl 3 rfl) ?_
                            refine lv_iload hx hb dX12_chain_100 (lv_at hl 1 rfl) ?_
                            refine lv_iload_n hx hb dX12_chain_102 rfl (lv_at hl 2 rfl) ?_
                            refine lv_iload hx hb dX12_chain_103 (lv_at hl 0 rfl) ?_
                            refine lv_isub hx hb dX12_chain_105 ?_
                            refine lv_topi (fun z_50 ez_50 => ?_)
                            obtain rfl : z_50 = nI (n9 - kk) := ez_50.trans (pk_sub (a := n9) (b := kk) (by omega))
                            refine vp_callSi (va_Run.run (va_runV (As := [.int (nI pb), .int (nI (n9 - kk))]) (rest := []) ⟨hx, hb, hml, hown, hT⟩ (m_nextOf l dC dI cy L kap pr S_49 H.size o pb (nI (n9 - kk)) hTy hT_o (by omega) x_6 ⟨inf_i hS_o rfl, by omega⟩) (cwV 2 hT (gV w1435 w1437 ws92 w14 w1438) rfl rfl rfl (by decide +kernel) ⟨(Nat.le_of_ble_eq_true rfl), (Nat.le_of_ble_eq_true rfl)⟩) ⟨pcN.blind, pl_recv hK hW hT_o.1 hS_o rfl, pcN.pre hW.1 hK hW.2.1 hN (fun q h => absurd h List.not_mem_nil)⟩ rfl rfl hl.1 rfl (lv_room (Nat.le_of_ble_eq_true rfl)) dX12_chain_106 ⟨(Nat.le_of_ble_eq_true rfl), (Nat.le_of_ble_eq_true rfl)⟩)) (fun r_51 hr_51 => ?_)
                            have hnx_ := hr_51
                            rw [fld_i (S := S_49) hS_o rfl hS_x_20, fld_i (S := S_49) hS_o rfl hFs] at hnx_
                            obtain ⟨qn, hqn, rfl, hRq⟩ := hnx_.resolve_right (fun z => by obtain ⟨q, a, b, c⟩ := (hROW pb hpb).2.2 (by omega); exact z.2 q a b (by rw [c]; exact congrArg nI (by omega)))
                            clear hnx_ hr_51
                            refine lv_istore (lv' := [(4, .int (nI qn)), (5, .int (nI kk)), (3, .int (nI n9)), (0, .ref o), (1, .int (nI k_35)), (2, .int (nI ki))]) hx hb dX12_chain_109 hl (by decide) rfl (fun ls hl => ?_)
                            refine lv_iinc (v := nI (kk + 1)) (lv' := [(5, .int (nI (kk + 1))), (4, .int (nI qn)), (3, .int (nI n9)), (0, .ref o), (1, .int (nI k_35)), (2, .int (nI ki))]) hx hb dX12_chain_111 hl (k := 1) rfl (nI_add (kk) 1) (by decide) rfl (fun ls hl => ?_)
                            refine lv_goto (tgt := 93) hx hb dX12_chain_114 (by decide) ?_
                            exact ih93 qn (kk + 1) _ _ _ ls (by omega) (by omega) (by omega) (by omega) (by rw [wa_n hRq (by omega)]; omega) (by omega) (by omega) hTy hFr hFl93 hW (lv_sub hl [0, 1, 2, 3, 4, 5] rfl)
                      exact loop ((10 - 1) + 1) p9 1 _ _ _ ls (Nat.lt_succ_self _) (by omega) (by omega) (by omega) (by have q := hmax p9 (by omega); omega) (by omega) (by omega) hTy hFr Fr.rf hW (lv_sub hl [0, 1, 2, 3, 4, 5] rfl)
                    · have c_81 : ¬ (n9 ≤ (wa f_46 p9)) := fun hh9 => c_81 ((nI_leI (a := n9) (b := wa f_46 p9) (by omega) (by omega)).mpr hh9)
                      refine lv_iinc (v := nI (p9 + 1)) (lv' := [(4, .int (nI (p9 + 1))), (3, .int (nI n9)), (0, .ref o), (1, .int (nI k_35)), (2, .int (nI ki))]) hx hb dX12_chain_84 hl (k := 0) rfl (nI_add (p9) 1) (by decide) rfl (fun ls hl => ?_)
                      refine lv_goto (tgt := 73) hx hb dX12_chain_87 (by decide) ?_
                      have hpj : p9 ≠ jy := fun e_ => by rw [← e_] at hjy3; omega
                      exact ih73 (p9 + 1) _ _ _ ls (by omega) (by omega) ⟨jy, by omega, hjy2, hjy3⟩ hTy hFr hFl73 hW (lv_sub hl [0, 1, 2, 3, 4] rfl)
                exact loop ((9 - 0) + 1) 0 _ _ _ ls (Nat.lt_succ_self _) (by omega) ⟨jx, by omega, hjx, hjn⟩ hTy hFr Fr.rf hW (lv_sub hl [0, 1, 2, 3, 4] rfl)
              · refine lv_iload_n hx hb dX12_chain_59 rfl (lv_at hl 3 rfl) ?_
                refine lv_iconst (v := (-1)) hx hb dX12_chain_60 (by decide) ?_
                refine lv_icmp_ne (tgt := 68) hx hb dX12_chain_61 (by decide) (fun c_61 => ?_) (fun c_61 => ?_)
                · refine lv_iconst (v := (-1)) hx hb dX12_chain_68 (by decide) ?_
                  exact W.iret (v := (-1)) hx hb hr (fun t ht h9 => ⟨⟨(-1), S_44, rfl, ⟨hTy, hFr⟩, by rw [ht]; exact hW.1, va_K.moved h9.alike hK, hW.2.1⟩, hW.2.2.F ht⟩) hW.2.2.2.2 dX12_chain_69
                · refine lv_iload_n hx hb dX12_chain_64 rfl (lv_at hl 0 rfl) ?_
                  refine lv_goto (tgt := 69) hx hb dX12_chain_65 (by decide) ?_
                  exact W.iret (v := nI n9) hx hb hr (fun t ht h9 => ⟨⟨nI n9, S_44, rfl, ⟨hTy, hFr⟩, by rw [ht]; exact hW.1, va_K.moved h9.alike hK, hW.2.1⟩, hW.2.2.F ht⟩) hW.2.2.2.2 dX12_chain_69
          · obtain ⟨hn2_, rfl, hRNG⟩ := hc_
            refine lv_if_le (tgt := 44) hx hb dX12_chain_34 (by decide) (fun c_34 => ?_) (fun c_34 => ?_)
            · have c_34 : n_42 ≤ 0 := (nI_leI (a := n_42) (b := 0) (by omega) (by omega)).mp c_34
              exfalso; omega
            · have c_34 : ¬ (n_42 ≤ 0) := fun hh9 => c_34 ((nI_leI (a := n_42) (b := 0) (by omega) (by omega)).mpr hh9)
              refine lv_aload_n hx hb dX12_chain_37 rfl (lv_at hl 0 rfl) ?_
              have h17_ : fld S_40 o 17 = gf := fld_i hS_o rfl hFs
              have h18_ : fld S_40 o 18 = f_43 := fld_i hS_o rfl hS_x_18
              refine pl_callv (va_runV (As := []) (rest := []) ⟨hx, hb, hml, hown, hT⟩ (m_ringGoes l dC dI cy L kap pr S_40 H.size o hTy hT_o n_42 (inf_i hS_o rfl) (by omega) (by omega) (by omega) (by rw [h17_, h18_]; exact hRNG)) (cwV 0 hT (gV w1418 w1420 ws90 w14 w1421) rfl rfl rfl (by decide +kernel) ⟨(Nat.le_of_ble_eq_true rfl), (Nat.le_of_ble_eq_true rfl)⟩) ⟨pcN.blind, pl_recv hK hW hT_o.1 hS_o rfl, pcN.pre hW.1 hK hW.2.1 hN (fun q h => absurd h List.not_mem_nil)⟩ rfl rfl hl.1 rfl (lv_room (Nat.le_of_ble_eq_true rfl)) dX12_chain_38 ⟨(Nat.le_of_ble_eq_true rfl), (Nat.le_of_ble_eq_true rfl)⟩) hW hA0 hA (fun S_52 H locs hrel hW => ?_)
              obtain ⟨hTy, hF1, hx1⟩ := hrel
              have hFr := hFr.tr hF1 (by decide)
              have hFl30 := hFl30.tr hF1 (by decide)
              have hS_x_1 := hF1.at hT_x_1 (by decide) hS_x_1
              have hS_o := hF1.at hT_o (by decide) hS_o
              have hS_x_18 := hF1.at hT_x_18 (by decide) hS_x_18
              obtain ⟨f_53, hS_x_17⟩ := hTy.k56 hT_x_17
              obtain ⟨hnz_, hzz_⟩ := hx1
              rw [fld_i (S := S_52) hS_o rfl hS_x_17, h17_] at hnz_ hzz_
              refine lv_goto (tgt := 30) hx hb dX12_chain_41 (by decide) ?_
              exact ih30 n_42 f_53 _ _ _ ls (by omega) hS_o hS_x_17 (by omega) (fun a ha => hzz_ _ (hdzf a ha)) hTy hFr hFl30 hW (lv_sub hl [0, 1, 2] rfl)
      exact loop ((nzc f_37) + 1) x_19 f_37 _ _ _ ls (Nat.lt_succ_self _) hS_o hS_x_17 (by omega) hdz_ hTy hFr Fr.rf hW (lv_sub hl [0, 1, 2] rfl)
    · refine lv_bipush (v := (-3)) hx hb dX12_chain_21 (by decide) ?_
      exact W.iret (v := (-3)) hx hb hr (fun t ht h9 => ⟨⟨(-3), S_33, rfl, ⟨hTy, hFr⟩, by rw [ht]; exact hW.1, va_K.moved h9.alike hK, hW.2.1⟩, hW.2.2.F ht⟩) hW.2.2.2.2 dX12_chain_23

