theorem w36 : (.fieldLink RX10 9 "SwapPress$Tape" "bytes" "[B" : Cond) ∈ TB := mTB (List.mem_of_getElem? (i := 36) (by decide +kernel)) (by decide +kernel)
theorem w39 : (.fieldLink RX10 15 "SwapPress$Tape" "length" "I" : Cond) ∈ TB := mTB (List.mem_of_getElem? (i := 39) (by decide +kernel)) (by decide +kernel)
theorem w64 : (.fieldLink RX11 191 "SwapPress$Names" "parties" "I" : Cond) ∈ TB := mTB (List.mem_of_getElem? (i := 64) (by decide +kernel)) (by decide +kernel)
theorem w67 : (.fieldLink RX11 314 "SwapPress$Names" "kinds" "I" : Cond) ∈ TB := mTB (List.mem_of_getElem? (i := 67) (by decide +kernel)) (by decide +kernel)
theorem w114 : (.fieldLink RX11 114 "SwapPress$Book" "size" "I" : Cond) ∈ TB := mTB (List.mem_of_getElem? (i := 114) (by decide +kernel)) (by decide +kernel)
theorem w144 : (.fieldLink RX11 341 "SwapPress$Reader" "names" "LSwapPress$Names;" : Cond) ∈ TB := mTB (List.mem_of_getElem? (i := 144) (by decide +kernel)) (by decide +kernel)
theorem w146 : (.fieldLink RX11 342 "SwapPress$Reader" "book" "LSwapPress$Book;" : Cond) ∈ TB := mTB (List.mem_of_getElem? (i := 146) (by decide +kernel)) (by decide +kernel)
theorem w266 : (.fieldLink RX11 194 "SwapPress$Solver" "first" "[J" : Cond) ∈ TB := mTB (List.mem_of_getElem? (i := 266) (by decide +kernel)) (by decide +kernel)
theorem w268 : (.fieldLink RX11 177 "SwapPress$Solver" "possible" "Z" : Cond) ∈ TB := mTB (List.mem_of_getElem? (i := 268) (by decide +kernel)) (by decide +kernel)
theorem w354 : (.fieldLink RX11 21 "SwapPress" "reader" "LSwapPress$Reader;" : Cond) ∈ TB := mTB (List.mem_of_getElem? (i := 354) (by decide +kernel)) (by decide +kernel)
theorem w355 : (.fieldLink RX11 28 "SwapPress" "past" "LSwapPress$Past;" : Cond) ∈ TB := mTB (List.mem_of_getElem? (i := 355) (by decide +kernel)) (by decide +kernel)
theorem w356 : (.fieldLink RX11 35 "SwapPress" "flows" "LSwapPress$Flows;" : Cond) ∈ TB := mTB (List.mem_of_getElem? (i := 356) (by decide +kernel)) (by decide +kernel)
theorem w357 : (.fieldLink RX11 42 "SwapPress" "rings" "LSwapPress$Rings;" : Cond) ∈ TB := mTB (List.mem_of_getElem? (i := 357) (by decide +kernel)) (by decide +kernel)
theorem w359 : (.fieldLink RX11 56 "SwapPress" "solver" "LSwapPress$Solver;" : Cond) ∈ TB := mTB (List.mem_of_getElem? (i := 359) (by decide +kernel)) (by decide +kernel)
theorem w360 : (.fieldLink RX11 60 "SwapPress" "trial" "LSwapPress$Solver;" : Cond) ∈ TB := mTB (List.mem_of_getElem? (i := 360) (by decide +kernel)) (by decide +kernel)
theorem w363 : (.fieldLink RX11 80 "SwapPress" "names" "LSwapPress$Names;" : Cond) ∈ TB := mTB (List.mem_of_getElem? (i := 363) (by decide +kernel)) (by decide +kernel)
theorem w364 : (.fieldLink RX11 87 "SwapPress" "book" "LSwapPress$Book;" : Cond) ∈ TB := mTB (List.mem_of_getElem? (i := 364) (by decide +kernel)) (by decide +kernel)
theorem w365 : (.fieldLink RX11 91 "SwapPress" "solvedKind" "I" : Cond) ∈ TB := mTB (List.mem_of_getElem? (i := 365) (by decide +kernel)) (by decide +kernel)
theorem w602 : (.methodLink RX11 221 yX11_noParty : Cond) ∈ TB := mTB (List.mem_of_getElem? (i := 602) (by decide +kernel)) (by decide +kernel)
theorem w604 : (.instanceMethod yX11_noParty : Cond) ∈ TB := mTB (List.mem_of_getElem? (i := 604) (by decide +kernel)) (by decide +kernel)
theorem w605 : (.code yX11_noParty cX11_noParty 2 (some .boolean) : Cond) ∈ TB := mTB (List.mem_of_getElem? (i := 605) (by decide +kernel)) (by decide +kernel)
theorem w615 : (.methodLink RX11 343 yX5_push : Cond) ∈ TB := mTB (List.mem_of_getElem? (i := 615) (by decide +kernel)) (by decide +kernel)
theorem w616 : (.instanceMethod yX5_push : Cond) ∈ TB := mTB (List.mem_of_getElem? (i := 616) (by decide +kernel)) (by decide +kernel)
theorem w617 : (.selects RX5 yX5_push yX5_push : Cond) ∈ TB := mTB (List.mem_of_getElem? (i := 617) (by decide +kernel)) (by decide +kernel)
theorem w618 : (.code yX5_push cX5_push 2 none : Cond) ∈ TB := mTB (List.mem_of_getElem? (i := 618) (by decide +kernel)) (by decide +kernel)
theorem w669 : (.methodLink RX11 214 yX11_gatherFlows : Cond) ∈ TB := mTB (List.mem_of_getElem? (i := 669) (by decide +kernel)) (by decide +kernel)
theorem w671 : (.instanceMethod yX11_gatherFlows : Cond) ∈ TB := mTB (List.mem_of_getElem? (i := 671) (by decide +kernel)) (by decide +kernel)
theorem w672 : (.code yX11_gatherFlows cX11_gatherFlows 3 none : Cond) ∈ TB := mTB (List.mem_of_getElem? (i := 672) (by decide +kernel)) (by decide +kernel)
theorem w673 : (.methodLink RX11 346 yX1_gather : Cond) ∈ TB := mTB (List.mem_of_getElem? (i := 673) (by decide +kernel)) (by decide +kernel)
theorem w674 : (.instanceMethod yX1_gather : Cond) ∈ TB := mTB (List.mem_of_getElem? (i := 674) (by decide +kernel)) (by decide +kernel)
theorem w675 : (.selects RX1 yX1_gather yX1_gather : Cond) ∈ TB := mTB (List.mem_of_getElem? (i := 675) (by decide +kernel)) (by decide +kernel)
theorem w676 : (.code yX1_gather cX1_gather 6 none : Cond) ∈ TB := mTB (List.mem_of_getElem? (i := 676) (by decide +kernel)) (by decide +kernel)
theorem w681 : (.methodLink RX11 350 yX7_find : Cond) ∈ TB := mTB (List.mem_of_getElem? (i := 681) (by decide +kernel)) (by decide +kernel)
theorem w733 : (.methodLink RX11 351 yX9_prepare : Cond) ∈ TB := mTB (List.mem_of_getElem? (i := 733) (by decide +kernel)) (by decide +kernel)
theorem w734 : (.instanceMethod yX9_prepare : Cond) ∈ TB := mTB (List.mem_of_getElem? (i := 734) (by decide +kernel)) (by decide +kernel)
theorem w735 : (.selects RX9 yX9_prepare yX9_prepare : Cond) ∈ TB := mTB (List.mem_of_getElem? (i := 735) (by decide +kernel)) (by decide +kernel)
theorem w736 : (.code yX9_prepare cX9_prepare 5 none : Cond) ∈ TB := mTB (List.mem_of_getElem? (i := 736) (by decide +kernel)) (by decide +kernel)
theorem w766 : (.methodLink RX11 286 yX9_solve : Cond) ∈ TB := mTB (List.mem_of_getElem? (i := 766) (by decide +kernel)) (by decide +kernel)
theorem w767 : (.instanceMethod yX9_solve : Cond) ∈ TB := mTB (List.mem_of_getElem? (i := 767) (by decide +kernel)) (by decide +kernel)
theorem w768 : (.selects RX9 yX9_solve yX9_solve : Cond) ∈ TB := mTB (List.mem_of_getElem? (i := 768) (by decide +kernel)) (by decide +kernel)
theorem w769 : (.code yX9_solve cX9_solve 3 none : Cond) ∈ TB := mTB (List.mem_of_getElem? (i := 769) (by decide +kernel)) (by decide +kernel)
theorem w817 : (.methodLink RX11 355 yX9_findFirst : Cond) ∈ TB := mTB (List.mem_of_getElem? (i := 817) (by decide +kernel)) (by decide +kernel)
theorem w818 : (.instanceMethod yX9_findFirst : Cond) ∈ TB := mTB (List.mem_of_getElem? (i := 818) (by decide +kernel)) (by decide +kernel)
theorem w819 : (.selects RX9 yX9_findFirst yX9_findFirst : Cond) ∈ TB := mTB (List.mem_of_getElem? (i := 819) (by decide +kernel)) (by decide +kernel)
theorem w820 : (.code yX9_findFirst cX9_findFirst 3 none : Cond) ∈ TB := mTB (List.mem_of_getElem? (i := 820) (by decide +kernel)) (by decide +kernel)
theorem w991 : (.methodLink RX11 289 yX1_outOf : Cond) ∈ TB := mTB (List.mem_of_getElem? (i := 991) (by decide +kernel)) (by decide +kernel)
theorem w992 : (.methodLink RX11 292 yX1_into : Cond) ∈ TB := mTB (List.mem_of_getElem? (i := 992) (by decide +kernel)) (by decide +kernel)
theorem w1001 : (.methodLink RX11 301 yX11_sumOut : Cond) ∈ TB := mTB (List.mem_of_getElem? (i := 1001) (by decide +kernel)) (by decide +kernel)
theorem w1002 : (.methodLink RX11 305 yX11_sumIn : Cond) ∈ TB := mTB (List.mem_of_getElem? (i := 1002) (by decide +kernel)) (by decide +kernel)
theorem ws23 : (.selects RX11 yX11_noParty yX11_noParty : Cond) ∈ TB := mSel (y := yX11_noParty) (n := 13) (List.mem_of_getElem? (i := 23) (by decide +kernel)) (by decide +kernel)
theorem ws30 : (.selects RX11 yX11_gatherFlows yX11_gatherFlows : Cond) ∈ TB := mSel (y := yX11_gatherFlows) (n := 13) (List.mem_of_getElem? (i := 30) (by decide +kernel)) (by decide +kernel)
theorem dX10_append_0 : decode cX10_append 0 = .ok (.bipush 24, 2) := by decide +kernel
theorem dX10_append_2 : decode cX10_append 2 = .ok (.istore_n 2, 1) := by decide +kernel
theorem dX10_append_3 : decode cX10_append 3 = .ok (.iload_n 2, 1) := by decide +kernel
theorem dX10_append_4 : decode cX10_append 4 = .ok (.ifCond .lt 42, 3) := by decide +kernel
theorem dX10_append_7 : decode cX10_append 7 = .ok (.aload_n 0, 1) := by decide +kernel
theorem dX10_append_8 : decode cX10_append 8 = .ok (.getfield 15, 3) := by decide +kernel
theorem dX10_append_11 : decode cX10_append 11 = .ok (.sipush 900, 3) := by decide +kernel
theorem dX10_append_14 : decode cX10_append 14 = .ok (.if_icmp .ge 26, 3) := by decide +kernel
theorem dX10_append_17 : decode cX10_append 17 = .ok (.aload_n 0, 1) := by decide +kernel
theorem dX10_append_18 : decode cX10_append 18 = .ok (.getfield 9, 3) := by decide +kernel
theorem dX10_append_21 : decode cX10_append 21 = .ok (.aload_n 0, 1) := by decide +kernel
theorem dX10_append_22 : decode cX10_append 22 = .ok (.getfield 15, 3) := by decide +kernel
theorem dX10_append_25 : decode cX10_append 25 = .ok (.iload_n 1, 1) := by decide +kernel
theorem dX10_append_26 : decode cX10_append 26 = .ok (.iload_n 2, 1) := by decide +kernel
theorem dX10_append_27 : decode cX10_append 27 = .ok (.iushr, 1) := by decide +kernel
theorem dX10_append_28 : decode cX10_append 28 = .ok (.i2b, 1) := by decide +kernel
theorem dX10_append_29 : decode cX10_append 29 = .ok (.bastore, 1) := by decide +kernel
theorem dX10_append_30 : decode cX10_append 30 = .ok (.aload_n 0, 1) := by decide +kernel
theorem dX10_append_31 : decode cX10_append 31 = .ok (.dup, 1) := by decide +kernel
theorem dX10_append_32 : decode cX10_append 32 = .ok (.getfield 15, 3) := by decide +kernel
theorem dX10_append_35 : decode cX10_append 35 = .ok (.iconst 1, 1) := by decide +kernel
theorem dX10_append_36 : decode cX10_append 36 = .ok (.iadd, 1) := by decide +kernel
theorem dX10_append_37 : decode cX10_append 37 = .ok (.putfield 15, 3) := by decide +kernel
theorem dX10_append_40 : decode cX10_append 40 = .ok (.iinc 2 (-8), 3) := by decide +kernel
theorem dX10_append_43 : decode cX10_append 43 = .ok (.goto (-40), 3) := by decide +kernel
theorem dX10_append_46 : decode cX10_append 46 = .ok (.return_, 1) := by decide +kernel
theorem dX11_findRing_0 : decode cX11_findRing 0 = .ok (.aload_n 0, 1) := by decide +kernel
theorem dX11_findRing_1 : decode cX11_findRing 1 = .ok (.iload_n 1, 1) := by decide +kernel
theorem dX11_findRing_2 : decode cX11_findRing 2 = .ok (.iconst (-1), 1) := by decide +kernel
theorem dX11_findRing_3 : decode cX11_findRing 3 = .ok (.invokevirtual 214, 3) := by decide +kernel
theorem dX11_findRing_6 : decode cX11_findRing 6 = .ok (.aload_n 0, 1) := by decide +kernel
theorem dX11_findRing_7 : decode cX11_findRing 7 = .ok (.getfield 42, 3) := by decide +kernel
theorem dX11_findRing_10 : decode cX11_findRing 10 = .ok (.aload_n 0, 1) := by decide +kernel
theorem dX11_findRing_11 : decode cX11_findRing 11 = .ok (.getfield 35, 3) := by decide +kernel
theorem dX11_findRing_14 : decode cX11_findRing 14 = .ok (.invokevirtual 350, 3) := by decide +kernel
theorem dX11_findRing_17 : decode cX11_findRing 17 = .ok (.return_, 1) := by decide +kernel
theorem dX11_gatherFlows_0 : decode cX11_gatherFlows 0 = .ok (.aload_n 0, 1) := by decide +kernel
theorem dX11_gatherFlows_1 : decode cX11_gatherFlows 1 = .ok (.getfield 35, 3) := by decide +kernel
theorem dX11_gatherFlows_4 : decode cX11_gatherFlows 4 = .ok (.aload_n 0, 1) := by decide +kernel
theorem dX11_gatherFlows_5 : decode cX11_gatherFlows 5 = .ok (.getfield 87, 3) := by decide +kernel
theorem dX11_gatherFlows_8 : decode cX11_gatherFlows 8 = .ok (.aload_n 0, 1) := by decide +kernel
theorem dX11_gatherFlows_9 : decode cX11_gatherFlows 9 = .ok (.getfield 80, 3) := by decide +kernel
theorem dX11_gatherFlows_12 : decode cX11_gatherFlows 12 = .ok (.getfield 191, 3) := by decide +kernel
theorem dX11_gatherFlows_15 : decode cX11_gatherFlows 15 = .ok (.iload_n 1, 1) := by decide +kernel
theorem dX11_gatherFlows_16 : decode cX11_gatherFlows 16 = .ok (.iload_n 2, 1) := by decide +kernel
theorem dX11_gatherFlows_17 : decode cX11_gatherFlows 17 = .ok (.invokevirtual 346, 3) := by decide +kernel
theorem dX11_gatherFlows_20 : decode cX11_gatherFlows 20 = .ok (.return_, 1) := by decide +kernel
theorem dX11_noCouple_0 : decode cX11_noCouple 0 = .ok (.aload_n 0, 1) := by decide +kernel
theorem dX11_noCouple_1 : decode cX11_noCouple 1 = .ok (.iload_n 1, 1) := by decide +kernel
theorem dX11_noCouple_2 : decode cX11_noCouple 2 = .ok (.invokevirtual 221, 3) := by decide +kernel
theorem dX11_noCouple_5 : decode cX11_noCouple 5 = .ok (.ifCond .ne 16, 3) := by decide +kernel
theorem dX11_noCouple_8 : decode cX11_noCouple 8 = .ok (.aload_n 0, 1) := by decide +kernel
theorem dX11_noCouple_9 : decode cX11_noCouple 9 = .ok (.iload_n 2, 1) := by decide +kernel
theorem dX11_noCouple_10 : decode cX11_noCouple 10 = .ok (.invokevirtual 221, 3) := by decide +kernel
theorem dX11_noCouple_13 : decode cX11_noCouple 13 = .ok (.ifCond .ne 8, 3) := by decide +kernel
theorem dX11_noCouple_16 : decode cX11_noCouple 16 = .ok (.iload_n 1, 1) := by decide +kernel
theorem dX11_noCouple_17 : decode cX11_noCouple 17 = .ok (.iload_n 2, 1) := by decide +kernel
theorem dX11_noCouple_18 : decode cX11_noCouple 18 = .ok (.if_icmp .ne 7, 3) := by decide +kernel
theorem dX11_noCouple_21 : decode cX11_noCouple 21 = .ok (.iconst 1, 1) := by decide +kernel
theorem dX11_noCouple_22 : decode cX11_noCouple 22 = .ok (.goto 4, 3) := by decide +kernel
theorem dX11_noCouple_25 : decode cX11_noCouple 25 = .ok (.iconst 0, 1) := by decide +kernel
theorem dX11_noCouple_26 : decode cX11_noCouple 26 = .ok (.ireturn, 1) := by decide +kernel
theorem dX11_noKind_0 : decode cX11_noKind 0 = .ok (.iload_n 1, 1) := by decide +kernel
theorem dX11_noKind_1 : decode cX11_noKind 1 = .ok (.ifCond .lt 14, 3) := by decide +kernel
theorem dX11_noKind_4 : decode cX11_noKind 4 = .ok (.iload_n 1, 1) := by decide +kernel
theorem dX11_noKind_5 : decode cX11_noKind 5 = .ok (.aload_n 0, 1) := by decide +kernel
theorem dX11_noKind_6 : decode cX11_noKind 6 = .ok (.getfield 80, 3) := by decide +kernel
theorem dX11_noKind_9 : decode cX11_noKind 9 = .ok (.getfield 314, 3) := by decide +kernel
theorem dX11_noKind_12 : decode cX11_noKind 12 = .ok (.if_icmp .lt 7, 3) := by decide +kernel
theorem dX11_noKind_15 : decode cX11_noKind 15 = .ok (.iconst 1, 1) := by decide +kernel
theorem dX11_noKind_16 : decode cX11_noKind 16 = .ok (.goto 4, 3) := by decide +kernel
theorem dX11_noKind_19 : decode cX11_noKind 19 = .ok (.iconst 0, 1) := by decide +kernel
theorem dX11_noKind_20 : decode cX11_noKind 20 = .ok (.ireturn, 1) := by decide +kernel
theorem dX11_noParty_0 : decode cX11_noParty 0 = .ok (.iload_n 1, 1) := by decide +kernel
theorem dX11_noParty_1 : decode cX11_noParty 1 = .ok (.ifCond .lt 14, 3) := by decide +kernel
theorem dX11_noParty_4 : decode cX11_noParty 4 = .ok (.iload_n 1, 1) := by decide +kernel
theorem dX11_noParty_5 : decode cX11_noParty 5 = .ok (.aload_n 0, 1) := by decide +kernel
theorem dX11_noParty_6 : decode cX11_noParty 6 = .ok (.getfield 80, 3) := by decide +kernel
theorem dX11_noParty_9 : decode cX11_noParty 9 = .ok (.getfield 191, 3) := by decide +kernel
theorem dX11_noParty_12 : decode cX11_noParty 12 = .ok (.if_icmp .lt 7, 3) := by decide +kernel
theorem dX11_noParty_15 : decode cX11_noParty 15 = .ok (.iconst 1, 1) := by decide +kernel
theorem dX11_noParty_16 : decode cX11_noParty 16 = .ok (.goto 4, 3) := by decide +kernel
theorem dX11_noParty_19 : decode cX11_noParty 19 = .ok (.iconst 0, 1) := by decide +kernel
theorem dX11_noParty_20 : decode cX11_noParty 20 = .ok (.ireturn, 1) := by decide +kernel
theorem dX11_noTrade_0 : decode cX11_noTrade 0 = .ok (.iload_n 1, 1) := by decide +kernel
theorem dX11_noTrade_1 : decode cX11_noTrade 1 = .ok (.ifCond .lt 14, 3) := by decide +kernel
theorem dX11_noTrade_4 : decode cX11_noTrade 4 = .ok (.iload_n 1, 1) := by decide +kernel
theorem dX11_noTrade_5 : decode cX11_noTrade 5 = .ok (.aload_n 0, 1) := by decide +kernel
theorem dX11_noTrade_6 : decode cX11_noTrade 6 = .ok (.getfield 87, 3) := by decide +kernel
theorem dX11_noTrade_9 : decode cX11_noTrade 9 = .ok (.getfield 114, 3) := by decide +kernel
theorem dX11_noTrade_12 : decode cX11_noTrade 12 = .ok (.if_icmp .lt 7, 3) := by decide +kernel
theorem dX11_noTrade_15 : decode cX11_noTrade 15 = .ok (.iconst 1, 1) := by decide +kernel
theorem dX11_noTrade_16 : decode cX11_noTrade 16 = .ok (.goto 4, 3) := by decide +kernel
theorem dX11_noTrade_19 : decode cX11_noTrade 19 = .ok (.iconst 0, 1) := by decide +kernel
theorem dX11_noTrade_20 : decode cX11_noTrade 20 = .ok (.ireturn, 1) := by decide +kernel
theorem dX11_prepareTrial_0 : decode cX11_prepareTrial 0 = .ok (.aload_n 0, 1) := by decide +kernel
theorem dX11_prepareTrial_1 : decode cX11_prepareTrial 1 = .ok (.iload_n 1, 1) := by decide +kernel
theorem dX11_prepareTrial_2 : decode cX11_prepareTrial 2 = .ok (.iload_n 2, 1) := by decide +kernel
theorem dX11_prepareTrial_3 : decode cX11_prepareTrial 3 = .ok (.invokevirtual 214, 3) := by decide +kernel
theorem dX11_prepareTrial_6 : decode cX11_prepareTrial 6 = .ok (.aload_n 0, 1) := by decide +kernel
theorem dX11_prepareTrial_7 : decode cX11_prepareTrial 7 = .ok (.getfield 60, 3) := by decide +kernel
theorem dX11_prepareTrial_10 : decode cX11_prepareTrial 10 = .ok (.aload_n 0, 1) := by decide +kernel
theorem dX11_prepareTrial_11 : decode cX11_prepareTrial 11 = .ok (.getfield 87, 3) := by decide +kernel
theorem dX11_prepareTrial_14 : decode cX11_prepareTrial 14 = .ok (.aload_n 0, 1) := by decide +kernel
theorem dX11_prepareTrial_15 : decode cX11_prepareTrial 15 = .ok (.getfield 35, 3) := by decide +kernel
theorem dX11_prepareTrial_18 : decode cX11_prepareTrial 18 = .ok (.invokevirtual 351, 3) := by decide +kernel
theorem dX11_prepareTrial_21 : decode cX11_prepareTrial 21 = .ok (.return_, 1) := by decide +kernel
theorem dX11_reliefOf_0 : decode cX11_reliefOf 0 = .ok (.aload_n 0, 1) := by decide +kernel
theorem dX11_reliefOf_1 : decode cX11_reliefOf 1 = .ok (.getfield 35, 3) := by decide +kernel
theorem dX11_reliefOf_4 : decode cX11_reliefOf 4 = .ok (.iload_n 1, 1) := by decide +kernel
theorem dX11_reliefOf_5 : decode cX11_reliefOf 5 = .ok (.invokevirtual 289, 3) := by decide +kernel
theorem dX11_reliefOf_8 : decode cX11_reliefOf 8 = .ok (.aload_n 0, 1) := by decide +kernel
theorem dX11_reliefOf_9 : decode cX11_reliefOf 9 = .ok (.getfield 35, 3) := by decide +kernel
theorem dX11_reliefOf_12 : decode cX11_reliefOf 12 = .ok (.iload_n 1, 1) := by decide +kernel
theorem dX11_reliefOf_13 : decode cX11_reliefOf 13 = .ok (.invokevirtual 292, 3) := by decide +kernel
theorem dX11_reliefOf_16 : decode cX11_reliefOf 16 = .ok (.ladd, 1) := by decide +kernel
theorem dX11_reliefOf_17 : decode cX11_reliefOf 17 = .ok (.aload_n 0, 1) := by decide +kernel
theorem dX11_reliefOf_18 : decode cX11_reliefOf 18 = .ok (.getfield 56, 3) := by decide +kernel
theorem dX11_reliefOf_21 : decode cX11_reliefOf 21 = .ok (.getfield 194, 3) := by decide +kernel
theorem dX11_reliefOf_24 : decode cX11_reliefOf 24 = .ok (.iload_n 1, 1) := by decide +kernel
theorem dX11_reliefOf_25 : decode cX11_reliefOf 25 = .ok (.invokestatic 301, 3) := by decide +kernel
theorem dX11_reliefOf_28 : decode cX11_reliefOf 28 = .ok (.lsub, 1) := by decide +kernel
theorem dX11_reliefOf_29 : decode cX11_reliefOf 29 = .ok (.aload_n 0, 1) := by decide +kernel
theorem dX11_reliefOf_30 : decode cX11_reliefOf 30 = .ok (.getfield 56, 3) := by decide +kernel
theorem dX11_reliefOf_33 : decode cX11_reliefOf 33 = .ok (.getfield 194, 3) := by decide +kernel
theorem dX11_reliefOf_36 : decode cX11_reliefOf 36 = .ok (.iload_n 1, 1) := by decide +kernel
theorem dX11_reliefOf_37 : decode cX11_reliefOf 37 = .ok (.invokestatic 305, 3) := by decide +kernel
theorem dX11_reliefOf_40 : decode cX11_reliefOf 40 = .ok (.lsub, 1) := by decide +kernel
theorem dX11_reliefOf_41 : decode cX11_reliefOf 41 = .ok (.lreturn, 1) := by decide +kernel
theorem dX11_rememberAct_0 : decode cX11_rememberAct 0 = .ok (.aload_n 0, 1) := by decide +kernel
theorem dX11_rememberAct_1 : decode cX11_rememberAct 1 = .ok (.getfield 28, 3) := by decide +kernel
theorem dX11_rememberAct_4 : decode cX11_rememberAct 4 = .ok (.aload_n 0, 1) := by decide +kernel
theorem dX11_rememberAct_5 : decode cX11_rememberAct 5 = .ok (.getfield 87, 3) := by decide +kernel
theorem dX11_rememberAct_8 : decode cX11_rememberAct 8 = .ok (.invokevirtual 343, 3) := by decide +kernel
theorem dX11_rememberAct_11 : decode cX11_rememberAct 11 = .ok (.aload_n 0, 1) := by decide +kernel
theorem dX11_rememberAct_12 : decode cX11_rememberAct 12 = .ok (.iconst (-1), 1) := by decide +kernel
theorem dX11_rememberAct_13 : decode cX11_rememberAct 13 = .ok (.putfield 91, 3) := by decide +kernel
theorem dX11_rememberAct_16 : decode cX11_rememberAct 16 = .ok (.return_, 1) := by decide +kernel
theorem dX11_solveKind_0 : decode cX11_solveKind 0 = .ok (.aload_n 0, 1) := by decide +kernel
theorem dX11_solveKind_1 : decode cX11_solveKind 1 = .ok (.getfield 91, 3) := by decide +kernel
theorem dX11_solveKind_4 : decode cX11_solveKind 4 = .ok (.iload_n 1, 1) := by decide +kernel
theorem dX11_solveKind_5 : decode cX11_solveKind 5 = .ok (.if_icmp .ne 4, 3) := by decide +kernel
theorem dX11_solveKind_8 : decode cX11_solveKind 8 = .ok (.return_, 1) := by decide +kernel
theorem dX11_solveKind_9 : decode cX11_solveKind 9 = .ok (.aload_n 0, 1) := by decide +kernel
theorem dX11_solveKind_10 : decode cX11_solveKind 10 = .ok (.iload_n 1, 1) := by decide +kernel
theorem dX11_solveKind_11 : decode cX11_solveKind 11 = .ok (.iconst (-1), 1) := by decide +kernel
theorem dX11_solveKind_12 : decode cX11_solveKind 12 = .ok (.invokevirtual 214, 3) := by decide +kernel
theorem dX11_solveKind_15 : decode cX11_solveKind 15 = .ok (.aload_n 0, 1) := by decide +kernel
theorem dX11_solveKind_16 : decode cX11_solveKind 16 = .ok (.getfield 56, 3) := by decide +kernel
theorem dX11_solveKind_19 : decode cX11_solveKind 19 = .ok (.aload_n 0, 1) := by decide +kernel
theorem dX11_solveKind_20 : decode cX11_solveKind 20 = .ok (.getfield 87, 3) := by decide +kernel
theorem dX11_solveKind_23 : decode cX11_solveKind 23 = .ok (.aload_n 0, 1) := by decide +kernel
theorem dX11_solveKind_24 : decode cX11_solveKind 24 = .ok (.getfield 35, 3) := by decide +kernel
theorem dX11_solveKind_27 : decode cX11_solveKind 27 = .ok (.invokevirtual 351, 3) := by decide +kernel
theorem dX11_solveKind_30 : decode cX11_solveKind 30 = .ok (.aload_n 0, 1) := by decide +kernel
theorem dX11_solveKind_31 : decode cX11_solveKind 31 = .ok (.getfield 56, 3) := by decide +kernel
theorem dX11_solveKind_34 : decode cX11_solveKind 34 = .ok (.invokevirtual 286, 3) := by decide +kernel
theorem dX11_solveKind_37 : decode cX11_solveKind 37 = .ok (.aload_n 0, 1) := by decide +kernel
theorem dX11_solveKind_38 : decode cX11_solveKind 38 = .ok (.getfield 56, 3) := by decide +kernel
theorem dX11_solveKind_41 : decode cX11_solveKind 41 = .ok (.getfield 177, 3) := by decide +kernel
theorem dX11_solveKind_44 : decode cX11_solveKind 44 = .ok (.ifCond .eq 10, 3) := by decide +kernel
theorem dX11_solveKind_47 : decode cX11_solveKind 47 = .ok (.aload_n 0, 1) := by decide +kernel
theorem dX11_solveKind_48 : decode cX11_solveKind 48 = .ok (.getfield 56, 3) := by decide +kernel
theorem dX11_solveKind_51 : decode cX11_solveKind 51 = .ok (.invokevirtual 355, 3) := by decide +kernel
theorem dX11_solveKind_54 : decode cX11_solveKind 54 = .ok (.aload_n 0, 1) := by decide +kernel
theorem dX11_solveKind_55 : decode cX11_solveKind 55 = .ok (.iload_n 1, 1) := by decide +kernel
theorem dX11_solveKind_56 : decode cX11_solveKind 56 = .ok (.putfield 91, 3) := by decide +kernel
theorem dX11_solveKind_59 : decode cX11_solveKind 59 = .ok (.return_, 1) := by decide +kernel
theorem dX11_takeOver_0 : decode cX11_takeOver 0 = .ok (.aload_n 0, 1) := by decide +kernel
theorem dX11_takeOver_1 : decode cX11_takeOver 1 = .ok (.getfield 80, 3) := by decide +kernel
theorem dX11_takeOver_4 : decode cX11_takeOver 4 = .ok (.astore_n 1, 1) := by decide +kernel
theorem dX11_takeOver_5 : decode cX11_takeOver 5 = .ok (.aload_n 0, 1) := by decide +kernel
theorem dX11_takeOver_6 : decode cX11_takeOver 6 = .ok (.aload_n 0, 1) := by decide +kernel
theorem dX11_takeOver_7 : decode cX11_takeOver 7 = .ok (.getfield 21, 3) := by decide +kernel
theorem dX11_takeOver_10 : decode cX11_takeOver 10 = .ok (.getfield 341, 3) := by decide +kernel
theorem dX11_takeOver_13 : decode cX11_takeOver 13 = .ok (.putfield 80, 3) := by decide +kernel
theorem dX11_takeOver_16 : decode cX11_takeOver 16 = .ok (.aload_n 0, 1) := by decide +kernel
theorem dX11_takeOver_17 : decode cX11_takeOver 17 = .ok (.getfield 21, 3) := by decide +kernel
theorem dX11_takeOver_20 : decode cX11_takeOver 20 = .ok (.aload_n 1, 1) := by decide +kernel
theorem dX11_takeOver_21 : decode cX11_takeOver 21 = .ok (.putfield 341, 3) := by decide +kernel
theorem dX11_takeOver_24 : decode cX11_takeOver 24 = .ok (.aload_n 0, 1) := by decide +kernel
theorem dX11_takeOver_25 : decode cX11_takeOver 25 = .ok (.getfield 87, 3) := by decide +kernel
theorem dX11_takeOver_28 : decode cX11_takeOver 28 = .ok (.astore_n 2, 1) := by decide +kernel
theorem dX11_takeOver_29 : decode cX11_takeOver 29 = .ok (.aload_n 0, 1) := by decide +kernel
theorem dX11_takeOver_30 : decode cX11_takeOver 30 = .ok (.aload_n 0, 1) := by decide +kernel
theorem dX11_takeOver_31 : decode cX11_takeOver 31 = .ok (.getfield 21, 3) := by decide +kernel
theorem dX11_takeOver_34 : decode cX11_takeOver 34 = .ok (.getfield 342, 3) := by decide +kernel
theorem dX11_takeOver_37 : decode cX11_takeOver 37 = .ok (.putfield 87, 3) := by decide +kernel
theorem dX11_takeOver_40 : decode cX11_takeOver 40 = .ok (.aload_n 0, 1) := by decide +kernel
theorem dX11_takeOver_41 : decode cX11_takeOver 41 = .ok (.getfield 21, 3) := by decide +kernel
theorem dX11_takeOver_44 : decode cX11_takeOver 44 = .ok (.aload_n 2, 1) := by decide +kernel
theorem dX11_takeOver_45 : decode cX11_takeOver 45 = .ok (.putfield 342, 3) := by decide +kernel
theorem dX11_takeOver_48 : decode cX11_takeOver 48 = .ok (.return_, 1) := by decide +kernel
def fd (t : Nat) : Nat := if 900 < t + 20 then t else t + 20
def tl (n : Int32) (t : Nat) : Nat := if n < 0 ∨ nI t < n then t else 0
theorem tl_1 {n : Int32} {t : Nat} (h : n < 0) : tl n t = t := if_pos (Or.inl h)
theorem tl_2 {j t : Nat} (hj : j < 2 ^ 31) (h : ¬ j ≤ t) (ht : t ≤ 900) : tl (nI j) t = t := if_pos (Or.inr ((nI_ltI (by omega) hj).mpr (by omega)))
theorem tl_3 {j t : Nat} (h : j ≤ t) (ht : t ≤ 900) : tl (nI j) t = 0 := if_neg (fun q => q.elim (nI_pos (by omega)) (fun q => by
  have := (nI_ltI (a := t) (b := j) (by omega) (by omega)).mp q
  omega))
theorem nix {i : Int32} {n : Nat} (h1 : -1 ≤ i) (h2 : ¬ i = -1) (h3 : i < nI n) (hn : n < 2 ^ 31) : ∃ k, k < n ∧ i = nI k := by
  have e1 : (-1 : Int32).toInt = -1 := by decide
  have e0 : (0 : Int32).toInt = 0 := by decide
  rw [Int32.le_iff_toInt_le, e1] at h1
  have h4 : ¬ i.toInt = -1 := fun q => h2 (Int32.toInt_inj.mp (q.trans e1.symm))
  obtain ⟨k, hk, rfl⟩ := nI_of (x := i) (by rw [Int32.lt_iff_toInt_lt]; omega)
  exact ⟨k, (nI_ltI hk hn).mp h3, rfl⟩
theorem nlt_of_nle {i j : Int32} (h : ¬ j ≤ i) : i < j := by
  rw [Int32.le_iff_toInt_le] at h
  rw [Int32.lt_iff_toInt_lt]
  omega
def trk (S : Nat → va_E) (o k : Nat) : Prop := ∃ (x0 x1 x2 x3 x4 x5 x6 x7 x8 x9 nm bk : Nat) (sk : Int32) (n : Nat), S o = .inr (11, [.ref x0, .ref x1, .ref x2, .ref x3, .ref x4, .ref x5, .ref x6, .ref x7, .ref x8, .ref x9, .ref nm, .ref bk, .int sk]) ∧ bsz S bk n ∧ n ≤ 40 ∧ k < n
theorem trkk {S : Nat → va_E} {o k x0 x1 x2 x3 x4 x5 x6 x7 x8 x9 nm bk n y0 y1 y2 y3 y4 y5 : Nat} {sk y7 : Int32} (h : trk S o k) (ho : S o = .inr (11, [.ref x0, .ref x1, .ref x2, .ref x3, .ref x4, .ref x5, .ref x6, .ref x7, .ref x8, .ref x9, .ref nm, .ref bk, .int sk])) (hb : S bk = .inr (0, [.ref y0, .ref y1, .ref y2, .ref y3, .ref y4, .ref y5, .int (nI n), .int y7])) (hn : n ≤ 40) : k < n := by
  obtain ⟨z0, z1, z2, z3, z4, z5, z6, z7, z8, z9, nm', bk', sk', n', h1, ⟨u0, u1, u2, u3, u4, u5, u7, hu⟩, hn', hk⟩ := h
  have e := ho.symm.trans h1
  simp only [Sum.inr.injEq, Prod.mk.injEq, List.cons.injEq, Value.ref.injEq, true_and] at e
  obtain ⟨-, -, -, -, -, -, -, -, -, -, -, rfl, -⟩ := e
  have e2 := hb.symm.trans hu
  simp only [Sum.inr.injEq, Prod.mk.injEq, List.cons.injEq, Value.int.injEq, true_and] at e2
  have := (nI_eq (by omega) (by omega)).mp e2.2.2.2.2.2.2.1
  omega
def o11 (S S' : Nat → va_E) (o : Nat) : Prop := ∀ (x0 x1 x2 x3 x4 x5 x6 x7 x8 x9 x10 x11 : Nat) (sk : Int32), S o = .inr (11, [.ref x0, .ref x1, .ref x2, .ref x3, .ref x4, .ref x5, .ref x6, .ref x7, .ref x8, .ref x9, .ref x10, .ref x11, .int sk]) → ∃ sk' : Int32, S' o = .inr (11, [.ref x0, .ref x1, .ref x2, .ref x3, .ref x4, .ref x5, .ref x6, .ref x7, .ref x8, .ref x9, .ref x10, .ref x11, .int sk'])
theorem o11i {S S' : Nat → va_E} {o x0 x1 x2 x3 x4 x5 x6 x7 x8 x9 x10 x11 : Nat} {sk sk' : Int32} (h : S o = .inr (11, [.ref x0, .ref x1, .ref x2, .ref x3, .ref x4, .ref x5, .ref x6, .ref x7, .ref x8, .ref x9, .ref x10, .ref x11, .int sk])) (h' : S' o = .inr (11, [.ref x0, .ref x1, .ref x2, .ref x3, .ref x4, .ref x5, .ref x6, .ref x7, .ref x8, .ref x9, .ref x10, .ref x11, .int sk'])) : o11 S S' o := by
  intro y0 y1 y2 y3 y4 y5 y6 y7 y8 y9 y10 y11 k e
  have e := h.symm.trans e
  simp only [Sum.inr.injEq, Prod.mk.injEq, List.cons.injEq, Value.ref.injEq, true_and] at e
  obtain ⟨rfl, rfl, rfl, rfl, rfl, rfl, rfl, rfl, rfl, rfl, rfl, rfl, -⟩ := e
  exact ⟨sk', h'⟩
set_option maxHeartbeats 4000000 in
set_option maxRecDepth 100000 in
theorem o_noParty (l : Launch) (dC : Nat → ClassId) (dI : Nat → Nat → Nat) (cy : Nat → ClassId) (L : List Nat) (kap : Nat → Nat) (pr : Pr) (S : Nat → va_E) (sz : Nat) (o : Nat) (pa : Int32) (hTy : Ty cy L kap pr S) (hT_o : TK L kap o 11) : Met l yX11_noParty (wT yX11_noParty cX11_noParty 2 (some .boolean)) ({ frames := 0, cells := 0, slots := 0, locals := 0 }) (pcN dC dI [.ref o, .int pa] sz (va_pl L S) (cyT cy) NLs []) (vp_Si (fun r => r = 1 ∨ (r = 0 ∧ ∃ k, k < 8 ∧ pa = nI k))) 0 0 (fun _ => False) := by
  refine Met.ofW (cc := cX11_noParty) (maxL := 2) (ret := (some .boolean)) (by decide) rfl ?_
  intro p e s m args below meth c s₁ B hml hv
  obtain ⟨rfl, hsz, hP, hK, hD0, hN, -⟩ := hv
  have hx := B.exec
  have hb := B.bytes
  have hr := B.returns
  have hT : ∀ wd ∈ TB, wd.before [.ref o, .int pa].toArray s = true := fun wd h => atoms_spec (ws := wT yX11_noParty cX11_noParty 2 (some .boolean)) B.pre wd (List.mem_cons_of_mem _ h)
  have hown : s.vm.findClass RX11 = some m.cls := findClass_of_methodNamed B.named
  have hlocks := B.notSynchronized
  subst hsz
  have hW : PW dC dI L (AL L s.heap.size) s.heap S s.heap [] := ⟨hP, pl_self hD0, va_S.rf⟩
  have hFr : Fr kap [] S S := Fr.rf
  have hl := lv_entry ([.ref o, .int pa]) (n := 2) (Nat.le_of_ble_eq_true rfl)
  rw [lg_entry_eq]
  generalize (lg_sl ([.ref o, .int pa]) ++ List.replicate (2 - (lg_sl ([.ref o, .int pa])).length) Slot.unset).toArray = ls at hl ⊢
  have hl : lv_has ls 2 [(0, .ref o), (1, .int pa)] := hl
  refine lv_iload_n hx hb dX11_noParty_0 rfl (lv_at hl 1 rfl) ?_
  refine lv_if_lt (tgt := 15) hx hb dX11_noParty_1 (by decide) (fun c_1 => ?_) (fun c_1 => ?_)
  · skip
    refine lv_iconst (v := 1) hx hb dX11_noParty_15 (by decide) ?_
    refine lv_goto (tgt := 20) hx hb dX11_noParty_16 (by decide) ?_
    exact W.zret (ty := .boolean) (v := 1) hx hb hr (by decide) (fun t ht h9 => ⟨1, rfl, Or.inl rfl, ht⟩) (fun q h => by cases h) dX11_noParty_20
  · obtain ⟨j_1, hj_j_1, rfl⟩ := nI_of c_1
    refine lv_iload_n hx hb dX11_noParty_4 rfl (lv_at hl 1 rfl) ?_
    refine lv_aload_n hx hb dX11_noParty_5 rfl (lv_at hl 0 rfl) ?_
    obtain ⟨x_2, x_3, x_4, x_5, x_6, x_7, x_8, x_9, x_10, x_11, x_12, x_13, x_14, hS_o, hT_x_2, hT_x_3, hT_x_4, hT_x_5, hT_x_6, hT_x_7, hT_x_8, hT_x_9, hT_x_10, hT_x_11, hT_x_12, hT_x_13⟩ := hTy.k11 hT_o
    refine pl_get (ci := 11) (v := .ref x_12) (C := RX11) (T := TX11) (N := 13) hx hb hT iX11 hown hK hW hT_o.1 hS_o rfl 10 (by decide) w363 rfl dX11_noParty_6 ?_
    obtain ⟨x_15, x_16, x_17, x_18, hS_x_12, hT_x_15, hT_x_16, hb_x_17, hb_x_18⟩ := hTy.k3 hT_x_12
    refine pl_get (ci := 3) (v := .int (nI x_17)) (C := RX3) (T := TX3) (N := 4) hx hb hT iX3 hown hK hW hT_x_12.1 hS_x_12 rfl 2 (by decide) w64 rfl dX11_noParty_9 ?_
    refine lv_icmp_lt (tgt := 19) hx hb dX11_noParty_12 (by decide) (fun c_12 => ?_) (fun c_12 => ?_)
    · have c_12 : j_1 < x_17 := (nI_ltI (a := j_1) (b := x_17) (by omega) (by omega)).mp c_12
      refine lv_iconst (v := 0) hx hb dX11_noParty_19 (by decide) ?_
      exact W.zret (ty := .boolean) (v := 0) hx hb hr (by decide) (fun t ht h9 => ⟨0, rfl, Or.inr ⟨rfl, _, by omega, rfl⟩, ht⟩) (fun q h => by cases h) dX11_noParty_20
    · have c_12 : ¬ (j_1 < x_17) := fun hh9 => c_12 ((nI_ltI (a := j_1) (b := x_17) (by omega) (by omega)).mpr hh9)
      refine lv_iconst (v := 1) hx hb dX11_noParty_15 (by decide) ?_
      refine lv_goto (tgt := 20) hx hb dX11_noParty_16 (by decide) ?_
      exact W.zret (ty := .boolean) (v := 1) hx hb hr (by decide) (fun t ht h9 => ⟨1, rfl, Or.inl rfl, ht⟩) (fun q h => by cases h) dX11_noParty_20

set_option maxHeartbeats 4000000 in
set_option maxRecDepth 100000 in
theorem o_noKind (l : Launch) (dC : Nat → ClassId) (dI : Nat → Nat → Nat) (cy : Nat → ClassId) (L : List Nat) (kap : Nat → Nat) (pr : Pr) (S : Nat → va_E) (sz : Nat) (o : Nat) (pa : Int32) (hTy : Ty cy L kap pr S) (hT_o : TK L kap o 11) : Met l yX11_noKind (wT yX11_noKind cX11_noKind 2 (some .boolean)) ({ frames := 0, cells := 0, slots := 0, locals := 0 }) (pcN dC dI [.ref o, .int pa] sz (va_pl L S) (cyT cy) NLs []) (vp_Si (fun r => r = 1 ∨ (r = 0 ∧ ∃ k, k < 4 ∧ pa = nI k))) 0 0 (fun _ => False) := by
  refine Met.ofW (cc := cX11_noKind) (maxL := 2) (ret := (some .boolean)) (by decide) rfl ?_
  intro p e s m args below meth c s₁ B hml hv
  obtain ⟨rfl, hsz, hP, hK, hD0, hN, -⟩ := hv
  have hx := B.exec
  have hb := B.bytes
  have hr := B.returns
  have hT : ∀ wd ∈ TB, wd.before [.ref o, .int pa].toArray s = true := fun wd h => atoms_spec (ws := wT yX11_noKind cX11_noKind 2 (some .boolean)) B.pre wd (List.mem_cons_of_mem _ h)
  have hown : s.vm.findClass RX11 = some m.cls := findClass_of_methodNamed B.named
  have hlocks := B.notSynchronized
  subst hsz
  have hW : PW dC dI L (AL L s.heap.size) s.heap S s.heap [] := ⟨hP, pl_self hD0, va_S.rf⟩
  have hFr : Fr kap [] S S := Fr.rf
  have hl := lv_entry ([.ref o, .int pa]) (n := 2) (Nat.le_of_ble_eq_true rfl)
  rw [lg_entry_eq]
  generalize (lg_sl ([.ref o, .int pa]) ++ List.replicate (2 - (lg_sl ([.ref o, .int pa])).length) Slot.unset).toArray = ls at hl ⊢
  have hl : lv_has ls 2 [(0, .ref o), (1, .int pa)] := hl
  refine lv_iload_n hx hb dX11_noKind_0 rfl (lv_at hl 1 rfl) ?_
  refine lv_if_lt (tgt := 15) hx hb dX11_noKind_1 (by decide) (fun c_1 => ?_) (fun c_1 => ?_)
  · skip
    refine lv_iconst (v := 1) hx hb dX11_noKind_15 (by decide) ?_
    refine lv_goto (tgt := 20) hx hb dX11_noKind_16 (by decide) ?_
    exact W.zret (ty := .boolean) (v := 1) hx hb hr (by decide) (fun t ht h9 => ⟨1, rfl, Or.inl rfl, ht⟩) (fun q h => by cases h) dX11_noKind_20
  · obtain ⟨j_1, hj_j_1, rfl⟩ := nI_of c_1
    refine lv_iload_n hx hb dX11_noKind_4 rfl (lv_at hl 1 rfl) ?_
    refine lv_aload_n hx hb dX11_noKind_5 rfl (lv_at hl 0 rfl) ?_
    obtain ⟨x_2, x_3, x_4, x_5, x_6, x_7, x_8, x_9, x_10, x_11, x_12, x_13, x_14, hS_o, hT_x_2, hT_x_3, hT_x_4, hT_x_5, hT_x_6, hT_x_7, hT_x_8, hT_x_9, hT_x_10, hT_x_11, hT_x_12, hT_x_13⟩ := hTy.k11 hT_o
    refine pl_get (ci := 11) (v := .ref x_12) (C := RX11) (T := TX11) (N := 13) hx hb hT iX11 hown hK hW hT_o.1 hS_o rfl 10 (by decide) w363 rfl dX11_noKind_6 ?_
    obtain ⟨x_15, x_16, x_17, x_18, hS_x_12, hT_x_15, hT_x_16, hb_x_17, hb_x_18⟩ := hTy.k3 hT_x_12
    refine pl_get (ci := 3) (v := .int (nI x_18)) (C := RX3) (T := TX3) (N := 4) hx hb hT iX3 hown hK hW hT_x_12.1 hS_x_12 rfl 3 (by decide) w67 rfl dX11_noKind_9 ?_
    refine lv_icmp_lt (tgt := 19) hx hb dX11_noKind_12 (by decide) (fun c_12 => ?_) (fun c_12 => ?_)
    · have c_12 : j_1 < x_18 := (nI_ltI (a := j_1) (b := x_18) (by omega) (by omega)).mp c_12
      refine lv_iconst (v := 0) hx hb dX11_noKind_19 (by decide) ?_
      exact W.zret (ty := .boolean) (v := 0) hx hb hr (by decide) (fun t ht h9 => ⟨0, rfl, Or.inr ⟨rfl, _, by omega, rfl⟩, ht⟩) (fun q h => by cases h) dX11_noKind_20
    · have c_12 : ¬ (j_1 < x_18) := fun hh9 => c_12 ((nI_ltI (a := j_1) (b := x_18) (by omega) (by omega)).mpr hh9)
      refine lv_iconst (v := 1) hx hb dX11_noKind_15 (by decide) ?_
      refine lv_goto (tgt := 20) hx hb dX11_noKind_16 (by decide) ?_
      exact W.zret (ty := .boolean) (v := 1) hx hb hr (by decide) (fun t ht h9 => ⟨1, rfl, Or.inl rfl, ht⟩) (fun q h => by cases h) dX11_noKind_20

set_option maxHeartbeats 4000000 in
set_option maxRecDepth 100000 in
theorem o_noTrade (l : Launch) (dC : Nat → ClassId) (dI : Nat → Nat → Nat) (cy : Nat → ClassId) (L : List Nat) (kap : Nat → Nat) (pr : Pr) (S : Nat → va_E) (sz : Nat) (o : Nat) (pa : Int32) (hTy : Ty cy L kap pr S) (hT_o : TK L kap o 11) : Met l yX11_noTrade (wT yX11_noTrade cX11_noTrade 2 (some .boolean)) ({ frames := 0, cells := 0, slots := 0, locals := 0 }) (pcN dC dI [.ref o, .int pa] sz (va_pl L S) (cyT cy) NLs []) (vp_Si (fun r => r = 1 ∨ (r = 0 ∧ ∃ k, k < 40 ∧ pa = nI k ∧ trk S o k))) 0 0 (fun _ => False) := by
  refine Met.ofW (cc := cX11_noTrade) (maxL := 2) (ret := (some .boolean)) (by decide) rfl ?_
  intro p e s m args below meth c s₁ B hml hv
  obtain ⟨rfl, hsz, hP, hK, hD0, hN, -⟩ := hv
  have hx := B.exec
  have hb := B.bytes
  have hr := B.returns
  have hT : ∀ wd ∈ TB, wd.before [.ref o, .int pa].toArray s = true := fun wd h => atoms_spec (ws := wT yX11_noTrade cX11_noTrade 2 (some .boolean)) B.pre wd (List.mem_cons_of_mem _ h)
  have hown : s.vm.findClass RX11 = some m.cls := findClass_of_methodNamed B.named
  have hlocks := B.notSynchronized
  subst hsz
  have hW : PW dC dI L (AL L s.heap.size) s.heap S s.heap [] := ⟨hP, pl_self hD0, va_S.rf⟩
  have hFr : Fr kap [] S S := Fr.rf
  have hl := lv_entry ([.ref o, .int pa]) (n := 2) (Nat.le_of_ble_eq_true rfl)
  rw [lg_entry_eq]
  generalize (lg_sl ([.ref o, .int pa]) ++ List.replicate (2 - (lg_sl ([.ref o, .int pa])).length) Slot.unset).toArray = ls at hl ⊢
  have hl : lv_has ls 2 [(0, .ref o), (1, .int pa)] := hl
  refine lv_iload_n hx hb dX11_noTrade_0 rfl (lv_at hl 1 rfl) ?_
  refine lv_if_lt (tgt := 15) hx hb dX11_noTrade_1 (by decide) (fun c_1 => ?_) (fun c_1 => ?_)
  · skip
    refine lv_iconst (v := 1) hx hb dX11_noTrade_15 (by decide) ?_
    refine lv_goto (tgt := 20) hx hb dX11_noTrade_16 (by decide) ?_
    exact W.zret (ty := .boolean) (v := 1) hx hb hr (by decide) (fun t ht h9 => ⟨1, rfl, Or.inl rfl, ht⟩) (fun q h => by cases h) dX11_noTrade_20
  · obtain ⟨j_1, hj_j_1, rfl⟩ := nI_of c_1
    refine lv_iload_n hx hb dX11_noTrade_4 rfl (lv_at hl 1 rfl) ?_
    refine lv_aload_n hx hb dX11_noTrade_5 rfl (lv_at hl 0 rfl) ?_
    obtain ⟨x_2, x_3, x_4, x_5, x_6, x_7, x_8, x_9, x_10, x_11, x_12, x_13, x_14, hS_o, hT_x_2, hT_x_3, hT_x_4, hT_x_5, hT_x_6, hT_x_7, hT_x_8, hT_x_9, hT_x_10, hT_x_11, hT_x_12, hT_x_13⟩ := hTy.k11 hT_o
    refine pl_get (ci := 11) (v := .ref x_13) (C := RX11) (T := TX11) (N := 13) hx hb hT iX11 hown hK hW hT_o.1 hS_o rfl 11 (by decide) w364 rfl dX11_noTrade_6 ?_
    obtain ⟨x_15, x_16, x_17, x_18, x_19, x_20, x_21, x_22, hS_x_13, hT_x_15, hT_x_16, hT_x_17, hT_x_18, hT_x_19, hT_x_20, hb_x_21⟩ := hTy.k0 hT_x_13
    refine pl_get (ci := 0) (v := .int (nI x_21)) (C := RX0) (T := TX0) (N := 8) hx hb hT iX0 hown hK hW hT_x_13.1 hS_x_13 rfl 6 (by decide) w114 rfl dX11_noTrade_9 ?_
    refine lv_icmp_lt (tgt := 19) hx hb dX11_noTrade_12 (by decide) (fun c_12 => ?_) (fun c_12 => ?_)
    · have c_12 : j_1 < x_21 := (nI_ltI (a := j_1) (b := x_21) (by omega) (by omega)).mp c_12
      refine lv_iconst (v := 0) hx hb dX11_noTrade_19 (by decide) ?_
      exact W.zret (ty := .boolean) (v := 0) hx hb hr (by decide) (fun t ht h9 => ⟨0, rfl, Or.inr ⟨rfl, _, by omega, rfl, _, _, _, _, _, _, _, _, _, _, _, _, _, _, hS_o, ⟨_, _, _, _, _, _, _, hS_x_13⟩, by omega, by omega⟩, ht⟩) (fun q h => by cases h) dX11_noTrade_20
    · have c_12 : ¬ (j_1 < x_21) := fun hh9 => c_12 ((nI_ltI (a := j_1) (b := x_21) (by omega) (by omega)).mpr hh9)
      refine lv_iconst (v := 1) hx hb dX11_noTrade_15 (by decide) ?_
      refine lv_goto (tgt := 20) hx hb dX11_noTrade_16 (by decide) ?_
      exact W.zret (ty := .boolean) (v := 1) hx hb hr (by decide) (fun t ht h9 => ⟨1, rfl, Or.inl rfl, ht⟩) (fun q h => by cases h) dX11_noTrade_20

set_option maxHeartbeats 4000000 in
set_option maxRecDepth 100000 in
theorem o_noCouple (l : Launch) (dC : Nat → ClassId) (dI : Nat → Nat → Nat) (cy : Nat → ClassId) (L : List Nat) (kap : Nat → Nat) (pr : Pr) (S : Nat → va_E) (sz : Nat) (o : Nat) (pa : Int32) (pb : Int32) (hTy : Ty cy L kap pr S) (hT_o : TK L kap o 11) : Met l yX11_noCouple (wT yX11_noCouple cX11_noCouple 3 (some .boolean)) ({ frames := 1, cells := 0, slots := 0, locals := 21 }) (pcN dC dI [.ref o, .int pa, .int pb] sz (va_pl L S) (cyT cy) NLs []) (vp_Si (fun r => r = 1 ∨ (r = 0 ∧ (∃ k, k < 8 ∧ pa = nI k) ∧ ∃ k, k < 8 ∧ pb = nI k))) 0 0 (fun _ => False) := by
  refine Met.ofW (cc := cX11_noCouple) (maxL := 3) (ret := (some .boolean)) (by decide) rfl ?_
  intro p e s m args below meth c s₁ B hml hv
  obtain ⟨rfl, hsz, hP, hK, hD0, hN, -⟩ := hv
  have hx := B.exec
  have hb := B.bytes
  have hr := B.returns
  have hT : ∀ wd ∈ TB, wd.before [.ref o, .int pa, .int pb].toArray s = true := fun wd h => atoms_spec (ws := wT yX11_noCouple cX11_noCouple 3 (some .boolean)) B.pre wd (List.mem_cons_of_mem _ h)
  have hown : s.vm.findClass RX11 = some m.cls := findClass_of_methodNamed B.named
  have hlocks := B.notSynchronized
  subst hsz
  have hW : PW dC dI L (AL L s.heap.size) s.heap S s.heap [] := ⟨hP, pl_self hD0, va_S.rf⟩
  have hFr : Fr kap [] S S := Fr.rf
  have hl := lv_entry ([.ref o, .int pa, .int pb]) (n := 3) (Nat.le_of_ble_eq_true rfl)
  rw [lg_entry_eq]
  generalize (lg_sl ([.ref o, .int pa, .int pb]) ++ List.replicate (3 - (lg_sl ([.ref o, .int pa, .int pb])).length) Slot.unset).toArray = ls at hl ⊢
  have hl : lv_has ls 3 [(0, .ref o), (1, .int pa), (2, .int pb)] := hl
  refine lv_aload_n hx hb dX11_noCouple_0 rfl (lv_at hl 0 rfl) ?_
  refine lv_iload_n hx hb dX11_noCouple_1 rfl (lv_at hl 1 rfl) ?_
  obtain ⟨x_1, x_2, x_3, x_4, x_5, x_6, x_7, x_8, x_9, x_10, x_11, x_12, x_13, hS_o, hT_x_1, hT_x_2, hT_x_3, hT_x_4, hT_x_5, hT_x_6, hT_x_7, hT_x_8, hT_x_9, hT_x_10, hT_x_11, hT_x_12⟩ := hTy.k11 hT_o
  refine vp_callSi (va_Run.run (va_runV (As := [.int pa]) (rest := []) ⟨hx, hb, hml, hown, hT⟩ (o_noParty l dC dI cy L kap pr S s.heap.size o pa hTy hT_o) (cwV 1 hT (gV w602 w604 ws23 w1 w605) rfl rfl rfl (by decide +kernel) ⟨(Nat.le_of_ble_eq_true rfl), (Nat.le_of_ble_eq_true rfl)⟩) ⟨pcN.blind, pl_recv hK hW hT_o.1 hS_o rfl, pcN.pre hW.1 hK hW.2.1 hN (fun q h => absurd h List.not_mem_nil)⟩ rfl rfl hl.1 rfl (lv_room (Nat.le_of_ble_eq_true rfl)) dX11_noCouple_2 ⟨(Nat.le_of_ble_eq_true rfl), (Nat.le_of_ble_eq_true rfl)⟩)) (fun r_14 hr_14 => ?_)
  rcases hr_14 with hc_ | hc_
  · obtain rfl : r_14 = 1 := hc_
    refine lv_if_ne (tgt := 21) hx hb dX11_noCouple_5 (by decide) (fun _ => ?_) (fun h => absurd h (by decide))
    refine lv_iconst (v := 1) hx hb dX11_noCouple_21 (by decide) ?_
    refine lv_goto (tgt := 26) hx hb dX11_noCouple_22 (by decide) ?_
    exact W.zret (ty := .boolean) (v := 1) hx hb hr (by decide) (fun t ht h9 => ⟨1, rfl, Or.inl rfl, ht⟩) (fun q h => by cases h) dX11_noCouple_26
  · obtain ⟨rfl, k_15, hb_k_15, rfl⟩ := hc_
    refine lv_if_ne (tgt := 21) hx hb dX11_noCouple_5 (by decide) (fun h => absurd (by decide) h) (fun _ => ?_)
    refine lv_aload_n hx hb dX11_noCouple_8 rfl (lv_at hl 0 rfl) ?_
    refine lv_iload_n hx hb dX11_noCouple_9 rfl (lv_at hl 2 rfl) ?_
    refine vp_callSi (va_Run.run (va_runV (As := [.int pb]) (rest := []) ⟨hx, hb, hml, hown, hT⟩ (o_noParty l dC dI cy L kap pr S s.heap.size o pb hTy hT_o) (cwV 1 hT (gV w602 w604 ws23 w1 w605) rfl rfl rfl (by decide +kernel) ⟨(Nat.le_of_ble_eq_true rfl), (Nat.le_of_ble_eq_true rfl)⟩) ⟨pcN.blind, pl_recv hK hW hT_o.1 hS_o rfl, pcN.pre hW.1 hK hW.2.1 hN (fun q h => absurd h List.not_mem_nil)⟩ rfl rfl hl.1 rfl (lv_room (Nat.le_of_ble_eq_true rfl)) dX11_noCouple_10 ⟨(Nat.le_of_ble_eq_true rfl), (Nat.le_of_ble_eq_true rfl)⟩)) (fun r_16 hr_16 => ?_)
    rcases hr_16 with hc_ | hc_
    · obtain rfl : r_16 = 1 := hc_
      refine lv_if_ne (tgt := 21) hx hb dX11_noCouple_13 (by decide) (fun _ => ?_) (fun h => absurd h (by decide))
      refine lv_iconst (v := 1) hx hb dX11_noCouple_21 (by decide) ?_
      refine lv_goto (tgt := 26) hx hb dX11_noCouple_22 (by decide) ?_
      exact W.zret (ty := .boolean) (v := 1) hx hb hr (by decide) (fun t ht h9 => ⟨1, rfl, Or.inl rfl, ht⟩) (fun q h => by cases h) dX11_noCouple_26
    · obtain ⟨rfl, k_17, hb_k_17, rfl⟩ := hc_
      refine lv_if_ne (tgt := 21) hx hb dX11_noCouple_13 (by decide) (fun h => absurd (by decide) h) (fun _ => ?_)
      refine lv_iload_n hx hb dX11_noCouple_16 rfl (lv_at hl 1 rfl) ?_
      refine lv_iload_n hx hb dX11_noCouple_17 rfl (lv_at hl 2 rfl) ?_
      refine lv_icmp_ne (tgt := 25) hx hb dX11_noCouple_18 (by decide) (fun c_18 => ?_) (fun c_18 => ?_)
      · have c_18 : ¬ (k_15 = k_17) := fun hh9 => c_18 ((nI_eq (a := k_15) (b := k_17) (by omega) (by omega)).mpr hh9)
        refine lv_iconst (v := 0) hx hb dX11_noCouple_25 (by decide) ?_
        exact W.zret (ty := .boolean) (v := 0) hx hb hr (by decide) (fun t ht h9 => ⟨0, rfl, Or.inr ⟨rfl, ⟨_, by omega, rfl⟩, ⟨_, by omega, rfl⟩⟩, ht⟩) (fun q h => by cases h) dX11_noCouple_26
      · have c_18 : k_15 = k_17 := (nI_eq (a := k_15) (b := k_17) (by omega) (by omega)).mp c_18
        refine lv_iconst (v := 1) hx hb dX11_noCouple_21 (by decide) ?_
        refine lv_goto (tgt := 26) hx hb dX11_noCouple_22 (by decide) ?_
        exact W.zret (ty := .boolean) (v := 1) hx hb hr (by decide) (fun t ht h9 => ⟨1, rfl, Or.inl rfl, ht⟩) (fun q h => by cases h) dX11_noCouple_26

set_option maxHeartbeats 4000000 in
set_option maxRecDepth 100000 in
theorem o_remember (l : Launch) (dC : Nat → ClassId) (dI : Nat → Nat → Nat) (cy : Nat → ClassId) (L : List Nat) (kap : Nat → Nat) (pr : Pr) (S : Nat → va_E) (sz : Nat) (o : Nat) (hTy : Ty cy L kap pr S) (hT_o : TK L kap o 11) : Met l yX11_rememberAct (wT yX11_rememberAct cX11_rememberAct 1 none) ({ frames := 3, cells := 0, slots := 0, locals := 83 }) (pcN dC dI [.ref o] sz (va_pl L S) (cyT cy) NLs []) (va_Qv (fun S' => Ty cy L kap pr S' ∧ Fr kap [5, 11, 20, 21, 22, 23, 24, 28, 46] S S' ∧ (o11 S S' o)) (fun S' t => pB dC dI (AL L sz) (va_pl L S') (cyT cy) t) (AL L sz)) 0 0 (AL L sz) := by
  refine Met.ofW (cc := cX11_rememberAct) (maxL := 1) (ret := none) (by decide) rfl ?_
  intro p e s m args below meth c s₁ B hml hv
  obtain ⟨rfl, hsz, hP, hK, hD0, hN, -⟩ := hv
  have hx := B.exec
  have hb := B.bytes
  have hr := B.returns
  have hT : ∀ wd ∈ TB, wd.before [.ref o].toArray s = true := fun wd h => atoms_spec (ws := wT yX11_rememberAct cX11_rememberAct 1 none) B.pre wd (List.mem_cons_of_mem _ h)
  have hown : s.vm.findClass RX11 = some m.cls := findClass_of_methodNamed B.named
  have hlocks := B.notSynchronized
  subst hsz
  have hW : PW dC dI L (AL L s.heap.size) s.heap S s.heap [] := ⟨hP, pl_self hD0, va_S.rf⟩
  have hA0 : ∀ q, q ∈ L → AL L s.heap.size q := fun _ h => Or.inl h
  have hA : ∀ q, s.heap.size ≤ q → AL L s.heap.size q := fun _ h => Or.inr h
  have hFr : Fr kap [5, 11, 20, 21, 22, 23, 24, 28, 46] S S := Fr.rf
  have hl := lv_entry ([.ref o]) (n := 1) (Nat.le_of_ble_eq_true rfl)
  rw [lg_entry_eq]
  generalize (lg_sl ([.ref o]) ++ List.replicate (1 - (lg_sl ([.ref o])).length) Slot.unset).toArray = ls at hl ⊢
  have hl : lv_has ls 1 [(0, .ref o)] := hl
  obtain ⟨x_1, x_2, x_3, x_4, x_5, x_6, x_7, x_8, x_9, x_10, x_11, x_12, x_13, hS_o, hT_x_1, hT_x_2, hT_x_3, hT_x_4, hT_x_5, hT_x_6, hT_x_7, hT_x_8, hT_x_9, hT_x_10, hT_x_11, hT_x_12⟩ := hTy.k11 hT_o
  have hS_o0 := hS_o
  refine lv_aload_n hx hb dX11_rememberAct_0 rfl (lv_at hl 0 rfl) ?_
  refine pl_get (ci := 11) (v := .ref x_3) (C := RX11) (T := TX11) (N := 13) hx hb hT iX11 hown hK hW hT_o.1 hS_o rfl 2 (by decide) w355 rfl dX11_rememberAct_1 ?_
  refine lv_aload_n hx hb dX11_rememberAct_4 rfl (lv_at hl 0 rfl) ?_
  refine pl_get (ci := 11) (v := .ref x_12) (C := RX11) (T := TX11) (N := 13) hx hb hT iX11 hown hK hW hT_o.1 hS_o rfl 11 (by decide) w364 rfl dX11_rememberAct_5 ?_
  obtain ⟨x_14, x_15, hS_x_3, hT_x_14, hb_x_15⟩ := hTy.k5 hT_x_3
  refine pl_callv (va_runV (As := [.ref x_12]) (rest := []) ⟨hx, hb, hml, hown, hT⟩ (s_push l dC dI cy L kap pr S s.heap.size x_3 x_12 hTy hT_x_3 hT_x_12) (cwV 1 hT (gV w615 w616 w617 w7 w618) rfl rfl rfl (by decide +kernel) ⟨(Nat.le_of_ble_eq_true rfl), (Nat.le_of_ble_eq_true rfl)⟩) ⟨pcN.blind, pl_recv hK hW hT_x_3.1 hS_x_3 rfl, pcN.pre hW.1 hK hW.2.1 hN (fun q h => absurd h List.not_mem_nil)⟩ rfl rfl hl.1 rfl (lv_room (Nat.le_of_ble_eq_true rfl)) dX11_rememberAct_8 ⟨(Nat.le_of_ble_eq_true rfl), (Nat.le_of_ble_eq_true rfl)⟩) hW hA0 hA (fun S_16 H locs hrel hW => ?_)
  obtain ⟨hTy, hF1⟩ := hrel
  have hFr := hFr.tr hF1 (by decide)
  have hS_o := hF1.at hT_o (by decide) hS_o
  refine lv_aload_n hx hb dX11_rememberAct_11 rfl (lv_at hl 0 rfl) ?_
  refine lv_iconst (v := (-1)) hx hb dX11_rememberAct_12 (by decide) ?_
  refine pl_put (ci := 11) (v := .int (-1)) (ty := .int) (C := RX11) (T := TX11) (N := 13) (fs' := [.ref x_1, .ref x_2, .ref x_3, .ref x_4, .ref x_5, .ref x_6, .ref x_7, .ref x_8, .ref x_9, .ref x_10, .ref x_11, .ref x_12, .int (-1)]) hx hb hT iX11 tyX11 tyX11_ok nmX11 hown hK hW hT_o.1 hS_o rfl 12 (by decide) w365 rfl (by decide +kernel) rfl rfl (Nat.le_of_ble_eq_true rfl) rfl dX11_rememberAct_13 (fun H locs S_17 e1 hW => ?_)
  have hTy := hTy.u11 e1 hT_o ⟨x_1, x_2, x_3, x_4, x_5, x_6, x_7, x_8, x_9, x_10, x_11, x_12, (-1), rfl, hT_x_1, hT_x_2, hT_x_3, hT_x_4, hT_x_5, hT_x_6, hT_x_7, hT_x_8, hT_x_9, hT_x_10, hT_x_11, hT_x_12⟩
  have hFr := uf hFr e1 hT_o (by decide) (by decide)
  have hS_o := us e1
  exact W.vret hx hb hr (fun t ht h9 => ⟨⟨S_17, rfl, ⟨hTy, hFr, (o11i hS_o0 hS_o)⟩, by rw [ht]; exact hW.1, va_K.moved h9.alike hK, hW.2.1⟩, hW.2.2.F ht⟩) hW.2.2.2.2 dX11_rememberAct_16

set_option maxHeartbeats 4000000 in
set_option maxRecDepth 100000 in
theorem o_gather (l : Launch) (dC : Nat → ClassId) (dI : Nat → Nat → Nat) (cy : Nat → ClassId) (L : List Nat) (kap : Nat → Nat) (pr : Pr) (S : Nat → va_E) (sz : Nat) (o : Nat) (kd : Int32) (wo : Int32) (hTy : Ty cy L kap pr S) (hT_o : TK L kap o 11) : Met l yX11_gatherFlows (wT yX11_gatherFlows cX11_gatherFlows 3 none) ({ frames := 2, cells := 0, slots := 0, locals := 49 }) (pcN dC dI [.ref o, .int kd, .int wo] sz (va_pl L S) (cyT cy) NLs []) (va_Qv (fun S' => Ty cy L kap pr S' ∧ Fr kap [1, 29] S S') (fun S' t => pB dC dI (AL L sz) (va_pl L S') (cyT cy) t) (AL L sz)) 0 0 (AL L sz) := by
  refine Met.ofW (cc := cX11_gatherFlows) (maxL := 3) (ret := none) (by decide) rfl ?_
  intro p e s m args below meth c s₁ B hml hv
  obtain ⟨rfl, hsz, hP, hK, hD0, hN, -⟩ := hv
  have hx := B.exec
  have hb := B.bytes
  have hr := B.returns
  have hT : ∀ wd ∈ TB, wd.before [.ref o, .int kd, .int wo].toArray s = true := fun wd h => atoms_spec (ws := wT yX11_gatherFlows cX11_gatherFlows 3 none) B.pre wd (List.mem_cons_of_mem _ h)
  have hown : s.vm.findClass RX11 = some m.cls := findClass_of_methodNamed B.named
  have hlocks := B.notSynchronized
  subst hsz
  have hW : PW dC dI L (AL L s.heap.size) s.heap S s.heap [] := ⟨hP, pl_self hD0, va_S.rf⟩
  have hA0 : ∀ q, q ∈ L → AL L s.heap.size q := fun _ h => Or.inl h
  have hA : ∀ q, s.heap.size ≤ q → AL L s.heap.size q := fun _ h => Or.inr h
  have hFr : Fr kap [1, 29] S S := Fr.rf
  have hl := lv_entry ([.ref o, .int kd, .int wo]) (n := 3) (Nat.le_of_ble_eq_true rfl)
  rw [lg_entry_eq]
  generalize (lg_sl ([.ref o, .int kd, .int wo]) ++ List.replicate (3 - (lg_sl ([.ref o, .int kd, .int wo])).length) Slot.unset).toArray = ls at hl ⊢
  have hl : lv_has ls 3 [(0, .ref o), (1, .int kd), (2, .int wo)] := hl
  refine lv_aload_n hx hb dX11_gatherFlows_0 rfl (lv_at hl 0 rfl) ?_
  obtain ⟨x_1, x_2, x_3, x_4, x_5, x_6, x_7, x_8, x_9, x_10, x_11, x_12, x_13, hS_o, hT_x_1, hT_x_2, hT_x_3, hT_x_4, hT_x_5, hT_x_6, hT_x_7, hT_x_8, hT_x_9, hT_x_10, hT_x_11, hT_x_12⟩ := hTy.k11 hT_o
  refine pl_get (ci := 11) (v := .ref x_4) (C := RX11) (T := TX11) (N := 13) hx hb hT iX11 hown hK hW hT_o.1 hS_o rfl 3 (by decide) w356 rfl dX11_gatherFlows_1 ?_
  refine lv_aload_n hx hb dX11_gatherFlows_4 rfl (lv_at hl 0 rfl) ?_
  refine pl_get (ci := 11) (v := .ref x_12) (C := RX11) (T := TX11) (N := 13) hx hb hT iX11 hown hK hW hT_o.1 hS_o rfl 11 (by decide) w364 rfl dX11_gatherFlows_5 ?_
  refine lv_aload_n hx hb dX11_gatherFlows_8 rfl (lv_at hl 0 rfl) ?_
  refine pl_get (ci := 11) (v := .ref x_11) (C := RX11) (T := TX11) (N := 13) hx hb hT iX11 hown hK hW hT_o.1 hS_o rfl 10 (by decide) w363 rfl dX11_gatherFlows_9 ?_
  obtain ⟨x_14, x_15, x_16, x_17, hS_x_11, hT_x_14, hT_x_15, hb_x_16, hb_x_17⟩ := hTy.k3 hT_x_11
  refine pl_get (ci := 3) (v := .int (nI x_16)) (C := RX3) (T := TX3) (N := 4) hx hb hT iX3 hown hK hW hT_x_11.1 hS_x_11 rfl 2 (by decide) w64 rfl dX11_gatherFlows_12 ?_
  refine lv_iload_n hx hb dX11_gatherFlows_15 rfl (lv_at hl 1 rfl) ?_
  refine lv_iload_n hx hb dX11_gatherFlows_16 rfl (lv_at hl 2 rfl) ?_
  obtain ⟨x_18, x_19, hS_x_4, hT_x_18, hb_x_19⟩ := hTy.k1 hT_x_4
  refine pl_callv (va_runV (As := [.ref x_12, .int (nI x_16), .int kd, .int wo]) (rest := []) ⟨hx, hb, hml, hown, hT⟩ (s_gather l dC dI cy L kap pr S s.heap.size x_4 x_12 x_16 kd wo hTy hT_x_4 hT_x_12 (by omega)) (cwV 4 hT (gV w673 w674 w675 w8 w676) rfl rfl rfl (by decide +kernel) ⟨(Nat.le_of_ble_eq_true rfl), (Nat.le_of_ble_eq_true rfl)⟩) ⟨pcN.blind, pl_recv hK hW hT_x_4.1 hS_x_4 rfl, pcN.pre hW.1 hK hW.2.1 hN (fun q h => absurd h List.not_mem_nil)⟩ rfl rfl hl.1 rfl (lv_room (Nat.le_of_ble_eq_true rfl)) dX11_gatherFlows_17 ⟨(Nat.le_of_ble_eq_true rfl), (Nat.le_of_ble_eq_true rfl)⟩) hW hA0 hA (fun S_20 H locs hrel hW => ?_)
  obtain ⟨hTy, hF1⟩ := hrel
  have hFr := hFr.tr hF1 (by decide)
  have hS_o := hF1.at hT_o (by decide) hS_o
  have hS_x_11 := hF1.at hT_x_11 (by decide) hS_x_11
  exact W.vret hx hb hr (fun t ht h9 => ⟨⟨S_20, rfl, ⟨hTy, hFr⟩, by rw [ht]; exact hW.1, va_K.moved h9.alike hK, hW.2.1⟩, hW.2.2.F ht⟩) hW.2.2.2.2 dX11_gatherFlows_20

set_option maxHeartbeats 4000000 in
set_option maxRecDepth 100000 in
theorem o_findRing (l : Launch) (dC : Nat → ClassId) (dI : Nat → Nat → Nat) (cy : Nat → ClassId) (L : List Nat) (kap : Nat → Nat) (pr : Pr) (S : Nat → va_E) (sz : Nat) (o : Nat) (kd : Int32) (hTy : Ty cy L kap pr S) (hT_o : TK L kap o 11) : Met l yX11_findRing (wT yX11_findRing cX11_findRing 2 none) ({ frames := 5, cells := 0, slots := 0, locals := 114 }) (pcN dC dI [.ref o, .int kd] sz (va_pl L S) (cyT cy) NLs []) (va_Qv (fun S' => Ty cy L kap pr S' ∧ Fr kap [1, 7, 29, 31, 32, 42] S S') (fun S' t => pB dC dI (AL L sz) (va_pl L S') (cyT cy) t) (AL L sz)) 0 0 (AL L sz) := by
  refine Met.ofW (cc := cX11_findRing) (maxL := 2) (ret := none) (by decide) rfl ?_
  intro p e s m args below meth c s₁ B hml hv
  obtain ⟨rfl, hsz, hP, hK, hD0, hN, -⟩ := hv
  have hx := B.exec
  have hb := B.bytes
  have hr := B.returns
  have hT : ∀ wd ∈ TB, wd.before [.ref o, .int kd].toArray s = true := fun wd h => atoms_spec (ws := wT yX11_findRing cX11_findRing 2 none) B.pre wd (List.mem_cons_of_mem _ h)
  have hown : s.vm.findClass RX11 = some m.cls := findClass_of_methodNamed B.named
  have hlocks := B.notSynchronized
  subst hsz
  have hW : PW dC dI L (AL L s.heap.size) s.heap S s.heap [] := ⟨hP, pl_self hD0, va_S.rf⟩
  have hA0 : ∀ q, q ∈ L → AL L s.heap.size q := fun _ h => Or.inl h
  have hA : ∀ q, s.heap.size ≤ q → AL L s.heap.size q := fun _ h => Or.inr h
  have hFr : Fr kap [1, 7, 29, 31, 32, 42] S S := Fr.rf
  have hl := lv_entry ([.ref o, .int kd]) (n := 2) (Nat.le_of_ble_eq_true rfl)
  rw [lg_entry_eq]
  generalize (lg_sl ([.ref o, .int kd]) ++ List.replicate (2 - (lg_sl ([.ref o, .int kd])).length) Slot.unset).toArray = ls at hl ⊢
  have hl : lv_has ls 2 [(0, .ref o), (1, .int kd)] := hl
  refine lv_aload_n hx hb dX11_findRing_0 rfl (lv_at hl 0 rfl) ?_
  refine lv_iload_n hx hb dX11_findRing_1 rfl (lv_at hl 1 rfl) ?_
  refine lv_iconst (v := (-1)) hx hb dX11_findRing_2 (by decide) ?_
  obtain ⟨x_1, x_2, x_3, x_4, x_5, x_6, x_7, x_8, x_9, x_10, x_11, x_12, x_13, hS_o, hT_x_1, hT_x_2, hT_x_3, hT_x_4, hT_x_5, hT_x_6, hT_x_7, hT_x_8, hT_x_9, hT_x_10, hT_x_11, hT_x_12⟩ := hTy.k11 hT_o
  refine pl_callv (va_runV (As := [.int kd, .int (-1)]) (rest := []) ⟨hx, hb, hml, hown, hT⟩ (o_gather l dC dI cy L kap pr S s.heap.size o kd (-1) hTy hT_o) (cwV 2 hT (gV w669 w671 ws30 w1 w672) rfl rfl rfl (by decide +kernel) ⟨(Nat.le_of_ble_eq_true rfl), (Nat.le_of_ble_eq_true rfl)⟩) ⟨pcN.blind, pl_recv hK hW hT_o.1 hS_o rfl, pcN.pre hW.1 hK hW.2.1 hN (fun q h => absurd h List.not_mem_nil)⟩ rfl rfl hl.1 rfl (lv_room (Nat.le_of_ble_eq_true rfl)) dX11_findRing_3 ⟨(Nat.le_of_ble_eq_true rfl), (Nat.le_of_ble_eq_true rfl)⟩) hW hA0 hA (fun S_14 H locs hrel hW => ?_)
  obtain ⟨hTy, hF1⟩ := hrel
  have hFr := hFr.tr hF1 (by decide)
  have hS_o := hF1.at hT_o (by decide) hS_o
  refine lv_aload_n hx hb dX11_findRing_6 rfl (lv_at hl 0 rfl) ?_
  refine pl_get (ci := 11) (v := .ref x_5) (C := RX11) (T := TX11) (N := 13) hx hb hT iX11 hown hK hW hT_o.1 hS_o rfl 4 (by decide) w357 rfl dX11_findRing_7 ?_
  refine lv_aload_n hx hb dX11_findRing_10 rfl (lv_at hl 0 rfl) ?_
  refine pl_get (ci := 11) (v := .ref x_4) (C := RX11) (T := TX11) (N := 13) hx hb hT iX11 hown hK hW hT_o.1 hS_o rfl 3 (by decide) w356 rfl dX11_findRing_11 ?_
  obtain ⟨x_15, x_16, x_17, x_18, x_19, x_20, hS_x_5, hT_x_15, hb_x_16, hT_x_19, hT_x_20⟩ := hTy.k7 hT_x_5
  refine pl_callv (va_runV (As := [.ref x_4]) (rest := []) ⟨hx, hb, hml, hown, hT⟩ (s_gfindR l dC dI cy L kap pr S_14 H.size x_5 x_4 hTy hT_x_5 hT_x_4) (cwV 1 hT (gV w681 w682 w683 w9 w684) rfl rfl rfl (by decide +kernel) ⟨(Nat.le_of_ble_eq_true rfl), (Nat.le_of_ble_eq_true rfl)⟩) ⟨pcN.blind, pl_recv hK hW hT_x_5.1 hS_x_5 rfl, pcN.pre hW.1 hK hW.2.1 hN (fun q h => absurd h List.not_mem_nil)⟩ rfl rfl hl.1 rfl (lv_room (Nat.le_of_ble_eq_true rfl)) dX11_findRing_14 ⟨(Nat.le_of_ble_eq_true rfl), (Nat.le_of_ble_eq_true rfl)⟩) hW hA0 hA (fun S_21 H locs hrel hW => ?_)
  obtain ⟨hTy, hF1⟩ := hrel
  have hFr := hFr.tr hF1 (by decide)
  have hS_o := hF1.at hT_o (by decide) hS_o
  exact W.vret hx hb hr (fun t ht h9 => ⟨⟨S_21, rfl, ⟨hTy, hFr⟩, by rw [ht]; exact hW.1, va_K.moved h9.alike hK, hW.2.1⟩, hW.2.2.F ht⟩) hW.2.2.2.2 dX11_findRing_17

set_option maxHeartbeats 4000000 in
set_option maxRecDepth 100000 in
theorem o_solveKind (l : Launch) (dC : Nat → ClassId) (dI : Nat → Nat → Nat) (cy : Nat → ClassId) (L : List Nat) (kap : Nat → Nat) (pr : Pr) (S : Nat → va_E) (sz : Nat) (o : Nat) (kd : Int32) (hTy : Ty cy L kap pr S) (hT_o : TK L kap o 11) : Met l yX11_solveKind (wT yX11_solveKind cX11_solveKind 2 none) ({ frames := 6, cells := 0, slots := 0, locals := 163 }) (pcN dC dI [.ref o, .int kd] sz (va_pl L S) (cyT cy) NLs []) (va_Qv (fun S' => Ty cy L kap pr S' ∧ Fr kap [1, 9, 11, 29, 33, 35, 36, 37, 38, 43, 44, 45] S S') (fun S' t => pB dC dI (AL L sz) (va_pl L S') (cyT cy) t) (AL L sz)) 0 0 (AL L sz) := by
  refine Met.ofW (cc := cX11_solveKind) (maxL := 2) (ret := none) (by decide) rfl ?_
  intro p e s m args below meth c s₁ B hml hv
  obtain ⟨rfl, hsz, hP, hK, hD0, hN, -⟩ := hv
  have hx := B.exec
  have hb := B.bytes
  have hr := B.returns
  have hT : ∀ wd ∈ TB, wd.before [.ref o, .int kd].toArray s = true := fun wd h => atoms_spec (ws := wT yX11_solveKind cX11_solveKind 2 none) B.pre wd (List.mem_cons_of_mem _ h)
  have hown : s.vm.findClass RX11 = some m.cls := findClass_of_methodNamed B.named
  have hlocks := B.notSynchronized
  subst hsz
  have hW : PW dC dI L (AL L s.heap.size) s.heap S s.heap [] := ⟨hP, pl_self hD0, va_S.rf⟩
  have hA0 : ∀ q, q ∈ L → AL L s.heap.size q := fun _ h => Or.inl h
  have hA : ∀ q, s.heap.size ≤ q → AL L s.heap.size q := fun _ h => Or.inr h
  have hFr : Fr kap [1, 9, 11, 29, 33, 35, 36, 37, 38, 43, 44, 45] S S := Fr.rf
  have hl := lv_entry ([.ref o, .int kd]) (n := 2) (Nat.le_of_ble_eq_true rfl)
  rw [lg_entry_eq]
  generalize (lg_sl ([.ref o, .int kd]) ++ List.replicate (2 - (lg_sl ([.ref o, .int kd])).length) Slot.unset).toArray = ls at hl ⊢
  have hl : lv_has ls 2 [(0, .ref o), (1, .int kd)] := hl
  refine lv_aload_n hx hb dX11_solveKind_0 rfl (lv_at hl 0 rfl) ?_
  obtain ⟨x_1, x_2, x_3, x_4, x_5, x_6, x_7, x_8, x_9, x_10, x_11, x_12, x_13, hS_o, hT_x_1, hT_x_2, hT_x_3, hT_x_4, hT_x_5, hT_x_6, hT_x_7, hT_x_8, hT_x_9, hT_x_10, hT_x_11, hT_x_12⟩ := hTy.k11 hT_o
  refine pl_get (ci := 11) (v := .int x_13) (C := RX11) (T := TX11) (N := 13) hx hb hT iX11 hown hK hW hT_o.1 hS_o rfl 12 (by decide) w365 rfl dX11_solveKind_1 ?_
  refine lv_iload_n hx hb dX11_solveKind_4 rfl (lv_at hl 1 rfl) ?_
  refine lv_icmp_ne (tgt := 9) hx hb dX11_solveKind_5 (by decide) (fun c_5 => ?_) (fun c_5 => ?_)
  · refine lv_aload_n hx hb dX11_solveKind_9 rfl (lv_at hl 0 rfl) ?_
    refine lv_iload_n hx hb dX11_solveKind_10 rfl (lv_at hl 1 rfl) ?_
    refine lv_iconst (v := (-1)) hx hb dX11_solveKind_11 (by decide) ?_
    refine pl_callv (va_runV (As := [.int kd, .int (-1)]) (rest := []) ⟨hx, hb, hml, hown, hT⟩ (o_gather l dC dI cy L kap pr S s.heap.size o kd (-1) hTy hT_o) (cwV 2 hT (gV w669 w671 ws30 w1 w672) rfl rfl rfl (by decide +kernel) ⟨(Nat.le_of_ble_eq_true rfl), (Nat.le_of_ble_eq_true rfl)⟩) ⟨pcN.blind, pl_recv hK hW hT_o.1 hS_o rfl, pcN.pre hW.1 hK hW.2.1 hN (fun q h => absurd h List.not_mem_nil)⟩ rfl rfl hl.1 rfl (lv_room (Nat.le_of_ble_eq_true rfl)) dX11_solveKind_12 ⟨(Nat.le_of_ble_eq_true rfl), (Nat.le_of_ble_eq_true rfl)⟩) hW hA0 hA (fun S_14 H locs hrel hW => ?_)
    obtain ⟨hTy, hF1⟩ := hrel
    have hFr := hFr.tr hF1 (by decide)
    have hS_o := hF1.at hT_o (by decide) hS_o
    refine lv_aload_n hx hb dX11_solveKind_15 rfl (lv_at hl 0 rfl) ?_
    refine pl_get (ci := 11) (v := .ref x_7) (C := RX11) (T := TX11) (N := 13) hx hb hT iX11 hown hK hW hT_o.1 hS_o rfl 6 (by decide) w359 rfl dX11_solveKind_16 ?_
    refine lv_aload_n hx hb dX11_solveKind_19 rfl (lv_at hl 0 rfl) ?_
    refine pl_get (ci := 11) (v := .ref x_12) (C := RX11) (T := TX11) (N := 13) hx hb hT iX11 hown hK hW hT_o.1 hS_o rfl 11 (by decide) w364 rfl dX11_solveKind_20 ?_
    refine lv_aload_n hx hb dX11_solveKind_23 rfl (lv_at hl 0 rfl) ?_
    refine pl_get (ci := 11) (v := .ref x_4) (C := RX11) (T := TX11) (N := 13) hx hb hT iX11 hown hK hW hT_o.1 hS_o rfl 3 (by decide) w356 rfl dX11_solveKind_24 ?_
    obtain ⟨x_15, x_16, x_17, x_18, x_19, x_20, x_21, x_22, x_23, x_24, x_25, x_26, x_27, hS_x_7, hT_x_15, hT_x_16, hT_x_19, hT_x_20, hT_x_21, hT_x_22, hT_x_23, hT_x_24, hT_x_25, hb_x_26, hb_x_27⟩ := hTy.k9 hT_x_7
    refine pl_callv (va_runV (As := [.ref x_12, .ref x_4]) (rest := []) ⟨hx, hb, hml, hown, hT⟩ (s_prepare l dC dI cy L kap pr S_14 H.size x_7 x_12 x_4 hTy hT_x_7 hT_x_12 hT_x_4) (cwV 2 hT (gV w733 w734 w735 w11 w736) rfl rfl rfl (by decide +kernel) ⟨(Nat.le_of_ble_eq_true rfl), (Nat.le_of_ble_eq_true rfl)⟩) ⟨pcN.blind, pl_recv hK hW hT_x_7.1 hS_x_7 rfl, pcN.pre hW.1 hK hW.2.1 hN (fun q h => absurd h List.not_mem_nil)⟩ rfl rfl hl.1 rfl (lv_room (Nat.le_of_ble_eq_true rfl)) dX11_solveKind_27 ⟨(Nat.le_of_ble_eq_true rfl), (Nat.le_of_ble_eq_true rfl)⟩) hW hA0 hA (fun S_28 H locs hrel hW => ?_)
    obtain ⟨hTy, hF1⟩ := hrel
    have hFr := hFr.tr hF1 (by decide)
    have hS_o := hF1.at hT_o (by decide) hS_o
    refine lv_aload_n hx hb dX11_solveKind_30 rfl (lv_at hl 0 rfl) ?_
    refine pl_get (ci := 11) (v := .ref x_7) (C := RX11) (T := TX11) (N := 13) hx hb hT iX11 hown hK hW hT_o.1 hS_o rfl 6 (by decide) w359 rfl dX11_solveKind_31 ?_
    obtain ⟨x_29, x_30, x_31, x_32, x_33, x_34, x_35, x_36, x_37, x_38, x_39, x_40, x_41, hS_x_7, hT_x_29, hT_x_30, hT_x_33, hT_x_34, hT_x_35, hT_x_36, hT_x_37, hT_x_38, hT_x_39, hb_x_40, hb_x_41⟩ := hTy.k9 hT_x_7
    refine pl_callv (va_runV (As := []) (rest := []) ⟨hx, hb, hml, hown, hT⟩ (s_solve l dC dI cy L kap pr S_28 H.size x_7 hTy hT_x_7) (cwV 0 hT (gV w766 w767 w768 w11 w769) rfl rfl rfl (by decide +kernel) ⟨(Nat.le_of_ble_eq_true rfl), (Nat.le_of_ble_eq_true rfl)⟩) ⟨pcN.blind, pl_recv hK hW hT_x_7.1 hS_x_7 rfl, pcN.pre hW.1 hK hW.2.1 hN (fun q h => absurd h List.not_mem_nil)⟩ rfl rfl hl.1 rfl (lv_room (Nat.le_of_ble_eq_true rfl)) dX11_solveKind_34 ⟨(Nat.le_of_ble_eq_true rfl), (Nat.le_of_ble_eq_true rfl)⟩) hW hA0 hA (fun S_42 H locs hrel hW => ?_)
    obtain ⟨hTy, hF1⟩ := hrel
    have hFr := hFr.tr hF1 (by decide)
    have hS_o := hF1.at hT_o (by decide) hS_o
    refine lv_aload_n hx hb dX11_solveKind_37 rfl (lv_at hl 0 rfl) ?_
    refine pl_get (ci := 11) (v := .ref x_7) (C := RX11) (T := TX11) (N := 13) hx hb hT iX11 hown hK hW hT_o.1 hS_o rfl 6 (by decide) w359 rfl dX11_solveKind_38 ?_
    obtain ⟨x_43, x_44, x_45, x_46, x_47, x_48, x_49, x_50, x_51, x_52, x_53, x_54, x_55, hS_x_7, hT_x_43, hT_x_44, hT_x_47, hT_x_48, hT_x_49, hT_x_50, hT_x_51, hT_x_52, hT_x_53, hb_x_54, hb_x_55⟩ := hTy.k9 hT_x_7
    refine pl_get (ci := 9) (v := .int x_45) (C := RX9) (T := TX9) (N := 13) hx hb hT iX9 hown hK hW hT_x_7.1 hS_x_7 rfl 2 (by decide) w268 rfl dX11_solveKind_41 ?_
    refine lv_if_eq (tgt := 54) hx hb dX11_solveKind_44 (by decide) (fun c_44 => ?_) (fun c_44 => ?_)
    · refine lv_aload_n hx hb dX11_solveKind_54 rfl (lv_at hl 0 rfl) ?_
      refine lv_iload_n hx hb dX11_solveKind_55 rfl (lv_at hl 1 rfl) ?_
      refine pl_put (ci := 11) (v := .int kd) (ty := .int) (C := RX11) (T := TX11) (N := 13) (fs' := [.ref x_1, .ref x_2, .ref x_3, .ref x_4, .ref x_5, .ref x_6, .ref x_7, .ref x_8, .ref x_9, .ref x_10, .ref x_11, .ref x_12, .int kd]) hx hb hT iX11 tyX11 tyX11_ok nmX11 hown hK hW hT_o.1 hS_o rfl 12 (by decide) w365 rfl (by decide +kernel) rfl rfl (Nat.le_of_ble_eq_true rfl) rfl dX11_solveKind_56 (fun H locs S_56 e1 hW => ?_)
      have hTy := hTy.u11 e1 hT_o ⟨x_1, x_2, x_3, x_4, x_5, x_6, x_7, x_8, x_9, x_10, x_11, x_12, kd, rfl, hT_x_1, hT_x_2, hT_x_3, hT_x_4, hT_x_5, hT_x_6, hT_x_7, hT_x_8, hT_x_9, hT_x_10, hT_x_11, hT_x_12⟩
      have hS_x_7 := un e1 hT_x_7 hT_o (by decide) hS_x_7
      have hFr := uf hFr e1 hT_o (by decide) (by decide)
      have hS_o := us e1
      exact W.vret hx hb hr (fun t ht h9 => ⟨⟨S_56, rfl, ⟨hTy, hFr⟩, by rw [ht]; exact hW.1, va_K.moved h9.alike hK, hW.2.1⟩, hW.2.2.F ht⟩) hW.2.2.2.2 dX11_solveKind_59
    · refine lv_aload_n hx hb dX11_solveKind_47 rfl (lv_at hl 0 rfl) ?_
      refine pl_get (ci := 11) (v := .ref x_7) (C := RX11) (T := TX11) (N := 13) hx hb hT iX11 hown hK hW hT_o.1 hS_o rfl 6 (by decide) w359 rfl dX11_solveKind_48 ?_
      refine pl_callv (va_runV (As := []) (rest := []) ⟨hx, hb, hml, hown, hT⟩ (s_findFirst l dC dI cy L kap pr S_42 H.size x_7 hTy hT_x_7) (cwV 0 hT (gV w817 w818 w819 w11 w820) rfl rfl rfl (by decide +kernel) ⟨(Nat.le_of_ble_eq_true rfl), (Nat.le_of_ble_eq_true rfl)⟩) ⟨pcN.blind, pl_recv hK hW hT_x_7.1 hS_x_7 rfl, pcN.pre hW.1 hK hW.2.1 hN (fun q h => absurd h List.not_mem_nil)⟩ rfl rfl hl.1 rfl (lv_room (Nat.le_of_ble_eq_true rfl)) dX11_solveKind_51 ⟨(Nat.le_of_ble_eq_true rfl), (Nat.le_of_ble_eq_true rfl)⟩) hW hA0 hA (fun S_57 H locs hrel hW => ?_)
      obtain ⟨hTy, hF1⟩ := hrel
      have hFr := hFr.tr hF1 (by decide)
      have hS_o := hF1.at hT_o (by decide) hS_o
      have hS_x_7 := hF1.at hT_x_7 (by decide) hS_x_7
      refine lv_aload_n hx hb dX11_solveKind_54 rfl (lv_at hl 0 rfl) ?_
      refine lv_iload_n hx hb dX11_solveKind_55 rfl (lv_at hl 1 rfl) ?_
      refine pl_put (ci := 11) (v := .int kd) (ty := .int) (C := RX11) (T := TX11) (N := 13) (fs' := [.ref x_1, .ref x_2, .ref x_3, .ref x_4, .ref x_5, .ref x_6, .ref x_7, .ref x_8, .ref x_9, .ref x_10, .ref x_11, .ref x_12, .int kd]) hx hb hT iX11 tyX11 tyX11_ok nmX11 hown hK hW hT_o.1 hS_o rfl 12 (by decide) w365 rfl (by decide +kernel) rfl rfl (Nat.le_of_ble_eq_true rfl) rfl dX11_solveKind_56 (fun H locs S_58 e1 hW => ?_)
      have hTy := hTy.u11 e1 hT_o ⟨x_1, x_2, x_3, x_4, x_5, x_6, x_7, x_8, x_9, x_10, x_11, x_12, kd, rfl, hT_x_1, hT_x_2, hT_x_3, hT_x_4, hT_x_5, hT_x_6, hT_x_7, hT_x_8, hT_x_9, hT_x_10, hT_x_11, hT_x_12⟩
      have hS_x_7 := un e1 hT_x_7 hT_o (by decide) hS_x_7
      have hFr := uf hFr e1 hT_o (by decide) (by decide)
      have hS_o := us e1
      exact W.vret hx hb hr (fun t ht h9 => ⟨⟨S_58, rfl, ⟨hTy, hFr⟩, by rw [ht]; exact hW.1, va_K.moved h9.alike hK, hW.2.1⟩, hW.2.2.F ht⟩) hW.2.2.2.2 dX11_solveKind_59
  · exact W.vret hx hb hr (fun t ht h9 => ⟨⟨S, rfl, ⟨hTy, hFr⟩, by rw [ht]; exact hW.1, va_K.moved h9.alike hK, hW.2.1⟩, hW.2.2.F ht⟩) hW.2.2.2.2 dX11_solveKind_8

set_option maxHeartbeats 4000000 in
set_option maxRecDepth 100000 in
theorem o_prepTrial (l : Launch) (dC : Nat → ClassId) (dI : Nat → Nat → Nat) (cy : Nat → ClassId) (L : List Nat) (kap : Nat → Nat) (pr : Pr) (S : Nat → va_E) (sz : Nat) (o : Nat) (kd : Int32) (wo : Int32) (hTy : Ty cy L kap pr S) (hT_o : TK L kap o 11) : Met l yX11_prepareTrial (wT yX11_prepareTrial cX11_prepareTrial 3 none) ({ frames := 5, cells := 0, slots := 0, locals := 111 }) (pcN dC dI [.ref o, .int kd, .int wo] sz (va_pl L S) (cyT cy) NLs []) (va_Qv (fun S' => Ty cy L kap pr S' ∧ Fr kap [1, 9, 29, 33, 44] S S') (fun S' t => pB dC dI (AL L sz) (va_pl L S') (cyT cy) t) (AL L sz)) 0 0 (AL L sz) := by
  refine Met.ofW (cc := cX11_prepareTrial) (maxL := 3) (ret := none) (by decide) rfl ?_
  intro p e s m args below meth c s₁ B hml hv
  obtain ⟨rfl, hsz, hP, hK, hD0, hN, -⟩ := hv
  have hx := B.exec
  have hb := B.bytes
  have hr := B.returns
  have hT : ∀ wd ∈ TB, wd.before [.ref o, .int kd, .int wo].toArray s = true := fun wd h => atoms_spec (ws := wT yX11_prepareTrial cX11_prepareTrial 3 none) B.pre wd (List.mem_cons_of_mem _ h)
  have hown : s.vm.findClass RX11 = some m.cls := findClass_of_methodNamed B.named
  have hlocks := B.notSynchronized
  subst hsz
  have hW : PW dC dI L (AL L s.heap.size) s.heap S s.heap [] := ⟨hP, pl_self hD0, va_S.rf⟩
  have hA0 : ∀ q, q ∈ L → AL L s.heap.size q := fun _ h => Or.inl h
  have hA : ∀ q, s.heap.size ≤ q → AL L s.heap.size q := fun _ h => Or.inr h
  have hFr : Fr kap [1, 9, 29, 33, 44] S S := Fr.rf
  have hl := lv_entry ([.ref o, .int kd, .int wo]) (n := 3) (Nat.le_of_ble_eq_true rfl)
  rw [lg_entry_eq]
  generalize (lg_sl ([.ref o, .int kd, .int wo]) ++ List.replicate (3 - (lg_sl ([.ref o, .int kd, .int wo])).length) Slot.unset).toArray = ls at hl ⊢
  have hl : lv_has ls 3 [(0, .ref o), (1, .int kd), (2, .int wo)] := hl
  refine lv_aload_n hx hb dX11_prepareTrial_0 rfl (lv_at hl 0 rfl) ?_
  refine lv_iload_n hx hb dX11_prepareTrial_1 rfl (lv_at hl 1 rfl) ?_
  refine lv_iload_n hx hb dX11_prepareTrial_2 rfl (lv_at hl 2 rfl) ?_
  obtain ⟨x_1, x_2, x_3, x_4, x_5, x_6, x_7, x_8, x_9, x_10, x_11, x_12, x_13, hS_o, hT_x_1, hT_x_2, hT_x_3, hT_x_4, hT_x_5, hT_x_6, hT_x_7, hT_x_8, hT_x_9, hT_x_10, hT_x_11, hT_x_12⟩ := hTy.k11 hT_o
  refine pl_callv (va_runV (As := [.int kd, .int wo]) (rest := []) ⟨hx, hb, hml, hown, hT⟩ (o_gather l dC dI cy L kap pr S s.heap.size o kd wo hTy hT_o) (cwV 2 hT (gV w669 w671 ws30 w1 w672) rfl rfl rfl (by decide +kernel) ⟨(Nat.le_of_ble_eq_true rfl), (Nat.le_of_ble_eq_true rfl)⟩) ⟨pcN.blind, pl_recv hK hW hT_o.1 hS_o rfl, pcN.pre hW.1 hK hW.2.1 hN (fun q h => absurd h List.not_mem_nil)⟩ rfl rfl hl.1 rfl (lv_room (Nat.le_of_ble_eq_true rfl)) dX11_prepareTrial_3 ⟨(Nat.le_of_ble_eq_true rfl), (Nat.le_of_ble_eq_true rfl)⟩) hW hA0 hA (fun S_14 H locs hrel hW => ?_)
  obtain ⟨hTy, hF1⟩ := hrel
  have hFr := hFr.tr hF1 (by decide)
  have hS_o := hF1.at hT_o (by decide) hS_o
  refine lv_aload_n hx hb dX11_prepareTrial_6 rfl (lv_at hl 0 rfl) ?_
  refine pl_get (ci := 11) (v := .ref x_8) (C := RX11) (T := TX11) (N := 13) hx hb hT iX11 hown hK hW hT_o.1 hS_o rfl 7 (by decide) w360 rfl dX11_prepareTrial_7 ?_
  refine lv_aload_n hx hb dX11_prepareTrial_10 rfl (lv_at hl 0 rfl) ?_
  refine pl_get (ci := 11) (v := .ref x_12) (C := RX11) (T := TX11) (N := 13) hx hb hT iX11 hown hK hW hT_o.1 hS_o rfl 11 (by decide) w364 rfl dX11_prepareTrial_11 ?_
  refine lv_aload_n hx hb dX11_prepareTrial_14 rfl (lv_at hl 0 rfl) ?_
  refine pl_get (ci := 11) (v := .ref x_4) (C := RX11) (T := TX11) (N := 13) hx hb hT iX11 hown hK hW hT_o.1 hS_o rfl 3 (by decide) w356 rfl dX11_prepareTrial_15 ?_
  obtain ⟨x_15, x_16, x_17, x_18, x_19, x_20, x_21, x_22, x_23, x_24, x_25, x_26, x_27, hS_x_8, hT_x_15, hT_x_16, hT_x_19, hT_x_20, hT_x_21, hT_x_22, hT_x_23, hT_x_24, hT_x_25, hb_x_26, hb_x_27⟩ := hTy.k9 hT_x_8
  refine pl_callv (va_runV (As := [.ref x_12, .ref x_4]) (rest := []) ⟨hx, hb, hml, hown, hT⟩ (s_prepare l dC dI cy L kap pr S_14 H.size x_8 x_12 x_4 hTy hT_x_8 hT_x_12 hT_x_4) (cwV 2 hT (gV w733 w734 w735 w11 w736) rfl rfl rfl (by decide +kernel) ⟨(Nat.le_of_ble_eq_true rfl), (Nat.le_of_ble_eq_true rfl)⟩) ⟨pcN.blind, pl_recv hK hW hT_x_8.1 hS_x_8 rfl, pcN.pre hW.1 hK hW.2.1 hN (fun q h => absurd h List.not_mem_nil)⟩ rfl rfl hl.1 rfl (lv_room (Nat.le_of_ble_eq_true rfl)) dX11_prepareTrial_18 ⟨(Nat.le_of_ble_eq_true rfl), (Nat.le_of_ble_eq_true rfl)⟩) hW hA0 hA (fun S_28 H locs hrel hW => ?_)
  obtain ⟨hTy, hF1⟩ := hrel
  have hFr := hFr.tr hF1 (by decide)
  have hS_o := hF1.at hT_o (by decide) hS_o
  exact W.vret hx hb hr (fun t ht h9 => ⟨⟨S_28, rfl, ⟨hTy, hFr⟩, by rw [ht]; exact hW.1, va_K.moved h9.alike hK, hW.2.1⟩, hW.2.2.F ht⟩) hW.2.2.2.2 dX11_prepareTrial_21

set_option maxHeartbeats 4000000 in
set_option maxRecDepth 100000 in
theorem o_reliefOf (l : Launch) (dC : Nat → ClassId) (dI : Nat → Nat → Nat) (cy : Nat → ClassId) (L : List Nat) (kap : Nat → Nat) (pr : Pr) (S : Nat → va_E) (sz : Nat) (o : Nat) (pa : Nat) (hTy : Ty cy L kap pr S) (hT_o : TK L kap o 11) (hb_pa : pa < 8) : Met l yX11_reliefOf (wT yX11_reliefOf cX11_reliefOf 2 (some .long)) ({ frames := 3, cells := 0, slots := 0, locals := 66 }) (pcN dC dI [.ref o, .int (nI pa)] sz (va_pl L S) (cyT cy) NLs []) (vp_Sl (fun r => True)) 0 0 (fun _ => False) := by
  refine Met.ofW (cc := cX11_reliefOf) (maxL := 2) (ret := (some .long)) (by decide) rfl ?_
  intro p e s m args below meth c s₁ B hml hv
  obtain ⟨rfl, hsz, hP, hK, hD0, hN, -⟩ := hv
  have hx := B.exec
  have hb := B.bytes
  have hr := B.returns
  have hT : ∀ wd ∈ TB, wd.before [.ref o, .int (nI pa)].toArray s = true := fun wd h => atoms_spec (ws := wT yX11_reliefOf cX11_reliefOf 2 (some .long)) B.pre wd (List.mem_cons_of_mem _ h)
  have hown : s.vm.findClass RX11 = some m.cls := findClass_of_methodNamed B.named
  have hlocks := B.notSynchronized
  subst hsz
  have hW : PW dC dI L (AL L s.heap.size) s.heap S s.heap [] := ⟨hP, pl_self hD0, va_S.rf⟩
  have hFr : Fr kap [] S S := Fr.rf
  have hl := lv_entry ([.ref o, .int (nI pa)]) (n := 2) (Nat.le_of_ble_eq_true rfl)
  rw [lg_entry_eq]
  generalize (lg_sl ([.ref o, .int (nI pa)]) ++ List.replicate (2 - (lg_sl ([.ref o, .int (nI pa)])).length) Slot.unset).toArray = ls at hl ⊢
  have hl : lv_has ls 2 [(0, .ref o), (1, .int (nI pa))] := hl
  refine lv_aload_n hx hb dX11_reliefOf_0 rfl (lv_at hl 0 rfl) ?_
  obtain ⟨x_1, x_2, x_3, x_4, x_5, x_6, x_7, x_8, x_9, x_10, x_11, x_12, x_13, hS_o, hT_x_1, hT_x_2, hT_x_3, hT_x_4, hT_x_5, hT_x_6, hT_x_7, hT_x_8, hT_x_9, hT_x_10, hT_x_11, hT_x_12⟩ := hTy.k11 hT_o
  refine pl_get (ci := 11) (v := .ref x_4) (C := RX11) (T := TX11) (N := 13) hx hb hT iX11 hown hK hW hT_o.1 hS_o rfl 3 (by decide) w356 rfl dX11_reliefOf_1 ?_
  refine lv_iload_n hx hb dX11_reliefOf_4 rfl (lv_at hl 1 rfl) ?_
  obtain ⟨x_14, x_15, hS_x_4, hT_x_14, hb_x_15⟩ := hTy.k1 hT_x_4
  refine vp_callSl (va_Run.run (va_runV (As := [.int (nI pa)]) (rest := []) ⟨hx, hb, hml, hown, hT⟩ (s_outOf l dC dI cy L kap pr S s.heap.size x_4 pa hTy hT_x_4 (by omega)) (cwV 1 hT (gV w991 w743 w744 w8 w745) rfl rfl rfl (by decide +kernel) ⟨(Nat.le_of_ble_eq_true rfl), (Nat.le_of_ble_eq_true rfl)⟩) ⟨pcN.blind, pl_recv hK hW hT_x_4.1 hS_x_4 rfl, pcN.pre hW.1 hK hW.2.1 hN (fun q h => absurd h List.not_mem_nil)⟩ rfl rfl hl.1 rfl (lv_room (Nat.le_of_ble_eq_true rfl)) dX11_reliefOf_5 ⟨(Nat.le_of_ble_eq_true rfl), (Nat.le_of_ble_eq_true rfl)⟩)) (fun r_16 hr_16 => ?_)
  refine lv_aload_n hx hb dX11_reliefOf_8 rfl (lv_at hl 0 rfl) ?_
  refine pl_get (ci := 11) (v := .ref x_4) (C := RX11) (T := TX11) (N := 13) hx hb hT iX11 hown hK hW hT_o.1 hS_o rfl 3 (by decide) w356 rfl dX11_reliefOf_9 ?_
  refine lv_iload_n hx hb dX11_reliefOf_12 rfl (lv_at hl 1 rfl) ?_
  refine vp_callSl (va_Run.run (va_runV (As := [.int (nI pa)]) (rest := [.long r_16]) ⟨hx, hb, hml, hown, hT⟩ (s_into l dC dI cy L kap pr S s.heap.size x_4 pa hTy hT_x_4 (by omega)) (cwV 1 hT (gV w992 w750 w751 w8 w752) rfl rfl rfl (by decide +kernel) ⟨(Nat.le_of_ble_eq_true rfl), (Nat.le_of_ble_eq_true rfl)⟩) ⟨pcN.blind, pl_recv hK hW hT_x_4.1 hS_x_4 rfl, pcN.pre hW.1 hK hW.2.1 hN (fun q h => absurd h List.not_mem_nil)⟩ rfl rfl hl.1 rfl (lv_room (Nat.le_of_ble_eq_true rfl)) dX11_reliefOf_13 ⟨(Nat.le_of_ble_eq_true rfl), (Nat.le_of_ble_eq_true rfl)⟩)) (fun r_17 hr_17 => ?_)
  refine lv_ladd hx hb dX11_reliefOf_16 ?_
  refine lv_topl (fun z_18 ez_18 => ?_)
  refine lv_aload_n hx hb dX11_reliefOf_17 rfl (lv_at hl 0 rfl) ?_
  refine pl_get (ci := 11) (v := .ref x_7) (C := RX11) (T := TX11) (N := 13) hx hb hT iX11 hown hK hW hT_o.1 hS_o rfl 6 (by decide) w359 rfl dX11_reliefOf_18 ?_
  obtain ⟨x_19, x_20, x_21, x_22, x_23, x_24, x_25, x_26, x_27, x_28, x_29, x_30, x_31, hS_x_7, hT_x_19, hT_x_20, hT_x_23, hT_x_24, hT_x_25, hT_x_26, hT_x_27, hT_x_28, hT_x_29, hb_x_30, hb_x_31⟩ := hTy.k9 hT_x_7
  refine pl_get (ci := 9) (v := .ref x_20) (C := RX9) (T := TX9) (N := 13) hx hb hT iX9 hown hK hW hT_x_7.1 hS_x_7 rfl 1 (by decide) w266 rfl dX11_reliefOf_21 ?_
  refine lv_iload_n hx hb dX11_reliefOf_24 rfl (lv_at hl 1 rfl) ?_
  refine vp_callSl (va_Run.run (va_runS (As := [.ref x_20, .int (nI pa)]) (rest := [.long z_18]) ⟨hx, hb, hml, hown, hT⟩ (s_sumOut43 l dC dI cy L kap pr S s.heap.size x_20 pa hTy hT_x_20 (by omega)) (va_cwS 2 hT (gS w1001 w747 w1 w748) rfl rfl rfl (by decide +kernel) ⟨(Nat.le_of_ble_eq_true rfl), (Nat.le_of_ble_eq_true rfl)⟩) ⟨pcN.blind, pcN.pre hW.1 hK hW.2.1 hN (fun q h => absurd h List.not_mem_nil)⟩ rfl rfl hl.1 rfl (lv_room (Nat.le_of_ble_eq_true rfl)) dX11_reliefOf_25 ⟨(Nat.le_of_ble_eq_true rfl), (Nat.le_of_ble_eq_true rfl)⟩)) (fun r_32 hr_32 => ?_)
  refine lv_lsub hx hb dX11_reliefOf_28 ?_
  refine lv_topl (fun z_33 ez_33 => ?_)
  refine lv_aload_n hx hb dX11_reliefOf_29 rfl (lv_at hl 0 rfl) ?_
  refine pl_get (ci := 11) (v := .ref x_7) (C := RX11) (T := TX11) (N := 13) hx hb hT iX11 hown hK hW hT_o.1 hS_o rfl 6 (by decide) w359 rfl dX11_reliefOf_30 ?_
  refine pl_get (ci := 9) (v := .ref x_20) (C := RX9) (T := TX9) (N := 13) hx hb hT iX9 hown hK hW hT_x_7.1 hS_x_7 rfl 1 (by decide) w266 rfl dX11_reliefOf_33 ?_
  refine lv_iload_n hx hb dX11_reliefOf_36 rfl (lv_at hl 1 rfl) ?_
  refine vp_callSl (va_Run.run (va_runS (As := [.ref x_20, .int (nI pa)]) (rest := [.long z_33]) ⟨hx, hb, hml, hown, hT⟩ (s_sumIn43 l dC dI cy L kap pr S s.heap.size x_20 pa hTy hT_x_20 (by omega)) (va_cwS 2 hT (gS w1002 w754 w1 w755) rfl rfl rfl (by decide +kernel) ⟨(Nat.le_of_ble_eq_true rfl), (Nat.le_of_ble_eq_true rfl)⟩) ⟨pcN.blind, pcN.pre hW.1 hK hW.2.1 hN (fun q h => absurd h List.not_mem_nil)⟩ rfl rfl hl.1 rfl (lv_room (Nat.le_of_ble_eq_true rfl)) dX11_reliefOf_37 ⟨(Nat.le_of_ble_eq_true rfl), (Nat.le_of_ble_eq_true rfl)⟩)) (fun r_34 hr_34 => ?_)
  refine lv_lsub hx hb dX11_reliefOf_40 ?_
  refine lv_topl (fun z_35 ez_35 => ?_)
  exact W.lret (v := z_35) hx hb hr (fun t ht h9 => ⟨z_35, rfl, trivial, ht⟩) (fun q h => by cases h) dX11_reliefOf_41

