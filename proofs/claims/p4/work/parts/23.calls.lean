theorem w2 : (.initialized RX10 : Cond) ∈ TB := mTB (List.mem_of_getElem? (i := 2) (by decide +kernel)) (by decide +kernel)
theorem w38 : (.fieldLink RX11 95 "SwapPress$Tape" "length" "I" : Cond) ∈ TB := mTB (List.mem_of_getElem? (i := 38) (by decide +kernel)) (by decide +kernel)
theorem w91 : (.fieldLink RX11 202 "SwapPress$Book" "from" "[I" : Cond) ∈ TB := mTB (List.mem_of_getElem? (i := 91) (by decide +kernel)) (by decide +kernel)
theorem w95 : (.fieldLink RX11 205 "SwapPress$Book" "to" "[I" : Cond) ∈ TB := mTB (List.mem_of_getElem? (i := 95) (by decide +kernel)) (by decide +kernel)
theorem w99 : (.fieldLink RX11 211 "SwapPress$Book" "kind" "[I" : Cond) ∈ TB := mTB (List.mem_of_getElem? (i := 99) (by decide +kernel)) (by decide +kernel)
theorem w103 : (.fieldLink RX11 208 "SwapPress$Book" "amount" "[J" : Cond) ∈ TB := mTB (List.mem_of_getElem? (i := 103) (by decide +kernel)) (by decide +kernel)
theorem w107 : (.fieldLink RX11 139 "SwapPress$Book" "kept" "[Z" : Cond) ∈ TB := mTB (List.mem_of_getElem? (i := 107) (by decide +kernel)) (by decide +kernel)
theorem w140 : (.fieldLink RX11 105 "SwapPress$Reader" "fault" "I" : Cond) ∈ TB := mTB (List.mem_of_getElem? (i := 140) (by decide +kernel)) (by decide +kernel)
theorem w142 : (.fieldLink RX11 115 "SwapPress$Reader" "place" "I" : Cond) ∈ TB := mTB (List.mem_of_getElem? (i := 142) (by decide +kernel)) (by decide +kernel)
theorem w185 : (.fieldLink RX11 111 "SwapPress$Past" "size" "I" : Cond) ∈ TB := mTB (List.mem_of_getElem? (i := 185) (by decide +kernel)) (by decide +kernel)
theorem w217 : (.fieldLink RX11 163 "SwapPress$Rings" "party" "[I" : Cond) ∈ TB := mTB (List.mem_of_getElem? (i := 217) (by decide +kernel)) (by decide +kernel)
theorem w219 : (.fieldLink RX11 158 "SwapPress$Rings" "size" "I" : Cond) ∈ TB := mTB (List.mem_of_getElem? (i := 219) (by decide +kernel)) (by decide +kernel)
theorem w221 : (.fieldLink RX11 261 "SwapPress$Rings" "takenAmount" "J" : Cond) ∈ TB := mTB (List.mem_of_getElem? (i := 221) (by decide +kernel)) (by decide +kernel)
theorem w223 : (.fieldLink RX11 265 "SwapPress$Rings" "takenRings" "I" : Cond) ∈ TB := mTB (List.mem_of_getElem? (i := 223) (by decide +kernel)) (by decide +kernel)
theorem w246 : (.fieldLink RX11 273 "SwapPress$Row" "party" "[I" : Cond) ∈ TB := mTB (List.mem_of_getElem? (i := 246) (by decide +kernel)) (by decide +kernel)
theorem w248 : (.fieldLink RX11 272 "SwapPress$Row" "size" "I" : Cond) ∈ TB := mTB (List.mem_of_getElem? (i := 248) (by decide +kernel)) (by decide +kernel)
theorem w264 : (.fieldLink RX11 283 "SwapPress$Solver" "bounds" "[J" : Cond) ∈ TB := mTB (List.mem_of_getElem? (i := 264) (by decide +kernel)) (by decide +kernel)
theorem w270 : (.fieldLink RX11 274 "SwapPress$Solver" "sum" "J" : Cond) ∈ TB := mTB (List.mem_of_getElem? (i := 270) (by decide +kernel)) (by decide +kernel)
theorem w314 : (.fieldLink RX11 320 "SwapPress$Groups" "size" "I" : Cond) ∈ TB := mTB (List.mem_of_getElem? (i := 314) (by decide +kernel)) (by decide +kernel)
theorem w316 : (.fieldLink RX11 321 "SwapPress$Groups" "most" "I" : Cond) ∈ TB := mTB (List.mem_of_getElem? (i := 316) (by decide +kernel)) (by decide +kernel)
theorem w338 : (.fieldLink RX11 334 "SwapPress$Page" "bytes" "[B" : Cond) ∈ TB := mTB (List.mem_of_getElem? (i := 338) (by decide +kernel)) (by decide +kernel)
theorem w340 : (.fieldLink RX11 333 "SwapPress$Page" "length" "I" : Cond) ∈ TB := mTB (List.mem_of_getElem? (i := 340) (by decide +kernel)) (by decide +kernel)
theorem w353 : (.fieldLink RX11 12 "SwapPress" "tape" "LSwapPress$Tape;" : Cond) ∈ TB := mTB (List.mem_of_getElem? (i := 353) (by decide +kernel)) (by decide +kernel)
theorem w358 : (.fieldLink RX11 49 "SwapPress" "row" "LSwapPress$Row;" : Cond) ∈ TB := mTB (List.mem_of_getElem? (i := 358) (by decide +kernel)) (by decide +kernel)
theorem w361 : (.fieldLink RX11 66 "SwapPress" "groups" "LSwapPress$Groups;" : Cond) ∈ TB := mTB (List.mem_of_getElem? (i := 361) (by decide +kernel)) (by decide +kernel)
theorem w362 : (.fieldLink RX11 73 "SwapPress" "page" "LSwapPress$Page;" : Cond) ∈ TB := mTB (List.mem_of_getElem? (i := 362) (by decide +kernel)) (by decide +kernel)
theorem w397 : (.methodLink RX11 98 yX10_append : Cond) ∈ TB := mTB (List.mem_of_getElem? (i := 397) (by decide +kernel)) (by decide +kernel)
theorem w398 : (.instanceMethod yX10_append : Cond) ∈ TB := mTB (List.mem_of_getElem? (i := 398) (by decide +kernel)) (by decide +kernel)
theorem w399 : (.selects RX10 yX10_append yX10_append : Cond) ∈ TB := mTB (List.mem_of_getElem? (i := 399) (by decide +kernel)) (by decide +kernel)
theorem w400 : (.code yX10_append cX10_append 3 none : Cond) ∈ TB := mTB (List.mem_of_getElem? (i := 400) (by decide +kernel)) (by decide +kernel)
theorem w405 : (.methodLink RX11 102 yX6_read : Cond) ∈ TB := mTB (List.mem_of_getElem? (i := 405) (by decide +kernel)) (by decide +kernel)
theorem w406 : (.instanceMethod yX6_read : Cond) ∈ TB := mTB (List.mem_of_getElem? (i := 406) (by decide +kernel)) (by decide +kernel)
theorem w407 : (.selects RX6 yX6_read yX6_read : Cond) ∈ TB := mTB (List.mem_of_getElem? (i := 407) (by decide +kernel)) (by decide +kernel)
theorem w408 : (.code yX6_read cX6_read 3 none : Cond) ∈ TB := mTB (List.mem_of_getElem? (i := 408) (by decide +kernel)) (by decide +kernel)
theorem w586 : (.methodLink RX11 108 yX11_takeOver : Cond) ∈ TB := mTB (List.mem_of_getElem? (i := 586) (by decide +kernel)) (by decide +kernel)
theorem w588 : (.instanceMethod yX11_takeOver : Cond) ∈ TB := mTB (List.mem_of_getElem? (i := 588) (by decide +kernel)) (by decide +kernel)
theorem w589 : (.code yX11_takeOver cX11_takeOver 3 none : Cond) ∈ TB := mTB (List.mem_of_getElem? (i := 589) (by decide +kernel)) (by decide +kernel)
theorem w598 : (.methodLink RX11 118 yX11_noCouple : Cond) ∈ TB := mTB (List.mem_of_getElem? (i := 598) (by decide +kernel)) (by decide +kernel)
theorem w600 : (.instanceMethod yX11_noCouple : Cond) ∈ TB := mTB (List.mem_of_getElem? (i := 600) (by decide +kernel)) (by decide +kernel)
theorem w601 : (.code yX11_noCouple cX11_noCouple 3 (some .boolean) : Cond) ∈ TB := mTB (List.mem_of_getElem? (i := 601) (by decide +kernel)) (by decide +kernel)
theorem w606 : (.methodLink RX11 122 yX11_noKind : Cond) ∈ TB := mTB (List.mem_of_getElem? (i := 606) (by decide +kernel)) (by decide +kernel)
theorem w608 : (.instanceMethod yX11_noKind : Cond) ∈ TB := mTB (List.mem_of_getElem? (i := 608) (by decide +kernel)) (by decide +kernel)
theorem w609 : (.code yX11_noKind cX11_noKind 2 (some .boolean) : Cond) ∈ TB := mTB (List.mem_of_getElem? (i := 609) (by decide +kernel)) (by decide +kernel)
theorem w610 : (.constant RX11 126 999999 : Cond) ∈ TB := mTB (List.mem_of_getElem? (i := 610) (by decide +kernel)) (by decide +kernel)
theorem w611 : (.methodLink RX11 127 yX11_rememberAct : Cond) ∈ TB := mTB (List.mem_of_getElem? (i := 611) (by decide +kernel)) (by decide +kernel)
theorem w613 : (.instanceMethod yX11_rememberAct : Cond) ∈ TB := mTB (List.mem_of_getElem? (i := 613) (by decide +kernel)) (by decide +kernel)
theorem w614 : (.code yX11_rememberAct cX11_rememberAct 1 none : Cond) ∈ TB := mTB (List.mem_of_getElem? (i := 614) (by decide +kernel)) (by decide +kernel)
theorem w634 : (.methodLink RX11 130 yX0_append : Cond) ∈ TB := mTB (List.mem_of_getElem? (i := 634) (by decide +kernel)) (by decide +kernel)
theorem w639 : (.methodLink RX11 133 yX11_noTrade : Cond) ∈ TB := mTB (List.mem_of_getElem? (i := 639) (by decide +kernel)) (by decide +kernel)
theorem w641 : (.instanceMethod yX11_noTrade : Cond) ∈ TB := mTB (List.mem_of_getElem? (i := 641) (by decide +kernel)) (by decide +kernel)
theorem w642 : (.code yX11_noTrade cX11_noTrade 2 (some .boolean) : Cond) ∈ TB := mTB (List.mem_of_getElem? (i := 642) (by decide +kernel)) (by decide +kernel)
theorem w643 : (.methodLink RX11 136 yX0_remove : Cond) ∈ TB := mTB (List.mem_of_getElem? (i := 643) (by decide +kernel)) (by decide +kernel)
theorem w659 : (.constant RX11 146 99999999 : Cond) ∈ TB := mTB (List.mem_of_getElem? (i := 659) (by decide +kernel)) (by decide +kernel)
theorem w665 : (.methodLink RX11 155 yX11_findRing : Cond) ∈ TB := mTB (List.mem_of_getElem? (i := 665) (by decide +kernel)) (by decide +kernel)
theorem w667 : (.instanceMethod yX11_findRing : Cond) ∈ TB := mTB (List.mem_of_getElem? (i := 667) (by decide +kernel)) (by decide +kernel)
theorem w668 : (.code yX11_findRing cX11_findRing 2 none : Cond) ∈ TB := mTB (List.mem_of_getElem? (i := 668) (by decide +kernel)) (by decide +kernel)
theorem w706 : (.methodLink RX11 159 yX7_leastFlow : Cond) ∈ TB := mTB (List.mem_of_getElem? (i := 706) (by decide +kernel)) (by decide +kernel)
theorem w718 : (.methodLink RX11 166 yX7_after : Cond) ∈ TB := mTB (List.mem_of_getElem? (i := 718) (by decide +kernel)) (by decide +kernel)
theorem w719 : (.methodLink RX11 170 yX0_lessen : Cond) ∈ TB := mTB (List.mem_of_getElem? (i := 719) (by decide +kernel)) (by decide +kernel)
theorem w720 : (.instanceMethod yX0_lessen : Cond) ∈ TB := mTB (List.mem_of_getElem? (i := 720) (by decide +kernel)) (by decide +kernel)
theorem w721 : (.selects RX0 yX0_lessen yX0_lessen : Cond) ∈ TB := mTB (List.mem_of_getElem? (i := 721) (by decide +kernel)) (by decide +kernel)
theorem w722 : (.code yX0_lessen cX0_lessen 11 none : Cond) ∈ TB := mTB (List.mem_of_getElem? (i := 722) (by decide +kernel)) (by decide +kernel)
theorem w729 : (.methodLink RX11 174 yX11_solveKind : Cond) ∈ TB := mTB (List.mem_of_getElem? (i := 729) (by decide +kernel)) (by decide +kernel)
theorem w731 : (.instanceMethod yX11_solveKind : Cond) ∈ TB := mTB (List.mem_of_getElem? (i := 731) (by decide +kernel)) (by decide +kernel)
theorem w732 : (.code yX11_solveKind cX11_solveKind 2 none : Cond) ∈ TB := mTB (List.mem_of_getElem? (i := 732) (by decide +kernel)) (by decide +kernel)
theorem w829 : (.methodLink RX11 181 yX0_openOf : Cond) ∈ TB := mTB (List.mem_of_getElem? (i := 829) (by decide +kernel)) (by decide +kernel)
theorem w830 : (.instanceMethod yX0_openOf : Cond) ∈ TB := mTB (List.mem_of_getElem? (i := 830) (by decide +kernel)) (by decide +kernel)
theorem w831 : (.selects RX0 yX0_openOf yX0_openOf : Cond) ∈ TB := mTB (List.mem_of_getElem? (i := 831) (by decide +kernel)) (by decide +kernel)
theorem w832 : (.code yX0_openOf cX0_openOf 4 (some .int) : Cond) ∈ TB := mTB (List.mem_of_getElem? (i := 832) (by decide +kernel)) (by decide +kernel)
theorem w833 : (.methodLink RX11 184 yX9_firstAboveZero : Cond) ∈ TB := mTB (List.mem_of_getElem? (i := 833) (by decide +kernel)) (by decide +kernel)
theorem w834 : (.instanceMethod yX9_firstAboveZero : Cond) ∈ TB := mTB (List.mem_of_getElem? (i := 834) (by decide +kernel)) (by decide +kernel)
theorem w835 : (.selects RX9 yX9_firstAboveZero yX9_firstAboveZero : Cond) ∈ TB := mTB (List.mem_of_getElem? (i := 835) (by decide +kernel)) (by decide +kernel)
theorem w836 : (.code yX9_firstAboveZero cX9_firstAboveZero 1 (some .int) : Cond) ∈ TB := mTB (List.mem_of_getElem? (i := 836) (by decide +kernel)) (by decide +kernel)
theorem w840 : (.methodLink RX11 188 yX0_removeOpen : Cond) ∈ TB := mTB (List.mem_of_getElem? (i := 840) (by decide +kernel)) (by decide +kernel)
theorem w841 : (.instanceMethod yX0_removeOpen : Cond) ∈ TB := mTB (List.mem_of_getElem? (i := 841) (by decide +kernel)) (by decide +kernel)
theorem w842 : (.selects RX0 yX0_removeOpen yX0_removeOpen : Cond) ∈ TB := mTB (List.mem_of_getElem? (i := 842) (by decide +kernel)) (by decide +kernel)
theorem w843 : (.code yX0_removeOpen cX0_removeOpen 3 none : Cond) ∈ TB := mTB (List.mem_of_getElem? (i := 843) (by decide +kernel)) (by decide +kernel)
theorem w848 : (.methodLink RX11 198 yX5_takeBack : Cond) ∈ TB := mTB (List.mem_of_getElem? (i := 848) (by decide +kernel)) (by decide +kernel)
theorem w849 : (.instanceMethod yX5_takeBack : Cond) ∈ TB := mTB (List.mem_of_getElem? (i := 849) (by decide +kernel)) (by decide +kernel)
theorem w850 : (.selects RX5 yX5_takeBack yX5_takeBack : Cond) ∈ TB := mTB (List.mem_of_getElem? (i := 850) (by decide +kernel)) (by decide +kernel)
theorem w851 : (.code yX5_takeBack cX5_takeBack 2 none : Cond) ∈ TB := mTB (List.mem_of_getElem? (i := 851) (by decide +kernel)) (by decide +kernel)
theorem w864 : (.methodLink RX11 224 yX1_netOf : Cond) ∈ TB := mTB (List.mem_of_getElem? (i := 864) (by decide +kernel)) (by decide +kernel)
theorem w865 : (.constantLong RX11 228 100000000 : Cond) ∈ TB := mTB (List.mem_of_getElem? (i := 865) (by decide +kernel)) (by decide +kernel)
theorem w866 : (.methodLink RX11 230 yX0_allFrom : Cond) ∈ TB := mTB (List.mem_of_getElem? (i := 866) (by decide +kernel)) (by decide +kernel)
theorem w867 : (.instanceMethod yX0_allFrom : Cond) ∈ TB := mTB (List.mem_of_getElem? (i := 867) (by decide +kernel)) (by decide +kernel)
theorem w868 : (.selects RX0 yX0_allFrom yX0_allFrom : Cond) ∈ TB := mTB (List.mem_of_getElem? (i := 868) (by decide +kernel)) (by decide +kernel)
theorem w869 : (.code yX0_allFrom cX0_allFrom 6 (some .long) : Cond) ∈ TB := mTB (List.mem_of_getElem? (i := 869) (by decide +kernel)) (by decide +kernel)
theorem w870 : (.methodLink RX11 234 yX0_allTo : Cond) ∈ TB := mTB (List.mem_of_getElem? (i := 870) (by decide +kernel)) (by decide +kernel)
theorem w871 : (.instanceMethod yX0_allTo : Cond) ∈ TB := mTB (List.mem_of_getElem? (i := 871) (by decide +kernel)) (by decide +kernel)
theorem w872 : (.selects RX0 yX0_allTo yX0_allTo : Cond) ∈ TB := mTB (List.mem_of_getElem? (i := 872) (by decide +kernel)) (by decide +kernel)
theorem w873 : (.code yX0_allTo cX0_allTo 6 (some .long) : Cond) ∈ TB := mTB (List.mem_of_getElem? (i := 873) (by decide +kernel)) (by decide +kernel)
theorem w878 : (.methodLink RX11 237 yX0_othersOf : Cond) ∈ TB := mTB (List.mem_of_getElem? (i := 878) (by decide +kernel)) (by decide +kernel)
theorem w879 : (.instanceMethod yX0_othersOf : Cond) ∈ TB := mTB (List.mem_of_getElem? (i := 879) (by decide +kernel)) (by decide +kernel)
theorem w880 : (.selects RX0 yX0_othersOf yX0_othersOf : Cond) ∈ TB := mTB (List.mem_of_getElem? (i := 880) (by decide +kernel)) (by decide +kernel)
theorem w881 : (.code yX0_othersOf cX0_othersOf 5 (some .int) : Cond) ∈ TB := mTB (List.mem_of_getElem? (i := 881) (by decide +kernel)) (by decide +kernel)
theorem w892 : (.methodLink RX11 240 yX1_sum : Cond) ∈ TB := mTB (List.mem_of_getElem? (i := 892) (by decide +kernel)) (by decide +kernel)
theorem w893 : (.instanceMethod yX1_sum : Cond) ∈ TB := mTB (List.mem_of_getElem? (i := 893) (by decide +kernel)) (by decide +kernel)
theorem w894 : (.selects RX1 yX1_sum yX1_sum : Cond) ∈ TB := mTB (List.mem_of_getElem? (i := 894) (by decide +kernel)) (by decide +kernel)
theorem w895 : (.code yX1_sum cX1_sum 4 (some .long) : Cond) ∈ TB := mTB (List.mem_of_getElem? (i := 895) (by decide +kernel)) (by decide +kernel)
theorem w896 : (.methodLink RX11 244 yX1_aboveZero : Cond) ∈ TB := mTB (List.mem_of_getElem? (i := 896) (by decide +kernel)) (by decide +kernel)
theorem w897 : (.instanceMethod yX1_aboveZero : Cond) ∈ TB := mTB (List.mem_of_getElem? (i := 897) (by decide +kernel)) (by decide +kernel)
theorem w898 : (.selects RX1 yX1_aboveZero yX1_aboveZero : Cond) ∈ TB := mTB (List.mem_of_getElem? (i := 898) (by decide +kernel)) (by decide +kernel)
theorem w899 : (.code yX1_aboveZero cX1_aboveZero 1 (some .int) : Cond) ∈ TB := mTB (List.mem_of_getElem? (i := 899) (by decide +kernel)) (by decide +kernel)
theorem w901 : (.methodLink RX11 247 yX0_keptOf : Cond) ∈ TB := mTB (List.mem_of_getElem? (i := 901) (by decide +kernel)) (by decide +kernel)
theorem w902 : (.instanceMethod yX0_keptOf : Cond) ∈ TB := mTB (List.mem_of_getElem? (i := 902) (by decide +kernel)) (by decide +kernel)
theorem w903 : (.selects RX0 yX0_keptOf yX0_keptOf : Cond) ∈ TB := mTB (List.mem_of_getElem? (i := 903) (by decide +kernel)) (by decide +kernel)
theorem w904 : (.code yX0_keptOf cX0_keptOf 5 (some .long) : Cond) ∈ TB := mTB (List.mem_of_getElem? (i := 904) (by decide +kernel)) (by decide +kernel)
theorem w905 : (.methodLink RX11 250 yX1_netsAboveZero : Cond) ∈ TB := mTB (List.mem_of_getElem? (i := 905) (by decide +kernel)) (by decide +kernel)
theorem w906 : (.instanceMethod yX1_netsAboveZero : Cond) ∈ TB := mTB (List.mem_of_getElem? (i := 906) (by decide +kernel)) (by decide +kernel)
theorem w907 : (.selects RX1 yX1_netsAboveZero yX1_netsAboveZero : Cond) ∈ TB := mTB (List.mem_of_getElem? (i := 907) (by decide +kernel)) (by decide +kernel)
theorem w908 : (.code yX1_netsAboveZero cX1_netsAboveZero 4 (some .long) : Cond) ∈ TB := mTB (List.mem_of_getElem? (i := 908) (by decide +kernel)) (by decide +kernel)
theorem w915 : (.methodLink RX11 253 yX11_boundOf : Cond) ∈ TB := mTB (List.mem_of_getElem? (i := 915) (by decide +kernel)) (by decide +kernel)
theorem w928 : (.methodLink RX11 257 yX7_takeOut : Cond) ∈ TB := mTB (List.mem_of_getElem? (i := 928) (by decide +kernel)) (by decide +kernel)
theorem w929 : (.instanceMethod yX7_takeOut : Cond) ∈ TB := mTB (List.mem_of_getElem? (i := 929) (by decide +kernel)) (by decide +kernel)
theorem w930 : (.selects RX7 yX7_takeOut yX7_takeOut : Cond) ∈ TB := mTB (List.mem_of_getElem? (i := 930) (by decide +kernel)) (by decide +kernel)
theorem w931 : (.code yX7_takeOut cX7_takeOut 7 none : Cond) ∈ TB := mTB (List.mem_of_getElem? (i := 931) (by decide +kernel)) (by decide +kernel)
theorem w942 : (.methodLink RX11 268 yX8_find : Cond) ∈ TB := mTB (List.mem_of_getElem? (i := 942) (by decide +kernel)) (by decide +kernel)
theorem w943 : (.instanceMethod yX8_find : Cond) ∈ TB := mTB (List.mem_of_getElem? (i := 943) (by decide +kernel)) (by decide +kernel)
theorem w944 : (.selects RX8 yX8_find yX8_find : Cond) ∈ TB := mTB (List.mem_of_getElem? (i := 944) (by decide +kernel)) (by decide +kernel)
theorem w945 : (.code yX8_find cX8_find 5 none : Cond) ∈ TB := mTB (List.mem_of_getElem? (i := 945) (by decide +kernel)) (by decide +kernel)
theorem w975 : (.methodLink RX11 276 yX9_farthest : Cond) ∈ TB := mTB (List.mem_of_getElem? (i := 975) (by decide +kernel)) (by decide +kernel)
theorem w976 : (.instanceMethod yX9_farthest : Cond) ∈ TB := mTB (List.mem_of_getElem? (i := 976) (by decide +kernel)) (by decide +kernel)
theorem w977 : (.selects RX9 yX9_farthest yX9_farthest : Cond) ∈ TB := mTB (List.mem_of_getElem? (i := 977) (by decide +kernel)) (by decide +kernel)
theorem w978 : (.code yX9_farthest cX9_farthest 6 (some .long) : Cond) ∈ TB := mTB (List.mem_of_getElem? (i := 978) (by decide +kernel)) (by decide +kernel)
theorem w983 : (.methodLink RX11 280 yX11_prepareTrial : Cond) ∈ TB := mTB (List.mem_of_getElem? (i := 983) (by decide +kernel)) (by decide +kernel)
theorem w985 : (.instanceMethod yX11_prepareTrial : Cond) ∈ TB := mTB (List.mem_of_getElem? (i := 985) (by decide +kernel)) (by decide +kernel)
theorem w986 : (.code yX11_prepareTrial cX11_prepareTrial 3 none : Cond) ∈ TB := mTB (List.mem_of_getElem? (i := 986) (by decide +kernel)) (by decide +kernel)
theorem w997 : (.methodLink RX11 295 yX11_reliefOf : Cond) ∈ TB := mTB (List.mem_of_getElem? (i := 997) (by decide +kernel)) (by decide +kernel)
theorem w999 : (.instanceMethod yX11_reliefOf : Cond) ∈ TB := mTB (List.mem_of_getElem? (i := 999) (by decide +kernel)) (by decide +kernel)
theorem w1000 : (.code yX11_reliefOf cX11_reliefOf 2 (some .long) : Cond) ∈ TB := mTB (List.mem_of_getElem? (i := 1000) (by decide +kernel)) (by decide +kernel)
theorem w1007 : (.methodLink RX11 298 yX1_throughOf : Cond) ∈ TB := mTB (List.mem_of_getElem? (i := 1007) (by decide +kernel)) (by decide +kernel)
theorem w1008 : (.methodLink RX11 308 Lib.MathLoose.min_long.x : Cond) ∈ TB := mTB (List.mem_of_getElem? (i := 1008) (by decide +kernel)) (by decide +kernel)
theorem w1021 : (.constantLong RX11 317 99999999 : Cond) ∈ TB := mTB (List.mem_of_getElem? (i := 1021) (by decide +kernel)) (by decide +kernel)
theorem w1026 : (.methodLink RX11 319 yX2_find : Cond) ∈ TB := mTB (List.mem_of_getElem? (i := 1026) (by decide +kernel)) (by decide +kernel)
theorem w1027 : (.instanceMethod yX2_find : Cond) ∈ TB := mTB (List.mem_of_getElem? (i := 1027) (by decide +kernel)) (by decide +kernel)
theorem w1028 : (.selects RX2 yX2_find yX2_find : Cond) ∈ TB := mTB (List.mem_of_getElem? (i := 1028) (by decide +kernel)) (by decide +kernel)
theorem w1029 : (.code yX2_find cX2_find 5 none : Cond) ∈ TB := mTB (List.mem_of_getElem? (i := 1029) (by decide +kernel)) (by decide +kernel)
theorem w1040 : (.methodLink RX11 324 yJ6_bitCount_0f7a4 : Cond) ∈ TB := mTB (List.mem_of_getElem? (i := 1040) (by decide +kernel)) (by decide +kernel)
theorem w1045 : (.methodLink RX11 329 yX4_write : Cond) ∈ TB := mTB (List.mem_of_getElem? (i := 1045) (by decide +kernel)) (by decide +kernel)
theorem w1046 : (.instanceMethod yX4_write : Cond) ∈ TB := mTB (List.mem_of_getElem? (i := 1046) (by decide +kernel)) (by decide +kernel)
theorem w1047 : (.selects RX4 yX4_write yX4_write : Cond) ∈ TB := mTB (List.mem_of_getElem? (i := 1047) (by decide +kernel)) (by decide +kernel)
theorem w1048 : (.code yX4_write cX4_write 4 none : Cond) ∈ TB := mTB (List.mem_of_getElem? (i := 1048) (by decide +kernel)) (by decide +kernel)
theorem w1067 : (.methodLink RX11 338 yX0_keptTrades : Cond) ∈ TB := mTB (List.mem_of_getElem? (i := 1067) (by decide +kernel)) (by decide +kernel)
theorem w1068 : (.instanceMethod yX0_keptTrades : Cond) ∈ TB := mTB (List.mem_of_getElem? (i := 1068) (by decide +kernel)) (by decide +kernel)
theorem w1069 : (.selects RX0 yX0_keptTrades yX0_keptTrades : Cond) ∈ TB := mTB (List.mem_of_getElem? (i := 1069) (by decide +kernel)) (by decide +kernel)
theorem w1070 : (.code yX0_keptTrades cX0_keptTrades 3 (some .int) : Cond) ∈ TB := mTB (List.mem_of_getElem? (i := 1070) (by decide +kernel)) (by decide +kernel)
theorem ws21 : (.selects RX11 yX11_takeOver yX11_takeOver : Cond) ∈ TB := mSel (y := yX11_takeOver) (n := 13) (List.mem_of_getElem? (i := 21) (by decide +kernel)) (by decide +kernel)
theorem ws22 : (.selects RX11 yX11_noCouple yX11_noCouple : Cond) ∈ TB := mSel (y := yX11_noCouple) (n := 13) (List.mem_of_getElem? (i := 22) (by decide +kernel)) (by decide +kernel)
theorem ws24 : (.selects RX11 yX11_noKind yX11_noKind : Cond) ∈ TB := mSel (y := yX11_noKind) (n := 13) (List.mem_of_getElem? (i := 24) (by decide +kernel)) (by decide +kernel)
theorem ws25 : (.selects RX11 yX11_rememberAct yX11_rememberAct : Cond) ∈ TB := mSel (y := yX11_rememberAct) (n := 13) (List.mem_of_getElem? (i := 25) (by decide +kernel)) (by decide +kernel)
theorem ws28 : (.selects RX11 yX11_noTrade yX11_noTrade : Cond) ∈ TB := mSel (y := yX11_noTrade) (n := 13) (List.mem_of_getElem? (i := 28) (by decide +kernel)) (by decide +kernel)
theorem ws29 : (.selects RX11 yX11_findRing yX11_findRing : Cond) ∈ TB := mSel (y := yX11_findRing) (n := 13) (List.mem_of_getElem? (i := 29) (by decide +kernel)) (by decide +kernel)
theorem ws35 : (.selects RX11 yX11_solveKind yX11_solveKind : Cond) ∈ TB := mSel (y := yX11_solveKind) (n := 13) (List.mem_of_getElem? (i := 35) (by decide +kernel)) (by decide +kernel)
theorem ws48 : (.selects RX11 yX11_prepareTrial yX11_prepareTrial : Cond) ∈ TB := mSel (y := yX11_prepareTrial) (n := 13) (List.mem_of_getElem? (i := 48) (by decide +kernel)) (by decide +kernel)
theorem ws49 : (.selects RX11 yX11_reliefOf yX11_reliefOf : Cond) ∈ TB := mSel (y := yX11_reliefOf) (n := 13) (List.mem_of_getElem? (i := 49) (by decide +kernel)) (by decide +kernel)
theorem dX11_all_0 : decode cX11_all 0 = .ok (.lconst 0, 1) := by decide +kernel
theorem dX11_all_1 : decode cX11_all 1 = .ok (.lstore_n 1, 1) := by decide +kernel
theorem dX11_all_2 : decode cX11_all 2 = .ok (.iconst 0, 1) := by decide +kernel
theorem dX11_all_3 : decode cX11_all 3 = .ok (.istore_n 3, 1) := by decide +kernel
theorem dX11_all_4 : decode cX11_all 4 = .ok (.iload_n 3, 1) := by decide +kernel
theorem dX11_all_5 : decode cX11_all 5 = .ok (.aload_n 0, 1) := by decide +kernel
theorem dX11_all_6 : decode cX11_all 6 = .ok (.getfield 80, 3) := by decide +kernel
theorem dX11_all_9 : decode cX11_all 9 = .ok (.getfield 314, 3) := by decide +kernel
theorem dX11_all_12 : decode cX11_all 12 = .ok (.if_icmp .ge 44, 3) := by decide +kernel
theorem dX11_all_15 : decode cX11_all 15 = .ok (.aload_n 0, 1) := by decide +kernel
theorem dX11_all_16 : decode cX11_all 16 = .ok (.iload_n 3, 1) := by decide +kernel
theorem dX11_all_17 : decode cX11_all 17 = .ok (.iconst (-1), 1) := by decide +kernel
theorem dX11_all_18 : decode cX11_all 18 = .ok (.invokevirtual 280, 3) := by decide +kernel
theorem dX11_all_21 : decode cX11_all 21 = .ok (.aload_n 0, 1) := by decide +kernel
theorem dX11_all_22 : decode cX11_all 22 = .ok (.getfield 60, 3) := by decide +kernel
theorem dX11_all_25 : decode cX11_all 25 = .ok (.invokevirtual 286, 3) := by decide +kernel
theorem dX11_all_28 : decode cX11_all 28 = .ok (.aload_n 0, 1) := by decide +kernel
theorem dX11_all_29 : decode cX11_all 29 = .ok (.getfield 60, 3) := by decide +kernel
theorem dX11_all_32 : decode cX11_all 32 = .ok (.getfield 177, 3) := by decide +kernel
theorem dX11_all_35 : decode cX11_all 35 = .ok (.ifCond .ne 5, 3) := by decide +kernel
theorem dX11_all_38 : decode cX11_all 38 = .ok (.iconst (-1), 1) := by decide +kernel
theorem dX11_all_39 : decode cX11_all 39 = .ok (.ireturn, 1) := by decide +kernel
theorem dX11_all_40 : decode cX11_all 40 = .ok (.lload_n 1, 1) := by decide +kernel
theorem dX11_all_41 : decode cX11_all 41 = .ok (.aload_n 0, 1) := by decide +kernel
theorem dX11_all_42 : decode cX11_all 42 = .ok (.getfield 60, 3) := by decide +kernel
theorem dX11_all_45 : decode cX11_all 45 = .ok (.getfield 274, 3) := by decide +kernel
theorem dX11_all_48 : decode cX11_all 48 = .ok (.ladd, 1) := by decide +kernel
theorem dX11_all_49 : decode cX11_all 49 = .ok (.lstore_n 1, 1) := by decide +kernel
theorem dX11_all_50 : decode cX11_all 50 = .ok (.iinc 3 1, 3) := by decide +kernel
theorem dX11_all_53 : decode cX11_all 53 = .ok (.goto (-49), 3) := by decide +kernel
theorem dX11_all_56 : decode cX11_all 56 = .ok (.lload_n 1, 1) := by decide +kernel
theorem dX11_all_57 : decode cX11_all 57 = .ok (.l2i, 1) := by decide +kernel
theorem dX11_all_58 : decode cX11_all 58 = .ok (.ireturn, 1) := by decide +kernel
theorem dX11_bound_0 : decode cX11_bound 0 = .ok (.aload_n 0, 1) := by decide +kernel
theorem dX11_bound_1 : decode cX11_bound 1 = .ok (.iload_n 1, 1) := by decide +kernel
theorem dX11_bound_2 : decode cX11_bound 2 = .ok (.iload_n 2, 1) := by decide +kernel
theorem dX11_bound_3 : decode cX11_bound 3 = .ok (.invokevirtual 118, 3) := by decide +kernel
theorem dX11_bound_6 : decode cX11_bound 6 = .ok (.ifCond .ne 11, 3) := by decide +kernel
theorem dX11_bound_9 : decode cX11_bound 9 = .ok (.aload_n 0, 1) := by decide +kernel
theorem dX11_bound_10 : decode cX11_bound 10 = .ok (.iload_n 3, 1) := by decide +kernel
theorem dX11_bound_11 : decode cX11_bound 11 = .ok (.invokevirtual 122, 3) := by decide +kernel
theorem dX11_bound_14 : decode cX11_bound 14 = .ok (.ifCond .eq 6, 3) := by decide +kernel
theorem dX11_bound_17 : decode cX11_bound 17 = .ok (.bipush (-2), 2) := by decide +kernel
theorem dX11_bound_19 : decode cX11_bound 19 = .ok (.ireturn, 1) := by decide +kernel
theorem dX11_bound_20 : decode cX11_bound 20 = .ok (.aload_n 0, 1) := by decide +kernel
theorem dX11_bound_21 : decode cX11_bound 21 = .ok (.iload_n 3, 1) := by decide +kernel
theorem dX11_bound_22 : decode cX11_bound 22 = .ok (.iconst (-1), 1) := by decide +kernel
theorem dX11_bound_23 : decode cX11_bound 23 = .ok (.invokevirtual 214, 3) := by decide +kernel
theorem dX11_bound_26 : decode cX11_bound 26 = .ok (.aload_n 0, 1) := by decide +kernel
theorem dX11_bound_27 : decode cX11_bound 27 = .ok (.getfield 87, 3) := by decide +kernel
theorem dX11_bound_30 : decode cX11_bound 30 = .ok (.aload_n 0, 1) := by decide +kernel
theorem dX11_bound_31 : decode cX11_bound 31 = .ok (.getfield 35, 3) := by decide +kernel
theorem dX11_bound_34 : decode cX11_bound 34 = .ok (.iload_n 1, 1) := by decide +kernel
theorem dX11_bound_35 : decode cX11_bound 35 = .ok (.iload_n 2, 1) := by decide +kernel
theorem dX11_bound_36 : decode cX11_bound 36 = .ok (.invokestatic 253, 3) := by decide +kernel
theorem dX11_bound_39 : decode cX11_bound 39 = .ok (.l2i, 1) := by decide +kernel
theorem dX11_bound_40 : decode cX11_bound 40 = .ok (.ireturn, 1) := by decide +kernel
theorem dX11_cap_0 : decode cX11_cap 0 = .ok (.aload_n 0, 1) := by decide +kernel
theorem dX11_cap_1 : decode cX11_cap 1 = .ok (.iload_n 1, 1) := by decide +kernel
theorem dX11_cap_2 : decode cX11_cap 2 = .ok (.iload_n 2, 1) := by decide +kernel
theorem dX11_cap_3 : decode cX11_cap 3 = .ok (.invokevirtual 118, 3) := by decide +kernel
theorem dX11_cap_6 : decode cX11_cap 6 = .ok (.ifCond .eq 6, 3) := by decide +kernel
theorem dX11_cap_9 : decode cX11_cap 9 = .ok (.bipush (-2), 2) := by decide +kernel
theorem dX11_cap_11 : decode cX11_cap 11 = .ok (.ireturn, 1) := by decide +kernel
theorem dX11_cap_12 : decode cX11_cap 12 = .ok (.iload_n 3, 1) := by decide +kernel
theorem dX11_cap_13 : decode cX11_cap 13 = .ok (.ifCond .lt 9, 3) := by decide +kernel
theorem dX11_cap_16 : decode cX11_cap 16 = .ok (.iload_n 3, 1) := by decide +kernel
theorem dX11_cap_17 : decode cX11_cap 17 = .ok (.ldc 146, 2) := by decide +kernel
theorem dX11_cap_19 : decode cX11_cap 19 = .ok (.if_icmp .le 6, 3) := by decide +kernel
theorem dX11_cap_22 : decode cX11_cap 22 = .ok (.bipush (-3), 2) := by decide +kernel
theorem dX11_cap_24 : decode cX11_cap 24 = .ok (.ireturn, 1) := by decide +kernel
theorem dX11_cap_25 : decode cX11_cap 25 = .ok (.aload_n 0, 1) := by decide +kernel
theorem dX11_cap_26 : decode cX11_cap 26 = .ok (.invokevirtual 127, 3) := by decide +kernel
theorem dX11_cap_29 : decode cX11_cap 29 = .ok (.aload_n 0, 1) := by decide +kernel
theorem dX11_cap_30 : decode cX11_cap 30 = .ok (.getfield 87, 3) := by decide +kernel
theorem dX11_cap_33 : decode cX11_cap 33 = .ok (.getfield 147, 3) := by decide +kernel
theorem dX11_cap_36 : decode cX11_cap 36 = .ok (.iload_n 1, 1) := by decide +kernel
theorem dX11_cap_37 : decode cX11_cap 37 = .ok (.iload_n 2, 1) := by decide +kernel
theorem dX11_cap_38 : decode cX11_cap 38 = .ok (.invokestatic 151, 3) := by decide +kernel
theorem dX11_cap_41 : decode cX11_cap 41 = .ok (.iaload, 1) := by decide +kernel
theorem dX11_cap_42 : decode cX11_cap 42 = .ok (.istore 4, 2) := by decide +kernel
theorem dX11_cap_44 : decode cX11_cap 44 = .ok (.aload_n 0, 1) := by decide +kernel
theorem dX11_cap_45 : decode cX11_cap 45 = .ok (.getfield 87, 3) := by decide +kernel
theorem dX11_cap_48 : decode cX11_cap 48 = .ok (.getfield 147, 3) := by decide +kernel
theorem dX11_cap_51 : decode cX11_cap 51 = .ok (.iload_n 1, 1) := by decide +kernel
theorem dX11_cap_52 : decode cX11_cap 52 = .ok (.iload_n 2, 1) := by decide +kernel
theorem dX11_cap_53 : decode cX11_cap 53 = .ok (.invokestatic 151, 3) := by decide +kernel
theorem dX11_cap_56 : decode cX11_cap 56 = .ok (.iload_n 3, 1) := by decide +kernel
theorem dX11_cap_57 : decode cX11_cap 57 = .ok (.iastore, 1) := by decide +kernel
theorem dX11_cap_58 : decode cX11_cap 58 = .ok (.iload 4, 2) := by decide +kernel
theorem dX11_cap_60 : decode cX11_cap 60 = .ok (.ireturn, 1) := by decide +kernel
theorem dX11_chain_0 : decode cX11_chain 0 = .ok (.aload_n 0, 1) := by decide +kernel
theorem dX11_chain_1 : decode cX11_chain 1 = .ok (.iload_n 1, 1) := by decide +kernel
theorem dX11_chain_2 : decode cX11_chain 2 = .ok (.invokevirtual 122, 3) := by decide +kernel
theorem dX11_chain_5 : decode cX11_chain 5 = .ok (.ifCond .eq 6, 3) := by decide +kernel
theorem dX11_chain_8 : decode cX11_chain 8 = .ok (.bipush (-2), 2) := by decide +kernel
theorem dX11_chain_10 : decode cX11_chain 10 = .ok (.ireturn, 1) := by decide +kernel
theorem dX11_chain_11 : decode cX11_chain 11 = .ok (.iload_n 2, 1) := by decide +kernel
theorem dX11_chain_12 : decode cX11_chain 12 = .ok (.iconst (-1), 1) := by decide +kernel
theorem dX11_chain_13 : decode cX11_chain 13 = .ok (.if_icmp .ge 6, 3) := by decide +kernel
theorem dX11_chain_16 : decode cX11_chain 16 = .ok (.bipush (-3), 2) := by decide +kernel
theorem dX11_chain_18 : decode cX11_chain 18 = .ok (.ireturn, 1) := by decide +kernel
theorem dX11_chain_19 : decode cX11_chain 19 = .ok (.aload_n 0, 1) := by decide +kernel
theorem dX11_chain_20 : decode cX11_chain 20 = .ok (.iload_n 1, 1) := by decide +kernel
theorem dX11_chain_21 : decode cX11_chain 21 = .ok (.iconst (-1), 1) := by decide +kernel
theorem dX11_chain_22 : decode cX11_chain 22 = .ok (.invokevirtual 214, 3) := by decide +kernel
theorem dX11_chain_25 : decode cX11_chain 25 = .ok (.aload_n 0, 1) := by decide +kernel
theorem dX11_chain_26 : decode cX11_chain 26 = .ok (.getfield 42, 3) := by decide +kernel
theorem dX11_chain_29 : decode cX11_chain 29 = .ok (.aload_n 0, 1) := by decide +kernel
theorem dX11_chain_30 : decode cX11_chain 30 = .ok (.getfield 35, 3) := by decide +kernel
theorem dX11_chain_33 : decode cX11_chain 33 = .ok (.bipush 99, 2) := by decide +kernel
theorem dX11_chain_35 : decode cX11_chain 35 = .ok (.invokevirtual 257, 3) := by decide +kernel
theorem dX11_chain_38 : decode cX11_chain 38 = .ok (.aload_n 0, 1) := by decide +kernel
theorem dX11_chain_39 : decode cX11_chain 39 = .ok (.getfield 49, 3) := by decide +kernel
theorem dX11_chain_42 : decode cX11_chain 42 = .ok (.aload_n 0, 1) := by decide +kernel
theorem dX11_chain_43 : decode cX11_chain 43 = .ok (.getfield 35, 3) := by decide +kernel
theorem dX11_chain_46 : decode cX11_chain 46 = .ok (.invokevirtual 268, 3) := by decide +kernel
theorem dX11_chain_49 : decode cX11_chain 49 = .ok (.iload_n 2, 1) := by decide +kernel
theorem dX11_chain_50 : decode cX11_chain 50 = .ok (.iconst (-1), 1) := by decide +kernel
theorem dX11_chain_51 : decode cX11_chain 51 = .ok (.if_icmp .ne 11, 3) := by decide +kernel
theorem dX11_chain_54 : decode cX11_chain 54 = .ok (.aload_n 0, 1) := by decide +kernel
theorem dX11_chain_55 : decode cX11_chain 55 = .ok (.getfield 49, 3) := by decide +kernel
theorem dX11_chain_58 : decode cX11_chain 58 = .ok (.getfield 272, 3) := by decide +kernel
theorem dX11_chain_61 : decode cX11_chain 61 = .ok (.ireturn, 1) := by decide +kernel
theorem dX11_chain_62 : decode cX11_chain 62 = .ok (.iload_n 2, 1) := by decide +kernel
theorem dX11_chain_63 : decode cX11_chain 63 = .ok (.aload_n 0, 1) := by decide +kernel
theorem dX11_chain_64 : decode cX11_chain 64 = .ok (.getfield 49, 3) := by decide +kernel
theorem dX11_chain_67 : decode cX11_chain 67 = .ok (.getfield 272, 3) := by decide +kernel
theorem dX11_chain_70 : decode cX11_chain 70 = .ok (.if_icmp .ge 15, 3) := by decide +kernel
theorem dX11_chain_73 : decode cX11_chain 73 = .ok (.aload_n 0, 1) := by decide +kernel
theorem dX11_chain_74 : decode cX11_chain 74 = .ok (.getfield 49, 3) := by decide +kernel
theorem dX11_chain_77 : decode cX11_chain 77 = .ok (.getfield 273, 3) := by decide +kernel
theorem dX11_chain_80 : decode cX11_chain 80 = .ok (.iload_n 2, 1) := by decide +kernel
theorem dX11_chain_81 : decode cX11_chain 81 = .ok (.iaload, 1) := by decide +kernel
theorem dX11_chain_82 : decode cX11_chain 82 = .ok (.goto 4, 3) := by decide +kernel
theorem dX11_chain_85 : decode cX11_chain 85 = .ok (.iconst (-1), 1) := by decide +kernel
theorem dX11_chain_86 : decode cX11_chain 86 = .ok (.ireturn, 1) := by decide +kernel
theorem dX11_cleared_0 : decode cX11_cleared 0 = .ok (.aload_n 0, 1) := by decide +kernel
theorem dX11_cleared_1 : decode cX11_cleared 1 = .ok (.iload_n 1, 1) := by decide +kernel
theorem dX11_cleared_2 : decode cX11_cleared 2 = .ok (.invokevirtual 122, 3) := by decide +kernel
theorem dX11_cleared_5 : decode cX11_cleared 5 = .ok (.ifCond .eq 6, 3) := by decide +kernel
theorem dX11_cleared_8 : decode cX11_cleared 8 = .ok (.bipush (-2), 2) := by decide +kernel
theorem dX11_cleared_10 : decode cX11_cleared 10 = .ok (.ireturn, 1) := by decide +kernel
theorem dX11_cleared_11 : decode cX11_cleared 11 = .ok (.aload_n 0, 1) := by decide +kernel
theorem dX11_cleared_12 : decode cX11_cleared 12 = .ok (.iload_n 1, 1) := by decide +kernel
theorem dX11_cleared_13 : decode cX11_cleared 13 = .ok (.iconst (-1), 1) := by decide +kernel
theorem dX11_cleared_14 : decode cX11_cleared 14 = .ok (.invokevirtual 214, 3) := by decide +kernel
theorem dX11_cleared_17 : decode cX11_cleared 17 = .ok (.aload_n 0, 1) := by decide +kernel
theorem dX11_cleared_18 : decode cX11_cleared 18 = .ok (.getfield 42, 3) := by decide +kernel
theorem dX11_cleared_21 : decode cX11_cleared 21 = .ok (.aload_n 0, 1) := by decide +kernel
theorem dX11_cleared_22 : decode cX11_cleared 22 = .ok (.getfield 35, 3) := by decide +kernel
theorem dX11_cleared_25 : decode cX11_cleared 25 = .ok (.bipush 99, 2) := by decide +kernel
theorem dX11_cleared_27 : decode cX11_cleared 27 = .ok (.invokevirtual 257, 3) := by decide +kernel
theorem dX11_cleared_30 : decode cX11_cleared 30 = .ok (.iload_n 2, 1) := by decide +kernel
theorem dX11_cleared_31 : decode cX11_cleared 31 = .ok (.tableswitch 50 0 2 #[25, 34, 42], 25) := by decide +kernel
theorem dX11_cleared_56 : decode cX11_cleared 56 = .ok (.aload_n 0, 1) := by decide +kernel
theorem dX11_cleared_57 : decode cX11_cleared 57 = .ok (.getfield 42, 3) := by decide +kernel
theorem dX11_cleared_60 : decode cX11_cleared 60 = .ok (.getfield 261, 3) := by decide +kernel
theorem dX11_cleared_63 : decode cX11_cleared 63 = .ok (.l2i, 1) := by decide +kernel
theorem dX11_cleared_64 : decode cX11_cleared 64 = .ok (.ireturn, 1) := by decide +kernel
theorem dX11_cleared_65 : decode cX11_cleared 65 = .ok (.aload_n 0, 1) := by decide +kernel
theorem dX11_cleared_66 : decode cX11_cleared 66 = .ok (.getfield 42, 3) := by decide +kernel
theorem dX11_cleared_69 : decode cX11_cleared 69 = .ok (.getfield 265, 3) := by decide +kernel
theorem dX11_cleared_72 : decode cX11_cleared 72 = .ok (.ireturn, 1) := by decide +kernel
theorem dX11_cleared_73 : decode cX11_cleared 73 = .ok (.aload_n 0, 1) := by decide +kernel
theorem dX11_cleared_74 : decode cX11_cleared 74 = .ok (.getfield 35, 3) := by decide +kernel
theorem dX11_cleared_77 : decode cX11_cleared 77 = .ok (.invokevirtual 244, 3) := by decide +kernel
theorem dX11_cleared_80 : decode cX11_cleared 80 = .ok (.ireturn, 1) := by decide +kernel
theorem dX11_cleared_81 : decode cX11_cleared 81 = .ok (.bipush (-2), 2) := by decide +kernel
theorem dX11_cleared_83 : decode cX11_cleared 83 = .ok (.ireturn, 1) := by decide +kernel
theorem dX11_count_0 : decode cX11_count 0 = .ok (.iload_n 1, 1) := by decide +kernel
theorem dX11_count_1 : decode cX11_count 1 = .ok (.tableswitch 99 0 6 #[43, 51, 59, 67, 75, 83, 91], 43) := by decide +kernel
theorem dX11_count_44 : decode cX11_count 44 = .ok (.aload_n 0, 1) := by decide +kernel
theorem dX11_count_45 : decode cX11_count 45 = .ok (.getfield 80, 3) := by decide +kernel
theorem dX11_count_48 : decode cX11_count 48 = .ok (.getfield 191, 3) := by decide +kernel
theorem dX11_count_51 : decode cX11_count 51 = .ok (.ireturn, 1) := by decide +kernel
theorem dX11_count_52 : decode cX11_count 52 = .ok (.aload_n 0, 1) := by decide +kernel
theorem dX11_count_53 : decode cX11_count 53 = .ok (.getfield 80, 3) := by decide +kernel
theorem dX11_count_56 : decode cX11_count 56 = .ok (.getfield 314, 3) := by decide +kernel
theorem dX11_count_59 : decode cX11_count 59 = .ok (.ireturn, 1) := by decide +kernel
theorem dX11_count_60 : decode cX11_count 60 = .ok (.aload_n 0, 1) := by decide +kernel
theorem dX11_count_61 : decode cX11_count 61 = .ok (.getfield 87, 3) := by decide +kernel
theorem dX11_count_64 : decode cX11_count 64 = .ok (.getfield 114, 3) := by decide +kernel
theorem dX11_count_67 : decode cX11_count 67 = .ok (.ireturn, 1) := by decide +kernel
theorem dX11_count_68 : decode cX11_count 68 = .ok (.aload_n 0, 1) := by decide +kernel
theorem dX11_count_69 : decode cX11_count 69 = .ok (.getfield 87, 3) := by decide +kernel
theorem dX11_count_72 : decode cX11_count 72 = .ok (.invokevirtual 338, 3) := by decide +kernel
theorem dX11_count_75 : decode cX11_count 75 = .ok (.ireturn, 1) := by decide +kernel
theorem dX11_count_76 : decode cX11_count 76 = .ok (.aload_n 0, 1) := by decide +kernel
theorem dX11_count_77 : decode cX11_count 77 = .ok (.getfield 87, 3) := by decide +kernel
theorem dX11_count_80 : decode cX11_count 80 = .ok (.getfield 143, 3) := by decide +kernel
theorem dX11_count_83 : decode cX11_count 83 = .ok (.ireturn, 1) := by decide +kernel
theorem dX11_count_84 : decode cX11_count 84 = .ok (.aload_n 0, 1) := by decide +kernel
theorem dX11_count_85 : decode cX11_count 85 = .ok (.getfield 28, 3) := by decide +kernel
theorem dX11_count_88 : decode cX11_count 88 = .ok (.getfield 111, 3) := by decide +kernel
theorem dX11_count_91 : decode cX11_count 91 = .ok (.ireturn, 1) := by decide +kernel
theorem dX11_count_92 : decode cX11_count 92 = .ok (.aload_n 0, 1) := by decide +kernel
theorem dX11_count_93 : decode cX11_count 93 = .ok (.getfield 12, 3) := by decide +kernel
theorem dX11_count_96 : decode cX11_count 96 = .ok (.getfield 95, 3) := by decide +kernel
theorem dX11_count_99 : decode cX11_count 99 = .ok (.ireturn, 1) := by decide +kernel
theorem dX11_count_100 : decode cX11_count 100 = .ok (.iconst (-1), 1) := by decide +kernel
theorem dX11_count_101 : decode cX11_count 101 = .ok (.ireturn, 1) := by decide +kernel
theorem dX11_couples_0 : decode cX11_couples 0 = .ok (.aload_n 0, 1) := by decide +kernel
theorem dX11_couples_1 : decode cX11_couples 1 = .ok (.iload_n 1, 1) := by decide +kernel
theorem dX11_couples_2 : decode cX11_couples 2 = .ok (.invokevirtual 122, 3) := by decide +kernel
theorem dX11_couples_5 : decode cX11_couples 5 = .ok (.ifCond .eq 6, 3) := by decide +kernel
theorem dX11_couples_8 : decode cX11_couples 8 = .ok (.bipush (-2), 2) := by decide +kernel
theorem dX11_couples_10 : decode cX11_couples 10 = .ok (.ireturn, 1) := by decide +kernel
theorem dX11_couples_11 : decode cX11_couples 11 = .ok (.aload_n 0, 1) := by decide +kernel
theorem dX11_couples_12 : decode cX11_couples 12 = .ok (.iload_n 1, 1) := by decide +kernel
theorem dX11_couples_13 : decode cX11_couples 13 = .ok (.invokevirtual 174, 3) := by decide +kernel
theorem dX11_couples_16 : decode cX11_couples 16 = .ok (.aload_n 0, 1) := by decide +kernel
theorem dX11_couples_17 : decode cX11_couples 17 = .ok (.getfield 56, 3) := by decide +kernel
theorem dX11_couples_20 : decode cX11_couples 20 = .ok (.getfield 177, 3) := by decide +kernel
theorem dX11_couples_23 : decode cX11_couples 23 = .ok (.ifCond .eq 13, 3) := by decide +kernel
theorem dX11_couples_26 : decode cX11_couples 26 = .ok (.aload_n 0, 1) := by decide +kernel
theorem dX11_couples_27 : decode cX11_couples 27 = .ok (.getfield 56, 3) := by decide +kernel
theorem dX11_couples_30 : decode cX11_couples 30 = .ok (.invokevirtual 184, 3) := by decide +kernel
theorem dX11_couples_33 : decode cX11_couples 33 = .ok (.goto 4, 3) := by decide +kernel
theorem dX11_couples_36 : decode cX11_couples 36 = .ok (.iconst (-1), 1) := by decide +kernel
theorem dX11_couples_37 : decode cX11_couples 37 = .ok (.ireturn, 1) := by decide +kernel
theorem dX11_drop_0 : decode cX11_drop 0 = .ok (.aload_n 0, 1) := by decide +kernel
theorem dX11_drop_1 : decode cX11_drop 1 = .ok (.iload_n 1, 1) := by decide +kernel
theorem dX11_drop_2 : decode cX11_drop 2 = .ok (.invokevirtual 133, 3) := by decide +kernel
theorem dX11_drop_5 : decode cX11_drop 5 = .ok (.ifCond .eq 6, 3) := by decide +kernel
theorem dX11_drop_8 : decode cX11_drop 8 = .ok (.bipush (-2), 2) := by decide +kernel
theorem dX11_drop_10 : decode cX11_drop 10 = .ok (.ireturn, 1) := by decide +kernel
theorem dX11_drop_11 : decode cX11_drop 11 = .ok (.aload_n 0, 1) := by decide +kernel
theorem dX11_drop_12 : decode cX11_drop 12 = .ok (.invokevirtual 127, 3) := by decide +kernel
theorem dX11_drop_15 : decode cX11_drop 15 = .ok (.aload_n 0, 1) := by decide +kernel
theorem dX11_drop_16 : decode cX11_drop 16 = .ok (.getfield 87, 3) := by decide +kernel
theorem dX11_drop_19 : decode cX11_drop 19 = .ok (.iload_n 1, 1) := by decide +kernel
theorem dX11_drop_20 : decode cX11_drop 20 = .ok (.invokevirtual 136, 3) := by decide +kernel
theorem dX11_drop_23 : decode cX11_drop 23 = .ok (.aload_n 0, 1) := by decide +kernel
theorem dX11_drop_24 : decode cX11_drop 24 = .ok (.getfield 87, 3) := by decide +kernel
theorem dX11_drop_27 : decode cX11_drop 27 = .ok (.getfield 114, 3) := by decide +kernel
theorem dX11_drop_30 : decode cX11_drop 30 = .ok (.ireturn, 1) := by decide +kernel
theorem dX11_enough_0 : decode cX11_enough 0 = .ok (.aload_n 0, 1) := by decide +kernel
theorem dX11_enough_1 : decode cX11_enough 1 = .ok (.iload_n 1, 1) := by decide +kernel
theorem dX11_enough_2 : decode cX11_enough 2 = .ok (.iload_n 2, 1) := by decide +kernel
theorem dX11_enough_3 : decode cX11_enough 3 = .ok (.invokevirtual 118, 3) := by decide +kernel
theorem dX11_enough_6 : decode cX11_enough 6 = .ok (.ifCond .ne 11, 3) := by decide +kernel
theorem dX11_enough_9 : decode cX11_enough 9 = .ok (.aload_n 0, 1) := by decide +kernel
theorem dX11_enough_10 : decode cX11_enough 10 = .ok (.iload_n 3, 1) := by decide +kernel
theorem dX11_enough_11 : decode cX11_enough 11 = .ok (.invokevirtual 122, 3) := by decide +kernel
theorem dX11_enough_14 : decode cX11_enough 14 = .ok (.ifCond .eq 6, 3) := by decide +kernel
theorem dX11_enough_17 : decode cX11_enough 17 = .ok (.bipush (-2), 2) := by decide +kernel
theorem dX11_enough_19 : decode cX11_enough 19 = .ok (.ireturn, 1) := by decide +kernel
theorem dX11_enough_20 : decode cX11_enough 20 = .ok (.aload_n 0, 1) := by decide +kernel
theorem dX11_enough_21 : decode cX11_enough 21 = .ok (.iload_n 3, 1) := by decide +kernel
theorem dX11_enough_22 : decode cX11_enough 22 = .ok (.iconst (-1), 1) := by decide +kernel
theorem dX11_enough_23 : decode cX11_enough 23 = .ok (.invokevirtual 280, 3) := by decide +kernel
theorem dX11_enough_26 : decode cX11_enough 26 = .ok (.aload_n 0, 1) := by decide +kernel
theorem dX11_enough_27 : decode cX11_enough 27 = .ok (.getfield 60, 3) := by decide +kernel
theorem dX11_enough_30 : decode cX11_enough 30 = .ok (.getfield 283, 3) := by decide +kernel
theorem dX11_enough_33 : decode cX11_enough 33 = .ok (.iload_n 1, 1) := by decide +kernel
theorem dX11_enough_34 : decode cX11_enough 34 = .ok (.iload_n 2, 1) := by decide +kernel
theorem dX11_enough_35 : decode cX11_enough 35 = .ok (.invokestatic 151, 3) := by decide +kernel
theorem dX11_enough_38 : decode cX11_enough 38 = .ok (.ldc2_w 317, 3) := by decide +kernel
theorem dX11_enough_41 : decode cX11_enough 41 = .ok (.lastore, 1) := by decide +kernel
theorem dX11_enough_42 : decode cX11_enough 42 = .ok (.aload_n 0, 1) := by decide +kernel
theorem dX11_enough_43 : decode cX11_enough 43 = .ok (.getfield 60, 3) := by decide +kernel
theorem dX11_enough_46 : decode cX11_enough 46 = .ok (.invokevirtual 286, 3) := by decide +kernel
theorem dX11_enough_49 : decode cX11_enough 49 = .ok (.aload_n 0, 1) := by decide +kernel
theorem dX11_enough_50 : decode cX11_enough 50 = .ok (.getfield 60, 3) := by decide +kernel
theorem dX11_enough_53 : decode cX11_enough 53 = .ok (.getfield 177, 3) := by decide +kernel
theorem dX11_enough_56 : decode cX11_enough 56 = .ok (.ifCond .eq 17, 3) := by decide +kernel
theorem dX11_enough_59 : decode cX11_enough 59 = .ok (.aload_n 0, 1) := by decide +kernel
theorem dX11_enough_60 : decode cX11_enough 60 = .ok (.getfield 60, 3) := by decide +kernel
theorem dX11_enough_63 : decode cX11_enough 63 = .ok (.iload_n 1, 1) := by decide +kernel
theorem dX11_enough_64 : decode cX11_enough 64 = .ok (.iload_n 2, 1) := by decide +kernel
theorem dX11_enough_65 : decode cX11_enough 65 = .ok (.iconst 0, 1) := by decide +kernel
theorem dX11_enough_66 : decode cX11_enough 66 = .ok (.invokevirtual 276, 3) := by decide +kernel
theorem dX11_enough_69 : decode cX11_enough 69 = .ok (.l2i, 1) := by decide +kernel
theorem dX11_enough_70 : decode cX11_enough 70 = .ok (.goto 4, 3) := by decide +kernel
theorem dX11_enough_73 : decode cX11_enough 73 = .ok (.iconst (-1), 1) := by decide +kernel
theorem dX11_enough_74 : decode cX11_enough 74 = .ok (.ireturn, 1) := by decide +kernel
theorem dX11_even_0 : decode cX11_even 0 = .ok (.aload_n 0, 1) := by decide +kernel
theorem dX11_even_1 : decode cX11_even 1 = .ok (.iload_n 2, 1) := by decide +kernel
theorem dX11_even_2 : decode cX11_even 2 = .ok (.invokevirtual 122, 3) := by decide +kernel
theorem dX11_even_5 : decode cX11_even 5 = .ok (.ifCond .ne 15, 3) := by decide +kernel
theorem dX11_even_8 : decode cX11_even 8 = .ok (.iload_n 1, 1) := by decide +kernel
theorem dX11_even_9 : decode cX11_even 9 = .ok (.aload_n 0, 1) := by decide +kernel
theorem dX11_even_10 : decode cX11_even 10 = .ok (.getfield 80, 3) := by decide +kernel
theorem dX11_even_13 : decode cX11_even 13 = .ok (.getfield 191, 3) := by decide +kernel
theorem dX11_even_16 : decode cX11_even 16 = .ok (.iushr, 1) := by decide +kernel
theorem dX11_even_17 : decode cX11_even 17 = .ok (.ifCond .eq 6, 3) := by decide +kernel
theorem dX11_even_20 : decode cX11_even 20 = .ok (.bipush (-2), 2) := by decide +kernel
theorem dX11_even_22 : decode cX11_even 22 = .ok (.ireturn, 1) := by decide +kernel
theorem dX11_even_23 : decode cX11_even 23 = .ok (.iload_n 1, 1) := by decide +kernel
theorem dX11_even_24 : decode cX11_even 24 = .ok (.invokestatic 324, 3) := by decide +kernel
theorem dX11_even_27 : decode cX11_even 27 = .ok (.iconst 2, 1) := by decide +kernel
theorem dX11_even_28 : decode cX11_even 28 = .ok (.if_icmp .ge 6, 3) := by decide +kernel
theorem dX11_even_31 : decode cX11_even 31 = .ok (.bipush (-3), 2) := by decide +kernel
theorem dX11_even_33 : decode cX11_even 33 = .ok (.ireturn, 1) := by decide +kernel
theorem dX11_even_34 : decode cX11_even 34 = .ok (.aload_n 0, 1) := by decide +kernel
theorem dX11_even_35 : decode cX11_even 35 = .ok (.iload_n 2, 1) := by decide +kernel
theorem dX11_even_36 : decode cX11_even 36 = .ok (.iconst (-1), 1) := by decide +kernel
theorem dX11_even_37 : decode cX11_even 37 = .ok (.invokevirtual 214, 3) := by decide +kernel
theorem dX11_even_40 : decode cX11_even 40 = .ok (.lconst 0, 1) := by decide +kernel
theorem dX11_even_41 : decode cX11_even 41 = .ok (.lstore_n 3, 1) := by decide +kernel
theorem dX11_even_42 : decode cX11_even 42 = .ok (.iconst 0, 1) := by decide +kernel
theorem dX11_even_43 : decode cX11_even 43 = .ok (.istore 5, 2) := by decide +kernel
theorem dX11_even_45 : decode cX11_even 45 = .ok (.iload 5, 2) := by decide +kernel
theorem dX11_even_47 : decode cX11_even 47 = .ok (.aload_n 0, 1) := by decide +kernel
theorem dX11_even_48 : decode cX11_even 48 = .ok (.getfield 80, 3) := by decide +kernel
theorem dX11_even_51 : decode cX11_even 51 = .ok (.getfield 191, 3) := by decide +kernel
theorem dX11_even_54 : decode cX11_even 54 = .ok (.if_icmp .ge 31, 3) := by decide +kernel
theorem dX11_even_57 : decode cX11_even 57 = .ok (.iload_n 1, 1) := by decide +kernel
theorem dX11_even_58 : decode cX11_even 58 = .ok (.iload 5, 2) := by decide +kernel
theorem dX11_even_60 : decode cX11_even 60 = .ok (.iushr, 1) := by decide +kernel
theorem dX11_even_61 : decode cX11_even 61 = .ok (.iconst 1, 1) := by decide +kernel
theorem dX11_even_62 : decode cX11_even 62 = .ok (.iand, 1) := by decide +kernel
theorem dX11_even_63 : decode cX11_even 63 = .ok (.iconst 1, 1) := by decide +kernel
theorem dX11_even_64 : decode cX11_even 64 = .ok (.if_icmp .ne 15, 3) := by decide +kernel
theorem dX11_even_67 : decode cX11_even 67 = .ok (.lload_n 3, 1) := by decide +kernel
theorem dX11_even_68 : decode cX11_even 68 = .ok (.aload_n 0, 1) := by decide +kernel
theorem dX11_even_69 : decode cX11_even 69 = .ok (.getfield 35, 3) := by decide +kernel
theorem dX11_even_72 : decode cX11_even 72 = .ok (.iload 5, 2) := by decide +kernel
theorem dX11_even_74 : decode cX11_even 74 = .ok (.invokevirtual 224, 3) := by decide +kernel
theorem dX11_even_77 : decode cX11_even 77 = .ok (.ladd, 1) := by decide +kernel
theorem dX11_even_78 : decode cX11_even 78 = .ok (.lstore_n 3, 1) := by decide +kernel
theorem dX11_even_79 : decode cX11_even 79 = .ok (.iinc 5 1, 3) := by decide +kernel
theorem dX11_even_82 : decode cX11_even 82 = .ok (.goto (-37), 3) := by decide +kernel
theorem dX11_even_85 : decode cX11_even 85 = .ok (.lload_n 3, 1) := by decide +kernel
theorem dX11_even_86 : decode cX11_even 86 = .ok (.lconst 0, 1) := by decide +kernel
theorem dX11_even_87 : decode cX11_even 87 = .ok (.lcmp, 1) := by decide +kernel
theorem dX11_even_88 : decode cX11_even 88 = .ok (.ifCond .ne 7, 3) := by decide +kernel
theorem dX11_even_91 : decode cX11_even 91 = .ok (.iconst 1, 1) := by decide +kernel
theorem dX11_even_92 : decode cX11_even 92 = .ok (.goto 4, 3) := by decide +kernel
theorem dX11_even_95 : decode cX11_even 95 = .ok (.iconst 0, 1) := by decide +kernel
theorem dX11_even_96 : decode cX11_even 96 = .ok (.ireturn, 1) := by decide +kernel
theorem dX11_fault_0 : decode cX11_fault 0 = .ok (.iload_n 1, 1) := by decide +kernel
theorem dX11_fault_1 : decode cX11_fault 1 = .ok (.lookupswitch 43 #[(0, 27), (1, 35)], 27) := by decide +kernel
theorem dX11_fault_28 : decode cX11_fault 28 = .ok (.aload_n 0, 1) := by decide +kernel
theorem dX11_fault_29 : decode cX11_fault 29 = .ok (.getfield 21, 3) := by decide +kernel
theorem dX11_fault_32 : decode cX11_fault 32 = .ok (.getfield 105, 3) := by decide +kernel
theorem dX11_fault_35 : decode cX11_fault 35 = .ok (.ireturn, 1) := by decide +kernel
theorem dX11_fault_36 : decode cX11_fault 36 = .ok (.aload_n 0, 1) := by decide +kernel
theorem dX11_fault_37 : decode cX11_fault 37 = .ok (.getfield 21, 3) := by decide +kernel
theorem dX11_fault_40 : decode cX11_fault 40 = .ok (.getfield 115, 3) := by decide +kernel
theorem dX11_fault_43 : decode cX11_fault 43 = .ok (.ireturn, 1) := by decide +kernel
theorem dX11_fault_44 : decode cX11_fault 44 = .ok (.iconst (-1), 1) := by decide +kernel
theorem dX11_fault_45 : decode cX11_fault 45 = .ok (.ireturn, 1) := by decide +kernel
theorem dX11_feed_0 : decode cX11_feed 0 = .ok (.aload_n 0, 1) := by decide +kernel
theorem dX11_feed_1 : decode cX11_feed 1 = .ok (.getfield 12, 3) := by decide +kernel
theorem dX11_feed_4 : decode cX11_feed 4 = .ok (.getfield 95, 3) := by decide +kernel
theorem dX11_feed_7 : decode cX11_feed 7 = .ok (.bipush 20, 2) := by decide +kernel
theorem dX11_feed_9 : decode cX11_feed 9 = .ok (.iadd, 1) := by decide +kernel
theorem dX11_feed_10 : decode cX11_feed 10 = .ok (.sipush 900, 3) := by decide +kernel
theorem dX11_feed_13 : decode cX11_feed 13 = .ok (.if_icmp .le 6, 3) := by decide +kernel
theorem dX11_feed_16 : decode cX11_feed 16 = .ok (.bipush (-4), 2) := by decide +kernel
theorem dX11_feed_18 : decode cX11_feed 18 = .ok (.ireturn, 1) := by decide +kernel
theorem dX11_feed_19 : decode cX11_feed 19 = .ok (.aload_n 0, 1) := by decide +kernel
theorem dX11_feed_20 : decode cX11_feed 20 = .ok (.getfield 12, 3) := by decide +kernel
theorem dX11_feed_23 : decode cX11_feed 23 = .ok (.iload_n 1, 1) := by decide +kernel
theorem dX11_feed_24 : decode cX11_feed 24 = .ok (.invokevirtual 98, 3) := by decide +kernel
theorem dX11_feed_27 : decode cX11_feed 27 = .ok (.aload_n 0, 1) := by decide +kernel
theorem dX11_feed_28 : decode cX11_feed 28 = .ok (.getfield 12, 3) := by decide +kernel
theorem dX11_feed_31 : decode cX11_feed 31 = .ok (.iload_n 2, 1) := by decide +kernel
theorem dX11_feed_32 : decode cX11_feed 32 = .ok (.invokevirtual 98, 3) := by decide +kernel
theorem dX11_feed_35 : decode cX11_feed 35 = .ok (.aload_n 0, 1) := by decide +kernel
theorem dX11_feed_36 : decode cX11_feed 36 = .ok (.getfield 12, 3) := by decide +kernel
theorem dX11_feed_39 : decode cX11_feed 39 = .ok (.iload_n 3, 1) := by decide +kernel
theorem dX11_feed_40 : decode cX11_feed 40 = .ok (.invokevirtual 98, 3) := by decide +kernel
theorem dX11_feed_43 : decode cX11_feed 43 = .ok (.aload_n 0, 1) := by decide +kernel
theorem dX11_feed_44 : decode cX11_feed 44 = .ok (.getfield 12, 3) := by decide +kernel
theorem dX11_feed_47 : decode cX11_feed 47 = .ok (.iload 4, 2) := by decide +kernel
theorem dX11_feed_49 : decode cX11_feed 49 = .ok (.invokevirtual 98, 3) := by decide +kernel
theorem dX11_feed_52 : decode cX11_feed 52 = .ok (.aload_n 0, 1) := by decide +kernel
theorem dX11_feed_53 : decode cX11_feed 53 = .ok (.getfield 12, 3) := by decide +kernel
theorem dX11_feed_56 : decode cX11_feed 56 = .ok (.iload 5, 2) := by decide +kernel
theorem dX11_feed_58 : decode cX11_feed 58 = .ok (.invokevirtual 98, 3) := by decide +kernel
theorem dX11_feed_61 : decode cX11_feed 61 = .ok (.aload_n 0, 1) := by decide +kernel
theorem dX11_feed_62 : decode cX11_feed 62 = .ok (.getfield 12, 3) := by decide +kernel
theorem dX11_feed_65 : decode cX11_feed 65 = .ok (.getfield 95, 3) := by decide +kernel
theorem dX11_feed_68 : decode cX11_feed 68 = .ok (.ireturn, 1) := by decide +kernel
theorem dX11_fewest_0 : decode cX11_fewest 0 = .ok (.aload_n 0, 1) := by decide +kernel
theorem dX11_fewest_1 : decode cX11_fewest 1 = .ok (.iload_n 1, 1) := by decide +kernel
theorem dX11_fewest_2 : decode cX11_fewest 2 = .ok (.invokevirtual 122, 3) := by decide +kernel
theorem dX11_fewest_5 : decode cX11_fewest 5 = .ok (.ifCond .eq 6, 3) := by decide +kernel
theorem dX11_fewest_8 : decode cX11_fewest 8 = .ok (.bipush (-2), 2) := by decide +kernel
theorem dX11_fewest_10 : decode cX11_fewest 10 = .ok (.ireturn, 1) := by decide +kernel
theorem dX11_fewest_11 : decode cX11_fewest 11 = .ok (.aload_n 0, 1) := by decide +kernel
theorem dX11_fewest_12 : decode cX11_fewest 12 = .ok (.iload_n 1, 1) := by decide +kernel
theorem dX11_fewest_13 : decode cX11_fewest 13 = .ok (.iconst (-1), 1) := by decide +kernel
theorem dX11_fewest_14 : decode cX11_fewest 14 = .ok (.invokevirtual 214, 3) := by decide +kernel
theorem dX11_fewest_17 : decode cX11_fewest 17 = .ok (.aload_n 0, 1) := by decide +kernel
theorem dX11_fewest_18 : decode cX11_fewest 18 = .ok (.getfield 66, 3) := by decide +kernel
theorem dX11_fewest_21 : decode cX11_fewest 21 = .ok (.aload_n 0, 1) := by decide +kernel
theorem dX11_fewest_22 : decode cX11_fewest 22 = .ok (.getfield 35, 3) := by decide +kernel
theorem dX11_fewest_25 : decode cX11_fewest 25 = .ok (.invokevirtual 319, 3) := by decide +kernel
theorem dX11_fewest_28 : decode cX11_fewest 28 = .ok (.iload_n 2, 1) := by decide +kernel
theorem dX11_fewest_29 : decode cX11_fewest 29 = .ok (.lookupswitch 51 #[(0, 27), (1, 43)], 27) := by decide +kernel
theorem dX11_fewest_56 : decode cX11_fewest 56 = .ok (.aload_n 0, 1) := by decide +kernel
theorem dX11_fewest_57 : decode cX11_fewest 57 = .ok (.getfield 66, 3) := by decide +kernel
theorem dX11_fewest_60 : decode cX11_fewest 60 = .ok (.getfield 320, 3) := by decide +kernel
theorem dX11_fewest_63 : decode cX11_fewest 63 = .ok (.aload_n 0, 1) := by decide +kernel
theorem dX11_fewest_64 : decode cX11_fewest 64 = .ok (.getfield 66, 3) := by decide +kernel
theorem dX11_fewest_67 : decode cX11_fewest 67 = .ok (.getfield 321, 3) := by decide +kernel
theorem dX11_fewest_70 : decode cX11_fewest 70 = .ok (.isub, 1) := by decide +kernel
theorem dX11_fewest_71 : decode cX11_fewest 71 = .ok (.ireturn, 1) := by decide +kernel
theorem dX11_fewest_72 : decode cX11_fewest 72 = .ok (.aload_n 0, 1) := by decide +kernel
theorem dX11_fewest_73 : decode cX11_fewest 73 = .ok (.getfield 66, 3) := by decide +kernel
theorem dX11_fewest_76 : decode cX11_fewest 76 = .ok (.getfield 321, 3) := by decide +kernel
theorem dX11_fewest_79 : decode cX11_fewest 79 = .ok (.ireturn, 1) := by decide +kernel
theorem dX11_fewest_80 : decode cX11_fewest 80 = .ok (.bipush (-2), 2) := by decide +kernel
theorem dX11_fewest_82 : decode cX11_fewest 82 = .ok (.ireturn, 1) := by decide +kernel
theorem dX11_flow_0 : decode cX11_flow 0 = .ok (.aload_n 0, 1) := by decide +kernel
theorem dX11_flow_1 : decode cX11_flow 1 = .ok (.iload_n 1, 1) := by decide +kernel
theorem dX11_flow_2 : decode cX11_flow 2 = .ok (.iload_n 2, 1) := by decide +kernel
theorem dX11_flow_3 : decode cX11_flow 3 = .ok (.invokevirtual 118, 3) := by decide +kernel
theorem dX11_flow_6 : decode cX11_flow 6 = .ok (.ifCond .ne 11, 3) := by decide +kernel
theorem dX11_flow_9 : decode cX11_flow 9 = .ok (.aload_n 0, 1) := by decide +kernel
theorem dX11_flow_10 : decode cX11_flow 10 = .ok (.iload_n 3, 1) := by decide +kernel
theorem dX11_flow_11 : decode cX11_flow 11 = .ok (.invokevirtual 122, 3) := by decide +kernel
theorem dX11_flow_14 : decode cX11_flow 14 = .ok (.ifCond .eq 6, 3) := by decide +kernel
theorem dX11_flow_17 : decode cX11_flow 17 = .ok (.bipush (-2), 2) := by decide +kernel
theorem dX11_flow_19 : decode cX11_flow 19 = .ok (.ireturn, 1) := by decide +kernel
theorem dX11_flow_20 : decode cX11_flow 20 = .ok (.aload_n 0, 1) := by decide +kernel
theorem dX11_flow_21 : decode cX11_flow 21 = .ok (.iload_n 3, 1) := by decide +kernel
theorem dX11_flow_22 : decode cX11_flow 22 = .ok (.iconst (-1), 1) := by decide +kernel
theorem dX11_flow_23 : decode cX11_flow 23 = .ok (.invokevirtual 214, 3) := by decide +kernel
theorem dX11_flow_26 : decode cX11_flow 26 = .ok (.aload_n 0, 1) := by decide +kernel
theorem dX11_flow_27 : decode cX11_flow 27 = .ok (.getfield 35, 3) := by decide +kernel
theorem dX11_flow_30 : decode cX11_flow 30 = .ok (.getfield 218, 3) := by decide +kernel
theorem dX11_flow_33 : decode cX11_flow 33 = .ok (.iload_n 1, 1) := by decide +kernel
theorem dX11_flow_34 : decode cX11_flow 34 = .ok (.iload_n 2, 1) := by decide +kernel
theorem dX11_flow_35 : decode cX11_flow 35 = .ok (.invokestatic 151, 3) := by decide +kernel
theorem dX11_flow_38 : decode cX11_flow 38 = .ok (.laload, 1) := by decide +kernel
theorem dX11_flow_39 : decode cX11_flow 39 = .ok (.l2i, 1) := by decide +kernel
theorem dX11_flow_40 : decode cX11_flow 40 = .ok (.ireturn, 1) := by decide +kernel
theorem dX11_gain_0 : decode cX11_gain 0 = .ok (.aload_n 0, 1) := by decide +kernel
theorem dX11_gain_1 : decode cX11_gain 1 = .ok (.iload_n 1, 1) := by decide +kernel
theorem dX11_gain_2 : decode cX11_gain 2 = .ok (.iload_n 2, 1) := by decide +kernel
theorem dX11_gain_3 : decode cX11_gain 3 = .ok (.invokevirtual 118, 3) := by decide +kernel
theorem dX11_gain_6 : decode cX11_gain 6 = .ok (.ifCond .ne 11, 3) := by decide +kernel
theorem dX11_gain_9 : decode cX11_gain 9 = .ok (.aload_n 0, 1) := by decide +kernel
theorem dX11_gain_10 : decode cX11_gain 10 = .ok (.iload_n 3, 1) := by decide +kernel
theorem dX11_gain_11 : decode cX11_gain 11 = .ok (.invokevirtual 122, 3) := by decide +kernel
theorem dX11_gain_14 : decode cX11_gain 14 = .ok (.ifCond .eq 6, 3) := by decide +kernel
theorem dX11_gain_17 : decode cX11_gain 17 = .ok (.bipush (-2), 2) := by decide +kernel
theorem dX11_gain_19 : decode cX11_gain 19 = .ok (.ireturn, 1) := by decide +kernel
theorem dX11_gain_20 : decode cX11_gain 20 = .ok (.aload_n 0, 1) := by decide +kernel
theorem dX11_gain_21 : decode cX11_gain 21 = .ok (.iload_n 3, 1) := by decide +kernel
theorem dX11_gain_22 : decode cX11_gain 22 = .ok (.invokevirtual 174, 3) := by decide +kernel
theorem dX11_gain_25 : decode cX11_gain 25 = .ok (.aload_n 0, 1) := by decide +kernel
theorem dX11_gain_26 : decode cX11_gain 26 = .ok (.getfield 56, 3) := by decide +kernel
theorem dX11_gain_29 : decode cX11_gain 29 = .ok (.getfield 177, 3) := by decide +kernel
theorem dX11_gain_32 : decode cX11_gain 32 = .ok (.ifCond .ne 5, 3) := by decide +kernel
theorem dX11_gain_35 : decode cX11_gain 35 = .ok (.iconst (-1), 1) := by decide +kernel
theorem dX11_gain_36 : decode cX11_gain 36 = .ok (.ireturn, 1) := by decide +kernel
theorem dX11_gain_37 : decode cX11_gain 37 = .ok (.aload_n 0, 1) := by decide +kernel
theorem dX11_gain_38 : decode cX11_gain 38 = .ok (.iload_n 3, 1) := by decide +kernel
theorem dX11_gain_39 : decode cX11_gain 39 = .ok (.iconst (-1), 1) := by decide +kernel
theorem dX11_gain_40 : decode cX11_gain 40 = .ok (.invokevirtual 280, 3) := by decide +kernel
theorem dX11_gain_43 : decode cX11_gain 43 = .ok (.aload_n 0, 1) := by decide +kernel
theorem dX11_gain_44 : decode cX11_gain 44 = .ok (.getfield 60, 3) := by decide +kernel
theorem dX11_gain_47 : decode cX11_gain 47 = .ok (.getfield 283, 3) := by decide +kernel
theorem dX11_gain_50 : decode cX11_gain 50 = .ok (.iload_n 1, 1) := by decide +kernel
theorem dX11_gain_51 : decode cX11_gain 51 = .ok (.iload_n 2, 1) := by decide +kernel
theorem dX11_gain_52 : decode cX11_gain 52 = .ok (.invokestatic 151, 3) := by decide +kernel
theorem dX11_gain_55 : decode cX11_gain 55 = .ok (.dup2, 1) := by decide +kernel
theorem dX11_gain_56 : decode cX11_gain 56 = .ok (.laload, 1) := by decide +kernel
theorem dX11_gain_57 : decode cX11_gain 57 = .ok (.lconst 1, 1) := by decide +kernel
theorem dX11_gain_58 : decode cX11_gain 58 = .ok (.ladd, 1) := by decide +kernel
theorem dX11_gain_59 : decode cX11_gain 59 = .ok (.lastore, 1) := by decide +kernel
theorem dX11_gain_60 : decode cX11_gain 60 = .ok (.aload_n 0, 1) := by decide +kernel
theorem dX11_gain_61 : decode cX11_gain 61 = .ok (.getfield 60, 3) := by decide +kernel
theorem dX11_gain_64 : decode cX11_gain 64 = .ok (.invokevirtual 286, 3) := by decide +kernel
theorem dX11_gain_67 : decode cX11_gain 67 = .ok (.aload_n 0, 1) := by decide +kernel
theorem dX11_gain_68 : decode cX11_gain 68 = .ok (.getfield 56, 3) := by decide +kernel
theorem dX11_gain_71 : decode cX11_gain 71 = .ok (.getfield 274, 3) := by decide +kernel
theorem dX11_gain_74 : decode cX11_gain 74 = .ok (.aload_n 0, 1) := by decide +kernel
theorem dX11_gain_75 : decode cX11_gain 75 = .ok (.getfield 60, 3) := by decide +kernel
theorem dX11_gain_78 : decode cX11_gain 78 = .ok (.getfield 274, 3) := by decide +kernel
theorem dX11_gain_81 : decode cX11_gain 81 = .ok (.lsub, 1) := by decide +kernel
theorem dX11_gain_82 : decode cX11_gain 82 = .ok (.l2i, 1) := by decide +kernel
theorem dX11_gain_83 : decode cX11_gain 83 = .ok (.ireturn, 1) := by decide +kernel
theorem dX11_keep_0 : decode cX11_keep 0 = .ok (.aload_n 0, 1) := by decide +kernel
theorem dX11_keep_1 : decode cX11_keep 1 = .ok (.iload_n 1, 1) := by decide +kernel
theorem dX11_keep_2 : decode cX11_keep 2 = .ok (.invokevirtual 133, 3) := by decide +kernel
theorem dX11_keep_5 : decode cX11_keep 5 = .ok (.ifCond .eq 6, 3) := by decide +kernel
theorem dX11_keep_8 : decode cX11_keep 8 = .ok (.bipush (-2), 2) := by decide +kernel
theorem dX11_keep_10 : decode cX11_keep 10 = .ok (.ireturn, 1) := by decide +kernel
theorem dX11_keep_11 : decode cX11_keep 11 = .ok (.aload_n 0, 1) := by decide +kernel
theorem dX11_keep_12 : decode cX11_keep 12 = .ok (.invokevirtual 127, 3) := by decide +kernel
theorem dX11_keep_15 : decode cX11_keep 15 = .ok (.aload_n 0, 1) := by decide +kernel
theorem dX11_keep_16 : decode cX11_keep 16 = .ok (.getfield 87, 3) := by decide +kernel
theorem dX11_keep_19 : decode cX11_keep 19 = .ok (.getfield 139, 3) := by decide +kernel
theorem dX11_keep_22 : decode cX11_keep 22 = .ok (.iload_n 1, 1) := by decide +kernel
theorem dX11_keep_23 : decode cX11_keep 23 = .ok (.aload_n 0, 1) := by decide +kernel
theorem dX11_keep_24 : decode cX11_keep 24 = .ok (.getfield 87, 3) := by decide +kernel
theorem dX11_keep_27 : decode cX11_keep 27 = .ok (.getfield 139, 3) := by decide +kernel
theorem dX11_keep_30 : decode cX11_keep 30 = .ok (.iload_n 1, 1) := by decide +kernel
theorem dX11_keep_31 : decode cX11_keep 31 = .ok (.baload, 1) := by decide +kernel
theorem dX11_keep_32 : decode cX11_keep 32 = .ok (.ifCond .ne 7, 3) := by decide +kernel
theorem dX11_keep_35 : decode cX11_keep 35 = .ok (.iconst 1, 1) := by decide +kernel
theorem dX11_keep_36 : decode cX11_keep 36 = .ok (.goto 4, 3) := by decide +kernel
theorem dX11_keep_39 : decode cX11_keep 39 = .ok (.iconst 0, 1) := by decide +kernel
theorem dX11_keep_40 : decode cX11_keep 40 = .ok (.bastore, 1) := by decide +kernel
theorem dX11_keep_41 : decode cX11_keep 41 = .ok (.aload_n 0, 1) := by decide +kernel
theorem dX11_keep_42 : decode cX11_keep 42 = .ok (.getfield 87, 3) := by decide +kernel
theorem dX11_keep_45 : decode cX11_keep 45 = .ok (.getfield 139, 3) := by decide +kernel
theorem dX11_keep_48 : decode cX11_keep 48 = .ok (.iload_n 1, 1) := by decide +kernel
theorem dX11_keep_49 : decode cX11_keep 49 = .ok (.baload, 1) := by decide +kernel
theorem dX11_keep_50 : decode cX11_keep 50 = .ok (.ifCond .eq 7, 3) := by decide +kernel
theorem dX11_keep_53 : decode cX11_keep 53 = .ok (.iconst 1, 1) := by decide +kernel
theorem dX11_keep_54 : decode cX11_keep 54 = .ok (.goto 4, 3) := by decide +kernel
theorem dX11_keep_57 : decode cX11_keep 57 = .ok (.iconst 0, 1) := by decide +kernel
theorem dX11_keep_58 : decode cX11_keep 58 = .ok (.ireturn, 1) := by decide +kernel
theorem dX11_least_0 : decode cX11_least 0 = .ok (.aload_n 0, 1) := by decide +kernel
theorem dX11_least_1 : decode cX11_least 1 = .ok (.iload_n 1, 1) := by decide +kernel
theorem dX11_least_2 : decode cX11_least 2 = .ok (.invokevirtual 122, 3) := by decide +kernel
theorem dX11_least_5 : decode cX11_least 5 = .ok (.ifCond .eq 6, 3) := by decide +kernel
theorem dX11_least_8 : decode cX11_least 8 = .ok (.bipush (-2), 2) := by decide +kernel
theorem dX11_least_10 : decode cX11_least 10 = .ok (.ireturn, 1) := by decide +kernel
theorem dX11_least_11 : decode cX11_least 11 = .ok (.aload_n 0, 1) := by decide +kernel
theorem dX11_least_12 : decode cX11_least 12 = .ok (.iload_n 1, 1) := by decide +kernel
theorem dX11_least_13 : decode cX11_least 13 = .ok (.invokevirtual 174, 3) := by decide +kernel
theorem dX11_least_16 : decode cX11_least 16 = .ok (.aload_n 0, 1) := by decide +kernel
theorem dX11_least_17 : decode cX11_least 17 = .ok (.getfield 56, 3) := by decide +kernel
theorem dX11_least_20 : decode cX11_least 20 = .ok (.getfield 177, 3) := by decide +kernel
theorem dX11_least_23 : decode cX11_least 23 = .ok (.ifCond .eq 14, 3) := by decide +kernel
theorem dX11_least_26 : decode cX11_least 26 = .ok (.aload_n 0, 1) := by decide +kernel
theorem dX11_least_27 : decode cX11_least 27 = .ok (.getfield 56, 3) := by decide +kernel
theorem dX11_least_30 : decode cX11_least 30 = .ok (.getfield 274, 3) := by decide +kernel
theorem dX11_least_33 : decode cX11_least 33 = .ok (.l2i, 1) := by decide +kernel
theorem dX11_least_34 : decode cX11_least 34 = .ok (.goto 4, 3) := by decide +kernel
theorem dX11_least_37 : decode cX11_least 37 = .ok (.iconst (-1), 1) := by decide +kernel
theorem dX11_least_38 : decode cX11_least 38 = .ok (.ireturn, 1) := by decide +kernel
theorem dX11_line_0 : decode cX11_line 0 = .ok (.aload_n 0, 1) := by decide +kernel
theorem dX11_line_1 : decode cX11_line 1 = .ok (.iload_n 1, 1) := by decide +kernel
theorem dX11_line_2 : decode cX11_line 2 = .ok (.invokevirtual 133, 3) := by decide +kernel
theorem dX11_line_5 : decode cX11_line 5 = .ok (.ifCond .eq 6, 3) := by decide +kernel
theorem dX11_line_8 : decode cX11_line 8 = .ok (.bipush (-2), 2) := by decide +kernel
theorem dX11_line_10 : decode cX11_line 10 = .ok (.ireturn, 1) := by decide +kernel
theorem dX11_line_11 : decode cX11_line 11 = .ok (.iload_n 2, 1) := by decide +kernel
theorem dX11_line_12 : decode cX11_line 12 = .ok (.ifCond .ge 6, 3) := by decide +kernel
theorem dX11_line_15 : decode cX11_line 15 = .ok (.bipush (-3), 2) := by decide +kernel
theorem dX11_line_17 : decode cX11_line 17 = .ok (.ireturn, 1) := by decide +kernel
theorem dX11_line_18 : decode cX11_line 18 = .ok (.aload_n 0, 1) := by decide +kernel
theorem dX11_line_19 : decode cX11_line 19 = .ok (.getfield 73, 3) := by decide +kernel
theorem dX11_line_22 : decode cX11_line 22 = .ok (.aload_n 0, 1) := by decide +kernel
theorem dX11_line_23 : decode cX11_line 23 = .ok (.getfield 80, 3) := by decide +kernel
theorem dX11_line_26 : decode cX11_line 26 = .ok (.aload_n 0, 1) := by decide +kernel
theorem dX11_line_27 : decode cX11_line 27 = .ok (.getfield 87, 3) := by decide +kernel
theorem dX11_line_30 : decode cX11_line 30 = .ok (.iload_n 1, 1) := by decide +kernel
theorem dX11_line_31 : decode cX11_line 31 = .ok (.invokevirtual 329, 3) := by decide +kernel
theorem dX11_line_34 : decode cX11_line 34 = .ok (.iload_n 2, 1) := by decide +kernel
theorem dX11_line_35 : decode cX11_line 35 = .ok (.aload_n 0, 1) := by decide +kernel
theorem dX11_line_36 : decode cX11_line 36 = .ok (.getfield 73, 3) := by decide +kernel
theorem dX11_line_39 : decode cX11_line 39 = .ok (.getfield 333, 3) := by decide +kernel
theorem dX11_line_42 : decode cX11_line 42 = .ok (.if_icmp .ge 15, 3) := by decide +kernel
theorem dX11_line_45 : decode cX11_line 45 = .ok (.aload_n 0, 1) := by decide +kernel
theorem dX11_line_46 : decode cX11_line 46 = .ok (.getfield 73, 3) := by decide +kernel
theorem dX11_line_49 : decode cX11_line 49 = .ok (.getfield 334, 3) := by decide +kernel
theorem dX11_line_52 : decode cX11_line 52 = .ok (.iload_n 2, 1) := by decide +kernel
theorem dX11_line_53 : decode cX11_line 53 = .ok (.baload, 1) := by decide +kernel
theorem dX11_line_54 : decode cX11_line 54 = .ok (.goto 4, 3) := by decide +kernel
theorem dX11_line_57 : decode cX11_line 57 = .ok (.iconst (-1), 1) := by decide +kernel
theorem dX11_line_58 : decode cX11_line 58 = .ok (.ireturn, 1) := by decide +kernel
theorem dX11_load_0 : decode cX11_load 0 = .ok (.aload_n 0, 1) := by decide +kernel
theorem dX11_load_1 : decode cX11_load 1 = .ok (.iload_n 1, 1) := by decide +kernel
theorem dX11_load_2 : decode cX11_load 2 = .ok (.invokevirtual 122, 3) := by decide +kernel
theorem dX11_load_5 : decode cX11_load 5 = .ok (.ifCond .eq 6, 3) := by decide +kernel
theorem dX11_load_8 : decode cX11_load 8 = .ok (.bipush (-2), 2) := by decide +kernel
theorem dX11_load_10 : decode cX11_load 10 = .ok (.ireturn, 1) := by decide +kernel
theorem dX11_load_11 : decode cX11_load 11 = .ok (.aload_n 0, 1) := by decide +kernel
theorem dX11_load_12 : decode cX11_load 12 = .ok (.iload_n 1, 1) := by decide +kernel
theorem dX11_load_13 : decode cX11_load 13 = .ok (.invokevirtual 155, 3) := by decide +kernel
theorem dX11_load_16 : decode cX11_load 16 = .ok (.aload_n 0, 1) := by decide +kernel
theorem dX11_load_17 : decode cX11_load 17 = .ok (.getfield 42, 3) := by decide +kernel
theorem dX11_load_20 : decode cX11_load 20 = .ok (.getfield 158, 3) := by decide +kernel
theorem dX11_load_23 : decode cX11_load 23 = .ok (.ifCond .ne 7, 3) := by decide +kernel
theorem dX11_load_26 : decode cX11_load 26 = .ok (.iconst (-1), 1) := by decide +kernel
theorem dX11_load_27 : decode cX11_load 27 = .ok (.goto 15, 3) := by decide +kernel
theorem dX11_load_30 : decode cX11_load 30 = .ok (.aload_n 0, 1) := by decide +kernel
theorem dX11_load_31 : decode cX11_load 31 = .ok (.getfield 42, 3) := by decide +kernel
theorem dX11_load_34 : decode cX11_load 34 = .ok (.aload_n 0, 1) := by decide +kernel
theorem dX11_load_35 : decode cX11_load 35 = .ok (.getfield 35, 3) := by decide +kernel
theorem dX11_load_38 : decode cX11_load 38 = .ok (.invokevirtual 159, 3) := by decide +kernel
theorem dX11_load_41 : decode cX11_load 41 = .ok (.l2i, 1) := by decide +kernel
theorem dX11_load_42 : decode cX11_load 42 = .ok (.ireturn, 1) := by decide +kernel
theorem dX11_mode_0 : decode cX11_mode 0 = .ok (.iload_n 1, 1) := by decide +kernel
theorem dX11_mode_1 : decode cX11_mode 1 = .ok (.ifCond .lt 8, 3) := by decide +kernel
theorem dX11_mode_4 : decode cX11_mode 4 = .ok (.iload_n 1, 1) := by decide +kernel
theorem dX11_mode_5 : decode cX11_mode 5 = .ok (.iconst 3, 1) := by decide +kernel
theorem dX11_mode_6 : decode cX11_mode 6 = .ok (.if_icmp .le 6, 3) := by decide +kernel
theorem dX11_mode_9 : decode cX11_mode 9 = .ok (.bipush (-3), 2) := by decide +kernel
theorem dX11_mode_11 : decode cX11_mode 11 = .ok (.ireturn, 1) := by decide +kernel
theorem dX11_mode_12 : decode cX11_mode 12 = .ok (.aload_n 0, 1) := by decide +kernel
theorem dX11_mode_13 : decode cX11_mode 13 = .ok (.invokevirtual 127, 3) := by decide +kernel
theorem dX11_mode_16 : decode cX11_mode 16 = .ok (.aload_n 0, 1) := by decide +kernel
theorem dX11_mode_17 : decode cX11_mode 17 = .ok (.getfield 87, 3) := by decide +kernel
theorem dX11_mode_20 : decode cX11_mode 20 = .ok (.getfield 143, 3) := by decide +kernel
theorem dX11_mode_23 : decode cX11_mode 23 = .ok (.istore_n 2, 1) := by decide +kernel
theorem dX11_mode_24 : decode cX11_mode 24 = .ok (.aload_n 0, 1) := by decide +kernel
theorem dX11_mode_25 : decode cX11_mode 25 = .ok (.getfield 87, 3) := by decide +kernel
theorem dX11_mode_28 : decode cX11_mode 28 = .ok (.iload_n 1, 1) := by decide +kernel
theorem dX11_mode_29 : decode cX11_mode 29 = .ok (.putfield 143, 3) := by decide +kernel
theorem dX11_mode_32 : decode cX11_mode 32 = .ok (.iload_n 2, 1) := by decide +kernel
theorem dX11_mode_33 : decode cX11_mode 33 = .ok (.ireturn, 1) := by decide +kernel
theorem dX11_net_0 : decode cX11_net 0 = .ok (.aload_n 0, 1) := by decide +kernel
theorem dX11_net_1 : decode cX11_net 1 = .ok (.iload_n 1, 1) := by decide +kernel
theorem dX11_net_2 : decode cX11_net 2 = .ok (.invokevirtual 221, 3) := by decide +kernel
theorem dX11_net_5 : decode cX11_net 5 = .ok (.ifCond .ne 11, 3) := by decide +kernel
theorem dX11_net_8 : decode cX11_net 8 = .ok (.aload_n 0, 1) := by decide +kernel
theorem dX11_net_9 : decode cX11_net 9 = .ok (.iload_n 2, 1) := by decide +kernel
theorem dX11_net_10 : decode cX11_net 10 = .ok (.invokevirtual 122, 3) := by decide +kernel
theorem dX11_net_13 : decode cX11_net 13 = .ok (.ifCond .eq 6, 3) := by decide +kernel
theorem dX11_net_16 : decode cX11_net 16 = .ok (.bipush (-2), 2) := by decide +kernel
theorem dX11_net_18 : decode cX11_net 18 = .ok (.ireturn, 1) := by decide +kernel
theorem dX11_net_19 : decode cX11_net 19 = .ok (.iload_n 3, 1) := by decide +kernel
theorem dX11_net_20 : decode cX11_net 20 = .ok (.ifCond .eq 23, 3) := by decide +kernel
theorem dX11_net_23 : decode cX11_net 23 = .ok (.aload_n 0, 1) := by decide +kernel
theorem dX11_net_24 : decode cX11_net 24 = .ok (.iload_n 2, 1) := by decide +kernel
theorem dX11_net_25 : decode cX11_net 25 = .ok (.iconst (-1), 1) := by decide +kernel
theorem dX11_net_26 : decode cX11_net 26 = .ok (.invokevirtual 214, 3) := by decide +kernel
theorem dX11_net_29 : decode cX11_net 29 = .ok (.aload_n 0, 1) := by decide +kernel
theorem dX11_net_30 : decode cX11_net 30 = .ok (.getfield 35, 3) := by decide +kernel
theorem dX11_net_33 : decode cX11_net 33 = .ok (.iload_n 1, 1) := by decide +kernel
theorem dX11_net_34 : decode cX11_net 34 = .ok (.invokevirtual 224, 3) := by decide +kernel
theorem dX11_net_37 : decode cX11_net 37 = .ok (.ldc2_w 228, 3) := by decide +kernel
theorem dX11_net_40 : decode cX11_net 40 = .ok (.ladd, 1) := by decide +kernel
theorem dX11_net_41 : decode cX11_net 41 = .ok (.l2i, 1) := by decide +kernel
theorem dX11_net_42 : decode cX11_net 42 = .ok (.ireturn, 1) := by decide +kernel
theorem dX11_net_43 : decode cX11_net 43 = .ok (.aload_n 0, 1) := by decide +kernel
theorem dX11_net_44 : decode cX11_net 44 = .ok (.getfield 87, 3) := by decide +kernel
theorem dX11_net_47 : decode cX11_net 47 = .ok (.iload_n 1, 1) := by decide +kernel
theorem dX11_net_48 : decode cX11_net 48 = .ok (.iload_n 2, 1) := by decide +kernel
theorem dX11_net_49 : decode cX11_net 49 = .ok (.invokevirtual 230, 3) := by decide +kernel
theorem dX11_net_52 : decode cX11_net 52 = .ok (.aload_n 0, 1) := by decide +kernel
theorem dX11_net_53 : decode cX11_net 53 = .ok (.getfield 87, 3) := by decide +kernel
theorem dX11_net_56 : decode cX11_net 56 = .ok (.iload_n 1, 1) := by decide +kernel
theorem dX11_net_57 : decode cX11_net 57 = .ok (.iload_n 2, 1) := by decide +kernel
theorem dX11_net_58 : decode cX11_net 58 = .ok (.invokevirtual 234, 3) := by decide +kernel
theorem dX11_net_61 : decode cX11_net 61 = .ok (.lsub, 1) := by decide +kernel
theorem dX11_net_62 : decode cX11_net 62 = .ok (.ldc2_w 228, 3) := by decide +kernel
theorem dX11_net_65 : decode cX11_net 65 = .ok (.ladd, 1) := by decide +kernel
theorem dX11_net_66 : decode cX11_net 66 = .ok (.l2i, 1) := by decide +kernel
theorem dX11_net_67 : decode cX11_net 67 = .ok (.ireturn, 1) := by decide +kernel
theorem dX11_press_0 : decode cX11_press 0 = .ok (.aload_n 0, 1) := by decide +kernel
theorem dX11_press_1 : decode cX11_press 1 = .ok (.iload_n 1, 1) := by decide +kernel
theorem dX11_press_2 : decode cX11_press 2 = .ok (.invokevirtual 122, 3) := by decide +kernel
theorem dX11_press_5 : decode cX11_press 5 = .ok (.ifCond .eq 6, 3) := by decide +kernel
theorem dX11_press_8 : decode cX11_press 8 = .ok (.bipush (-2), 2) := by decide +kernel
theorem dX11_press_10 : decode cX11_press 10 = .ok (.ireturn, 1) := by decide +kernel
theorem dX11_press_11 : decode cX11_press 11 = .ok (.aload_n 0, 1) := by decide +kernel
theorem dX11_press_12 : decode cX11_press 12 = .ok (.iload_n 1, 1) := by decide +kernel
theorem dX11_press_13 : decode cX11_press 13 = .ok (.invokevirtual 174, 3) := by decide +kernel
theorem dX11_press_16 : decode cX11_press 16 = .ok (.aload_n 0, 1) := by decide +kernel
theorem dX11_press_17 : decode cX11_press 17 = .ok (.getfield 56, 3) := by decide +kernel
theorem dX11_press_20 : decode cX11_press 20 = .ok (.getfield 177, 3) := by decide +kernel
theorem dX11_press_23 : decode cX11_press 23 = .ok (.ifCond .ne 6, 3) := by decide +kernel
theorem dX11_press_26 : decode cX11_press 26 = .ok (.bipush (-5), 2) := by decide +kernel
theorem dX11_press_28 : decode cX11_press 28 = .ok (.ireturn, 1) := by decide +kernel
theorem dX11_press_29 : decode cX11_press 29 = .ok (.aload_n 0, 1) := by decide +kernel
theorem dX11_press_30 : decode cX11_press 30 = .ok (.getfield 87, 3) := by decide +kernel
theorem dX11_press_33 : decode cX11_press 33 = .ok (.getfield 114, 3) := by decide +kernel
theorem dX11_press_36 : decode cX11_press 36 = .ok (.aload_n 0, 1) := by decide +kernel
theorem dX11_press_37 : decode cX11_press 37 = .ok (.getfield 87, 3) := by decide +kernel
theorem dX11_press_40 : decode cX11_press 40 = .ok (.iload_n 1, 1) := by decide +kernel
theorem dX11_press_41 : decode cX11_press 41 = .ok (.invokevirtual 181, 3) := by decide +kernel
theorem dX11_press_44 : decode cX11_press 44 = .ok (.isub, 1) := by decide +kernel
theorem dX11_press_45 : decode cX11_press 45 = .ok (.aload_n 0, 1) := by decide +kernel
theorem dX11_press_46 : decode cX11_press 46 = .ok (.getfield 56, 3) := by decide +kernel
theorem dX11_press_49 : decode cX11_press 49 = .ok (.invokevirtual 184, 3) := by decide +kernel
theorem dX11_press_52 : decode cX11_press 52 = .ok (.iadd, 1) := by decide +kernel
theorem dX11_press_53 : decode cX11_press 53 = .ok (.bipush 40, 2) := by decide +kernel
theorem dX11_press_55 : decode cX11_press 55 = .ok (.if_icmp .le 6, 3) := by decide +kernel
theorem dX11_press_58 : decode cX11_press 58 = .ok (.bipush (-4), 2) := by decide +kernel
theorem dX11_press_60 : decode cX11_press 60 = .ok (.ireturn, 1) := by decide +kernel
theorem dX11_press_61 : decode cX11_press 61 = .ok (.aload_n 0, 1) := by decide +kernel
theorem dX11_press_62 : decode cX11_press 62 = .ok (.invokevirtual 127, 3) := by decide +kernel
theorem dX11_press_65 : decode cX11_press 65 = .ok (.aload_n 0, 1) := by decide +kernel
theorem dX11_press_66 : decode cX11_press 66 = .ok (.getfield 87, 3) := by decide +kernel
theorem dX11_press_69 : decode cX11_press 69 = .ok (.iload_n 1, 1) := by decide +kernel
theorem dX11_press_70 : decode cX11_press 70 = .ok (.invokevirtual 188, 3) := by decide +kernel
theorem dX11_press_73 : decode cX11_press 73 = .ok (.iconst 0, 1) := by decide +kernel
theorem dX11_press_74 : decode cX11_press 74 = .ok (.istore_n 2, 1) := by decide +kernel
theorem dX11_press_75 : decode cX11_press 75 = .ok (.iload_n 2, 1) := by decide +kernel
theorem dX11_press_76 : decode cX11_press 76 = .ok (.aload_n 0, 1) := by decide +kernel
theorem dX11_press_77 : decode cX11_press 77 = .ok (.getfield 80, 3) := by decide +kernel
theorem dX11_press_80 : decode cX11_press 80 = .ok (.getfield 191, 3) := by decide +kernel
theorem dX11_press_83 : decode cX11_press 83 = .ok (.if_icmp .ge 62, 3) := by decide +kernel
theorem dX11_press_86 : decode cX11_press 86 = .ok (.iconst 0, 1) := by decide +kernel
theorem dX11_press_87 : decode cX11_press 87 = .ok (.istore_n 3, 1) := by decide +kernel
theorem dX11_press_88 : decode cX11_press 88 = .ok (.iload_n 3, 1) := by decide +kernel
theorem dX11_press_89 : decode cX11_press 89 = .ok (.aload_n 0, 1) := by decide +kernel
theorem dX11_press_90 : decode cX11_press 90 = .ok (.getfield 80, 3) := by decide +kernel
theorem dX11_press_93 : decode cX11_press 93 = .ok (.getfield 191, 3) := by decide +kernel
theorem dX11_press_96 : decode cX11_press 96 = .ok (.if_icmp .ge 43, 3) := by decide +kernel
theorem dX11_press_99 : decode cX11_press 99 = .ok (.aload_n 0, 1) := by decide +kernel
theorem dX11_press_100 : decode cX11_press 100 = .ok (.getfield 56, 3) := by decide +kernel
theorem dX11_press_103 : decode cX11_press 103 = .ok (.getfield 194, 3) := by decide +kernel
theorem dX11_press_106 : decode cX11_press 106 = .ok (.iload_n 2, 1) := by decide +kernel
theorem dX11_press_107 : decode cX11_press 107 = .ok (.iload_n 3, 1) := by decide +kernel
theorem dX11_press_108 : decode cX11_press 108 = .ok (.invokestatic 151, 3) := by decide +kernel
theorem dX11_press_111 : decode cX11_press 111 = .ok (.laload, 1) := by decide +kernel
theorem dX11_press_112 : decode cX11_press 112 = .ok (.lstore 4, 2) := by decide +kernel
theorem dX11_press_114 : decode cX11_press 114 = .ok (.lload 4, 2) := by decide +kernel
theorem dX11_press_116 : decode cX11_press 116 = .ok (.lconst 0, 1) := by decide +kernel
theorem dX11_press_117 : decode cX11_press 117 = .ok (.lcmp, 1) := by decide +kernel
theorem dX11_press_118 : decode cX11_press 118 = .ok (.ifCond .le 15, 3) := by decide +kernel
theorem dX11_press_121 : decode cX11_press 121 = .ok (.aload_n 0, 1) := by decide +kernel
theorem dX11_press_122 : decode cX11_press 122 = .ok (.getfield 87, 3) := by decide +kernel
theorem dX11_press_125 : decode cX11_press 125 = .ok (.iload_n 2, 1) := by decide +kernel
theorem dX11_press_126 : decode cX11_press 126 = .ok (.iload_n 3, 1) := by decide +kernel
theorem dX11_press_127 : decode cX11_press 127 = .ok (.lload 4, 2) := by decide +kernel
theorem dX11_press_129 : decode cX11_press 129 = .ok (.iload_n 1, 1) := by decide +kernel
theorem dX11_press_130 : decode cX11_press 130 = .ok (.invokevirtual 130, 3) := by decide +kernel
theorem dX11_press_133 : decode cX11_press 133 = .ok (.iinc 3 1, 3) := by decide +kernel
theorem dX11_press_136 : decode cX11_press 136 = .ok (.goto (-48), 3) := by decide +kernel
theorem dX11_press_139 : decode cX11_press 139 = .ok (.iinc 2 1, 3) := by decide +kernel
theorem dX11_press_142 : decode cX11_press 142 = .ok (.goto (-67), 3) := by decide +kernel
theorem dX11_press_145 : decode cX11_press 145 = .ok (.aload_n 0, 1) := by decide +kernel
theorem dX11_press_146 : decode cX11_press 146 = .ok (.getfield 87, 3) := by decide +kernel
theorem dX11_press_149 : decode cX11_press 149 = .ok (.getfield 114, 3) := by decide +kernel
theorem dX11_press_152 : decode cX11_press 152 = .ok (.ireturn, 1) := by decide +kernel
theorem dX11_pressed_0 : decode cX11_pressed 0 = .ok (.aload_n 0, 1) := by decide +kernel
theorem dX11_pressed_1 : decode cX11_pressed 1 = .ok (.iload_n 1, 1) := by decide +kernel
theorem dX11_pressed_2 : decode cX11_pressed 2 = .ok (.iload_n 2, 1) := by decide +kernel
theorem dX11_pressed_3 : decode cX11_pressed 3 = .ok (.invokevirtual 118, 3) := by decide +kernel
theorem dX11_pressed_6 : decode cX11_pressed 6 = .ok (.ifCond .ne 11, 3) := by decide +kernel
theorem dX11_pressed_9 : decode cX11_pressed 9 = .ok (.aload_n 0, 1) := by decide +kernel
theorem dX11_pressed_10 : decode cX11_pressed 10 = .ok (.iload_n 3, 1) := by decide +kernel
theorem dX11_pressed_11 : decode cX11_pressed 11 = .ok (.invokevirtual 122, 3) := by decide +kernel
theorem dX11_pressed_14 : decode cX11_pressed 14 = .ok (.ifCond .eq 6, 3) := by decide +kernel
theorem dX11_pressed_17 : decode cX11_pressed 17 = .ok (.bipush (-2), 2) := by decide +kernel
theorem dX11_pressed_19 : decode cX11_pressed 19 = .ok (.ireturn, 1) := by decide +kernel
theorem dX11_pressed_20 : decode cX11_pressed 20 = .ok (.aload_n 0, 1) := by decide +kernel
theorem dX11_pressed_21 : decode cX11_pressed 21 = .ok (.iload_n 3, 1) := by decide +kernel
theorem dX11_pressed_22 : decode cX11_pressed 22 = .ok (.invokevirtual 174, 3) := by decide +kernel
theorem dX11_pressed_25 : decode cX11_pressed 25 = .ok (.aload_n 0, 1) := by decide +kernel
theorem dX11_pressed_26 : decode cX11_pressed 26 = .ok (.getfield 56, 3) := by decide +kernel
theorem dX11_pressed_29 : decode cX11_pressed 29 = .ok (.getfield 177, 3) := by decide +kernel
theorem dX11_pressed_32 : decode cX11_pressed 32 = .ok (.ifCond .eq 20, 3) := by decide +kernel
theorem dX11_pressed_35 : decode cX11_pressed 35 = .ok (.aload_n 0, 1) := by decide +kernel
theorem dX11_pressed_36 : decode cX11_pressed 36 = .ok (.getfield 56, 3) := by decide +kernel
theorem dX11_pressed_39 : decode cX11_pressed 39 = .ok (.getfield 194, 3) := by decide +kernel
theorem dX11_pressed_42 : decode cX11_pressed 42 = .ok (.iload_n 1, 1) := by decide +kernel
theorem dX11_pressed_43 : decode cX11_pressed 43 = .ok (.iload_n 2, 1) := by decide +kernel
theorem dX11_pressed_44 : decode cX11_pressed 44 = .ok (.invokestatic 151, 3) := by decide +kernel
theorem dX11_pressed_47 : decode cX11_pressed 47 = .ok (.laload, 1) := by decide +kernel
theorem dX11_pressed_48 : decode cX11_pressed 48 = .ok (.l2i, 1) := by decide +kernel
theorem dX11_pressed_49 : decode cX11_pressed 49 = .ok (.goto 4, 3) := by decide +kernel
theorem dX11_pressed_52 : decode cX11_pressed 52 = .ok (.iconst (-1), 1) := by decide +kernel
theorem dX11_pressed_53 : decode cX11_pressed 53 = .ok (.ireturn, 1) := by decide +kernel
theorem dX11_relief_0 : decode cX11_relief 0 = .ok (.aload_n 0, 1) := by decide +kernel
theorem dX11_relief_1 : decode cX11_relief 1 = .ok (.iload_n 1, 1) := by decide +kernel
theorem dX11_relief_2 : decode cX11_relief 2 = .ok (.invokevirtual 221, 3) := by decide +kernel
theorem dX11_relief_5 : decode cX11_relief 5 = .ok (.ifCond .ne 11, 3) := by decide +kernel
theorem dX11_relief_8 : decode cX11_relief 8 = .ok (.aload_n 0, 1) := by decide +kernel
theorem dX11_relief_9 : decode cX11_relief 9 = .ok (.iload_n 2, 1) := by decide +kernel
theorem dX11_relief_10 : decode cX11_relief 10 = .ok (.invokevirtual 122, 3) := by decide +kernel
theorem dX11_relief_13 : decode cX11_relief 13 = .ok (.ifCond .eq 6, 3) := by decide +kernel
theorem dX11_relief_16 : decode cX11_relief 16 = .ok (.bipush (-2), 2) := by decide +kernel
theorem dX11_relief_18 : decode cX11_relief 18 = .ok (.ireturn, 1) := by decide +kernel
theorem dX11_relief_19 : decode cX11_relief 19 = .ok (.aload_n 0, 1) := by decide +kernel
theorem dX11_relief_20 : decode cX11_relief 20 = .ok (.iload_n 2, 1) := by decide +kernel
theorem dX11_relief_21 : decode cX11_relief 21 = .ok (.invokevirtual 174, 3) := by decide +kernel
theorem dX11_relief_24 : decode cX11_relief 24 = .ok (.aload_n 0, 1) := by decide +kernel
theorem dX11_relief_25 : decode cX11_relief 25 = .ok (.getfield 56, 3) := by decide +kernel
theorem dX11_relief_28 : decode cX11_relief 28 = .ok (.getfield 177, 3) := by decide +kernel
theorem dX11_relief_31 : decode cX11_relief 31 = .ok (.ifCond .ne 5, 3) := by decide +kernel
theorem dX11_relief_34 : decode cX11_relief 34 = .ok (.iconst (-1), 1) := by decide +kernel
theorem dX11_relief_35 : decode cX11_relief 35 = .ok (.ireturn, 1) := by decide +kernel
theorem dX11_relief_36 : decode cX11_relief 36 = .ok (.aload_n 0, 1) := by decide +kernel
theorem dX11_relief_37 : decode cX11_relief 37 = .ok (.iload_n 2, 1) := by decide +kernel
theorem dX11_relief_38 : decode cX11_relief 38 = .ok (.iconst (-1), 1) := by decide +kernel
theorem dX11_relief_39 : decode cX11_relief 39 = .ok (.invokevirtual 214, 3) := by decide +kernel
theorem dX11_relief_42 : decode cX11_relief 42 = .ok (.aload_n 0, 1) := by decide +kernel
theorem dX11_relief_43 : decode cX11_relief 43 = .ok (.iload_n 1, 1) := by decide +kernel
theorem dX11_relief_44 : decode cX11_relief 44 = .ok (.invokevirtual 295, 3) := by decide +kernel
theorem dX11_relief_47 : decode cX11_relief 47 = .ok (.ldc2_w 228, 3) := by decide +kernel
theorem dX11_relief_50 : decode cX11_relief 50 = .ok (.ladd, 1) := by decide +kernel
theorem dX11_relief_51 : decode cX11_relief 51 = .ok (.l2i, 1) := by decide +kernel
theorem dX11_relief_52 : decode cX11_relief 52 = .ok (.ireturn, 1) := by decide +kernel
theorem dX11_relieved_0 : decode cX11_relieved 0 = .ok (.aload_n 0, 1) := by decide +kernel
theorem dX11_relieved_1 : decode cX11_relieved 1 = .ok (.iload_n 1, 1) := by decide +kernel
theorem dX11_relieved_2 : decode cX11_relieved 2 = .ok (.invokevirtual 122, 3) := by decide +kernel
theorem dX11_relieved_5 : decode cX11_relieved 5 = .ok (.ifCond .eq 6, 3) := by decide +kernel
theorem dX11_relieved_8 : decode cX11_relieved 8 = .ok (.bipush (-2), 2) := by decide +kernel
theorem dX11_relieved_10 : decode cX11_relieved 10 = .ok (.ireturn, 1) := by decide +kernel
theorem dX11_relieved_11 : decode cX11_relieved 11 = .ok (.aload_n 0, 1) := by decide +kernel
theorem dX11_relieved_12 : decode cX11_relieved 12 = .ok (.iload_n 1, 1) := by decide +kernel
theorem dX11_relieved_13 : decode cX11_relieved 13 = .ok (.invokevirtual 174, 3) := by decide +kernel
theorem dX11_relieved_16 : decode cX11_relieved 16 = .ok (.aload_n 0, 1) := by decide +kernel
theorem dX11_relieved_17 : decode cX11_relieved 17 = .ok (.getfield 56, 3) := by decide +kernel
theorem dX11_relieved_20 : decode cX11_relieved 20 = .ok (.getfield 177, 3) := by decide +kernel
theorem dX11_relieved_23 : decode cX11_relieved 23 = .ok (.ifCond .ne 5, 3) := by decide +kernel
theorem dX11_relieved_26 : decode cX11_relieved 26 = .ok (.iconst (-1), 1) := by decide +kernel
theorem dX11_relieved_27 : decode cX11_relieved 27 = .ok (.ireturn, 1) := by decide +kernel
theorem dX11_relieved_28 : decode cX11_relieved 28 = .ok (.aload_n 0, 1) := by decide +kernel
theorem dX11_relieved_29 : decode cX11_relieved 29 = .ok (.iload_n 1, 1) := by decide +kernel
theorem dX11_relieved_30 : decode cX11_relieved 30 = .ok (.iconst (-1), 1) := by decide +kernel
theorem dX11_relieved_31 : decode cX11_relieved 31 = .ok (.invokevirtual 214, 3) := by decide +kernel
theorem dX11_relieved_34 : decode cX11_relieved 34 = .ok (.iconst (-1), 1) := by decide +kernel
theorem dX11_relieved_35 : decode cX11_relieved 35 = .ok (.istore_n 2, 1) := by decide +kernel
theorem dX11_relieved_36 : decode cX11_relieved 36 = .ok (.lconst 0, 1) := by decide +kernel
theorem dX11_relieved_37 : decode cX11_relieved 37 = .ok (.lstore_n 3, 1) := by decide +kernel
theorem dX11_relieved_38 : decode cX11_relieved 38 = .ok (.iconst 0, 1) := by decide +kernel
theorem dX11_relieved_39 : decode cX11_relieved 39 = .ok (.istore 5, 2) := by decide +kernel
theorem dX11_relieved_41 : decode cX11_relieved 41 = .ok (.iload 5, 2) := by decide +kernel
theorem dX11_relieved_43 : decode cX11_relieved 43 = .ok (.aload_n 0, 1) := by decide +kernel
theorem dX11_relieved_44 : decode cX11_relieved 44 = .ok (.getfield 80, 3) := by decide +kernel
theorem dX11_relieved_47 : decode cX11_relieved 47 = .ok (.getfield 191, 3) := by decide +kernel
theorem dX11_relieved_50 : decode cX11_relieved 50 = .ok (.if_icmp .ge 35, 3) := by decide +kernel
theorem dX11_relieved_53 : decode cX11_relieved 53 = .ok (.aload_n 0, 1) := by decide +kernel
theorem dX11_relieved_54 : decode cX11_relieved 54 = .ok (.iload 5, 2) := by decide +kernel
theorem dX11_relieved_56 : decode cX11_relieved 56 = .ok (.invokevirtual 295, 3) := by decide +kernel
theorem dX11_relieved_59 : decode cX11_relieved 59 = .ok (.lstore 6, 2) := by decide +kernel
theorem dX11_relieved_61 : decode cX11_relieved 61 = .ok (.iload_n 2, 1) := by decide +kernel
theorem dX11_relieved_62 : decode cX11_relieved 62 = .ok (.iconst (-1), 1) := by decide +kernel
theorem dX11_relieved_63 : decode cX11_relieved 63 = .ok (.if_icmp .eq 10, 3) := by decide +kernel
theorem dX11_relieved_66 : decode cX11_relieved 66 = .ok (.lload 6, 2) := by decide +kernel
theorem dX11_relieved_68 : decode cX11_relieved 68 = .ok (.lload_n 3, 1) := by decide +kernel
theorem dX11_relieved_69 : decode cX11_relieved 69 = .ok (.lcmp, 1) := by decide +kernel
theorem dX11_relieved_70 : decode cX11_relieved 70 = .ok (.ifCond .le 9, 3) := by decide +kernel
theorem dX11_relieved_73 : decode cX11_relieved 73 = .ok (.iload 5, 2) := by decide +kernel
theorem dX11_relieved_75 : decode cX11_relieved 75 = .ok (.istore_n 2, 1) := by decide +kernel
theorem dX11_relieved_76 : decode cX11_relieved 76 = .ok (.lload 6, 2) := by decide +kernel
theorem dX11_relieved_78 : decode cX11_relieved 78 = .ok (.lstore_n 3, 1) := by decide +kernel
theorem dX11_relieved_79 : decode cX11_relieved 79 = .ok (.iinc 5 1, 3) := by decide +kernel
theorem dX11_relieved_82 : decode cX11_relieved 82 = .ok (.goto (-41), 3) := by decide +kernel
theorem dX11_relieved_85 : decode cX11_relieved 85 = .ok (.iload_n 2, 1) := by decide +kernel
theorem dX11_relieved_86 : decode cX11_relieved 86 = .ok (.ireturn, 1) := by decide +kernel
theorem dX11_ring_0 : decode cX11_ring 0 = .ok (.aload_n 0, 1) := by decide +kernel
theorem dX11_ring_1 : decode cX11_ring 1 = .ok (.iload_n 1, 1) := by decide +kernel
theorem dX11_ring_2 : decode cX11_ring 2 = .ok (.invokevirtual 122, 3) := by decide +kernel
theorem dX11_ring_5 : decode cX11_ring 5 = .ok (.ifCond .eq 6, 3) := by decide +kernel
theorem dX11_ring_8 : decode cX11_ring 8 = .ok (.bipush (-2), 2) := by decide +kernel
theorem dX11_ring_10 : decode cX11_ring 10 = .ok (.ireturn, 1) := by decide +kernel
theorem dX11_ring_11 : decode cX11_ring 11 = .ok (.iload_n 2, 1) := by decide +kernel
theorem dX11_ring_12 : decode cX11_ring 12 = .ok (.iconst (-1), 1) := by decide +kernel
theorem dX11_ring_13 : decode cX11_ring 13 = .ok (.if_icmp .ge 6, 3) := by decide +kernel
theorem dX11_ring_16 : decode cX11_ring 16 = .ok (.bipush (-3), 2) := by decide +kernel
theorem dX11_ring_18 : decode cX11_ring 18 = .ok (.ireturn, 1) := by decide +kernel
theorem dX11_ring_19 : decode cX11_ring 19 = .ok (.aload_n 0, 1) := by decide +kernel
theorem dX11_ring_20 : decode cX11_ring 20 = .ok (.iload_n 1, 1) := by decide +kernel
theorem dX11_ring_21 : decode cX11_ring 21 = .ok (.invokevirtual 155, 3) := by decide +kernel
theorem dX11_ring_24 : decode cX11_ring 24 = .ok (.aload_n 0, 1) := by decide +kernel
theorem dX11_ring_25 : decode cX11_ring 25 = .ok (.getfield 42, 3) := by decide +kernel
theorem dX11_ring_28 : decode cX11_ring 28 = .ok (.getfield 158, 3) := by decide +kernel
theorem dX11_ring_31 : decode cX11_ring 31 = .ok (.ifCond .eq 14, 3) := by decide +kernel
theorem dX11_ring_34 : decode cX11_ring 34 = .ok (.iload_n 2, 1) := by decide +kernel
theorem dX11_ring_35 : decode cX11_ring 35 = .ok (.aload_n 0, 1) := by decide +kernel
theorem dX11_ring_36 : decode cX11_ring 36 = .ok (.getfield 42, 3) := by decide +kernel
theorem dX11_ring_39 : decode cX11_ring 39 = .ok (.getfield 158, 3) := by decide +kernel
theorem dX11_ring_42 : decode cX11_ring 42 = .ok (.if_icmp .lt 5, 3) := by decide +kernel
theorem dX11_ring_45 : decode cX11_ring 45 = .ok (.iconst (-1), 1) := by decide +kernel
theorem dX11_ring_46 : decode cX11_ring 46 = .ok (.ireturn, 1) := by decide +kernel
theorem dX11_ring_47 : decode cX11_ring 47 = .ok (.iload_n 2, 1) := by decide +kernel
theorem dX11_ring_48 : decode cX11_ring 48 = .ok (.iconst (-1), 1) := by decide +kernel
theorem dX11_ring_49 : decode cX11_ring 49 = .ok (.if_icmp .ne 13, 3) := by decide +kernel
theorem dX11_ring_52 : decode cX11_ring 52 = .ok (.aload_n 0, 1) := by decide +kernel
theorem dX11_ring_53 : decode cX11_ring 53 = .ok (.getfield 42, 3) := by decide +kernel
theorem dX11_ring_56 : decode cX11_ring 56 = .ok (.getfield 158, 3) := by decide +kernel
theorem dX11_ring_59 : decode cX11_ring 59 = .ok (.goto 12, 3) := by decide +kernel
theorem dX11_ring_62 : decode cX11_ring 62 = .ok (.aload_n 0, 1) := by decide +kernel
theorem dX11_ring_63 : decode cX11_ring 63 = .ok (.getfield 42, 3) := by decide +kernel
theorem dX11_ring_66 : decode cX11_ring 66 = .ok (.getfield 163, 3) := by decide +kernel
theorem dX11_ring_69 : decode cX11_ring 69 = .ok (.iload_n 2, 1) := by decide +kernel
theorem dX11_ring_70 : decode cX11_ring 70 = .ok (.iaload, 1) := by decide +kernel
theorem dX11_ring_71 : decode cX11_ring 71 = .ok (.ireturn, 1) := by decide +kernel
theorem dX11_rounds_0 : decode cX11_rounds 0 = .ok (.aload_n 0, 1) := by decide +kernel
theorem dX11_rounds_1 : decode cX11_rounds 1 = .ok (.iload_n 1, 1) := by decide +kernel
theorem dX11_rounds_2 : decode cX11_rounds 2 = .ok (.invokevirtual 122, 3) := by decide +kernel
theorem dX11_rounds_5 : decode cX11_rounds 5 = .ok (.ifCond .eq 6, 3) := by decide +kernel
theorem dX11_rounds_8 : decode cX11_rounds 8 = .ok (.bipush (-2), 2) := by decide +kernel
theorem dX11_rounds_10 : decode cX11_rounds 10 = .ok (.ireturn, 1) := by decide +kernel
theorem dX11_rounds_11 : decode cX11_rounds 11 = .ok (.iload_n 2, 1) := by decide +kernel
theorem dX11_rounds_12 : decode cX11_rounds 12 = .ok (.ifCond .lt 9, 3) := by decide +kernel
theorem dX11_rounds_15 : decode cX11_rounds 15 = .ok (.iload_n 2, 1) := by decide +kernel
theorem dX11_rounds_16 : decode cX11_rounds 16 = .ok (.bipush 99, 2) := by decide +kernel
theorem dX11_rounds_18 : decode cX11_rounds 18 = .ok (.if_icmp .le 6, 3) := by decide +kernel
theorem dX11_rounds_21 : decode cX11_rounds 21 = .ok (.bipush (-3), 2) := by decide +kernel
theorem dX11_rounds_23 : decode cX11_rounds 23 = .ok (.ireturn, 1) := by decide +kernel
theorem dX11_rounds_24 : decode cX11_rounds 24 = .ok (.aload_n 0, 1) := by decide +kernel
theorem dX11_rounds_25 : decode cX11_rounds 25 = .ok (.iload_n 1, 1) := by decide +kernel
theorem dX11_rounds_26 : decode cX11_rounds 26 = .ok (.iconst (-1), 1) := by decide +kernel
theorem dX11_rounds_27 : decode cX11_rounds 27 = .ok (.invokevirtual 214, 3) := by decide +kernel
theorem dX11_rounds_30 : decode cX11_rounds 30 = .ok (.aload_n 0, 1) := by decide +kernel
theorem dX11_rounds_31 : decode cX11_rounds 31 = .ok (.getfield 42, 3) := by decide +kernel
theorem dX11_rounds_34 : decode cX11_rounds 34 = .ok (.aload_n 0, 1) := by decide +kernel
theorem dX11_rounds_35 : decode cX11_rounds 35 = .ok (.getfield 35, 3) := by decide +kernel
theorem dX11_rounds_38 : decode cX11_rounds 38 = .ok (.iload_n 2, 1) := by decide +kernel
theorem dX11_rounds_39 : decode cX11_rounds 39 = .ok (.invokevirtual 257, 3) := by decide +kernel
theorem dX11_rounds_42 : decode cX11_rounds 42 = .ok (.aload_n 0, 1) := by decide +kernel
theorem dX11_rounds_43 : decode cX11_rounds 43 = .ok (.getfield 35, 3) := by decide +kernel
theorem dX11_rounds_46 : decode cX11_rounds 46 = .ok (.invokevirtual 240, 3) := by decide +kernel
theorem dX11_rounds_49 : decode cX11_rounds 49 = .ok (.l2i, 1) := by decide +kernel
theorem dX11_rounds_50 : decode cX11_rounds 50 = .ok (.ireturn, 1) := by decide +kernel
theorem dX11_side_0 : decode cX11_side 0 = .ok (.aload_n 0, 1) := by decide +kernel
theorem dX11_side_1 : decode cX11_side 1 = .ok (.iload_n 1, 1) := by decide +kernel
theorem dX11_side_2 : decode cX11_side 2 = .ok (.invokevirtual 221, 3) := by decide +kernel
theorem dX11_side_5 : decode cX11_side 5 = .ok (.ifCond .ne 11, 3) := by decide +kernel
theorem dX11_side_8 : decode cX11_side 8 = .ok (.aload_n 0, 1) := by decide +kernel
theorem dX11_side_9 : decode cX11_side 9 = .ok (.iload_n 2, 1) := by decide +kernel
theorem dX11_side_10 : decode cX11_side 10 = .ok (.invokevirtual 122, 3) := by decide +kernel
theorem dX11_side_13 : decode cX11_side 13 = .ok (.ifCond .eq 6, 3) := by decide +kernel
theorem dX11_side_16 : decode cX11_side 16 = .ok (.bipush (-2), 2) := by decide +kernel
theorem dX11_side_18 : decode cX11_side 18 = .ok (.ireturn, 1) := by decide +kernel
theorem dX11_side_19 : decode cX11_side 19 = .ok (.iload_n 3, 1) := by decide +kernel
theorem dX11_side_20 : decode cX11_side 20 = .ok (.tableswitch 60 0 2 #[28, 39, 50], 28) := by decide +kernel
theorem dX11_side_48 : decode cX11_side 48 = .ok (.aload_n 0, 1) := by decide +kernel
theorem dX11_side_49 : decode cX11_side 49 = .ok (.getfield 87, 3) := by decide +kernel
theorem dX11_side_52 : decode cX11_side 52 = .ok (.iload_n 1, 1) := by decide +kernel
theorem dX11_side_53 : decode cX11_side 53 = .ok (.iload_n 2, 1) := by decide +kernel
theorem dX11_side_54 : decode cX11_side 54 = .ok (.invokevirtual 230, 3) := by decide +kernel
theorem dX11_side_57 : decode cX11_side 57 = .ok (.l2i, 1) := by decide +kernel
theorem dX11_side_58 : decode cX11_side 58 = .ok (.ireturn, 1) := by decide +kernel
theorem dX11_side_59 : decode cX11_side 59 = .ok (.aload_n 0, 1) := by decide +kernel
theorem dX11_side_60 : decode cX11_side 60 = .ok (.getfield 87, 3) := by decide +kernel
theorem dX11_side_63 : decode cX11_side 63 = .ok (.iload_n 1, 1) := by decide +kernel
theorem dX11_side_64 : decode cX11_side 64 = .ok (.iload_n 2, 1) := by decide +kernel
theorem dX11_side_65 : decode cX11_side 65 = .ok (.invokevirtual 234, 3) := by decide +kernel
theorem dX11_side_68 : decode cX11_side 68 = .ok (.l2i, 1) := by decide +kernel
theorem dX11_side_69 : decode cX11_side 69 = .ok (.ireturn, 1) := by decide +kernel
theorem dX11_side_70 : decode cX11_side 70 = .ok (.aload_n 0, 1) := by decide +kernel
theorem dX11_side_71 : decode cX11_side 71 = .ok (.getfield 87, 3) := by decide +kernel
theorem dX11_side_74 : decode cX11_side 74 = .ok (.iload_n 1, 1) := by decide +kernel
theorem dX11_side_75 : decode cX11_side 75 = .ok (.iload_n 2, 1) := by decide +kernel
theorem dX11_side_76 : decode cX11_side 76 = .ok (.invokevirtual 237, 3) := by decide +kernel
theorem dX11_side_79 : decode cX11_side 79 = .ok (.ireturn, 1) := by decide +kernel
theorem dX11_side_80 : decode cX11_side 80 = .ok (.bipush (-2), 2) := by decide +kernel
theorem dX11_side_82 : decode cX11_side 82 = .ok (.ireturn, 1) := by decide +kernel
theorem dX11_span_0 : decode cX11_span 0 = .ok (.aload_n 0, 1) := by decide +kernel
theorem dX11_span_1 : decode cX11_span 1 = .ok (.iload_n 1, 1) := by decide +kernel
theorem dX11_span_2 : decode cX11_span 2 = .ok (.iload_n 2, 1) := by decide +kernel
theorem dX11_span_3 : decode cX11_span 3 = .ok (.invokevirtual 118, 3) := by decide +kernel
theorem dX11_span_6 : decode cX11_span 6 = .ok (.ifCond .ne 11, 3) := by decide +kernel
theorem dX11_span_9 : decode cX11_span 9 = .ok (.aload_n 0, 1) := by decide +kernel
theorem dX11_span_10 : decode cX11_span 10 = .ok (.iload_n 3, 1) := by decide +kernel
theorem dX11_span_11 : decode cX11_span 11 = .ok (.invokevirtual 122, 3) := by decide +kernel
theorem dX11_span_14 : decode cX11_span 14 = .ok (.ifCond .eq 6, 3) := by decide +kernel
theorem dX11_span_17 : decode cX11_span 17 = .ok (.bipush (-2), 2) := by decide +kernel
theorem dX11_span_19 : decode cX11_span 19 = .ok (.ireturn, 1) := by decide +kernel
theorem dX11_span_20 : decode cX11_span 20 = .ok (.iload 4, 2) := by decide +kernel
theorem dX11_span_22 : decode cX11_span 22 = .ok (.ifCond .eq 12, 3) := by decide +kernel
theorem dX11_span_25 : decode cX11_span 25 = .ok (.iload 4, 2) := by decide +kernel
theorem dX11_span_27 : decode cX11_span 27 = .ok (.iconst 1, 1) := by decide +kernel
theorem dX11_span_28 : decode cX11_span 28 = .ok (.if_icmp .eq 6, 3) := by decide +kernel
theorem dX11_span_31 : decode cX11_span 31 = .ok (.bipush (-3), 2) := by decide +kernel
theorem dX11_span_33 : decode cX11_span 33 = .ok (.ireturn, 1) := by decide +kernel
theorem dX11_span_34 : decode cX11_span 34 = .ok (.aload_n 0, 1) := by decide +kernel
theorem dX11_span_35 : decode cX11_span 35 = .ok (.iload_n 3, 1) := by decide +kernel
theorem dX11_span_36 : decode cX11_span 36 = .ok (.invokevirtual 174, 3) := by decide +kernel
theorem dX11_span_39 : decode cX11_span 39 = .ok (.aload_n 0, 1) := by decide +kernel
theorem dX11_span_40 : decode cX11_span 40 = .ok (.getfield 56, 3) := by decide +kernel
theorem dX11_span_43 : decode cX11_span 43 = .ok (.getfield 177, 3) := by decide +kernel
theorem dX11_span_46 : decode cX11_span 46 = .ok (.ifCond .eq 27, 3) := by decide +kernel
theorem dX11_span_49 : decode cX11_span 49 = .ok (.aload_n 0, 1) := by decide +kernel
theorem dX11_span_50 : decode cX11_span 50 = .ok (.getfield 56, 3) := by decide +kernel
theorem dX11_span_53 : decode cX11_span 53 = .ok (.iload_n 1, 1) := by decide +kernel
theorem dX11_span_54 : decode cX11_span 54 = .ok (.iload_n 2, 1) := by decide +kernel
theorem dX11_span_55 : decode cX11_span 55 = .ok (.iload 4, 2) := by decide +kernel
theorem dX11_span_57 : decode cX11_span 57 = .ok (.iconst 1, 1) := by decide +kernel
theorem dX11_span_58 : decode cX11_span 58 = .ok (.if_icmp .ne 7, 3) := by decide +kernel
theorem dX11_span_61 : decode cX11_span 61 = .ok (.iconst 1, 1) := by decide +kernel
theorem dX11_span_62 : decode cX11_span 62 = .ok (.goto 4, 3) := by decide +kernel
theorem dX11_span_65 : decode cX11_span 65 = .ok (.iconst 0, 1) := by decide +kernel
theorem dX11_span_66 : decode cX11_span 66 = .ok (.invokevirtual 276, 3) := by decide +kernel
theorem dX11_span_69 : decode cX11_span 69 = .ok (.l2i, 1) := by decide +kernel
theorem dX11_span_70 : decode cX11_span 70 = .ok (.goto 4, 3) := by decide +kernel
theorem dX11_span_73 : decode cX11_span 73 = .ok (.iconst (-1), 1) := by decide +kernel
theorem dX11_span_74 : decode cX11_span 74 = .ok (.ireturn, 1) := by decide +kernel
theorem dX11_takeRing_0 : decode cX11_takeRing 0 = .ok (.aload_n 0, 1) := by decide +kernel
theorem dX11_takeRing_1 : decode cX11_takeRing 1 = .ok (.iload_n 1, 1) := by decide +kernel
theorem dX11_takeRing_2 : decode cX11_takeRing 2 = .ok (.invokevirtual 122, 3) := by decide +kernel
theorem dX11_takeRing_5 : decode cX11_takeRing 5 = .ok (.ifCond .eq 6, 3) := by decide +kernel
theorem dX11_takeRing_8 : decode cX11_takeRing 8 = .ok (.bipush (-2), 2) := by decide +kernel
theorem dX11_takeRing_10 : decode cX11_takeRing 10 = .ok (.ireturn, 1) := by decide +kernel
theorem dX11_takeRing_11 : decode cX11_takeRing 11 = .ok (.aload_n 0, 1) := by decide +kernel
theorem dX11_takeRing_12 : decode cX11_takeRing 12 = .ok (.iload_n 1, 1) := by decide +kernel
theorem dX11_takeRing_13 : decode cX11_takeRing 13 = .ok (.invokevirtual 155, 3) := by decide +kernel
theorem dX11_takeRing_16 : decode cX11_takeRing 16 = .ok (.aload_n 0, 1) := by decide +kernel
theorem dX11_takeRing_17 : decode cX11_takeRing 17 = .ok (.getfield 42, 3) := by decide +kernel
theorem dX11_takeRing_20 : decode cX11_takeRing 20 = .ok (.getfield 158, 3) := by decide +kernel
theorem dX11_takeRing_23 : decode cX11_takeRing 23 = .ok (.ifCond .ne 6, 3) := by decide +kernel
theorem dX11_takeRing_26 : decode cX11_takeRing 26 = .ok (.bipush (-5), 2) := by decide +kernel
theorem dX11_takeRing_28 : decode cX11_takeRing 28 = .ok (.ireturn, 1) := by decide +kernel
theorem dX11_takeRing_29 : decode cX11_takeRing 29 = .ok (.aload_n 0, 1) := by decide +kernel
theorem dX11_takeRing_30 : decode cX11_takeRing 30 = .ok (.invokevirtual 127, 3) := by decide +kernel
theorem dX11_takeRing_33 : decode cX11_takeRing 33 = .ok (.aload_n 0, 1) := by decide +kernel
theorem dX11_takeRing_34 : decode cX11_takeRing 34 = .ok (.getfield 42, 3) := by decide +kernel
theorem dX11_takeRing_37 : decode cX11_takeRing 37 = .ok (.aload_n 0, 1) := by decide +kernel
theorem dX11_takeRing_38 : decode cX11_takeRing 38 = .ok (.getfield 35, 3) := by decide +kernel
theorem dX11_takeRing_41 : decode cX11_takeRing 41 = .ok (.invokevirtual 159, 3) := by decide +kernel
theorem dX11_takeRing_44 : decode cX11_takeRing 44 = .ok (.lstore_n 2, 1) := by decide +kernel
theorem dX11_takeRing_45 : decode cX11_takeRing 45 = .ok (.iconst 0, 1) := by decide +kernel
theorem dX11_takeRing_46 : decode cX11_takeRing 46 = .ok (.istore 4, 2) := by decide +kernel
theorem dX11_takeRing_48 : decode cX11_takeRing 48 = .ok (.iload 4, 2) := by decide +kernel
theorem dX11_takeRing_50 : decode cX11_takeRing 50 = .ok (.aload_n 0, 1) := by decide +kernel
theorem dX11_takeRing_51 : decode cX11_takeRing 51 = .ok (.getfield 42, 3) := by decide +kernel
theorem dX11_takeRing_54 : decode cX11_takeRing 54 = .ok (.getfield 158, 3) := by decide +kernel
theorem dX11_takeRing_57 : decode cX11_takeRing 57 = .ok (.if_icmp .ge 45, 3) := by decide +kernel
theorem dX11_takeRing_60 : decode cX11_takeRing 60 = .ok (.aload_n 0, 1) := by decide +kernel
theorem dX11_takeRing_61 : decode cX11_takeRing 61 = .ok (.getfield 87, 3) := by decide +kernel
theorem dX11_takeRing_64 : decode cX11_takeRing 64 = .ok (.aload_n 0, 1) := by decide +kernel
theorem dX11_takeRing_65 : decode cX11_takeRing 65 = .ok (.getfield 42, 3) := by decide +kernel
theorem dX11_takeRing_68 : decode cX11_takeRing 68 = .ok (.getfield 163, 3) := by decide +kernel
theorem dX11_takeRing_71 : decode cX11_takeRing 71 = .ok (.iload 4, 2) := by decide +kernel
theorem dX11_takeRing_73 : decode cX11_takeRing 73 = .ok (.iaload, 1) := by decide +kernel
theorem dX11_takeRing_74 : decode cX11_takeRing 74 = .ok (.aload_n 0, 1) := by decide +kernel
theorem dX11_takeRing_75 : decode cX11_takeRing 75 = .ok (.getfield 42, 3) := by decide +kernel
theorem dX11_takeRing_78 : decode cX11_takeRing 78 = .ok (.getfield 163, 3) := by decide +kernel
theorem dX11_takeRing_81 : decode cX11_takeRing 81 = .ok (.aload_n 0, 1) := by decide +kernel
theorem dX11_takeRing_82 : decode cX11_takeRing 82 = .ok (.getfield 42, 3) := by decide +kernel
theorem dX11_takeRing_85 : decode cX11_takeRing 85 = .ok (.iload 4, 2) := by decide +kernel
theorem dX11_takeRing_87 : decode cX11_takeRing 87 = .ok (.invokevirtual 166, 3) := by decide +kernel
theorem dX11_takeRing_90 : decode cX11_takeRing 90 = .ok (.iaload, 1) := by decide +kernel
theorem dX11_takeRing_91 : decode cX11_takeRing 91 = .ok (.iload_n 1, 1) := by decide +kernel
theorem dX11_takeRing_92 : decode cX11_takeRing 92 = .ok (.lload_n 2, 1) := by decide +kernel
theorem dX11_takeRing_93 : decode cX11_takeRing 93 = .ok (.invokevirtual 170, 3) := by decide +kernel
theorem dX11_takeRing_96 : decode cX11_takeRing 96 = .ok (.iinc 4 1, 3) := by decide +kernel
theorem dX11_takeRing_99 : decode cX11_takeRing 99 = .ok (.goto (-51), 3) := by decide +kernel
theorem dX11_takeRing_102 : decode cX11_takeRing 102 = .ok (.lload_n 2, 1) := by decide +kernel
theorem dX11_takeRing_103 : decode cX11_takeRing 103 = .ok (.l2i, 1) := by decide +kernel
theorem dX11_takeRing_104 : decode cX11_takeRing 104 = .ok (.ireturn, 1) := by decide +kernel
theorem dX11_tell_0 : decode cX11_tell 0 = .ok (.iload_n 1, 1) := by decide +kernel
theorem dX11_tell_1 : decode cX11_tell 1 = .ok (.ifCond .lt 14, 3) := by decide +kernel
theorem dX11_tell_4 : decode cX11_tell 4 = .ok (.iload_n 1, 1) := by decide +kernel
theorem dX11_tell_5 : decode cX11_tell 5 = .ok (.aload_n 0, 1) := by decide +kernel
theorem dX11_tell_6 : decode cX11_tell 6 = .ok (.getfield 12, 3) := by decide +kernel
theorem dX11_tell_9 : decode cX11_tell 9 = .ok (.getfield 95, 3) := by decide +kernel
theorem dX11_tell_12 : decode cX11_tell 12 = .ok (.if_icmp .le 6, 3) := by decide +kernel
theorem dX11_tell_15 : decode cX11_tell 15 = .ok (.bipush (-3), 2) := by decide +kernel
theorem dX11_tell_17 : decode cX11_tell 17 = .ok (.ireturn, 1) := by decide +kernel
theorem dX11_tell_18 : decode cX11_tell 18 = .ok (.aload_n 0, 1) := by decide +kernel
theorem dX11_tell_19 : decode cX11_tell 19 = .ok (.getfield 12, 3) := by decide +kernel
theorem dX11_tell_22 : decode cX11_tell 22 = .ok (.iconst 0, 1) := by decide +kernel
theorem dX11_tell_23 : decode cX11_tell 23 = .ok (.putfield 95, 3) := by decide +kernel
theorem dX11_tell_26 : decode cX11_tell 26 = .ok (.aload_n 0, 1) := by decide +kernel
theorem dX11_tell_27 : decode cX11_tell 27 = .ok (.getfield 21, 3) := by decide +kernel
theorem dX11_tell_30 : decode cX11_tell 30 = .ok (.iload_n 1, 1) := by decide +kernel
theorem dX11_tell_31 : decode cX11_tell 31 = .ok (.invokevirtual 102, 3) := by decide +kernel
theorem dX11_tell_34 : decode cX11_tell 34 = .ok (.aload_n 0, 1) := by decide +kernel
theorem dX11_tell_35 : decode cX11_tell 35 = .ok (.getfield 21, 3) := by decide +kernel
theorem dX11_tell_38 : decode cX11_tell 38 = .ok (.getfield 105, 3) := by decide +kernel
theorem dX11_tell_41 : decode cX11_tell 41 = .ok (.ifCond .eq 14, 3) := by decide +kernel
theorem dX11_tell_44 : decode cX11_tell 44 = .ok (.bipush (-30), 2) := by decide +kernel
theorem dX11_tell_46 : decode cX11_tell 46 = .ok (.aload_n 0, 1) := by decide +kernel
theorem dX11_tell_47 : decode cX11_tell 47 = .ok (.getfield 21, 3) := by decide +kernel
theorem dX11_tell_50 : decode cX11_tell 50 = .ok (.getfield 105, 3) := by decide +kernel
theorem dX11_tell_53 : decode cX11_tell 53 = .ok (.isub, 1) := by decide +kernel
theorem dX11_tell_54 : decode cX11_tell 54 = .ok (.ireturn, 1) := by decide +kernel
theorem dX11_tell_55 : decode cX11_tell 55 = .ok (.aload_n 0, 1) := by decide +kernel
theorem dX11_tell_56 : decode cX11_tell 56 = .ok (.invokevirtual 108, 3) := by decide +kernel
theorem dX11_tell_59 : decode cX11_tell 59 = .ok (.aload_n 0, 1) := by decide +kernel
theorem dX11_tell_60 : decode cX11_tell 60 = .ok (.getfield 28, 3) := by decide +kernel
theorem dX11_tell_63 : decode cX11_tell 63 = .ok (.iconst 0, 1) := by decide +kernel
theorem dX11_tell_64 : decode cX11_tell 64 = .ok (.putfield 111, 3) := by decide +kernel
theorem dX11_tell_67 : decode cX11_tell 67 = .ok (.aload_n 0, 1) := by decide +kernel
theorem dX11_tell_68 : decode cX11_tell 68 = .ok (.iconst (-1), 1) := by decide +kernel
theorem dX11_tell_69 : decode cX11_tell 69 = .ok (.putfield 91, 3) := by decide +kernel
theorem dX11_tell_72 : decode cX11_tell 72 = .ok (.aload_n 0, 1) := by decide +kernel
theorem dX11_tell_73 : decode cX11_tell 73 = .ok (.getfield 87, 3) := by decide +kernel
theorem dX11_tell_76 : decode cX11_tell 76 = .ok (.getfield 114, 3) := by decide +kernel
theorem dX11_tell_79 : decode cX11_tell 79 = .ok (.ireturn, 1) := by decide +kernel
theorem dX11_through_0 : decode cX11_through 0 = .ok (.aload_n 0, 1) := by decide +kernel
theorem dX11_through_1 : decode cX11_through 1 = .ok (.iload_n 1, 1) := by decide +kernel
theorem dX11_through_2 : decode cX11_through 2 = .ok (.invokevirtual 221, 3) := by decide +kernel
theorem dX11_through_5 : decode cX11_through 5 = .ok (.ifCond .ne 11, 3) := by decide +kernel
theorem dX11_through_8 : decode cX11_through 8 = .ok (.aload_n 0, 1) := by decide +kernel
theorem dX11_through_9 : decode cX11_through 9 = .ok (.iload_n 2, 1) := by decide +kernel
theorem dX11_through_10 : decode cX11_through 10 = .ok (.invokevirtual 122, 3) := by decide +kernel
theorem dX11_through_13 : decode cX11_through 13 = .ok (.ifCond .eq 6, 3) := by decide +kernel
theorem dX11_through_16 : decode cX11_through 16 = .ok (.bipush (-2), 2) := by decide +kernel
theorem dX11_through_18 : decode cX11_through 18 = .ok (.ireturn, 1) := by decide +kernel
theorem dX11_through_19 : decode cX11_through 19 = .ok (.iload_n 3, 1) := by decide +kernel
theorem dX11_through_20 : decode cX11_through 20 = .ok (.lookupswitch 90 #[(0, 28), (1, 44)], 28) := by decide +kernel
theorem dX11_through_48 : decode cX11_through 48 = .ok (.aload_n 0, 1) := by decide +kernel
theorem dX11_through_49 : decode cX11_through 49 = .ok (.iload_n 2, 1) := by decide +kernel
theorem dX11_through_50 : decode cX11_through 50 = .ok (.iconst (-1), 1) := by decide +kernel
theorem dX11_through_51 : decode cX11_through 51 = .ok (.invokevirtual 214, 3) := by decide +kernel
theorem dX11_through_54 : decode cX11_through 54 = .ok (.aload_n 0, 1) := by decide +kernel
theorem dX11_through_55 : decode cX11_through 55 = .ok (.getfield 35, 3) := by decide +kernel
theorem dX11_through_58 : decode cX11_through 58 = .ok (.iload_n 1, 1) := by decide +kernel
theorem dX11_through_59 : decode cX11_through 59 = .ok (.invokevirtual 298, 3) := by decide +kernel
theorem dX11_through_62 : decode cX11_through 62 = .ok (.l2i, 1) := by decide +kernel
theorem dX11_through_63 : decode cX11_through 63 = .ok (.ireturn, 1) := by decide +kernel
theorem dX11_through_64 : decode cX11_through 64 = .ok (.aload_n 0, 1) := by decide +kernel
theorem dX11_through_65 : decode cX11_through 65 = .ok (.iload_n 2, 1) := by decide +kernel
theorem dX11_through_66 : decode cX11_through 66 = .ok (.invokevirtual 174, 3) := by decide +kernel
theorem dX11_through_69 : decode cX11_through 69 = .ok (.aload_n 0, 1) := by decide +kernel
theorem dX11_through_70 : decode cX11_through 70 = .ok (.getfield 56, 3) := by decide +kernel
theorem dX11_through_73 : decode cX11_through 73 = .ok (.getfield 177, 3) := by decide +kernel
theorem dX11_through_76 : decode cX11_through 76 = .ok (.ifCond .eq 32, 3) := by decide +kernel
theorem dX11_through_79 : decode cX11_through 79 = .ok (.aload_n 0, 1) := by decide +kernel
theorem dX11_through_80 : decode cX11_through 80 = .ok (.getfield 56, 3) := by decide +kernel
theorem dX11_through_83 : decode cX11_through 83 = .ok (.getfield 194, 3) := by decide +kernel
theorem dX11_through_86 : decode cX11_through 86 = .ok (.iload_n 1, 1) := by decide +kernel
theorem dX11_through_87 : decode cX11_through 87 = .ok (.invokestatic 301, 3) := by decide +kernel
theorem dX11_through_90 : decode cX11_through 90 = .ok (.aload_n 0, 1) := by decide +kernel
theorem dX11_through_91 : decode cX11_through 91 = .ok (.getfield 56, 3) := by decide +kernel
theorem dX11_through_94 : decode cX11_through 94 = .ok (.getfield 194, 3) := by decide +kernel
theorem dX11_through_97 : decode cX11_through 97 = .ok (.iload_n 1, 1) := by decide +kernel
theorem dX11_through_98 : decode cX11_through 98 = .ok (.invokestatic 305, 3) := by decide +kernel
theorem dX11_through_101 : decode cX11_through 101 = .ok (.invokestatic 308, 3) := by decide +kernel
theorem dX11_through_104 : decode cX11_through 104 = .ok (.l2i, 1) := by decide +kernel
theorem dX11_through_105 : decode cX11_through 105 = .ok (.goto 4, 3) := by decide +kernel
theorem dX11_through_108 : decode cX11_through 108 = .ok (.iconst (-1), 1) := by decide +kernel
theorem dX11_through_109 : decode cX11_through 109 = .ok (.ireturn, 1) := by decide +kernel
theorem dX11_through_110 : decode cX11_through 110 = .ok (.bipush (-2), 2) := by decide +kernel
theorem dX11_through_112 : decode cX11_through 112 = .ok (.ireturn, 1) := by decide +kernel
theorem dX11_total_0 : decode cX11_total 0 = .ok (.aload_n 0, 1) := by decide +kernel
theorem dX11_total_1 : decode cX11_total 1 = .ok (.iload_n 1, 1) := by decide +kernel
theorem dX11_total_2 : decode cX11_total 2 = .ok (.invokevirtual 122, 3) := by decide +kernel
theorem dX11_total_5 : decode cX11_total 5 = .ok (.ifCond .eq 6, 3) := by decide +kernel
theorem dX11_total_8 : decode cX11_total 8 = .ok (.bipush (-2), 2) := by decide +kernel
theorem dX11_total_10 : decode cX11_total 10 = .ok (.ireturn, 1) := by decide +kernel
theorem dX11_total_11 : decode cX11_total 11 = .ok (.aload_n 0, 1) := by decide +kernel
theorem dX11_total_12 : decode cX11_total 12 = .ok (.iload_n 1, 1) := by decide +kernel
theorem dX11_total_13 : decode cX11_total 13 = .ok (.iconst (-1), 1) := by decide +kernel
theorem dX11_total_14 : decode cX11_total 14 = .ok (.invokevirtual 214, 3) := by decide +kernel
theorem dX11_total_17 : decode cX11_total 17 = .ok (.iload_n 2, 1) := by decide +kernel
theorem dX11_total_18 : decode cX11_total 18 = .ok (.tableswitch 66 0 3 #[30, 39, 47, 57], 30) := by decide +kernel
theorem dX11_total_48 : decode cX11_total 48 = .ok (.aload_n 0, 1) := by decide +kernel
theorem dX11_total_49 : decode cX11_total 49 = .ok (.getfield 35, 3) := by decide +kernel
theorem dX11_total_52 : decode cX11_total 52 = .ok (.invokevirtual 240, 3) := by decide +kernel
theorem dX11_total_55 : decode cX11_total 55 = .ok (.l2i, 1) := by decide +kernel
theorem dX11_total_56 : decode cX11_total 56 = .ok (.ireturn, 1) := by decide +kernel
theorem dX11_total_57 : decode cX11_total 57 = .ok (.aload_n 0, 1) := by decide +kernel
theorem dX11_total_58 : decode cX11_total 58 = .ok (.getfield 35, 3) := by decide +kernel
theorem dX11_total_61 : decode cX11_total 61 = .ok (.invokevirtual 244, 3) := by decide +kernel
theorem dX11_total_64 : decode cX11_total 64 = .ok (.ireturn, 1) := by decide +kernel
theorem dX11_total_65 : decode cX11_total 65 = .ok (.aload_n 0, 1) := by decide +kernel
theorem dX11_total_66 : decode cX11_total 66 = .ok (.getfield 87, 3) := by decide +kernel
theorem dX11_total_69 : decode cX11_total 69 = .ok (.iload_n 1, 1) := by decide +kernel
theorem dX11_total_70 : decode cX11_total 70 = .ok (.invokevirtual 247, 3) := by decide +kernel
theorem dX11_total_73 : decode cX11_total 73 = .ok (.l2i, 1) := by decide +kernel
theorem dX11_total_74 : decode cX11_total 74 = .ok (.ireturn, 1) := by decide +kernel
theorem dX11_total_75 : decode cX11_total 75 = .ok (.aload_n 0, 1) := by decide +kernel
theorem dX11_total_76 : decode cX11_total 76 = .ok (.getfield 35, 3) := by decide +kernel
theorem dX11_total_79 : decode cX11_total 79 = .ok (.invokevirtual 250, 3) := by decide +kernel
theorem dX11_total_82 : decode cX11_total 82 = .ok (.l2i, 1) := by decide +kernel
theorem dX11_total_83 : decode cX11_total 83 = .ok (.ireturn, 1) := by decide +kernel
theorem dX11_total_84 : decode cX11_total 84 = .ok (.bipush (-2), 2) := by decide +kernel
theorem dX11_total_86 : decode cX11_total 86 = .ok (.ireturn, 1) := by decide +kernel
theorem dX11_trade_0 : decode cX11_trade 0 = .ok (.aload_n 0, 1) := by decide +kernel
theorem dX11_trade_1 : decode cX11_trade 1 = .ok (.iload_n 1, 1) := by decide +kernel
theorem dX11_trade_2 : decode cX11_trade 2 = .ok (.iload_n 2, 1) := by decide +kernel
theorem dX11_trade_3 : decode cX11_trade 3 = .ok (.invokevirtual 118, 3) := by decide +kernel
theorem dX11_trade_6 : decode cX11_trade 6 = .ok (.ifCond .ne 12, 3) := by decide +kernel
theorem dX11_trade_9 : decode cX11_trade 9 = .ok (.aload_n 0, 1) := by decide +kernel
theorem dX11_trade_10 : decode cX11_trade 10 = .ok (.iload 4, 2) := by decide +kernel
theorem dX11_trade_12 : decode cX11_trade 12 = .ok (.invokevirtual 122, 3) := by decide +kernel
theorem dX11_trade_15 : decode cX11_trade 15 = .ok (.ifCond .eq 6, 3) := by decide +kernel
theorem dX11_trade_18 : decode cX11_trade 18 = .ok (.bipush (-2), 2) := by decide +kernel
theorem dX11_trade_20 : decode cX11_trade 20 = .ok (.ireturn, 1) := by decide +kernel
theorem dX11_trade_21 : decode cX11_trade 21 = .ok (.iload_n 3, 1) := by decide +kernel
theorem dX11_trade_22 : decode cX11_trade 22 = .ok (.iconst 1, 1) := by decide +kernel
theorem dX11_trade_23 : decode cX11_trade 23 = .ok (.if_icmp .lt 9, 3) := by decide +kernel
theorem dX11_trade_26 : decode cX11_trade 26 = .ok (.iload_n 3, 1) := by decide +kernel
theorem dX11_trade_27 : decode cX11_trade 27 = .ok (.ldc 126, 2) := by decide +kernel
theorem dX11_trade_29 : decode cX11_trade 29 = .ok (.if_icmp .le 6, 3) := by decide +kernel
theorem dX11_trade_32 : decode cX11_trade 32 = .ok (.bipush (-3), 2) := by decide +kernel
theorem dX11_trade_34 : decode cX11_trade 34 = .ok (.ireturn, 1) := by decide +kernel
theorem dX11_trade_35 : decode cX11_trade 35 = .ok (.aload_n 0, 1) := by decide +kernel
theorem dX11_trade_36 : decode cX11_trade 36 = .ok (.getfield 87, 3) := by decide +kernel
theorem dX11_trade_39 : decode cX11_trade 39 = .ok (.getfield 114, 3) := by decide +kernel
theorem dX11_trade_42 : decode cX11_trade 42 = .ok (.bipush 40, 2) := by decide +kernel
theorem dX11_trade_44 : decode cX11_trade 44 = .ok (.if_icmp .lt 6, 3) := by decide +kernel
theorem dX11_trade_47 : decode cX11_trade 47 = .ok (.bipush (-4), 2) := by decide +kernel
theorem dX11_trade_49 : decode cX11_trade 49 = .ok (.ireturn, 1) := by decide +kernel
theorem dX11_trade_50 : decode cX11_trade 50 = .ok (.aload_n 0, 1) := by decide +kernel
theorem dX11_trade_51 : decode cX11_trade 51 = .ok (.invokevirtual 127, 3) := by decide +kernel
theorem dX11_trade_54 : decode cX11_trade 54 = .ok (.aload_n 0, 1) := by decide +kernel
theorem dX11_trade_55 : decode cX11_trade 55 = .ok (.getfield 87, 3) := by decide +kernel
theorem dX11_trade_58 : decode cX11_trade 58 = .ok (.iload_n 1, 1) := by decide +kernel
theorem dX11_trade_59 : decode cX11_trade 59 = .ok (.iload_n 2, 1) := by decide +kernel
theorem dX11_trade_60 : decode cX11_trade 60 = .ok (.iload_n 3, 1) := by decide +kernel
theorem dX11_trade_61 : decode cX11_trade 61 = .ok (.i2l, 1) := by decide +kernel
theorem dX11_trade_62 : decode cX11_trade 62 = .ok (.iload 4, 2) := by decide +kernel
theorem dX11_trade_64 : decode cX11_trade 64 = .ok (.invokevirtual 130, 3) := by decide +kernel
theorem dX11_trade_67 : decode cX11_trade 67 = .ok (.aload_n 0, 1) := by decide +kernel
theorem dX11_trade_68 : decode cX11_trade 68 = .ok (.getfield 87, 3) := by decide +kernel
theorem dX11_trade_71 : decode cX11_trade 71 = .ok (.getfield 114, 3) := by decide +kernel
theorem dX11_trade_74 : decode cX11_trade 74 = .ok (.iconst 1, 1) := by decide +kernel
theorem dX11_trade_75 : decode cX11_trade 75 = .ok (.isub, 1) := by decide +kernel
theorem dX11_trade_76 : decode cX11_trade 76 = .ok (.ireturn, 1) := by decide +kernel
theorem dX11_tradeOf_0 : decode cX11_tradeOf 0 = .ok (.aload_n 0, 1) := by decide +kernel
theorem dX11_tradeOf_1 : decode cX11_tradeOf 1 = .ok (.iload_n 1, 1) := by decide +kernel
theorem dX11_tradeOf_2 : decode cX11_tradeOf 2 = .ok (.invokevirtual 133, 3) := by decide +kernel
theorem dX11_tradeOf_5 : decode cX11_tradeOf 5 = .ok (.ifCond .eq 6, 3) := by decide +kernel
theorem dX11_tradeOf_8 : decode cX11_tradeOf 8 = .ok (.bipush (-2), 2) := by decide +kernel
theorem dX11_tradeOf_10 : decode cX11_tradeOf 10 = .ok (.ireturn, 1) := by decide +kernel
theorem dX11_tradeOf_11 : decode cX11_tradeOf 11 = .ok (.iload_n 2, 1) := by decide +kernel
theorem dX11_tradeOf_12 : decode cX11_tradeOf 12 = .ok (.tableswitch 95 0 4 #[36, 46, 56, 67, 77], 36) := by decide +kernel
theorem dX11_tradeOf_48 : decode cX11_tradeOf 48 = .ok (.aload_n 0, 1) := by decide +kernel
theorem dX11_tradeOf_49 : decode cX11_tradeOf 49 = .ok (.getfield 87, 3) := by decide +kernel
theorem dX11_tradeOf_52 : decode cX11_tradeOf 52 = .ok (.getfield 202, 3) := by decide +kernel
theorem dX11_tradeOf_55 : decode cX11_tradeOf 55 = .ok (.iload_n 1, 1) := by decide +kernel
theorem dX11_tradeOf_56 : decode cX11_tradeOf 56 = .ok (.iaload, 1) := by decide +kernel
theorem dX11_tradeOf_57 : decode cX11_tradeOf 57 = .ok (.ireturn, 1) := by decide +kernel
theorem dX11_tradeOf_58 : decode cX11_tradeOf 58 = .ok (.aload_n 0, 1) := by decide +kernel
theorem dX11_tradeOf_59 : decode cX11_tradeOf 59 = .ok (.getfield 87, 3) := by decide +kernel
theorem dX11_tradeOf_62 : decode cX11_tradeOf 62 = .ok (.getfield 205, 3) := by decide +kernel
theorem dX11_tradeOf_65 : decode cX11_tradeOf 65 = .ok (.iload_n 1, 1) := by decide +kernel
theorem dX11_tradeOf_66 : decode cX11_tradeOf 66 = .ok (.iaload, 1) := by decide +kernel
theorem dX11_tradeOf_67 : decode cX11_tradeOf 67 = .ok (.ireturn, 1) := by decide +kernel
theorem dX11_tradeOf_68 : decode cX11_tradeOf 68 = .ok (.aload_n 0, 1) := by decide +kernel
theorem dX11_tradeOf_69 : decode cX11_tradeOf 69 = .ok (.getfield 87, 3) := by decide +kernel
theorem dX11_tradeOf_72 : decode cX11_tradeOf 72 = .ok (.getfield 208, 3) := by decide +kernel
theorem dX11_tradeOf_75 : decode cX11_tradeOf 75 = .ok (.iload_n 1, 1) := by decide +kernel
theorem dX11_tradeOf_76 : decode cX11_tradeOf 76 = .ok (.laload, 1) := by decide +kernel
theorem dX11_tradeOf_77 : decode cX11_tradeOf 77 = .ok (.l2i, 1) := by decide +kernel
theorem dX11_tradeOf_78 : decode cX11_tradeOf 78 = .ok (.ireturn, 1) := by decide +kernel
theorem dX11_tradeOf_79 : decode cX11_tradeOf 79 = .ok (.aload_n 0, 1) := by decide +kernel
theorem dX11_tradeOf_80 : decode cX11_tradeOf 80 = .ok (.getfield 87, 3) := by decide +kernel
theorem dX11_tradeOf_83 : decode cX11_tradeOf 83 = .ok (.getfield 211, 3) := by decide +kernel
theorem dX11_tradeOf_86 : decode cX11_tradeOf 86 = .ok (.iload_n 1, 1) := by decide +kernel
theorem dX11_tradeOf_87 : decode cX11_tradeOf 87 = .ok (.iaload, 1) := by decide +kernel
theorem dX11_tradeOf_88 : decode cX11_tradeOf 88 = .ok (.ireturn, 1) := by decide +kernel
theorem dX11_tradeOf_89 : decode cX11_tradeOf 89 = .ok (.aload_n 0, 1) := by decide +kernel
theorem dX11_tradeOf_90 : decode cX11_tradeOf 90 = .ok (.getfield 87, 3) := by decide +kernel
theorem dX11_tradeOf_93 : decode cX11_tradeOf 93 = .ok (.getfield 139, 3) := by decide +kernel
theorem dX11_tradeOf_96 : decode cX11_tradeOf 96 = .ok (.iload_n 1, 1) := by decide +kernel
theorem dX11_tradeOf_97 : decode cX11_tradeOf 97 = .ok (.baload, 1) := by decide +kernel
theorem dX11_tradeOf_98 : decode cX11_tradeOf 98 = .ok (.ifCond .eq 7, 3) := by decide +kernel
theorem dX11_tradeOf_101 : decode cX11_tradeOf 101 = .ok (.iconst 1, 1) := by decide +kernel
theorem dX11_tradeOf_102 : decode cX11_tradeOf 102 = .ok (.goto 4, 3) := by decide +kernel
theorem dX11_tradeOf_105 : decode cX11_tradeOf 105 = .ok (.iconst 0, 1) := by decide +kernel
theorem dX11_tradeOf_106 : decode cX11_tradeOf 106 = .ok (.ireturn, 1) := by decide +kernel
theorem dX11_tradeOf_107 : decode cX11_tradeOf 107 = .ok (.bipush (-2), 2) := by decide +kernel
theorem dX11_tradeOf_109 : decode cX11_tradeOf 109 = .ok (.ireturn, 1) := by decide +kernel
theorem dX11_undo_0 : decode cX11_undo 0 = .ok (.aload_n 0, 1) := by decide +kernel
theorem dX11_undo_1 : decode cX11_undo 1 = .ok (.getfield 28, 3) := by decide +kernel
theorem dX11_undo_4 : decode cX11_undo 4 = .ok (.getfield 111, 3) := by decide +kernel
theorem dX11_undo_7 : decode cX11_undo 7 = .ok (.ifCond .ne 6, 3) := by decide +kernel
theorem dX11_undo_10 : decode cX11_undo 10 = .ok (.bipush (-5), 2) := by decide +kernel
theorem dX11_undo_12 : decode cX11_undo 12 = .ok (.ireturn, 1) := by decide +kernel
theorem dX11_undo_13 : decode cX11_undo 13 = .ok (.aload_n 0, 1) := by decide +kernel
theorem dX11_undo_14 : decode cX11_undo 14 = .ok (.getfield 28, 3) := by decide +kernel
theorem dX11_undo_17 : decode cX11_undo 17 = .ok (.aload_n 0, 1) := by decide +kernel
theorem dX11_undo_18 : decode cX11_undo 18 = .ok (.getfield 87, 3) := by decide +kernel
theorem dX11_undo_21 : decode cX11_undo 21 = .ok (.invokevirtual 198, 3) := by decide +kernel
theorem dX11_undo_24 : decode cX11_undo 24 = .ok (.aload_n 0, 1) := by decide +kernel
theorem dX11_undo_25 : decode cX11_undo 25 = .ok (.iconst (-1), 1) := by decide +kernel
theorem dX11_undo_26 : decode cX11_undo 26 = .ok (.putfield 91, 3) := by decide +kernel
theorem dX11_undo_29 : decode cX11_undo 29 = .ok (.aload_n 0, 1) := by decide +kernel
theorem dX11_undo_30 : decode cX11_undo 30 = .ok (.getfield 28, 3) := by decide +kernel
theorem dX11_undo_33 : decode cX11_undo 33 = .ok (.getfield 111, 3) := by decide +kernel
theorem dX11_undo_36 : decode cX11_undo 36 = .ok (.ireturn, 1) := by decide +kernel
theorem dX11_without_0 : decode cX11_without 0 = .ok (.aload_n 0, 1) := by decide +kernel
theorem dX11_without_1 : decode cX11_without 1 = .ok (.iload_n 1, 1) := by decide +kernel
theorem dX11_without_2 : decode cX11_without 2 = .ok (.invokevirtual 221, 3) := by decide +kernel
theorem dX11_without_5 : decode cX11_without 5 = .ok (.ifCond .ne 11, 3) := by decide +kernel
theorem dX11_without_8 : decode cX11_without 8 = .ok (.aload_n 0, 1) := by decide +kernel
theorem dX11_without_9 : decode cX11_without 9 = .ok (.iload_n 2, 1) := by decide +kernel
theorem dX11_without_10 : decode cX11_without 10 = .ok (.invokevirtual 122, 3) := by decide +kernel
theorem dX11_without_13 : decode cX11_without 13 = .ok (.ifCond .eq 6, 3) := by decide +kernel
theorem dX11_without_16 : decode cX11_without 16 = .ok (.bipush (-2), 2) := by decide +kernel
theorem dX11_without_18 : decode cX11_without 18 = .ok (.ireturn, 1) := by decide +kernel
theorem dX11_without_19 : decode cX11_without 19 = .ok (.aload_n 0, 1) := by decide +kernel
theorem dX11_without_20 : decode cX11_without 20 = .ok (.iload_n 2, 1) := by decide +kernel
theorem dX11_without_21 : decode cX11_without 21 = .ok (.iconst (-1), 1) := by decide +kernel
theorem dX11_without_22 : decode cX11_without 22 = .ok (.invokevirtual 214, 3) := by decide +kernel
theorem dX11_without_25 : decode cX11_without 25 = .ok (.aload_n 0, 1) := by decide +kernel
theorem dX11_without_26 : decode cX11_without 26 = .ok (.getfield 35, 3) := by decide +kernel
theorem dX11_without_29 : decode cX11_without 29 = .ok (.iload_n 1, 1) := by decide +kernel
theorem dX11_without_30 : decode cX11_without 30 = .ok (.invokevirtual 289, 3) := by decide +kernel
theorem dX11_without_33 : decode cX11_without 33 = .ok (.aload_n 0, 1) := by decide +kernel
theorem dX11_without_34 : decode cX11_without 34 = .ok (.getfield 35, 3) := by decide +kernel
theorem dX11_without_37 : decode cX11_without 37 = .ok (.iload_n 1, 1) := by decide +kernel
theorem dX11_without_38 : decode cX11_without 38 = .ok (.invokevirtual 292, 3) := by decide +kernel
theorem dX11_without_41 : decode cX11_without 41 = .ok (.ladd, 1) := by decide +kernel
theorem dX11_without_42 : decode cX11_without 42 = .ok (.lstore_n 3, 1) := by decide +kernel
theorem dX11_without_43 : decode cX11_without 43 = .ok (.aload_n 0, 1) := by decide +kernel
theorem dX11_without_44 : decode cX11_without 44 = .ok (.iload_n 2, 1) := by decide +kernel
theorem dX11_without_45 : decode cX11_without 45 = .ok (.iload_n 1, 1) := by decide +kernel
theorem dX11_without_46 : decode cX11_without 46 = .ok (.invokevirtual 280, 3) := by decide +kernel
theorem dX11_without_49 : decode cX11_without 49 = .ok (.aload_n 0, 1) := by decide +kernel
theorem dX11_without_50 : decode cX11_without 50 = .ok (.getfield 60, 3) := by decide +kernel
theorem dX11_without_53 : decode cX11_without 53 = .ok (.invokevirtual 286, 3) := by decide +kernel
theorem dX11_without_56 : decode cX11_without 56 = .ok (.aload_n 0, 1) := by decide +kernel
theorem dX11_without_57 : decode cX11_without 57 = .ok (.getfield 60, 3) := by decide +kernel
theorem dX11_without_60 : decode cX11_without 60 = .ok (.getfield 177, 3) := by decide +kernel
theorem dX11_without_63 : decode cX11_without 63 = .ok (.ifCond .eq 16, 3) := by decide +kernel
theorem dX11_without_66 : decode cX11_without 66 = .ok (.aload_n 0, 1) := by decide +kernel
theorem dX11_without_67 : decode cX11_without 67 = .ok (.getfield 60, 3) := by decide +kernel
theorem dX11_without_70 : decode cX11_without 70 = .ok (.getfield 274, 3) := by decide +kernel
theorem dX11_without_73 : decode cX11_without 73 = .ok (.lload_n 3, 1) := by decide +kernel
theorem dX11_without_74 : decode cX11_without 74 = .ok (.ladd, 1) := by decide +kernel
theorem dX11_without_75 : decode cX11_without 75 = .ok (.l2i, 1) := by decide +kernel
theorem dX11_without_76 : decode cX11_without 76 = .ok (.goto 4, 3) := by decide +kernel
theorem dX11_without_79 : decode cX11_without 79 = .ok (.iconst (-1), 1) := by decide +kernel
theorem dX11_without_80 : decode cX11_without 80 = .ok (.ireturn, 1) := by decide +kernel
theorem swout_0_4 {x : Int32} (h0 : ¬ x = 0) (h1 : ¬ x = 1) (h2 : ¬ x = 2) (h3 : ¬ x = 3) (h4 : ¬ x = 4) : x.toInt < 0 ∨ 4 < x.toInt := by
  have g0 := lv_neT (a := 0) h0 (by decide)
  have g1 := lv_neT (a := 1) h1 (by decide)
  have g2 := lv_neT (a := 2) h2 (by decide)
  have g3 := lv_neT (a := 3) h3 (by decide)
  have g4 := lv_neT (a := 4) h4 (by decide)
  omega
theorem swout_0_2 {x : Int32} (h0 : ¬ x = 0) (h1 : ¬ x = 1) (h2 : ¬ x = 2) : x.toInt < 0 ∨ 2 < x.toInt := by
  have g0 := lv_neT (a := 0) h0 (by decide)
  have g1 := lv_neT (a := 1) h1 (by decide)
  have g2 := lv_neT (a := 2) h2 (by decide)
  omega
theorem swout_0_3 {x : Int32} (h0 : ¬ x = 0) (h1 : ¬ x = 1) (h2 : ¬ x = 2) (h3 : ¬ x = 3) : x.toInt < 0 ∨ 3 < x.toInt := by
  have g0 := lv_neT (a := 0) h0 (by decide)
  have g1 := lv_neT (a := 1) h1 (by decide)
  have g2 := lv_neT (a := 2) h2 (by decide)
  have g3 := lv_neT (a := 3) h3 (by decide)
  omega
theorem swout_0_6 {x : Int32} (h0 : ¬ x = 0) (h1 : ¬ x = 1) (h2 : ¬ x = 2) (h3 : ¬ x = 3) (h4 : ¬ x = 4) (h5 : ¬ x = 5) (h6 : ¬ x = 6) : x.toInt < 0 ∨ 6 < x.toInt := by
  have g0 := lv_neT (a := 0) h0 (by decide)
  have g1 := lv_neT (a := 1) h1 (by decide)
  have g2 := lv_neT (a := 2) h2 (by decide)
  have g3 := lv_neT (a := 3) h3 (by decide)
  have g4 := lv_neT (a := 4) h4 (by decide)
  have g5 := lv_neT (a := 5) h5 (by decide)
  have g6 := lv_neT (a := 6) h6 (by decide)
  omega
set_option maxHeartbeats 4000000 in
set_option maxRecDepth 100000 in
theorem k_trade (l : Launch) (dC : Nat → ClassId) (dI : Nat → Nat → Nat) (cy : Nat → ClassId) (L : List Nat) (kap : Nat → Nat) (pr : Pr) (S : Nat → va_E) (sz : Nat) (o : Nat) (fr : Int32) (to : Int32) (am : Int32) (kd : Int32) (hTy : Ty cy L kap pr S) (hT_o : TK L kap o 11) : Met l yX11_trade (wT yX11_trade cX11_trade 5 (some .int)) ({ frames := 4, cells := 0, slots := 0, locals := 103 }) (pcN dC dI [.ref o, .int fr, .int to, .int am, .int kd] sz (va_pl L S) (cyT cy) NLs []) (va_Qi (fun r S' => Ty cy L kap pr S' ∧ Fr kap [0, 5, 11, 20, 21, 22, 23, 24, 28, 46] S S') (fun S' t => pB dC dI (AL L sz) (va_pl L S') (cyT cy) t) (AL L sz)) 0 0 (AL L sz) := by
  refine Met.ofW (cc := cX11_trade) (maxL := 5) (ret := (some .int)) (by decide) rfl ?_
  intro p e s m args below meth c s₁ B hml hv
  obtain ⟨rfl, hsz, hP, hK, hD0, hN, -⟩ := hv
  have hx := B.exec
  have hb := B.bytes
  have hr := B.returns
  have hT : ∀ wd ∈ TB, wd.before [.ref o, .int fr, .int to, .int am, .int kd].toArray s = true := fun wd h => atoms_spec (ws := wT yX11_trade cX11_trade 5 (some .int)) B.pre wd (List.mem_cons_of_mem _ h)
  have hown : s.vm.findClass RX11 = some m.cls := findClass_of_methodNamed B.named
  have hlocks := B.notSynchronized
  subst hsz
  have hW : PW dC dI L (AL L s.heap.size) s.heap S s.heap [] := ⟨hP, pl_self hD0, va_S.rf⟩
  have hA0 : ∀ q, q ∈ L → AL L s.heap.size q := fun _ h => Or.inl h
  have hA : ∀ q, s.heap.size ≤ q → AL L s.heap.size q := fun _ h => Or.inr h
  have hFr : Fr kap [0, 5, 11, 20, 21, 22, 23, 24, 28, 46] S S := Fr.rf
  have hl := lv_entry ([.ref o, .int fr, .int to, .int am, .int kd]) (n := 5) (Nat.le_of_ble_eq_true rfl)
  rw [lg_entry_eq]
  generalize (lg_sl ([.ref o, .int fr, .int to, .int am, .int kd]) ++ List.replicate (5 - (lg_sl ([.ref o, .int fr, .int to, .int am, .int kd])).length) Slot.unset).toArray = ls at hl ⊢
  have hl : lv_has ls 5 [(0, .ref o), (1, .int fr), (2, .int to), (3, .int am), (4, .int kd)] := hl
  refine lv_aload_n hx hb dX11_trade_0 rfl (lv_at hl 0 rfl) ?_
  refine lv_iload_n hx hb dX11_trade_1 rfl (lv_at hl 1 rfl) ?_
  refine lv_iload_n hx hb dX11_trade_2 rfl (lv_at hl 2 rfl) ?_
  obtain ⟨x_1, x_2, x_3, x_4, x_5, x_6, x_7, x_8, x_9, x_10, x_11, x_12, x_13, hS_o, hT_x_1, hT_x_2, hT_x_3, hT_x_4, hT_x_5, hT_x_6, hT_x_7, hT_x_8, hT_x_9, hT_x_10, hT_x_11, hT_x_12⟩ := hTy.k11 hT_o
  refine vp_callSi (va_Run.run (va_runV (As := [.int fr, .int to]) (rest := []) ⟨hx, hb, hml, hown, hT⟩ (o_noCouple l dC dI cy L kap pr S s.heap.size o fr to hTy hT_o) (cwV 2 hT (gV w598 w600 ws22 w1 w601) rfl rfl rfl (by decide +kernel) ⟨(Nat.le_of_ble_eq_true rfl), (Nat.le_of_ble_eq_true rfl)⟩) ⟨pcN.blind, pl_recv hK hW hT_o.1 hS_o rfl, pcN.pre hW.1 hK hW.2.1 hN (fun q h => absurd h List.not_mem_nil)⟩ rfl rfl hl.1 rfl (lv_room (Nat.le_of_ble_eq_true rfl)) dX11_trade_3 ⟨(Nat.le_of_ble_eq_true rfl), (Nat.le_of_ble_eq_true rfl)⟩)) (fun r_14 hr_14 => ?_)
  rcases hr_14 with hc_ | hc_
  · obtain rfl : r_14 = 1 := hc_
    refine lv_if_ne (tgt := 18) hx hb dX11_trade_6 (by decide) (fun _ => ?_) (fun h => absurd h (by decide))
    refine lv_bipush (v := (-2)) hx hb dX11_trade_18 (by decide) ?_
    exact W.iret (v := (-2)) hx hb hr (fun t ht h9 => ⟨⟨(-2), S, rfl, ⟨hTy, hFr⟩, by rw [ht]; exact hW.1, va_K.moved h9.alike hK, hW.2.1⟩, hW.2.2.F ht⟩) hW.2.2.2.2 dX11_trade_20
  · obtain ⟨rfl, ⟨k_15, hb_k_15, rfl⟩, ⟨k_16, hb_k_16, rfl⟩⟩ := hc_
    refine lv_if_ne (tgt := 18) hx hb dX11_trade_6 (by decide) (fun h => absurd (by decide) h) (fun _ => ?_)
    refine lv_aload_n hx hb dX11_trade_9 rfl (lv_at hl 0 rfl) ?_
    refine lv_iload hx hb dX11_trade_10 (lv_at hl 4 rfl) ?_
    refine vp_callSi (va_Run.run (va_runV (As := [.int kd]) (rest := []) ⟨hx, hb, hml, hown, hT⟩ (o_noKind l dC dI cy L kap pr S s.heap.size o kd hTy hT_o) (cwV 1 hT (gV w606 w608 ws24 w1 w609) rfl rfl rfl (by decide +kernel) ⟨(Nat.le_of_ble_eq_true rfl), (Nat.le_of_ble_eq_true rfl)⟩) ⟨pcN.blind, pl_recv hK hW hT_o.1 hS_o rfl, pcN.pre hW.1 hK hW.2.1 hN (fun q h => absurd h List.not_mem_nil)⟩ rfl rfl hl.1 rfl (lv_room (Nat.le_of_ble_eq_true rfl)) dX11_trade_12 ⟨(Nat.le_of_ble_eq_true rfl), (Nat.le_of_ble_eq_true rfl)⟩)) (fun r_17 hr_17 => ?_)
    rcases hr_17 with hc_ | hc_
    · obtain rfl : r_17 = 1 := hc_
      refine lv_if_eq (tgt := 21) hx hb dX11_trade_15 (by decide) (fun h => absurd h (by decide)) (fun _ => ?_)
      refine lv_bipush (v := (-2)) hx hb dX11_trade_18 (by decide) ?_
      exact W.iret (v := (-2)) hx hb hr (fun t ht h9 => ⟨⟨(-2), S, rfl, ⟨hTy, hFr⟩, by rw [ht]; exact hW.1, va_K.moved h9.alike hK, hW.2.1⟩, hW.2.2.F ht⟩) hW.2.2.2.2 dX11_trade_20
    · obtain ⟨rfl, k_18, hb_k_18, rfl⟩ := hc_
      refine lv_if_eq (tgt := 21) hx hb dX11_trade_15 (by decide) (fun _ => ?_) (fun h => absurd (by decide) h)
      refine lv_iload_n hx hb dX11_trade_21 rfl (lv_at hl 3 rfl) ?_
      refine lv_iconst (v := 1) hx hb dX11_trade_22 (by decide) ?_
      refine lv_icmp_lt (tgt := 32) hx hb dX11_trade_23 (by decide) (fun c_23 => ?_) (fun c_23 => ?_)
      · refine lv_bipush (v := (-3)) hx hb dX11_trade_32 (by decide) ?_
        exact W.iret (v := (-3)) hx hb hr (fun t ht h9 => ⟨⟨(-3), S, rfl, ⟨hTy, hFr⟩, by rw [ht]; exact hW.1, va_K.moved h9.alike hK, hW.2.1⟩, hW.2.2.F ht⟩) hW.2.2.2.2 dX11_trade_34
      · refine lv_iload_n hx hb dX11_trade_26 rfl (lv_at hl 3 rfl) ?_
        refine lv_ldc (v := 999999) hx hb hown (hT _ w610) dX11_trade_27 ?_
        refine lv_icmp_le (tgt := 35) hx hb dX11_trade_29 (by decide) (fun c_29 => ?_) (fun c_29 => ?_)
        · refine lv_aload_n hx hb dX11_trade_35 rfl (lv_at hl 0 rfl) ?_
          refine pl_get (ci := 11) (v := .ref x_12) (C := RX11) (T := TX11) (N := 13) hx hb hT iX11 hown hK hW hT_o.1 hS_o rfl 11 (by decide) w364 rfl dX11_trade_36 ?_
          obtain ⟨x_19, x_20, x_21, x_22, x_23, x_24, x_25, x_26, hS_x_12, hT_x_19, hT_x_20, hT_x_21, hT_x_22, hT_x_23, hT_x_24, hb_x_25⟩ := hTy.k0 hT_x_12
          refine pl_get (ci := 0) (v := .int (nI x_25)) (C := RX0) (T := TX0) (N := 8) hx hb hT iX0 hown hK hW hT_x_12.1 hS_x_12 rfl 6 (by decide) w114 rfl dX11_trade_39 ?_
          refine lv_bipush (v := 40) hx hb dX11_trade_42 (by decide) ?_
          refine lv_icmp_lt (tgt := 50) hx hb dX11_trade_44 (by decide) (fun c_44 => ?_) (fun c_44 => ?_)
          · have c_44 : x_25 < 40 := (nI_ltI (a := x_25) (b := 40) (by omega) (by omega)).mp c_44
            refine lv_aload_n hx hb dX11_trade_50 rfl (lv_at hl 0 rfl) ?_
            refine pl_callv (va_runV (As := []) (rest := []) ⟨hx, hb, hml, hown, hT⟩ (o_remember l dC dI cy L kap pr S s.heap.size o hTy hT_o) (cwV 0 hT (gV w611 w613 ws25 w1 w614) rfl rfl rfl (by decide +kernel) ⟨(Nat.le_of_ble_eq_true rfl), (Nat.le_of_ble_eq_true rfl)⟩) ⟨pcN.blind, pl_recv hK hW hT_o.1 hS_o rfl, pcN.pre hW.1 hK hW.2.1 hN (fun q h => absurd h List.not_mem_nil)⟩ rfl rfl hl.1 rfl (lv_room (Nat.le_of_ble_eq_true rfl)) dX11_trade_51 ⟨(Nat.le_of_ble_eq_true rfl), (Nat.le_of_ble_eq_true rfl)⟩) hW hA0 hA (fun S_27 H locs hrel hW => ?_)
            obtain ⟨hTy, hF1, hx1⟩ := hrel
            have hFr := hFr.tr hF1 (by decide)
            have hS_x_12 := hF1.at hT_x_12 (by decide) hS_x_12
            obtain ⟨sk_28, hS_o⟩ := hx1 _ _ _ _ _ _ _ _ _ _ _ _ _ hS_o
            refine lv_aload_n hx hb dX11_trade_54 rfl (lv_at hl 0 rfl) ?_
            refine pl_get (ci := 11) (v := .ref x_12) (C := RX11) (T := TX11) (N := 13) hx hb hT iX11 hown hK hW hT_o.1 hS_o rfl 11 (by decide) w364 rfl dX11_trade_55 ?_
            refine lv_iload_n hx hb dX11_trade_58 rfl (lv_at hl 1 rfl) ?_
            refine lv_iload_n hx hb dX11_trade_59 rfl (lv_at hl 2 rfl) ?_
            refine lv_iload_n hx hb dX11_trade_60 rfl (lv_at hl 3 rfl) ?_
            refine lv_i2l hx hb dX11_trade_61 rfl ?_
            refine lv_topl (fun z_29 ez_29 => ?_)
            refine lv_iload hx hb dX11_trade_62 (lv_at hl 4 rfl) ?_
            refine pl_callv (va_runV (As := [.int (nI k_15), .int (nI k_16), .long z_29, .int (nI k_18)]) (rest := []) ⟨hx, hb, hml, hown, hT⟩ (s_append l dC dI cy L kap pr S_27 H.size x_12 k_15 k_16 z_29 k_18 hTy hT_x_12 (by omega) (by omega) (by omega)) (cwV 4 hT (gV w634 w563 w564 w5 w565) rfl rfl rfl (by decide +kernel) ⟨(Nat.le_of_ble_eq_true rfl), (Nat.le_of_ble_eq_true rfl)⟩) ⟨pcN.blind, pl_recv hK hW hT_x_12.1 hS_x_12 rfl, pcN.pre hW.1 hK hW.2.1 hN (fun q h => absurd h List.not_mem_nil)⟩ rfl rfl hl.1 rfl (lv_room (Nat.le_of_ble_eq_true rfl)) dX11_trade_64 ⟨(Nat.le_of_ble_eq_true rfl), (Nat.le_of_ble_eq_true rfl)⟩) hW hA0 hA (fun S_30 H locs hrel hW => ?_)
            obtain ⟨hTy, hF1⟩ := hrel
            have hFr := hFr.tr hF1 (by decide)
            have hS_o := hF1.at hT_o (by decide) hS_o
            refine lv_aload_n hx hb dX11_trade_67 rfl (lv_at hl 0 rfl) ?_
            refine pl_get (ci := 11) (v := .ref x_12) (C := RX11) (T := TX11) (N := 13) hx hb hT iX11 hown hK hW hT_o.1 hS_o rfl 11 (by decide) w364 rfl dX11_trade_68 ?_
            obtain ⟨x_31, x_32, x_33, x_34, x_35, x_36, x_37, x_38, hS_x_12, hT_x_31, hT_x_32, hT_x_33, hT_x_34, hT_x_35, hT_x_36, hb_x_37⟩ := hTy.k0 hT_x_12
            refine pl_get (ci := 0) (v := .int (nI x_37)) (C := RX0) (T := TX0) (N := 8) hx hb hT iX0 hown hK hW hT_x_12.1 hS_x_12 rfl 6 (by decide) w114 rfl dX11_trade_71 ?_
            refine lv_iconst (v := 1) hx hb dX11_trade_74 (by decide) ?_
            refine lv_isub hx hb dX11_trade_75 ?_
            refine lv_topi (fun z_39 ez_39 => ?_)
            obtain rfl : z_39 = pd (x_37) := ez_39
            exact W.iret (v := pd x_37) hx hb hr (fun t ht h9 => ⟨⟨pd x_37, S_30, rfl, ⟨hTy, hFr⟩, by rw [ht]; exact hW.1, va_K.moved h9.alike hK, hW.2.1⟩, hW.2.2.F ht⟩) hW.2.2.2.2 dX11_trade_76
          · have c_44 : ¬ (x_25 < 40) := fun hh9 => c_44 ((nI_ltI (a := x_25) (b := 40) (by omega) (by omega)).mpr hh9)
            refine lv_bipush (v := (-4)) hx hb dX11_trade_47 (by decide) ?_
            exact W.iret (v := (-4)) hx hb hr (fun t ht h9 => ⟨⟨(-4), S, rfl, ⟨hTy, hFr⟩, by rw [ht]; exact hW.1, va_K.moved h9.alike hK, hW.2.1⟩, hW.2.2.F ht⟩) hW.2.2.2.2 dX11_trade_49
        · refine lv_bipush (v := (-3)) hx hb dX11_trade_32 (by decide) ?_
          exact W.iret (v := (-3)) hx hb hr (fun t ht h9 => ⟨⟨(-3), S, rfl, ⟨hTy, hFr⟩, by rw [ht]; exact hW.1, va_K.moved h9.alike hK, hW.2.1⟩, hW.2.2.F ht⟩) hW.2.2.2.2 dX11_trade_34

set_option maxHeartbeats 4000000 in
set_option maxRecDepth 100000 in
theorem k_drop (l : Launch) (dC : Nat → ClassId) (dI : Nat → Nat → Nat) (cy : Nat → ClassId) (L : List Nat) (kap : Nat → Nat) (pr : Pr) (S : Nat → va_E) (sz : Nat) (o : Nat) (tr : Int32) (hTy : Ty cy L kap pr S) (hT_o : TK L kap o 11) : Met l yX11_drop (wT yX11_drop cX11_drop 2 (some .int)) ({ frames := 4, cells := 0, slots := 0, locals := 103 }) (pcN dC dI [.ref o, .int tr] sz (va_pl L S) (cyT cy) NLs []) (va_Qi (fun r S' => Ty cy L kap pr S' ∧ Fr kap [0, 5, 11, 20, 21, 22, 23, 24, 28, 46] S S') (fun S' t => pB dC dI (AL L sz) (va_pl L S') (cyT cy) t) (AL L sz)) 0 0 (AL L sz) := by
  refine Met.ofW (cc := cX11_drop) (maxL := 2) (ret := (some .int)) (by decide) rfl ?_
  intro p e s m args below meth c s₁ B hml hv
  obtain ⟨rfl, hsz, hP, hK, hD0, hN, -⟩ := hv
  have hx := B.exec
  have hb := B.bytes
  have hr := B.returns
  have hT : ∀ wd ∈ TB, wd.before [.ref o, .int tr].toArray s = true := fun wd h => atoms_spec (ws := wT yX11_drop cX11_drop 2 (some .int)) B.pre wd (List.mem_cons_of_mem _ h)
  have hown : s.vm.findClass RX11 = some m.cls := findClass_of_methodNamed B.named
  have hlocks := B.notSynchronized
  subst hsz
  have hW : PW dC dI L (AL L s.heap.size) s.heap S s.heap [] := ⟨hP, pl_self hD0, va_S.rf⟩
  have hA0 : ∀ q, q ∈ L → AL L s.heap.size q := fun _ h => Or.inl h
  have hA : ∀ q, s.heap.size ≤ q → AL L s.heap.size q := fun _ h => Or.inr h
  have hFr : Fr kap [0, 5, 11, 20, 21, 22, 23, 24, 28, 46] S S := Fr.rf
  have hl := lv_entry ([.ref o, .int tr]) (n := 2) (Nat.le_of_ble_eq_true rfl)
  rw [lg_entry_eq]
  generalize (lg_sl ([.ref o, .int tr]) ++ List.replicate (2 - (lg_sl ([.ref o, .int tr])).length) Slot.unset).toArray = ls at hl ⊢
  have hl : lv_has ls 2 [(0, .ref o), (1, .int tr)] := hl
  refine lv_aload_n hx hb dX11_drop_0 rfl (lv_at hl 0 rfl) ?_
  refine lv_iload_n hx hb dX11_drop_1 rfl (lv_at hl 1 rfl) ?_
  obtain ⟨x_1, x_2, x_3, x_4, x_5, x_6, x_7, x_8, x_9, x_10, x_11, x_12, x_13, hS_o, hT_x_1, hT_x_2, hT_x_3, hT_x_4, hT_x_5, hT_x_6, hT_x_7, hT_x_8, hT_x_9, hT_x_10, hT_x_11, hT_x_12⟩ := hTy.k11 hT_o
  refine vp_callSi (va_Run.run (va_runV (As := [.int tr]) (rest := []) ⟨hx, hb, hml, hown, hT⟩ (o_noTrade l dC dI cy L kap pr S s.heap.size o tr hTy hT_o) (cwV 1 hT (gV w639 w641 ws28 w1 w642) rfl rfl rfl (by decide +kernel) ⟨(Nat.le_of_ble_eq_true rfl), (Nat.le_of_ble_eq_true rfl)⟩) ⟨pcN.blind, pl_recv hK hW hT_o.1 hS_o rfl, pcN.pre hW.1 hK hW.2.1 hN (fun q h => absurd h List.not_mem_nil)⟩ rfl rfl hl.1 rfl (lv_room (Nat.le_of_ble_eq_true rfl)) dX11_drop_2 ⟨(Nat.le_of_ble_eq_true rfl), (Nat.le_of_ble_eq_true rfl)⟩)) (fun r_14 hr_14 => ?_)
  rcases hr_14 with hc_ | hc_
  · obtain rfl : r_14 = 1 := hc_
    refine lv_if_eq (tgt := 11) hx hb dX11_drop_5 (by decide) (fun h => absurd h (by decide)) (fun _ => ?_)
    refine lv_bipush (v := (-2)) hx hb dX11_drop_8 (by decide) ?_
    exact W.iret (v := (-2)) hx hb hr (fun t ht h9 => ⟨⟨(-2), S, rfl, ⟨hTy, hFr⟩, by rw [ht]; exact hW.1, va_K.moved h9.alike hK, hW.2.1⟩, hW.2.2.F ht⟩) hW.2.2.2.2 dX11_drop_10
  · obtain ⟨rfl, k_15, hb_k_15, rfl, htr⟩ := hc_
    refine lv_if_eq (tgt := 11) hx hb dX11_drop_5 (by decide) (fun _ => ?_) (fun h => absurd (by decide) h)
    obtain ⟨x_16, x_17, x_18, x_19, x_20, x_21, x_22, x_23, hS_x_12, hT_x_16, hT_x_17, hT_x_18, hT_x_19, hT_x_20, hT_x_21, hb_x_22⟩ := hTy.k0 hT_x_12
    have hkn : k_15 < x_22 := trkk htr hS_o hS_x_12 (by omega)
    refine lv_aload_n hx hb dX11_drop_11 rfl (lv_at hl 0 rfl) ?_
    refine pl_callv (va_runV (As := []) (rest := []) ⟨hx, hb, hml, hown, hT⟩ (o_remember l dC dI cy L kap pr S s.heap.size o hTy hT_o) (cwV 0 hT (gV w611 w613 ws25 w1 w614) rfl rfl rfl (by decide +kernel) ⟨(Nat.le_of_ble_eq_true rfl), (Nat.le_of_ble_eq_true rfl)⟩) ⟨pcN.blind, pl_recv hK hW hT_o.1 hS_o rfl, pcN.pre hW.1 hK hW.2.1 hN (fun q h => absurd h List.not_mem_nil)⟩ rfl rfl hl.1 rfl (lv_room (Nat.le_of_ble_eq_true rfl)) dX11_drop_12 ⟨(Nat.le_of_ble_eq_true rfl), (Nat.le_of_ble_eq_true rfl)⟩) hW hA0 hA (fun S_24 H locs hrel hW => ?_)
    obtain ⟨hTy, hF1, hx1⟩ := hrel
    have hFr := hFr.tr hF1 (by decide)
    have hS_x_12 := hF1.at hT_x_12 (by decide) hS_x_12
    obtain ⟨sk_25, hS_o⟩ := hx1 _ _ _ _ _ _ _ _ _ _ _ _ _ hS_o
    refine lv_aload_n hx hb dX11_drop_15 rfl (lv_at hl 0 rfl) ?_
    refine pl_get (ci := 11) (v := .ref x_12) (C := RX11) (T := TX11) (N := 13) hx hb hT iX11 hown hK hW hT_o.1 hS_o rfl 11 (by decide) w364 rfl dX11_drop_16 ?_
    refine lv_iload_n hx hb dX11_drop_19 rfl (lv_at hl 1 rfl) ?_
    obtain ⟨m9, rfl⟩ : ∃ m9, x_22 = m9 + 1 := ⟨x_22 - 1, by omega⟩
    refine pl_callv (va_runV (As := [.int (nI k_15)]) (rest := []) ⟨hx, hb, hml, hown, hT⟩ (s_remove l dC dI cy L kap pr S_24 H.size x_12 k_15 hTy hT_x_12 (by omega) m9 (by omega) ⟨_, _, _, _, _, _, _, hS_x_12⟩) (cwV 1 hT (gV w643 w644 w645 w5 w646) rfl rfl rfl (by decide +kernel) ⟨(Nat.le_of_ble_eq_true rfl), (Nat.le_of_ble_eq_true rfl)⟩) ⟨pcN.blind, pl_recv hK hW hT_x_12.1 hS_x_12 rfl, pcN.pre hW.1 hK hW.2.1 hN (fun q h => absurd h List.not_mem_nil)⟩ rfl rfl hl.1 rfl (lv_room (Nat.le_of_ble_eq_true rfl)) dX11_drop_20 ⟨(Nat.le_of_ble_eq_true rfl), (Nat.le_of_ble_eq_true rfl)⟩) hW hA0 hA (fun S_26 H locs hrel hW => ?_)
    obtain ⟨hTy, hF1, hx1⟩ := hrel
    have hFr := hFr.tr hF1 (by decide)
    have hS_o := hF1.at hT_o (by decide) hS_o
    refine lv_aload_n hx hb dX11_drop_23 rfl (lv_at hl 0 rfl) ?_
    refine pl_get (ci := 11) (v := .ref x_12) (C := RX11) (T := TX11) (N := 13) hx hb hT iX11 hown hK hW hT_o.1 hS_o rfl 11 (by decide) w364 rfl dX11_drop_24 ?_
    obtain ⟨x_27, x_28, x_29, x_30, x_31, x_32, x_33, x_34, hS_x_12, hT_x_27, hT_x_28, hT_x_29, hT_x_30, hT_x_31, hT_x_32, hb_x_33⟩ := hTy.k0 hT_x_12
    refine pl_get (ci := 0) (v := .int (nI x_33)) (C := RX0) (T := TX0) (N := 8) hx hb hT iX0 hown hK hW hT_x_12.1 hS_x_12 rfl 6 (by decide) w114 rfl dX11_drop_27 ?_
    exact W.iret (v := nI x_33) hx hb hr (fun t ht h9 => ⟨⟨nI x_33, S_26, rfl, ⟨hTy, hFr⟩, by rw [ht]; exact hW.1, va_K.moved h9.alike hK, hW.2.1⟩, hW.2.2.F ht⟩) hW.2.2.2.2 dX11_drop_30

set_option maxHeartbeats 4000000 in
set_option maxRecDepth 100000 in
theorem k_keep (l : Launch) (dC : Nat → ClassId) (dI : Nat → Nat → Nat) (cy : Nat → ClassId) (L : List Nat) (kap : Nat → Nat) (pr : Pr) (S : Nat → va_E) (sz : Nat) (o : Nat) (tr : Int32) (hTy : Ty cy L kap pr S) (hT_o : TK L kap o 11) : Met l yX11_keep (wT yX11_keep cX11_keep 2 (some .int)) ({ frames := 4, cells := 0, slots := 0, locals := 103 }) (pcN dC dI [.ref o, .int tr] sz (va_pl L S) (cyT cy) NLs []) (va_Qi (fun r S' => Ty cy L kap pr S' ∧ Fr kap [5, 11, 20, 21, 22, 23, 24, 28, 46] S S') (fun S' t => pB dC dI (AL L sz) (va_pl L S') (cyT cy) t) (AL L sz)) 0 0 (AL L sz) := by
  refine Met.ofW (cc := cX11_keep) (maxL := 2) (ret := (some .int)) (by decide) rfl ?_
  intro p e s m args below meth c s₁ B hml hv
  obtain ⟨rfl, hsz, hP, hK, hD0, hN, -⟩ := hv
  have hx := B.exec
  have hb := B.bytes
  have hr := B.returns
  have hT : ∀ wd ∈ TB, wd.before [.ref o, .int tr].toArray s = true := fun wd h => atoms_spec (ws := wT yX11_keep cX11_keep 2 (some .int)) B.pre wd (List.mem_cons_of_mem _ h)
  have hown : s.vm.findClass RX11 = some m.cls := findClass_of_methodNamed B.named
  have hlocks := B.notSynchronized
  subst hsz
  have hW : PW dC dI L (AL L s.heap.size) s.heap S s.heap [] := ⟨hP, pl_self hD0, va_S.rf⟩
  have hA0 : ∀ q, q ∈ L → AL L s.heap.size q := fun _ h => Or.inl h
  have hA : ∀ q, s.heap.size ≤ q → AL L s.heap.size q := fun _ h => Or.inr h
  have hFr : Fr kap [5, 11, 20, 21, 22, 23, 24, 28, 46] S S := Fr.rf
  have hl := lv_entry ([.ref o, .int tr]) (n := 2) (Nat.le_of_ble_eq_true rfl)
  rw [lg_entry_eq]
  generalize (lg_sl ([.ref o, .int tr]) ++ List.replicate (2 - (lg_sl ([.ref o, .int tr])).length) Slot.unset).toArray = ls at hl ⊢
  have hl : lv_has ls 2 [(0, .ref o), (1, .int tr)] := hl
  refine lv_aload_n hx hb dX11_keep_0 rfl (lv_at hl 0 rfl) ?_
  refine lv_iload_n hx hb dX11_keep_1 rfl (lv_at hl 1 rfl) ?_
  obtain ⟨x_1, x_2, x_3, x_4, x_5, x_6, x_7, x_8, x_9, x_10, x_11, x_12, x_13, hS_o, hT_x_1, hT_x_2, hT_x_3, hT_x_4, hT_x_5, hT_x_6, hT_x_7, hT_x_8, hT_x_9, hT_x_10, hT_x_11, hT_x_12⟩ := hTy.k11 hT_o
  refine vp_callSi (va_Run.run (va_runV (As := [.int tr]) (rest := []) ⟨hx, hb, hml, hown, hT⟩ (o_noTrade l dC dI cy L kap pr S s.heap.size o tr hTy hT_o) (cwV 1 hT (gV w639 w641 ws28 w1 w642) rfl rfl rfl (by decide +kernel) ⟨(Nat.le_of_ble_eq_true rfl), (Nat.le_of_ble_eq_true rfl)⟩) ⟨pcN.blind, pl_recv hK hW hT_o.1 hS_o rfl, pcN.pre hW.1 hK hW.2.1 hN (fun q h => absurd h List.not_mem_nil)⟩ rfl rfl hl.1 rfl (lv_room (Nat.le_of_ble_eq_true rfl)) dX11_keep_2 ⟨(Nat.le_of_ble_eq_true rfl), (Nat.le_of_ble_eq_true rfl)⟩)) (fun r_14 hr_14 => ?_)
  rcases hr_14 with hc_ | hc_
  · obtain rfl : r_14 = 1 := hc_
    refine lv_if_eq (tgt := 11) hx hb dX11_keep_5 (by decide) (fun h => absurd h (by decide)) (fun _ => ?_)
    refine lv_bipush (v := (-2)) hx hb dX11_keep_8 (by decide) ?_
    exact W.iret (v := (-2)) hx hb hr (fun t ht h9 => ⟨⟨(-2), S, rfl, ⟨hTy, hFr⟩, by rw [ht]; exact hW.1, va_K.moved h9.alike hK, hW.2.1⟩, hW.2.2.F ht⟩) hW.2.2.2.2 dX11_keep_10
  · obtain ⟨rfl, k_15, hb_k_15, rfl, htr⟩ := hc_
    refine lv_if_eq (tgt := 11) hx hb dX11_keep_5 (by decide) (fun _ => ?_) (fun h => absurd (by decide) h)
    refine lv_aload_n hx hb dX11_keep_11 rfl (lv_at hl 0 rfl) ?_
    refine pl_callv (va_runV (As := []) (rest := []) ⟨hx, hb, hml, hown, hT⟩ (o_remember l dC dI cy L kap pr S s.heap.size o hTy hT_o) (cwV 0 hT (gV w611 w613 ws25 w1 w614) rfl rfl rfl (by decide +kernel) ⟨(Nat.le_of_ble_eq_true rfl), (Nat.le_of_ble_eq_true rfl)⟩) ⟨pcN.blind, pl_recv hK hW hT_o.1 hS_o rfl, pcN.pre hW.1 hK hW.2.1 hN (fun q h => absurd h List.not_mem_nil)⟩ rfl rfl hl.1 rfl (lv_room (Nat.le_of_ble_eq_true rfl)) dX11_keep_12 ⟨(Nat.le_of_ble_eq_true rfl), (Nat.le_of_ble_eq_true rfl)⟩) hW hA0 hA (fun S_16 H locs hrel hW => ?_)
    obtain ⟨hTy, hF1, hx1⟩ := hrel
    have hFr := hFr.tr hF1 (by decide)
    obtain ⟨sk_17, hS_o⟩ := hx1 _ _ _ _ _ _ _ _ _ _ _ _ _ hS_o
    refine lv_aload_n hx hb dX11_keep_15 rfl (lv_at hl 0 rfl) ?_
    refine pl_get (ci := 11) (v := .ref x_12) (C := RX11) (T := TX11) (N := 13) hx hb hT iX11 hown hK hW hT_o.1 hS_o rfl 11 (by decide) w364 rfl dX11_keep_16 ?_
    obtain ⟨x_18, x_19, x_20, x_21, x_22, x_23, x_24, x_25, hS_x_12, hT_x_18, hT_x_19, hT_x_20, hT_x_21, hT_x_22, hT_x_23, hb_x_24⟩ := hTy.k0 hT_x_12
    refine pl_get (ci := 0) (v := .ref x_22) (C := RX0) (T := TX0) (N := 8) hx hb hT iX0 hown hK hW hT_x_12.1 hS_x_12 rfl 4 (by decide) w107 rfl dX11_keep_19 ?_
    refine lv_iload_n hx hb dX11_keep_22 rfl (lv_at hl 1 rfl) ?_
    refine lv_aload_n hx hb dX11_keep_23 rfl (lv_at hl 0 rfl) ?_
    refine pl_get (ci := 11) (v := .ref x_12) (C := RX11) (T := TX11) (N := 13) hx hb hT iX11 hown hK hW hT_o.1 hS_o rfl 11 (by decide) w364 rfl dX11_keep_24 ?_
    refine pl_get (ci := 0) (v := .ref x_22) (C := RX0) (T := TX0) (N := 8) hx hb hT iX0 hown hK hW hT_x_12.1 hS_x_12 rfl 4 (by decide) w107 rfl dX11_keep_27 ?_
    refine lv_iload_n hx hb dX11_keep_30 rfl (lv_at hl 1 rfl) ?_
    obtain ⟨f_26, hS_x_22⟩ := hTy.k23 hT_x_22
    refine pl_zald hx hb hK hW hT_x_22.1 hS_x_22 (vp_in_nI (n := k_15) (N := 40) (by omega) (by omega)) dX11_keep_31 ?_
    refine lv_topi (fun y_27 ey_27 => ?_)
    refine lv_if_ne (tgt := 39) hx hb dX11_keep_32 (by decide) (fun c_32 => ?_) (fun c_32 => ?_)
    · refine lv_iconst (v := 0) hx hb dX11_keep_39 (by decide) ?_
      refine pl_zast hx hb hK hW hT_x_22.1 hS_x_22 (vp_in_nI (n := k_15) (N := 40) (by omega) (by omega)) dX11_keep_40 (fun H locs f_29 S_28 ef_f_29 e1 hW => ?_)
      have hTy := hTy.u23 e1 hT_x_22 ⟨f_29, rfl⟩
      have hS_o := un e1 hT_o hT_x_22 (by decide) hS_o
      have hS_x_12 := un e1 hT_x_12 hT_x_22 (by decide) hS_x_12
      have hFr := uf hFr e1 hT_x_22 (by decide) (by decide)
      have hS_x_22 := us e1
      refine lv_aload_n hx hb dX11_keep_41 rfl (lv_at hl 0 rfl) ?_
      refine pl_get (ci := 11) (v := .ref x_12) (C := RX11) (T := TX11) (N := 13) hx hb hT iX11 hown hK hW hT_o.1 hS_o rfl 11 (by decide) w364 rfl dX11_keep_42 ?_
      refine pl_get (ci := 0) (v := .ref x_22) (C := RX0) (T := TX0) (N := 8) hx hb hT iX0 hown hK hW hT_x_12.1 hS_x_12 rfl 4 (by decide) w107 rfl dX11_keep_45 ?_
      refine lv_iload_n hx hb dX11_keep_48 rfl (lv_at hl 1 rfl) ?_
      refine pl_zald hx hb hK hW hT_x_22.1 hS_x_22 (vp_in_nI (n := k_15) (N := 40) (by omega) (by omega)) dX11_keep_49 ?_
      refine lv_topi (fun y_30 ey_30 => ?_)
      refine lv_if_eq (tgt := 57) hx hb dX11_keep_50 (by decide) (fun c_50 => ?_) (fun c_50 => ?_)
      · refine lv_iconst (v := 0) hx hb dX11_keep_57 (by decide) ?_
        exact W.iret (v := 0) hx hb hr (fun t ht h9 => ⟨⟨0, S_28, rfl, ⟨hTy, hFr⟩, by rw [ht]; exact hW.1, va_K.moved h9.alike hK, hW.2.1⟩, hW.2.2.F ht⟩) hW.2.2.2.2 dX11_keep_58
      · refine lv_iconst (v := 1) hx hb dX11_keep_53 (by decide) ?_
        refine lv_goto (tgt := 58) hx hb dX11_keep_54 (by decide) ?_
        exact W.iret (v := 1) hx hb hr (fun t ht h9 => ⟨⟨1, S_28, rfl, ⟨hTy, hFr⟩, by rw [ht]; exact hW.1, va_K.moved h9.alike hK, hW.2.1⟩, hW.2.2.F ht⟩) hW.2.2.2.2 dX11_keep_58
    · refine lv_iconst (v := 1) hx hb dX11_keep_35 (by decide) ?_
      refine lv_goto (tgt := 40) hx hb dX11_keep_36 (by decide) ?_
      refine pl_zast hx hb hK hW hT_x_22.1 hS_x_22 (vp_in_nI (n := k_15) (N := 40) (by omega) (by omega)) dX11_keep_40 (fun H locs f_32 S_31 ef_f_32 e1 hW => ?_)
      have hTy := hTy.u23 e1 hT_x_22 ⟨f_32, rfl⟩
      have hS_o := un e1 hT_o hT_x_22 (by decide) hS_o
      have hS_x_12 := un e1 hT_x_12 hT_x_22 (by decide) hS_x_12
      have hFr := uf hFr e1 hT_x_22 (by decide) (by decide)
      have hS_x_22 := us e1
      refine lv_aload_n hx hb dX11_keep_41 rfl (lv_at hl 0 rfl) ?_
      refine pl_get (ci := 11) (v := .ref x_12) (C := RX11) (T := TX11) (N := 13) hx hb hT iX11 hown hK hW hT_o.1 hS_o rfl 11 (by decide) w364 rfl dX11_keep_42 ?_
      refine pl_get (ci := 0) (v := .ref x_22) (C := RX0) (T := TX0) (N := 8) hx hb hT iX0 hown hK hW hT_x_12.1 hS_x_12 rfl 4 (by decide) w107 rfl dX11_keep_45 ?_
      refine lv_iload_n hx hb dX11_keep_48 rfl (lv_at hl 1 rfl) ?_
      refine pl_zald hx hb hK hW hT_x_22.1 hS_x_22 (vp_in_nI (n := k_15) (N := 40) (by omega) (by omega)) dX11_keep_49 ?_
      refine lv_topi (fun y_33 ey_33 => ?_)
      refine lv_if_eq (tgt := 57) hx hb dX11_keep_50 (by decide) (fun c_50 => ?_) (fun c_50 => ?_)
      · refine lv_iconst (v := 0) hx hb dX11_keep_57 (by decide) ?_
        exact W.iret (v := 0) hx hb hr (fun t ht h9 => ⟨⟨0, S_31, rfl, ⟨hTy, hFr⟩, by rw [ht]; exact hW.1, va_K.moved h9.alike hK, hW.2.1⟩, hW.2.2.F ht⟩) hW.2.2.2.2 dX11_keep_58
      · refine lv_iconst (v := 1) hx hb dX11_keep_53 (by decide) ?_
        refine lv_goto (tgt := 58) hx hb dX11_keep_54 (by decide) ?_
        exact W.iret (v := 1) hx hb hr (fun t ht h9 => ⟨⟨1, S_31, rfl, ⟨hTy, hFr⟩, by rw [ht]; exact hW.1, va_K.moved h9.alike hK, hW.2.1⟩, hW.2.2.F ht⟩) hW.2.2.2.2 dX11_keep_58

set_option maxHeartbeats 4000000 in
set_option maxRecDepth 100000 in
theorem k_mode (l : Launch) (dC : Nat → ClassId) (dI : Nat → Nat → Nat) (cy : Nat → ClassId) (L : List Nat) (kap : Nat → Nat) (pr : Pr) (S : Nat → va_E) (sz : Nat) (o : Nat) (md : Int32) (hTy : Ty cy L kap pr S) (hT_o : TK L kap o 11) : Met l yX11_mode (wT yX11_mode cX11_mode 3 (some .int)) ({ frames := 4, cells := 0, slots := 0, locals := 103 }) (pcN dC dI [.ref o, .int md] sz (va_pl L S) (cyT cy) NLs []) (va_Qi (fun r S' => Ty cy L kap pr S' ∧ Fr kap [0, 5, 11, 20, 21, 22, 23, 24, 28, 46] S S') (fun S' t => pB dC dI (AL L sz) (va_pl L S') (cyT cy) t) (AL L sz)) 0 0 (AL L sz) := by
  refine Met.ofW (cc := cX11_mode) (maxL := 3) (ret := (some .int)) (by decide) rfl ?_
  intro p e s m args below meth c s₁ B hml hv
  obtain ⟨rfl, hsz, hP, hK, hD0, hN, -⟩ := hv
  have hx := B.exec
  have hb := B.bytes
  have hr := B.returns
  have hT : ∀ wd ∈ TB, wd.before [.ref o, .int md].toArray s = true := fun wd h => atoms_spec (ws := wT yX11_mode cX11_mode 3 (some .int)) B.pre wd (List.mem_cons_of_mem _ h)
  have hown : s.vm.findClass RX11 = some m.cls := findClass_of_methodNamed B.named
  have hlocks := B.notSynchronized
  subst hsz
  have hW : PW dC dI L (AL L s.heap.size) s.heap S s.heap [] := ⟨hP, pl_self hD0, va_S.rf⟩
  have hA0 : ∀ q, q ∈ L → AL L s.heap.size q := fun _ h => Or.inl h
  have hA : ∀ q, s.heap.size ≤ q → AL L s.heap.size q := fun _ h => Or.inr h
  have hFr : Fr kap [0, 5, 11, 20, 21, 22, 23, 24, 28, 46] S S := Fr.rf
  have hl := lv_entry ([.ref o, .int md]) (n := 3) (Nat.le_of_ble_eq_true rfl)
  rw [lg_entry_eq]
  generalize (lg_sl ([.ref o, .int md]) ++ List.replicate (3 - (lg_sl ([.ref o, .int md])).length) Slot.unset).toArray = ls at hl ⊢
  have hl : lv_has ls 3 [(0, .ref o), (1, .int md)] := hl
  refine lv_iload_n hx hb dX11_mode_0 rfl (lv_at hl 1 rfl) ?_
  refine lv_if_lt (tgt := 9) hx hb dX11_mode_1 (by decide) (fun c_1 => ?_) (fun c_1 => ?_)
  · skip
    refine lv_bipush (v := (-3)) hx hb dX11_mode_9 (by decide) ?_
    exact W.iret (v := (-3)) hx hb hr (fun t ht h9 => ⟨⟨(-3), S, rfl, ⟨hTy, hFr⟩, by rw [ht]; exact hW.1, va_K.moved h9.alike hK, hW.2.1⟩, hW.2.2.F ht⟩) hW.2.2.2.2 dX11_mode_11
  · obtain ⟨j_1, hj_j_1, rfl⟩ := nI_of c_1
    refine lv_iload_n hx hb dX11_mode_4 rfl (lv_at hl 1 rfl) ?_
    refine lv_iconst (v := 3) hx hb dX11_mode_5 (by decide) ?_
    refine lv_icmp_le (tgt := 12) hx hb dX11_mode_6 (by decide) (fun c_6 => ?_) (fun c_6 => ?_)
    · have c_6 : j_1 ≤ 3 := (nI_leI (a := j_1) (b := 3) (by omega) (by omega)).mp c_6
      refine lv_aload_n hx hb dX11_mode_12 rfl (lv_at hl 0 rfl) ?_
      obtain ⟨x_2, x_3, x_4, x_5, x_6, x_7, x_8, x_9, x_10, x_11, x_12, x_13, x_14, hS_o, hT_x_2, hT_x_3, hT_x_4, hT_x_5, hT_x_6, hT_x_7, hT_x_8, hT_x_9, hT_x_10, hT_x_11, hT_x_12, hT_x_13⟩ := hTy.k11 hT_o
      refine pl_callv (va_runV (As := []) (rest := []) ⟨hx, hb, hml, hown, hT⟩ (o_remember l dC dI cy L kap pr S s.heap.size o hTy hT_o) (cwV 0 hT (gV w611 w613 ws25 w1 w614) rfl rfl rfl (by decide +kernel) ⟨(Nat.le_of_ble_eq_true rfl), (Nat.le_of_ble_eq_true rfl)⟩) ⟨pcN.blind, pl_recv hK hW hT_o.1 hS_o rfl, pcN.pre hW.1 hK hW.2.1 hN (fun q h => absurd h List.not_mem_nil)⟩ rfl rfl hl.1 rfl (lv_room (Nat.le_of_ble_eq_true rfl)) dX11_mode_13 ⟨(Nat.le_of_ble_eq_true rfl), (Nat.le_of_ble_eq_true rfl)⟩) hW hA0 hA (fun S_15 H locs hrel hW => ?_)
      obtain ⟨hTy, hF1, hx1⟩ := hrel
      have hFr := hFr.tr hF1 (by decide)
      obtain ⟨sk_16, hS_o⟩ := hx1 _ _ _ _ _ _ _ _ _ _ _ _ _ hS_o
      refine lv_aload_n hx hb dX11_mode_16 rfl (lv_at hl 0 rfl) ?_
      refine pl_get (ci := 11) (v := .ref x_13) (C := RX11) (T := TX11) (N := 13) hx hb hT iX11 hown hK hW hT_o.1 hS_o rfl 11 (by decide) w364 rfl dX11_mode_17 ?_
      obtain ⟨x_17, x_18, x_19, x_20, x_21, x_22, x_23, x_24, hS_x_13, hT_x_17, hT_x_18, hT_x_19, hT_x_20, hT_x_21, hT_x_22, hb_x_23⟩ := hTy.k0 hT_x_13
      refine pl_get (ci := 0) (v := .int x_24) (C := RX0) (T := TX0) (N := 8) hx hb hT iX0 hown hK hW hT_x_13.1 hS_x_13 rfl 7 (by decide) w118 rfl dX11_mode_20 ?_
      refine lv_istore_n (lv' := [(2, .int x_24), (0, .ref o), (1, .int (nI j_1))]) hx hb dX11_mode_23 rfl hl (by decide) rfl (fun ls hl => ?_)
      refine lv_aload_n hx hb dX11_mode_24 rfl (lv_at hl 1 rfl) ?_
      refine pl_get (ci := 11) (v := .ref x_13) (C := RX11) (T := TX11) (N := 13) hx hb hT iX11 hown hK hW hT_o.1 hS_o rfl 11 (by decide) w364 rfl dX11_mode_25 ?_
      refine lv_iload_n hx hb dX11_mode_28 rfl (lv_at hl 2 rfl) ?_
      refine pl_put (ci := 0) (v := .int (nI j_1)) (ty := .int) (C := RX0) (T := TX0) (N := 8) (fs' := [.ref x_17, .ref x_18, .ref x_19, .ref x_20, .ref x_21, .ref x_22, .int (nI x_23), .int (nI j_1)]) hx hb hT iX0 tyX0 tyX0_ok nmX0 hown hK hW hT_x_13.1 hS_x_13 rfl 7 (by decide) w118 rfl (by decide +kernel) rfl rfl (Nat.le_of_ble_eq_true rfl) rfl dX11_mode_29 (fun H locs S_25 e1 hW => ?_)
      have hTy := hTy.u0 e1 hT_x_13 ⟨x_17, x_18, x_19, x_20, x_21, x_22, x_23, nI j_1, rfl, hT_x_17, hT_x_18, hT_x_19, hT_x_20, hT_x_21, hT_x_22, (by omega)⟩
      have hS_o := un e1 hT_o hT_x_13 (by decide) hS_o
      have hFr := uf hFr e1 hT_x_13 (by decide) (by decide)
      have hS_x_13 := us e1
      refine lv_iload_n hx hb dX11_mode_32 rfl (lv_at hl 0 rfl) ?_
      exact W.iret (v := x_24) hx hb hr (fun t ht h9 => ⟨⟨x_24, S_25, rfl, ⟨hTy, hFr⟩, by rw [ht]; exact hW.1, va_K.moved h9.alike hK, hW.2.1⟩, hW.2.2.F ht⟩) hW.2.2.2.2 dX11_mode_33
    · have c_6 : ¬ (j_1 ≤ 3) := fun hh9 => c_6 ((nI_leI (a := j_1) (b := 3) (by omega) (by omega)).mpr hh9)
      refine lv_bipush (v := (-3)) hx hb dX11_mode_9 (by decide) ?_
      exact W.iret (v := (-3)) hx hb hr (fun t ht h9 => ⟨⟨(-3), S, rfl, ⟨hTy, hFr⟩, by rw [ht]; exact hW.1, va_K.moved h9.alike hK, hW.2.1⟩, hW.2.2.F ht⟩) hW.2.2.2.2 dX11_mode_11

set_option maxHeartbeats 4000000 in
set_option maxRecDepth 100000 in
theorem k_cap (l : Launch) (dC : Nat → ClassId) (dI : Nat → Nat → Nat) (cy : Nat → ClassId) (L : List Nat) (kap : Nat → Nat) (pr : Pr) (S : Nat → va_E) (sz : Nat) (o : Nat) (ca : Int32) (cb : Int32) (cn : Int32) (hTy : Ty cy L kap pr S) (hT_o : TK L kap o 11) : Met l yX11_cap (wT yX11_cap cX11_cap 5 (some .int)) ({ frames := 4, cells := 0, slots := 0, locals := 103 }) (pcN dC dI [.ref o, .int ca, .int cb, .int cn] sz (va_pl L S) (cyT cy) NLs []) (va_Qi (fun r S' => Ty cy L kap pr S' ∧ Fr kap [5, 11, 20, 21, 22, 23, 24, 28, 46] S S') (fun S' t => pB dC dI (AL L sz) (va_pl L S') (cyT cy) t) (AL L sz)) 0 0 (AL L sz) := by
  refine Met.ofW (cc := cX11_cap) (maxL := 5) (ret := (some .int)) (by decide) rfl ?_
  intro p e s m args below meth c s₁ B hml hv
  obtain ⟨rfl, hsz, hP, hK, hD0, hN, -⟩ := hv
  have hx := B.exec
  have hb := B.bytes
  have hr := B.returns
  have hT : ∀ wd ∈ TB, wd.before [.ref o, .int ca, .int cb, .int cn].toArray s = true := fun wd h => atoms_spec (ws := wT yX11_cap cX11_cap 5 (some .int)) B.pre wd (List.mem_cons_of_mem _ h)
  have hown : s.vm.findClass RX11 = some m.cls := findClass_of_methodNamed B.named
  have hlocks := B.notSynchronized
  subst hsz
  have hW : PW dC dI L (AL L s.heap.size) s.heap S s.heap [] := ⟨hP, pl_self hD0, va_S.rf⟩
  have hA0 : ∀ q, q ∈ L → AL L s.heap.size q := fun _ h => Or.inl h
  have hA : ∀ q, s.heap.size ≤ q → AL L s.heap.size q := fun _ h => Or.inr h
  have hFr : Fr kap [5, 11, 20, 21, 22, 23, 24, 28, 46] S S := Fr.rf
  have hl := lv_entry ([.ref o, .int ca, .int cb, .int cn]) (n := 5) (Nat.le_of_ble_eq_true rfl)
  rw [lg_entry_eq]
  generalize (lg_sl ([.ref o, .int ca, .int cb, .int cn]) ++ List.replicate (5 - (lg_sl ([.ref o, .int ca, .int cb, .int cn])).length) Slot.unset).toArray = ls at hl ⊢
  have hl : lv_has ls 5 [(0, .ref o), (1, .int ca), (2, .int cb), (3, .int cn)] := hl
  refine lv_aload_n hx hb dX11_cap_0 rfl (lv_at hl 0 rfl) ?_
  refine lv_iload_n hx hb dX11_cap_1 rfl (lv_at hl 1 rfl) ?_
  refine lv_iload_n hx hb dX11_cap_2 rfl (lv_at hl 2 rfl) ?_
  obtain ⟨x_1, x_2, x_3, x_4, x_5, x_6, x_7, x_8, x_9, x_10, x_11, x_12, x_13, hS_o, hT_x_1, hT_x_2, hT_x_3, hT_x_4, hT_x_5, hT_x_6, hT_x_7, hT_x_8, hT_x_9, hT_x_10, hT_x_11, hT_x_12⟩ := hTy.k11 hT_o
  refine vp_callSi (va_Run.run (va_runV (As := [.int ca, .int cb]) (rest := []) ⟨hx, hb, hml, hown, hT⟩ (o_noCouple l dC dI cy L kap pr S s.heap.size o ca cb hTy hT_o) (cwV 2 hT (gV w598 w600 ws22 w1 w601) rfl rfl rfl (by decide +kernel) ⟨(Nat.le_of_ble_eq_true rfl), (Nat.le_of_ble_eq_true rfl)⟩) ⟨pcN.blind, pl_recv hK hW hT_o.1 hS_o rfl, pcN.pre hW.1 hK hW.2.1 hN (fun q h => absurd h List.not_mem_nil)⟩ rfl rfl hl.1 rfl (lv_room (Nat.le_of_ble_eq_true rfl)) dX11_cap_3 ⟨(Nat.le_of_ble_eq_true rfl), (Nat.le_of_ble_eq_true rfl)⟩)) (fun r_14 hr_14 => ?_)
  rcases hr_14 with hc_ | hc_
  · obtain rfl : r_14 = 1 := hc_
    refine lv_if_eq (tgt := 12) hx hb dX11_cap_6 (by decide) (fun h => absurd h (by decide)) (fun _ => ?_)
    refine lv_bipush (v := (-2)) hx hb dX11_cap_9 (by decide) ?_
    exact W.iret (v := (-2)) hx hb hr (fun t ht h9 => ⟨⟨(-2), S, rfl, ⟨hTy, hFr⟩, by rw [ht]; exact hW.1, va_K.moved h9.alike hK, hW.2.1⟩, hW.2.2.F ht⟩) hW.2.2.2.2 dX11_cap_11
  · obtain ⟨rfl, ⟨k_15, hb_k_15, rfl⟩, ⟨k_16, hb_k_16, rfl⟩⟩ := hc_
    refine lv_if_eq (tgt := 12) hx hb dX11_cap_6 (by decide) (fun _ => ?_) (fun h => absurd (by decide) h)
    refine lv_iload_n hx hb dX11_cap_12 rfl (lv_at hl 3 rfl) ?_
    refine lv_if_lt (tgt := 22) hx hb dX11_cap_13 (by decide) (fun c_13 => ?_) (fun c_13 => ?_)
    · skip
      refine lv_bipush (v := (-3)) hx hb dX11_cap_22 (by decide) ?_
      exact W.iret (v := (-3)) hx hb hr (fun t ht h9 => ⟨⟨(-3), S, rfl, ⟨hTy, hFr⟩, by rw [ht]; exact hW.1, va_K.moved h9.alike hK, hW.2.1⟩, hW.2.2.F ht⟩) hW.2.2.2.2 dX11_cap_24
    · obtain ⟨j_17, hj_j_17, rfl⟩ := nI_of c_13
      refine lv_iload_n hx hb dX11_cap_16 rfl (lv_at hl 3 rfl) ?_
      refine lv_ldc (v := 99999999) hx hb hown (hT _ w659) dX11_cap_17 ?_
      refine lv_icmp_le (tgt := 25) hx hb dX11_cap_19 (by decide) (fun c_19 => ?_) (fun c_19 => ?_)
      · have c_19 : j_17 ≤ 99999999 := (nI_leI (a := j_17) (b := 99999999) (by omega) (by omega)).mp c_19
        refine lv_aload_n hx hb dX11_cap_25 rfl (lv_at hl 0 rfl) ?_
        refine pl_callv (va_runV (As := []) (rest := []) ⟨hx, hb, hml, hown, hT⟩ (o_remember l dC dI cy L kap pr S s.heap.size o hTy hT_o) (cwV 0 hT (gV w611 w613 ws25 w1 w614) rfl rfl rfl (by decide +kernel) ⟨(Nat.le_of_ble_eq_true rfl), (Nat.le_of_ble_eq_true rfl)⟩) ⟨pcN.blind, pl_recv hK hW hT_o.1 hS_o rfl, pcN.pre hW.1 hK hW.2.1 hN (fun q h => absurd h List.not_mem_nil)⟩ rfl rfl hl.1 rfl (lv_room (Nat.le_of_ble_eq_true rfl)) dX11_cap_26 ⟨(Nat.le_of_ble_eq_true rfl), (Nat.le_of_ble_eq_true rfl)⟩) hW hA0 hA (fun S_18 H locs hrel hW => ?_)
        obtain ⟨hTy, hF1, hx1⟩ := hrel
        have hFr := hFr.tr hF1 (by decide)
        obtain ⟨sk_19, hS_o⟩ := hx1 _ _ _ _ _ _ _ _ _ _ _ _ _ hS_o
        refine lv_aload_n hx hb dX11_cap_29 rfl (lv_at hl 0 rfl) ?_
        refine pl_get (ci := 11) (v := .ref x_12) (C := RX11) (T := TX11) (N := 13) hx hb hT iX11 hown hK hW hT_o.1 hS_o rfl 11 (by decide) w364 rfl dX11_cap_30 ?_
        obtain ⟨x_20, x_21, x_22, x_23, x_24, x_25, x_26, x_27, hS_x_12, hT_x_20, hT_x_21, hT_x_22, hT_x_23, hT_x_24, hT_x_25, hb_x_26⟩ := hTy.k0 hT_x_12
        refine pl_get (ci := 0) (v := .ref x_25) (C := RX0) (T := TX0) (N := 8) hx hb hT iX0 hown hK hW hT_x_12.1 hS_x_12 rfl 5 (by decide) w111 rfl dX11_cap_33 ?_
        refine lv_iload_n hx hb dX11_cap_36 rfl (lv_at hl 1 rfl) ?_
        refine lv_iload_n hx hb dX11_cap_37 rfl (lv_at hl 2 rfl) ?_
        refine vp_callSi (va_Run.run (va_runS (As := [.int (nI k_15), .int (nI k_16)]) (rest := [.ref x_25]) ⟨hx, hb, hml, hown, hT⟩ (s_cell l dC dI H.size k_15 k_16 (by omega) (by omega)) (va_cwS 2 hT (gS w660 w576 w1 w577) rfl rfl rfl (by decide +kernel) ⟨(Nat.le_of_ble_eq_true rfl), (Nat.le_of_ble_eq_true rfl)⟩) ⟨pcW.blind, pcW.pre (va_P0 _ _ _) (hK.sub (tys' := []) [] rfl) (va_D0 (fun _ => True))⟩ rfl rfl hl.1 rfl (lv_room (Nat.le_of_ble_eq_true rfl)) dX11_cap_38 ⟨(Nat.le_of_ble_eq_true rfl), (Nat.le_of_ble_eq_true rfl)⟩)) (fun r_28 hr_28 => ?_)
        obtain rfl : r_28 = nI (k_15 * 8 + k_16) := hr_28
        obtain ⟨f_29, hS_x_25⟩ := hTy.k24 hT_x_25
        refine pl_iald hx hb hK hW hT_x_25.1 hS_x_25 (vp_in_nI (n := k_15 * 8 + k_16) (N := 64) (by omega) (by omega)) dX11_cap_41 ?_
        refine lv_topi (fun y_30 ey_30 => ?_)
        refine lv_istore (lv' := [(4, .int y_30), (0, .ref o), (1, .int (nI k_15)), (2, .int (nI k_16)), (3, .int (nI j_17))]) hx hb dX11_cap_42 hl (by decide) rfl (fun ls hl => ?_)
        refine lv_aload_n hx hb dX11_cap_44 rfl (lv_at hl 1 rfl) ?_
        refine pl_get (ci := 11) (v := .ref x_12) (C := RX11) (T := TX11) (N := 13) hx hb hT iX11 hown hK hW hT_o.1 hS_o rfl 11 (by decide) w364 rfl dX11_cap_45 ?_
        refine pl_get (ci := 0) (v := .ref x_25) (C := RX0) (T := TX0) (N := 8) hx hb hT iX0 hown hK hW hT_x_12.1 hS_x_12 rfl 5 (by decide) w111 rfl dX11_cap_48 ?_
        refine lv_iload_n hx hb dX11_cap_51 rfl (lv_at hl 2 rfl) ?_
        refine lv_iload_n hx hb dX11_cap_52 rfl (lv_at hl 3 rfl) ?_
        refine vp_callSi (va_Run.run (va_runS (As := [.int (nI k_15), .int (nI k_16)]) (rest := [.ref x_25]) ⟨hx, hb, hml, hown, hT⟩ (s_cell l dC dI H.size k_15 k_16 (by omega) (by omega)) (va_cwS 2 hT (gS w660 w576 w1 w577) rfl rfl rfl (by decide +kernel) ⟨(Nat.le_of_ble_eq_true rfl), (Nat.le_of_ble_eq_true rfl)⟩) ⟨pcW.blind, pcW.pre (va_P0 _ _ _) (hK.sub (tys' := []) [] rfl) (va_D0 (fun _ => True))⟩ rfl rfl hl.1 rfl (lv_room (Nat.le_of_ble_eq_true rfl)) dX11_cap_53 ⟨(Nat.le_of_ble_eq_true rfl), (Nat.le_of_ble_eq_true rfl)⟩)) (fun r_31 hr_31 => ?_)
        obtain rfl : r_31 = nI (k_15 * 8 + k_16) := hr_31
        refine lv_iload_n hx hb dX11_cap_56 rfl (lv_at hl 4 rfl) ?_
        refine pl_iast hx hb hK hW hT_x_25.1 hS_x_25 (vp_in_nI (n := k_15 * 8 + k_16) (N := 64) (by omega) (by omega)) dX11_cap_57 (fun H locs f_33 S_32 ef_f_33 e1 hW => ?_)
        have hTy := hTy.u24 e1 hT_x_25 ⟨f_33, rfl⟩
        have hS_o := un e1 hT_o hT_x_25 (by decide) hS_o
        have hS_x_12 := un e1 hT_x_12 hT_x_25 (by decide) hS_x_12
        have hFr := uf hFr e1 hT_x_25 (by decide) (by decide)
        have hS_x_25 := us e1
        refine lv_iload hx hb dX11_cap_58 (lv_at hl 0 rfl) ?_
        exact W.iret (v := y_30) hx hb hr (fun t ht h9 => ⟨⟨y_30, S_32, rfl, ⟨hTy, hFr⟩, by rw [ht]; exact hW.1, va_K.moved h9.alike hK, hW.2.1⟩, hW.2.2.F ht⟩) hW.2.2.2.2 dX11_cap_60
      · have c_19 : ¬ (j_17 ≤ 99999999) := fun hh9 => c_19 ((nI_leI (a := j_17) (b := 99999999) (by omega) (by omega)).mpr hh9)
        refine lv_bipush (v := (-3)) hx hb dX11_cap_22 (by decide) ?_
        exact W.iret (v := (-3)) hx hb hr (fun t ht h9 => ⟨⟨(-3), S, rfl, ⟨hTy, hFr⟩, by rw [ht]; exact hW.1, va_K.moved h9.alike hK, hW.2.1⟩, hW.2.2.F ht⟩) hW.2.2.2.2 dX11_cap_24

set_option maxHeartbeats 4000000 in
set_option maxRecDepth 100000 in
theorem k_takeRing (l : Launch) (dC : Nat → ClassId) (dI : Nat → Nat → Nat) (cy : Nat → ClassId) (L : List Nat) (kap : Nat → Nat) (pr : Pr) (S : Nat → va_E) (sz : Nat) (o : Nat) (kd : Int32) (hTy : Ty cy L kap pr S) (hT_o : TK L kap o 11) : Met l yX11_takeRing (wT yX11_takeRing cX11_takeRing 5 (some .int)) ({ frames := 6, cells := 0, slots := 0, locals := 135 }) (pcN dC dI [.ref o, .int kd] sz (va_pl L S) (cyT cy) NLs []) (va_Qi (fun r S' => Ty cy L kap pr S' ∧ Fr kap [0, 1, 5, 7, 11, 20, 21, 22, 23, 24, 28, 29, 31, 32, 42, 46] S S') (fun S' t => pB dC dI (AL L sz) (va_pl L S') (cyT cy) t) (AL L sz)) 0 0 (AL L sz) := by
  refine Met.ofW (cc := cX11_takeRing) (maxL := 5) (ret := (some .int)) (by decide) rfl ?_
  intro p e s m args below meth c s₁ B hml hv
  obtain ⟨rfl, hsz, hP, hK, hD0, hN, -⟩ := hv
  have hx := B.exec
  have hb := B.bytes
  have hr := B.returns
  have hT : ∀ wd ∈ TB, wd.before [.ref o, .int kd].toArray s = true := fun wd h => atoms_spec (ws := wT yX11_takeRing cX11_takeRing 5 (some .int)) B.pre wd (List.mem_cons_of_mem _ h)
  have hown : s.vm.findClass RX11 = some m.cls := findClass_of_methodNamed B.named
  have hlocks := B.notSynchronized
  subst hsz
  have hW : PW dC dI L (AL L s.heap.size) s.heap S s.heap [] := ⟨hP, pl_self hD0, va_S.rf⟩
  have hA0 : ∀ q, q ∈ L → AL L s.heap.size q := fun _ h => Or.inl h
  have hA : ∀ q, s.heap.size ≤ q → AL L s.heap.size q := fun _ h => Or.inr h
  have hFr : Fr kap [0, 1, 5, 7, 11, 20, 21, 22, 23, 24, 28, 29, 31, 32, 42, 46] S S := Fr.rf
  have hl := lv_entry ([.ref o, .int kd]) (n := 5) (Nat.le_of_ble_eq_true rfl)
  rw [lg_entry_eq]
  generalize (lg_sl ([.ref o, .int kd]) ++ List.replicate (5 - (lg_sl ([.ref o, .int kd])).length) Slot.unset).toArray = ls at hl ⊢
  have hl : lv_has ls 5 [(0, .ref o), (1, .int kd)] := hl
  refine lv_aload_n hx hb dX11_takeRing_0 rfl (lv_at hl 0 rfl) ?_
  refine lv_iload_n hx hb dX11_takeRing_1 rfl (lv_at hl 1 rfl) ?_
  obtain ⟨x_1, x_2, x_3, x_4, x_5, x_6, x_7, x_8, x_9, x_10, x_11, x_12, x_13, hS_o, hT_x_1, hT_x_2, hT_x_3, hT_x_4, hT_x_5, hT_x_6, hT_x_7, hT_x_8, hT_x_9, hT_x_10, hT_x_11, hT_x_12⟩ := hTy.k11 hT_o
  refine vp_callSi (va_Run.run (va_runV (As := [.int kd]) (rest := []) ⟨hx, hb, hml, hown, hT⟩ (o_noKind l dC dI cy L kap pr S s.heap.size o kd hTy hT_o) (cwV 1 hT (gV w606 w608 ws24 w1 w609) rfl rfl rfl (by decide +kernel) ⟨(Nat.le_of_ble_eq_true rfl), (Nat.le_of_ble_eq_true rfl)⟩) ⟨pcN.blind, pl_recv hK hW hT_o.1 hS_o rfl, pcN.pre hW.1 hK hW.2.1 hN (fun q h => absurd h List.not_mem_nil)⟩ rfl rfl hl.1 rfl (lv_room (Nat.le_of_ble_eq_true rfl)) dX11_takeRing_2 ⟨(Nat.le_of_ble_eq_true rfl), (Nat.le_of_ble_eq_true rfl)⟩)) (fun r_14 hr_14 => ?_)
  rcases hr_14 with hc_ | hc_
  · obtain rfl : r_14 = 1 := hc_
    refine lv_if_eq (tgt := 11) hx hb dX11_takeRing_5 (by decide) (fun h => absurd h (by decide)) (fun _ => ?_)
    refine lv_bipush (v := (-2)) hx hb dX11_takeRing_8 (by decide) ?_
    exact W.iret (v := (-2)) hx hb hr (fun t ht h9 => ⟨⟨(-2), S, rfl, ⟨hTy, hFr⟩, by rw [ht]; exact hW.1, va_K.moved h9.alike hK, hW.2.1⟩, hW.2.2.F ht⟩) hW.2.2.2.2 dX11_takeRing_10
  · obtain ⟨rfl, k_15, hb_k_15, rfl⟩ := hc_
    refine lv_if_eq (tgt := 11) hx hb dX11_takeRing_5 (by decide) (fun _ => ?_) (fun h => absurd (by decide) h)
    refine lv_aload_n hx hb dX11_takeRing_11 rfl (lv_at hl 0 rfl) ?_
    refine lv_iload_n hx hb dX11_takeRing_12 rfl (lv_at hl 1 rfl) ?_
    refine pl_callv (va_runV (As := [.int (nI k_15)]) (rest := []) ⟨hx, hb, hml, hown, hT⟩ (o_findRing l dC dI cy L kap pr S s.heap.size o (nI k_15) hTy hT_o) (cwV 1 hT (gV w665 w667 ws29 w1 w668) rfl rfl rfl (by decide +kernel) ⟨(Nat.le_of_ble_eq_true rfl), (Nat.le_of_ble_eq_true rfl)⟩) ⟨pcN.blind, pl_recv hK hW hT_o.1 hS_o rfl, pcN.pre hW.1 hK hW.2.1 hN (fun q h => absurd h List.not_mem_nil)⟩ rfl rfl hl.1 rfl (lv_room (Nat.le_of_ble_eq_true rfl)) dX11_takeRing_13 ⟨(Nat.le_of_ble_eq_true rfl), (Nat.le_of_ble_eq_true rfl)⟩) hW hA0 hA (fun S_16 H locs hrel hW => ?_)
    obtain ⟨hTy, hF1⟩ := hrel
    have hFr := hFr.tr hF1 (by decide)
    have hS_o := hF1.at hT_o (by decide) hS_o
    refine lv_aload_n hx hb dX11_takeRing_16 rfl (lv_at hl 0 rfl) ?_
    refine pl_get (ci := 11) (v := .ref x_5) (C := RX11) (T := TX11) (N := 13) hx hb hT iX11 hown hK hW hT_o.1 hS_o rfl 4 (by decide) w357 rfl dX11_takeRing_17 ?_
    obtain ⟨x_17, x_18, x_19, x_20, x_21, x_22, hS_x_5, hT_x_17, hb_x_18, hT_x_21, hT_x_22⟩ := hTy.k7 hT_x_5
    refine pl_get (ci := 7) (v := .int (nI x_18)) (C := RX7) (T := TX7) (N := 6) hx hb hT iX7 hown hK hW hT_x_5.1 hS_x_5 rfl 1 (by decide) w219 rfl dX11_takeRing_20 ?_
    refine lv_if_ne (tgt := 29) hx hb dX11_takeRing_23 (by decide) (fun c_23 => ?_) (fun c_23 => ?_)
    · have c_23 : ¬ (x_18 = 0) := fun hh9 => c_23 ((nI_eq (a := x_18) (b := 0) (by omega) (by omega)).mpr hh9)
      refine lv_aload_n hx hb dX11_takeRing_29 rfl (lv_at hl 0 rfl) ?_
      refine pl_callv (va_runV (As := []) (rest := []) ⟨hx, hb, hml, hown, hT⟩ (o_remember l dC dI cy L kap pr S_16 H.size o hTy hT_o) (cwV 0 hT (gV w611 w613 ws25 w1 w614) rfl rfl rfl (by decide +kernel) ⟨(Nat.le_of_ble_eq_true rfl), (Nat.le_of_ble_eq_true rfl)⟩) ⟨pcN.blind, pl_recv hK hW hT_o.1 hS_o rfl, pcN.pre hW.1 hK hW.2.1 hN (fun q h => absurd h List.not_mem_nil)⟩ rfl rfl hl.1 rfl (lv_room (Nat.le_of_ble_eq_true rfl)) dX11_takeRing_30 ⟨(Nat.le_of_ble_eq_true rfl), (Nat.le_of_ble_eq_true rfl)⟩) hW hA0 hA (fun S_23 H locs hrel hW => ?_)
      obtain ⟨hTy, hF1, hx1⟩ := hrel
      have hFr := hFr.tr hF1 (by decide)
      have hS_x_5 := hF1.at hT_x_5 (by decide) hS_x_5
      obtain ⟨sk_24, hS_o⟩ := hx1 _ _ _ _ _ _ _ _ _ _ _ _ _ hS_o
      refine lv_aload_n hx hb dX11_takeRing_33 rfl (lv_at hl 0 rfl) ?_
      refine pl_get (ci := 11) (v := .ref x_5) (C := RX11) (T := TX11) (N := 13) hx hb hT iX11 hown hK hW hT_o.1 hS_o rfl 4 (by decide) w357 rfl dX11_takeRing_34 ?_
      refine lv_aload_n hx hb dX11_takeRing_37 rfl (lv_at hl 0 rfl) ?_
      refine pl_get (ci := 11) (v := .ref x_4) (C := RX11) (T := TX11) (N := 13) hx hb hT iX11 hown hK hW hT_o.1 hS_o rfl 3 (by decide) w356 rfl dX11_takeRing_38 ?_
      refine vp_callSl (va_Run.run (va_runV (As := [.ref x_4]) (rest := []) ⟨hx, hb, hml, hown, hT⟩ (s_leastFlow l dC dI cy L kap pr S_23 H.size x_5 x_4 hTy hT_x_5 hT_x_4) (cwV 1 hT (gV w706 w707 w708 w9 w709) rfl rfl rfl (by decide +kernel) ⟨(Nat.le_of_ble_eq_true rfl), (Nat.le_of_ble_eq_true rfl)⟩) ⟨pcN.blind, pl_recv hK hW hT_x_5.1 hS_x_5 rfl, pcN.pre hW.1 hK hW.2.1 hN (fun q h => absurd h List.not_mem_nil)⟩ rfl rfl hl.1 rfl (lv_room (Nat.le_of_ble_eq_true rfl)) dX11_takeRing_41 ⟨(Nat.le_of_ble_eq_true rfl), (Nat.le_of_ble_eq_true rfl)⟩)) (fun r_25 hr_25 => ?_)
      refine lv_lstore_n (lv' := [(2, .long r_25), (0, .ref o), (1, .int (nI k_15))]) hx hb dX11_takeRing_44 rfl hl (by decide) rfl (fun ls hl => ?_)
      refine lv_iconst (v := 0) hx hb dX11_takeRing_45 (by decide) ?_
      refine lv_istore (lv' := [(4, .int 0), (2, .long r_25), (0, .ref o), (1, .int (nI k_15))]) hx hb dX11_takeRing_46 hl (by decide) rfl (fun ls hl => ?_)
      have loop : ∀ (fuel : Nat) (i : Nat) (SS : Nat → va_E) (H : Heap) (locs : List Loc) (ls : Array Slot), 9 - i < fuel → (i ≤ 8) → Ty cy L kap pr SS → Fr kap [0, 1, 5, 7, 11, 20, 21, 22, 23, 24, 28, 29, 31, 32, 42, 46] S SS → Fr kap [0, 1, 5, 7, 11, 20, 21, 22, 23, 24, 28, 29, 31, 32, 42, 46] S_23 SS → PW dC dI L (AL L s.heap.size) s.heap SS H locs → lv_has ls 5 [(4, .int (nI i)), (2, .long r_25), (0, .ref o), (1, .int (nI k_15))] → W p l e (headSpec (wT yX11_takeRing cX11_takeRing 5 (some .int)) { frames := 6, cells := 0, slots := 0, locals := 135 }).room s m [.ref o, .int (nI k_15)].toArray below meth c H locs 0 0 (MQ below (va_Qi (fun r S' => Ty cy L kap pr S' ∧ Fr kap [0, 1, 5, 7, 11, 20, 21, 22, 23, 24, 28, 29, 31, 32, 42, 46] S S') (fun S' t => pB dC dI (AL L s.heap.size) (va_pl L S') (cyT cy) t) (AL L s.heap.size)) [.ref o, .int (nI k_15)].toArray s 0 0 (AL L s.heap.size)) (F0 m 48 ls []) := by
        intro fuel
        induction fuel with
        | zero => intro i SS H locs ls h; exact absurd h (Nat.not_lt_zero _)
        | succ fu48 ih48 =>
          intro i S_26 H locs ls hm48 hb_i hTy hFr hFl48 hW hl
          refine lv_iload hx hb dX11_takeRing_48 (lv_at hl 0 rfl) ?_
          refine lv_aload_n hx hb dX11_takeRing_50 rfl (lv_at hl 2 rfl) ?_
          obtain ⟨x_27, x_28, x_29, x_30, x_31, x_32, x_33, x_34, x_35, x_36, x_37, x_38, x_39, hS_o, hT_x_27, hT_x_28, hT_x_29, hT_x_30, hT_x_31, hT_x_32, hT_x_33, hT_x_34, hT_x_35, hT_x_36, hT_x_37, hT_x_38⟩ := hTy.k11 hT_o
          refine pl_get (ci := 11) (v := .ref x_31) (C := RX11) (T := TX11) (N := 13) hx hb hT iX11 hown hK hW hT_o.1 hS_o rfl 4 (by decide) w357 rfl dX11_takeRing_51 ?_
          obtain ⟨x_40, x_41, x_42, x_43, x_44, x_45, hS_x_31, hT_x_40, hb_x_41, hT_x_44, hT_x_45⟩ := hTy.k7 hT_x_31
          refine pl_get (ci := 7) (v := .int (nI x_41)) (C := RX7) (T := TX7) (N := 6) hx hb hT iX7 hown hK hW hT_x_31.1 hS_x_31 rfl 1 (by decide) w219 rfl dX11_takeRing_54 ?_
          refine lv_icmp_ge (tgt := 102) hx hb dX11_takeRing_57 (by decide) (fun c_57 => ?_) (fun c_57 => ?_)
          · have c_57 : x_41 ≤ i := (nI_leI (a := x_41) (b := i) (by omega) (by omega)).mp c_57
            refine lv_lload_n hx hb dX11_takeRing_102 rfl (lv_at hl 1 rfl) ?_
            refine lv_l2i hx hb dX11_takeRing_103 rfl ?_
            refine lv_topi (fun z_46 ez_46 => ?_)
            exact W.iret (v := z_46) hx hb hr (fun t ht h9 => ⟨⟨z_46, S_26, rfl, ⟨hTy, hFr⟩, by rw [ht]; exact hW.1, va_K.moved h9.alike hK, hW.2.1⟩, hW.2.2.F ht⟩) hW.2.2.2.2 dX11_takeRing_104
          · have c_57 : ¬ (x_41 ≤ i) := fun hh9 => c_57 ((nI_leI (a := x_41) (b := i) (by omega) (by omega)).mpr hh9)
            refine lv_aload_n hx hb dX11_takeRing_60 rfl (lv_at hl 2 rfl) ?_
            refine pl_get (ci := 11) (v := .ref x_38) (C := RX11) (T := TX11) (N := 13) hx hb hT iX11 hown hK hW hT_o.1 hS_o rfl 11 (by decide) w364 rfl dX11_takeRing_61 ?_
            refine lv_aload_n hx hb dX11_takeRing_64 rfl (lv_at hl 2 rfl) ?_
            refine pl_get (ci := 11) (v := .ref x_31) (C := RX11) (T := TX11) (N := 13) hx hb hT iX11 hown hK hW hT_o.1 hS_o rfl 4 (by decide) w357 rfl dX11_takeRing_65 ?_
            refine pl_get (ci := 7) (v := .ref x_40) (C := RX7) (T := TX7) (N := 6) hx hb hT iX7 hown hK hW hT_x_31.1 hS_x_31 rfl 0 (by decide) w217 rfl dX11_takeRing_68 ?_
            refine lv_iload hx hb dX11_takeRing_71 (lv_at hl 0 rfl) ?_
            obtain ⟨f_47, hS_x_40, hi_f_47⟩ := hTy.k42 hT_x_40
            refine pl_iald hx hb hK hW hT_x_40.1 hS_x_40 (vp_in_nI (n := i) (N := 8) (by omega) (by omega)) dX11_takeRing_73 ?_
            refine lv_topi (fun y_48 ey_48 => ?_)
            obtain ⟨k_49, hb_k_49, hq_k_49⟩ := hi_f_47 (i) (by omega)
            obtain rfl : y_48 = nI k_49 := ey_48.trans (by show f_47 (nI (i)).toNatClampNeg = _; rw [nI_clamp (by omega)]; exact hq_k_49)
            refine lv_aload_n hx hb dX11_takeRing_74 rfl (lv_at hl 2 rfl) ?_
            refine pl_get (ci := 11) (v := .ref x_31) (C := RX11) (T := TX11) (N := 13) hx hb hT iX11 hown hK hW hT_o.1 hS_o rfl 4 (by decide) w357 rfl dX11_takeRing_75 ?_
            refine pl_get (ci := 7) (v := .ref x_40) (C := RX7) (T := TX7) (N := 6) hx hb hT iX7 hown hK hW hT_x_31.1 hS_x_31 rfl 0 (by decide) w217 rfl dX11_takeRing_78 ?_
            refine lv_aload_n hx hb dX11_takeRing_81 rfl (lv_at hl 2 rfl) ?_
            refine pl_get (ci := 11) (v := .ref x_31) (C := RX11) (T := TX11) (N := 13) hx hb hT iX11 hown hK hW hT_o.1 hS_o rfl 4 (by decide) w357 rfl dX11_takeRing_82 ?_
            refine lv_iload hx hb dX11_takeRing_85 (lv_at hl 0 rfl) ?_
            refine vp_callSi (va_Run.run (va_runV (As := [.int (nI i)]) (rest := [.ref x_40, .int (nI k_49), .ref x_38]) ⟨hx, hb, hml, hown, hT⟩ (s_after l dC dI cy L kap pr S_26 H.size x_31 i hTy hT_x_31 (by omega)) (cwV 1 hT (gV w718 w711 w712 w9 w713) rfl rfl rfl (by decide +kernel) ⟨(Nat.le_of_ble_eq_true rfl), (Nat.le_of_ble_eq_true rfl)⟩) ⟨pcN.blind, pl_recv hK hW hT_x_31.1 hS_x_31 rfl, pcN.pre hW.1 hK hW.2.1 hN (fun q h => absurd h List.not_mem_nil)⟩ rfl rfl hl.1 rfl (lv_room (Nat.le_of_ble_eq_true rfl)) dX11_takeRing_87 ⟨(Nat.le_of_ble_eq_true rfl), (Nat.le_of_ble_eq_true rfl)⟩)) (fun r_50 hr_50 => ?_)
            obtain ⟨k_51, hb_k_51, rfl⟩ := hr_50
            refine pl_iald hx hb hK hW hT_x_40.1 hS_x_40 (vp_in_nI (n := k_51) (N := 8) (by omega) (by omega)) dX11_takeRing_90 ?_
            refine lv_topi (fun y_52 ey_52 => ?_)
            obtain ⟨k_53, hb_k_53, hq_k_53⟩ := hi_f_47 (k_51) (by omega)
            obtain rfl : y_52 = nI k_53 := ey_52.trans (by show f_47 (nI (k_51)).toNatClampNeg = _; rw [nI_clamp (by omega)]; exact hq_k_53)
            refine lv_iload_n hx hb dX11_takeRing_91 rfl (lv_at hl 3 rfl) ?_
            refine lv_lload_n hx hb dX11_takeRing_92 rfl (lv_at hl 1 rfl) ?_
            obtain ⟨x_54, x_55, x_56, x_57, x_58, x_59, x_60, x_61, hS_x_38, hT_x_54, hT_x_55, hT_x_56, hT_x_57, hT_x_58, hT_x_59, hb_x_60⟩ := hTy.k0 hT_x_38
            refine pl_callv (va_runV (As := [.int (nI k_49), .int (nI k_53), .int (nI k_15), .long r_25]) (rest := []) ⟨hx, hb, hml, hown, hT⟩ (s_lessen l dC dI cy L kap pr S_26 H.size x_38 (nI k_49) (nI k_53) (nI k_15) r_25 hTy hT_x_38) (cwV 4 hT (gV w719 w720 w721 w5 w722) rfl rfl rfl (by decide +kernel) ⟨(Nat.le_of_ble_eq_true rfl), (Nat.le_of_ble_eq_true rfl)⟩) ⟨pcN.blind, pl_recv hK hW hT_x_38.1 hS_x_38 rfl, pcN.pre hW.1 hK hW.2.1 hN (fun q h => absurd h List.not_mem_nil)⟩ rfl rfl hl.1 rfl (lv_room (Nat.le_of_ble_eq_true rfl)) dX11_takeRing_93 ⟨(Nat.le_of_ble_eq_true rfl), (Nat.le_of_ble_eq_true rfl)⟩) hW hA0 hA (fun S_62 H locs hrel hW => ?_)
            obtain ⟨hTy, hF1⟩ := hrel
            have hFr := hFr.tr hF1 (by decide)
            have hFl48 := hFl48.tr hF1 (by decide)
            have hS_o := hF1.at hT_o (by decide) hS_o
            have hS_x_31 := hF1.at hT_x_31 (by decide) hS_x_31
            have hS_x_40 := hF1.at hT_x_40 (by decide) hS_x_40
            refine lv_iinc (v := nI (i + 1)) (lv' := [(4, .int (nI (i + 1))), (2, .long r_25), (0, .ref o), (1, .int (nI k_15))]) hx hb dX11_takeRing_96 hl (k := 0) rfl (nI_add (i) 1) (by decide) rfl (fun ls hl => ?_)
            refine lv_goto (tgt := 48) hx hb dX11_takeRing_99 (by decide) ?_
            exact ih48 (i + 1) _ _ _ ls (by omega) (by omega) hTy hFr hFl48 hW (lv_sub hl [0, 1, 2, 3] rfl)
      exact loop ((9 - 0) + 1) 0 _ _ _ ls (Nat.lt_succ_self _) (by omega) hTy hFr Fr.rf hW (lv_sub hl [0, 1, 2, 3] rfl)
    · have c_23 : x_18 = 0 := (nI_eq (a := x_18) (b := 0) (by omega) (by omega)).mp c_23
      refine lv_bipush (v := (-5)) hx hb dX11_takeRing_26 (by decide) ?_
      exact W.iret (v := (-5)) hx hb hr (fun t ht h9 => ⟨⟨(-5), S_16, rfl, ⟨hTy, hFr⟩, by rw [ht]; exact hW.1, va_K.moved h9.alike hK, hW.2.1⟩, hW.2.2.F ht⟩) hW.2.2.2.2 dX11_takeRing_28

set_option maxHeartbeats 4000000 in
set_option maxRecDepth 100000 in
theorem k_press (l : Launch) (dC : Nat → ClassId) (dI : Nat → Nat → Nat) (cy : Nat → ClassId) (L : List Nat) (kap : Nat → Nat) (pr : Pr) (S : Nat → va_E) (sz : Nat) (o : Nat) (kd : Int32) (hTy : Ty cy L kap pr S) (hT_o : TK L kap o 11) : Met l yX11_press (wT yX11_press cX11_press 6 (some .int)) ({ frames := 7, cells := 0, slots := 0, locals := 184 }) (pcN dC dI [.ref o, .int kd] sz (va_pl L S) (cyT cy) NLs []) (va_Qi (fun r S' => Ty cy L kap pr S' ∧ Fr kap [0, 1, 5, 9, 11, 20, 21, 22, 23, 24, 28, 29, 33, 35, 36, 37, 38, 43, 44, 45, 46] S S') (fun S' t => pB dC dI (AL L sz) (va_pl L S') (cyT cy) t) (AL L sz)) 0 0 (AL L sz) := by
  refine Met.ofW (cc := cX11_press) (maxL := 6) (ret := (some .int)) (by decide) rfl ?_
  intro p e s m args below meth c s₁ B hml hv
  obtain ⟨rfl, hsz, hP, hK, hD0, hN, -⟩ := hv
  have hx := B.exec
  have hb := B.bytes
  have hr := B.returns
  have hT : ∀ wd ∈ TB, wd.before [.ref o, .int kd].toArray s = true := fun wd h => atoms_spec (ws := wT yX11_press cX11_press 6 (some .int)) B.pre wd (List.mem_cons_of_mem _ h)
  have hown : s.vm.findClass RX11 = some m.cls := findClass_of_methodNamed B.named
  have hlocks := B.notSynchronized
  subst hsz
  have hW : PW dC dI L (AL L s.heap.size) s.heap S s.heap [] := ⟨hP, pl_self hD0, va_S.rf⟩
  have hA0 : ∀ q, q ∈ L → AL L s.heap.size q := fun _ h => Or.inl h
  have hA : ∀ q, s.heap.size ≤ q → AL L s.heap.size q := fun _ h => Or.inr h
  have hFr : Fr kap [0, 1, 5, 9, 11, 20, 21, 22, 23, 24, 28, 29, 33, 35, 36, 37, 38, 43, 44, 45, 46] S S := Fr.rf
  have hl := lv_entry ([.ref o, .int kd]) (n := 6) (Nat.le_of_ble_eq_true rfl)
  rw [lg_entry_eq]
  generalize (lg_sl ([.ref o, .int kd]) ++ List.replicate (6 - (lg_sl ([.ref o, .int kd])).length) Slot.unset).toArray = ls at hl ⊢
  have hl : lv_has ls 6 [(0, .ref o), (1, .int kd)] := hl
  refine lv_aload_n hx hb dX11_press_0 rfl (lv_at hl 0 rfl) ?_
  refine lv_iload_n hx hb dX11_press_1 rfl (lv_at hl 1 rfl) ?_
  obtain ⟨x_1, x_2, x_3, x_4, x_5, x_6, x_7, x_8, x_9, x_10, x_11, x_12, x_13, hS_o, hT_x_1, hT_x_2, hT_x_3, hT_x_4, hT_x_5, hT_x_6, hT_x_7, hT_x_8, hT_x_9, hT_x_10, hT_x_11, hT_x_12⟩ := hTy.k11 hT_o
  refine vp_callSi (va_Run.run (va_runV (As := [.int kd]) (rest := []) ⟨hx, hb, hml, hown, hT⟩ (o_noKind l dC dI cy L kap pr S s.heap.size o kd hTy hT_o) (cwV 1 hT (gV w606 w608 ws24 w1 w609) rfl rfl rfl (by decide +kernel) ⟨(Nat.le_of_ble_eq_true rfl), (Nat.le_of_ble_eq_true rfl)⟩) ⟨pcN.blind, pl_recv hK hW hT_o.1 hS_o rfl, pcN.pre hW.1 hK hW.2.1 hN (fun q h => absurd h List.not_mem_nil)⟩ rfl rfl hl.1 rfl (lv_room (Nat.le_of_ble_eq_true rfl)) dX11_press_2 ⟨(Nat.le_of_ble_eq_true rfl), (Nat.le_of_ble_eq_true rfl)⟩)) (fun r_14 hr_14 => ?_)
  rcases hr_14 with hc_ | hc_
  · obtain rfl : r_14 = 1 := hc_
    refine lv_if_eq (tgt := 11) hx hb dX11_press_5 (by decide) (fun h => absurd h (by decide)) (fun _ => ?_)
    refine lv_bipush (v := (-2)) hx hb dX11_press_8 (by decide) ?_
    exact W.iret (v := (-2)) hx hb hr (fun t ht h9 => ⟨⟨(-2), S, rfl, ⟨hTy, hFr⟩, by rw [ht]; exact hW.1, va_K.moved h9.alike hK, hW.2.1⟩, hW.2.2.F ht⟩) hW.2.2.2.2 dX11_press_10
  · obtain ⟨rfl, k_15, hb_k_15, rfl⟩ := hc_
    refine lv_if_eq (tgt := 11) hx hb dX11_press_5 (by decide) (fun _ => ?_) (fun h => absurd (by decide) h)
    refine lv_aload_n hx hb dX11_press_11 rfl (lv_at hl 0 rfl) ?_
    refine lv_iload_n hx hb dX11_press_12 rfl (lv_at hl 1 rfl) ?_
    refine pl_callv (va_runV (As := [.int (nI k_15)]) (rest := []) ⟨hx, hb, hml, hown, hT⟩ (o_solveKind l dC dI cy L kap pr S s.heap.size o (nI k_15) hTy hT_o) (cwV 1 hT (gV w729 w731 ws35 w1 w732) rfl rfl rfl (by decide +kernel) ⟨(Nat.le_of_ble_eq_true rfl), (Nat.le_of_ble_eq_true rfl)⟩) ⟨pcN.blind, pl_recv hK hW hT_o.1 hS_o rfl, pcN.pre hW.1 hK hW.2.1 hN (fun q h => absurd h List.not_mem_nil)⟩ rfl rfl hl.1 rfl (lv_room (Nat.le_of_ble_eq_true rfl)) dX11_press_13 ⟨(Nat.le_of_ble_eq_true rfl), (Nat.le_of_ble_eq_true rfl)⟩) hW hA0 hA (fun S_16 H locs hrel hW => ?_)
    obtain ⟨hTy, hF1⟩ := hrel
    have hFr := hFr.tr hF1 (by decide)
    refine lv_aload_n hx hb dX11_press_16 rfl (lv_at hl 0 rfl) ?_
    obtain ⟨x_17, x_18, x_19, x_20, x_21, x_22, x_23, x_24, x_25, x_26, x_27, x_28, x_29, hS_o, hT_x_17, hT_x_18, hT_x_19, hT_x_20, hT_x_21, hT_x_22, hT_x_23, hT_x_24, hT_x_25, hT_x_26, hT_x_27, hT_x_28⟩ := hTy.k11 hT_o
    refine pl_get (ci := 11) (v := .ref x_23) (C := RX11) (T := TX11) (N := 13) hx hb hT iX11 hown hK hW hT_o.1 hS_o rfl 6 (by decide) w359 rfl dX11_press_17 ?_
    obtain ⟨x_30, x_31, x_32, x_33, x_34, x_35, x_36, x_37, x_38, x_39, x_40, x_41, x_42, hS_x_23, hT_x_30, hT_x_31, hT_x_34, hT_x_35, hT_x_36, hT_x_37, hT_x_38, hT_x_39, hT_x_40, hb_x_41, hb_x_42⟩ := hTy.k9 hT_x_23
    refine pl_get (ci := 9) (v := .int x_32) (C := RX9) (T := TX9) (N := 13) hx hb hT iX9 hown hK hW hT_x_23.1 hS_x_23 rfl 2 (by decide) w268 rfl dX11_press_20 ?_
    refine lv_if_ne (tgt := 29) hx hb dX11_press_23 (by decide) (fun c_23 => ?_) (fun c_23 => ?_)
    · refine lv_aload_n hx hb dX11_press_29 rfl (lv_at hl 0 rfl) ?_
      refine pl_get (ci := 11) (v := .ref x_28) (C := RX11) (T := TX11) (N := 13) hx hb hT iX11 hown hK hW hT_o.1 hS_o rfl 11 (by decide) w364 rfl dX11_press_30 ?_
      obtain ⟨x_43, x_44, x_45, x_46, x_47, x_48, x_49, x_50, hS_x_28, hT_x_43, hT_x_44, hT_x_45, hT_x_46, hT_x_47, hT_x_48, hb_x_49⟩ := hTy.k0 hT_x_28
      refine pl_get (ci := 0) (v := .int (nI x_49)) (C := RX0) (T := TX0) (N := 8) hx hb hT iX0 hown hK hW hT_x_28.1 hS_x_28 rfl 6 (by decide) w114 rfl dX11_press_33 ?_
      refine lv_aload_n hx hb dX11_press_36 rfl (lv_at hl 0 rfl) ?_
      refine pl_get (ci := 11) (v := .ref x_28) (C := RX11) (T := TX11) (N := 13) hx hb hT iX11 hown hK hW hT_o.1 hS_o rfl 11 (by decide) w364 rfl dX11_press_37 ?_
      refine lv_iload_n hx hb dX11_press_40 rfl (lv_at hl 1 rfl) ?_
      refine vp_callSi (va_Run.run (va_runV (As := [.int (nI k_15)]) (rest := [.int (nI x_49)]) ⟨hx, hb, hml, hown, hT⟩ (s_openOf l dC dI cy L kap pr S_16 H.size x_28 (nI k_15) hTy hT_x_28) (cwV 1 hT (gV w829 w830 w831 w5 w832) rfl rfl rfl (by decide +kernel) ⟨(Nat.le_of_ble_eq_true rfl), (Nat.le_of_ble_eq_true rfl)⟩) ⟨pcN.blind, pl_recv hK hW hT_x_28.1 hS_x_28 rfl, pcN.pre hW.1 hK hW.2.1 hN (fun q h => absurd h List.not_mem_nil)⟩ rfl rfl hl.1 rfl (lv_room (Nat.le_of_ble_eq_true rfl)) dX11_press_41 ⟨(Nat.le_of_ble_eq_true rfl), (Nat.le_of_ble_eq_true rfl)⟩)) (fun r_51 hr_51 => ?_)
      refine lv_isub hx hb dX11_press_44 ?_
      refine lv_topi (fun z_52 ez_52 => ?_)
      refine lv_aload_n hx hb dX11_press_45 rfl (lv_at hl 0 rfl) ?_
      refine pl_get (ci := 11) (v := .ref x_23) (C := RX11) (T := TX11) (N := 13) hx hb hT iX11 hown hK hW hT_o.1 hS_o rfl 6 (by decide) w359 rfl dX11_press_46 ?_
      refine vp_callSi (va_Run.run (va_runV (As := []) (rest := [.int z_52]) ⟨hx, hb, hml, hown, hT⟩ (s_firstAbove l dC dI cy L kap pr S_16 H.size x_23 hTy hT_x_23) (cwV 0 hT (gV w833 w834 w835 w11 w836) rfl rfl rfl (by decide +kernel) ⟨(Nat.le_of_ble_eq_true rfl), (Nat.le_of_ble_eq_true rfl)⟩) ⟨pcN.blind, pl_recv hK hW hT_x_23.1 hS_x_23 rfl, pcN.pre hW.1 hK hW.2.1 hN (fun q h => absurd h List.not_mem_nil)⟩ rfl rfl hl.1 rfl (lv_room (Nat.le_of_ble_eq_true rfl)) dX11_press_49 ⟨(Nat.le_of_ble_eq_true rfl), (Nat.le_of_ble_eq_true rfl)⟩)) (fun r_53 hr_53 => ?_)
      refine lv_iadd hx hb dX11_press_52 ?_
      refine lv_topi (fun z_54 ez_54 => ?_)
      refine lv_bipush (v := 40) hx hb dX11_press_53 (by decide) ?_
      refine lv_icmp_le (tgt := 61) hx hb dX11_press_55 (by decide) (fun c_55 => ?_) (fun c_55 => ?_)
      · refine lv_aload_n hx hb dX11_press_61 rfl (lv_at hl 0 rfl) ?_
        refine pl_callv (va_runV (As := []) (rest := []) ⟨hx, hb, hml, hown, hT⟩ (o_remember l dC dI cy L kap pr S_16 H.size o hTy hT_o) (cwV 0 hT (gV w611 w613 ws25 w1 w614) rfl rfl rfl (by decide +kernel) ⟨(Nat.le_of_ble_eq_true rfl), (Nat.le_of_ble_eq_true rfl)⟩) ⟨pcN.blind, pl_recv hK hW hT_o.1 hS_o rfl, pcN.pre hW.1 hK hW.2.1 hN (fun q h => absurd h List.not_mem_nil)⟩ rfl rfl hl.1 rfl (lv_room (Nat.le_of_ble_eq_true rfl)) dX11_press_62 ⟨(Nat.le_of_ble_eq_true rfl), (Nat.le_of_ble_eq_true rfl)⟩) hW hA0 hA (fun S_55 H locs hrel hW => ?_)
        obtain ⟨hTy, hF1, hx1⟩ := hrel
        have hFr := hFr.tr hF1 (by decide)
        have hS_x_23 := hF1.at hT_x_23 (by decide) hS_x_23
        have hS_x_28 := hF1.at hT_x_28 (by decide) hS_x_28
        obtain ⟨sk_56, hS_o⟩ := hx1 _ _ _ _ _ _ _ _ _ _ _ _ _ hS_o
        refine lv_aload_n hx hb dX11_press_65 rfl (lv_at hl 0 rfl) ?_
        refine pl_get (ci := 11) (v := .ref x_28) (C := RX11) (T := TX11) (N := 13) hx hb hT iX11 hown hK hW hT_o.1 hS_o rfl 11 (by decide) w364 rfl dX11_press_66 ?_
        refine lv_iload_n hx hb dX11_press_69 rfl (lv_at hl 1 rfl) ?_
        refine pl_callv (va_runV (As := [.int (nI k_15)]) (rest := []) ⟨hx, hb, hml, hown, hT⟩ (s_removeOpen l dC dI cy L kap pr S_55 H.size x_28 (nI k_15) hTy hT_x_28) (cwV 1 hT (gV w840 w841 w842 w5 w843) rfl rfl rfl (by decide +kernel) ⟨(Nat.le_of_ble_eq_true rfl), (Nat.le_of_ble_eq_true rfl)⟩) ⟨pcN.blind, pl_recv hK hW hT_x_28.1 hS_x_28 rfl, pcN.pre hW.1 hK hW.2.1 hN (fun q h => absurd h List.not_mem_nil)⟩ rfl rfl hl.1 rfl (lv_room (Nat.le_of_ble_eq_true rfl)) dX11_press_70 ⟨(Nat.le_of_ble_eq_true rfl), (Nat.le_of_ble_eq_true rfl)⟩) hW hA0 hA (fun S_57 H locs hrel hW => ?_)
        obtain ⟨hTy, hF1⟩ := hrel
        have hFr := hFr.tr hF1 (by decide)
        have hS_x_23 := hF1.at hT_x_23 (by decide) hS_x_23
        have hS_o := hF1.at hT_o (by decide) hS_o
        refine lv_iconst (v := 0) hx hb dX11_press_73 (by decide) ?_
        refine lv_istore_n (lv' := [(2, .int 0), (0, .ref o), (1, .int (nI k_15))]) hx hb dX11_press_74 rfl hl (by decide) rfl (fun ls hl => ?_)
        have loop : ∀ (fuel : Nat) (i : Nat) (SS : Nat → va_E) (H : Heap) (locs : List Loc) (ls : Array Slot), 9 - i < fuel → (i ≤ 8) → Ty cy L kap pr SS → Fr kap [0, 1, 5, 9, 11, 20, 21, 22, 23, 24, 28, 29, 33, 35, 36, 37, 38, 43, 44, 45, 46] S SS → Fr kap [0, 1, 5, 9, 11, 20, 21, 22, 23, 24, 28, 29, 33, 35, 36, 37, 38, 43, 44, 45, 46] S_57 SS → PW dC dI L (AL L s.heap.size) s.heap SS H locs → lv_has ls 6 [(2, .int (nI i)), (0, .ref o), (1, .int (nI k_15))] → W p l e (headSpec (wT yX11_press cX11_press 6 (some .int)) { frames := 7, cells := 0, slots := 0, locals := 184 }).room s m [.ref o, .int (nI k_15)].toArray below meth c H locs 0 0 (MQ below (va_Qi (fun r S' => Ty cy L kap pr S' ∧ Fr kap [0, 1, 5, 9, 11, 20, 21, 22, 23, 24, 28, 29, 33, 35, 36, 37, 38, 43, 44, 45, 46] S S') (fun S' t => pB dC dI (AL L s.heap.size) (va_pl L S') (cyT cy) t) (AL L s.heap.size)) [.ref o, .int (nI k_15)].toArray s 0 0 (AL L s.heap.size)) (F0 m 75 ls []) := by
          intro fuel
          induction fuel with
          | zero => intro i SS H locs ls h; exact absurd h (Nat.not_lt_zero _)
          | succ fu75 ih75 =>
            intro i S_58 H locs ls hm75 hb_i hTy hFr hFl75 hW hl
            refine lv_iload_n hx hb dX11_press_75 rfl (lv_at hl 0 rfl) ?_
            refine lv_aload_n hx hb dX11_press_76 rfl (lv_at hl 1 rfl) ?_
            obtain ⟨x_59, x_60, x_61, x_62, x_63, x_64, x_65, x_66, x_67, x_68, x_69, x_70, x_71, hS_o, hT_x_59, hT_x_60, hT_x_61, hT_x_62, hT_x_63, hT_x_64, hT_x_65, hT_x_66, hT_x_67, hT_x_68, hT_x_69, hT_x_70⟩ := hTy.k11 hT_o
            refine pl_get (ci := 11) (v := .ref x_69) (C := RX11) (T := TX11) (N := 13) hx hb hT iX11 hown hK hW hT_o.1 hS_o rfl 10 (by decide) w363 rfl dX11_press_77 ?_
            obtain ⟨x_72, x_73, x_74, x_75, hS_x_69, hT_x_72, hT_x_73, hb_x_74, hb_x_75⟩ := hTy.k3 hT_x_69
            refine pl_get (ci := 3) (v := .int (nI x_74)) (C := RX3) (T := TX3) (N := 4) hx hb hT iX3 hown hK hW hT_x_69.1 hS_x_69 rfl 2 (by decide) w64 rfl dX11_press_80 ?_
            refine lv_icmp_ge (tgt := 145) hx hb dX11_press_83 (by decide) (fun c_83 => ?_) (fun c_83 => ?_)
            · have c_83 : x_74 ≤ i := (nI_leI (a := x_74) (b := i) (by omega) (by omega)).mp c_83
              refine lv_aload_n hx hb dX11_press_145 rfl (lv_at hl 1 rfl) ?_
              refine pl_get (ci := 11) (v := .ref x_70) (C := RX11) (T := TX11) (N := 13) hx hb hT iX11 hown hK hW hT_o.1 hS_o rfl 11 (by decide) w364 rfl dX11_press_146 ?_
              obtain ⟨x_76, x_77, x_78, x_79, x_80, x_81, x_82, x_83, hS_x_70, hT_x_76, hT_x_77, hT_x_78, hT_x_79, hT_x_80, hT_x_81, hb_x_82⟩ := hTy.k0 hT_x_70
              refine pl_get (ci := 0) (v := .int (nI x_82)) (C := RX0) (T := TX0) (N := 8) hx hb hT iX0 hown hK hW hT_x_70.1 hS_x_70 rfl 6 (by decide) w114 rfl dX11_press_149 ?_
              exact W.iret (v := nI x_82) hx hb hr (fun t ht h9 => ⟨⟨nI x_82, S_58, rfl, ⟨hTy, hFr⟩, by rw [ht]; exact hW.1, va_K.moved h9.alike hK, hW.2.1⟩, hW.2.2.F ht⟩) hW.2.2.2.2 dX11_press_152
            · have c_83 : ¬ (x_74 ≤ i) := fun hh9 => c_83 ((nI_leI (a := x_74) (b := i) (by omega) (by omega)).mpr hh9)
              refine lv_iconst (v := 0) hx hb dX11_press_86 (by decide) ?_
              refine lv_istore_n (lv' := [(3, .int 0), (2, .int (nI i)), (0, .ref o), (1, .int (nI k_15))]) hx hb dX11_press_87 rfl hl (by decide) rfl (fun ls hl => ?_)
              have loop : ∀ (fuel : Nat) (j : Nat) (SS : Nat → va_E) (H : Heap) (locs : List Loc) (ls : Array Slot), 9 - j < fuel → (j ≤ 8) → Ty cy L kap pr SS → Fr kap [0, 1, 5, 9, 11, 20, 21, 22, 23, 24, 28, 29, 33, 35, 36, 37, 38, 43, 44, 45, 46] S SS → Fr kap [0, 1, 5, 9, 11, 20, 21, 22, 23, 24, 28, 29, 33, 35, 36, 37, 38, 43, 44, 45, 46] S_58 SS → PW dC dI L (AL L s.heap.size) s.heap SS H locs → lv_has ls 6 [(3, .int (nI j)), (2, .int (nI i)), (0, .ref o), (1, .int (nI k_15))] → W p l e (headSpec (wT yX11_press cX11_press 6 (some .int)) { frames := 7, cells := 0, slots := 0, locals := 184 }).room s m [.ref o, .int (nI k_15)].toArray below meth c H locs 0 0 (MQ below (va_Qi (fun r S' => Ty cy L kap pr S' ∧ Fr kap [0, 1, 5, 9, 11, 20, 21, 22, 23, 24, 28, 29, 33, 35, 36, 37, 38, 43, 44, 45, 46] S S') (fun S' t => pB dC dI (AL L s.heap.size) (va_pl L S') (cyT cy) t) (AL L s.heap.size)) [.ref o, .int (nI k_15)].toArray s 0 0 (AL L s.heap.size)) (F0 m 88 ls []) := by
                intro fuel
                induction fuel with
                | zero => intro j SS H locs ls h; exact absurd h (Nat.not_lt_zero _)
                | succ fu88 ih88 =>
                  intro j S_84 H locs ls hm88 hb_j hTy hFr hFl88 hW hl
                  have hS_x_69 := hFl88.at hT_x_69 (by decide) hS_x_69
                  have hFl75 := hFl75.tr hFl88 (by decide)
                  refine lv_iload_n hx hb dX11_press_88 rfl (lv_at hl 0 rfl) ?_
                  refine lv_aload_n hx hb dX11_press_89 rfl (lv_at hl 2 rfl) ?_
                  obtain ⟨x_85, x_86, x_87, x_88, x_89, x_90, x_91, x_92, x_93, x_94, x_95, x_96, x_97, hS_o, hT_x_85, hT_x_86, hT_x_87, hT_x_88, hT_x_89, hT_x_90, hT_x_91, hT_x_92, hT_x_93, hT_x_94, hT_x_95, hT_x_96⟩ := hTy.k11 hT_o
                  refine pl_get (ci := 11) (v := .ref x_95) (C := RX11) (T := TX11) (N := 13) hx hb hT iX11 hown hK hW hT_o.1 hS_o rfl 10 (by decide) w363 rfl dX11_press_90 ?_
                  obtain ⟨x_98, x_99, x_100, x_101, hS_x_95, hT_x_98, hT_x_99, hb_x_100, hb_x_101⟩ := hTy.k3 hT_x_95
                  refine pl_get (ci := 3) (v := .int (nI x_100)) (C := RX3) (T := TX3) (N := 4) hx hb hT iX3 hown hK hW hT_x_95.1 hS_x_95 rfl 2 (by decide) w64 rfl dX11_press_93 ?_
                  refine lv_icmp_ge (tgt := 139) hx hb dX11_press_96 (by decide) (fun c_96 => ?_) (fun c_96 => ?_)
                  · have c_96 : x_100 ≤ j := (nI_leI (a := x_100) (b := j) (by omega) (by omega)).mp c_96
                    refine lv_iinc (v := nI (i + 1)) (lv' := [(2, .int (nI (i + 1))), (3, .int (nI j)), (0, .ref o), (1, .int (nI k_15))]) hx hb dX11_press_139 hl (k := 1) rfl (nI_add (i) 1) (by decide) rfl (fun ls hl => ?_)
                    refine lv_goto (tgt := 75) hx hb dX11_press_142 (by decide) ?_
                    exact ih75 (i + 1) _ _ _ ls (by omega) (by omega) hTy hFr hFl75 hW (lv_sub hl [0, 2, 3] rfl)
                  · have c_96 : ¬ (x_100 ≤ j) := fun hh9 => c_96 ((nI_leI (a := x_100) (b := j) (by omega) (by omega)).mpr hh9)
                    refine lv_aload_n hx hb dX11_press_99 rfl (lv_at hl 2 rfl) ?_
                    refine pl_get (ci := 11) (v := .ref x_91) (C := RX11) (T := TX11) (N := 13) hx hb hT iX11 hown hK hW hT_o.1 hS_o rfl 6 (by decide) w359 rfl dX11_press_100 ?_
                    obtain ⟨x_102, x_103, x_104, x_105, x_106, x_107, x_108, x_109, x_110, x_111, x_112, x_113, x_114, hS_x_91, hT_x_102, hT_x_103, hT_x_106, hT_x_107, hT_x_108, hT_x_109, hT_x_110, hT_x_111, hT_x_112, hb_x_113, hb_x_114⟩ := hTy.k9 hT_x_91
                    refine pl_get (ci := 9) (v := .ref x_103) (C := RX9) (T := TX9) (N := 13) hx hb hT iX9 hown hK hW hT_x_91.1 hS_x_91 rfl 1 (by decide) w266 rfl dX11_press_103 ?_
                    refine lv_iload_n hx hb dX11_press_106 rfl (lv_at hl 1 rfl) ?_
                    refine lv_iload_n hx hb dX11_press_107 rfl (lv_at hl 0 rfl) ?_
                    refine vp_callSi (va_Run.run (va_runS (As := [.int (nI i), .int (nI j)]) (rest := [.ref x_103]) ⟨hx, hb, hml, hown, hT⟩ (s_cell l dC dI H.size i j (by omega) (by omega)) (va_cwS 2 hT (gS w660 w576 w1 w577) rfl rfl rfl (by decide +kernel) ⟨(Nat.le_of_ble_eq_true rfl), (Nat.le_of_ble_eq_true rfl)⟩) ⟨pcW.blind, pcW.pre (va_P0 _ _ _) (hK.sub (tys' := []) [] rfl) (va_D0 (fun _ => True))⟩ rfl rfl hl.1 rfl (lv_room (Nat.le_of_ble_eq_true rfl)) dX11_press_108 ⟨(Nat.le_of_ble_eq_true rfl), (Nat.le_of_ble_eq_true rfl)⟩)) (fun r_115 hr_115 => ?_)
                    obtain rfl : r_115 = nI (i * 8 + j) := hr_115
                    obtain ⟨f_116, hS_x_103⟩ := hTy.k43 hT_x_103
                    refine pl_lald hx hb hK hW hT_x_103.1 hS_x_103 (vp_in_nI (n := i * 8 + j) (N := 64) (by omega) (by omega)) dX11_press_111 ?_
                    refine lv_topl (fun y_117 ey_117 => ?_)
                    refine lv_lstore (lv' := [(4, .long y_117), (3, .int (nI j)), (2, .int (nI i)), (0, .ref o), (1, .int (nI k_15))]) hx hb dX11_press_112 hl (by decide) rfl (fun ls hl => ?_)
                    refine lv_lload hx hb dX11_press_114 (lv_at hl 0 rfl) ?_
                    refine lv_lconst (v := 0) hx hb dX11_press_116 (by decide) ?_
                    refine W.lcmp hx hb dX11_press_117 ?_
                    refine lv_if_le (tgt := 133) hx hb dX11_press_118 (by decide) (fun c_118 => ?_) (fun c_118 => ?_)
                    · refine lv_iinc (v := nI (j + 1)) (lv' := [(3, .int (nI (j + 1))), (4, .long y_117), (2, .int (nI i)), (0, .ref o), (1, .int (nI k_15))]) hx hb dX11_press_133 hl (k := 1) rfl (nI_add (j) 1) (by decide) rfl (fun ls hl => ?_)
                      refine lv_goto (tgt := 88) hx hb dX11_press_136 (by decide) ?_
                      exact ih88 (j + 1) _ _ _ ls (by omega) (by omega) hTy hFr hFl88 hW (lv_sub hl [0, 2, 3, 4] rfl)
                    · refine lv_aload_n hx hb dX11_press_121 rfl (lv_at hl 3 rfl) ?_
                      refine pl_get (ci := 11) (v := .ref x_96) (C := RX11) (T := TX11) (N := 13) hx hb hT iX11 hown hK hW hT_o.1 hS_o rfl 11 (by decide) w364 rfl dX11_press_122 ?_
                      refine lv_iload_n hx hb dX11_press_125 rfl (lv_at hl 2 rfl) ?_
                      refine lv_iload_n hx hb dX11_press_126 rfl (lv_at hl 1 rfl) ?_
                      refine lv_lload hx hb dX11_press_127 (lv_at hl 0 rfl) ?_
                      refine lv_iload_n hx hb dX11_press_129 rfl (lv_at hl 4 rfl) ?_
                      obtain ⟨x_118, x_119, x_120, x_121, x_122, x_123, x_124, x_125, hS_x_96, hT_x_118, hT_x_119, hT_x_120, hT_x_121, hT_x_122, hT_x_123, hb_x_124⟩ := hTy.k0 hT_x_96
                      refine pl_callv (va_runV (As := [.int (nI i), .int (nI j), .long y_117, .int (nI k_15)]) (rest := []) ⟨hx, hb, hml, hown, hT⟩ (s_append l dC dI cy L kap pr S_84 H.size x_96 i j y_117 k_15 hTy hT_x_96 (by omega) (by omega) (by omega)) (cwV 4 hT (gV w634 w563 w564 w5 w565) rfl rfl rfl (by decide +kernel) ⟨(Nat.le_of_ble_eq_true rfl), (Nat.le_of_ble_eq_true rfl)⟩) ⟨pcN.blind, pl_recv hK hW hT_x_96.1 hS_x_96 rfl, pcN.pre hW.1 hK hW.2.1 hN (fun q h => absurd h List.not_mem_nil)⟩ rfl rfl hl.1 rfl (lv_room (Nat.le_of_ble_eq_true rfl)) dX11_press_130 ⟨(Nat.le_of_ble_eq_true rfl), (Nat.le_of_ble_eq_true rfl)⟩) hW hA0 hA (fun S_126 H locs hrel hW => ?_)
                      obtain ⟨hTy, hF1⟩ := hrel
                      have hFr := hFr.tr hF1 (by decide)
                      have hFl75 := hFl75.tr hF1 (by decide)
                      have hFl88 := hFl88.tr hF1 (by decide)
                      have hS_x_69 := hF1.at hT_x_69 (by decide) hS_x_69
                      have hS_o := hF1.at hT_o (by decide) hS_o
                      have hS_x_95 := hF1.at hT_x_95 (by decide) hS_x_95
                      have hS_x_91 := hF1.at hT_x_91 (by decide) hS_x_91
                      have hS_x_103 := hF1.at hT_x_103 (by decide) hS_x_103
                      refine lv_iinc (v := nI (j + 1)) (lv' := [(3, .int (nI (j + 1))), (4, .long y_117), (2, .int (nI i)), (0, .ref o), (1, .int (nI k_15))]) hx hb dX11_press_133 hl (k := 1) rfl (nI_add (j) 1) (by decide) rfl (fun ls hl => ?_)
                      refine lv_goto (tgt := 88) hx hb dX11_press_136 (by decide) ?_
                      exact ih88 (j + 1) _ _ _ ls (by omega) (by omega) hTy hFr hFl88 hW (lv_sub hl [0, 2, 3, 4] rfl)
              exact loop ((9 - 0) + 1) 0 _ _ _ ls (Nat.lt_succ_self _) (by omega) hTy hFr Fr.rf hW (lv_sub hl [0, 1, 2, 3] rfl)
        exact loop ((9 - 0) + 1) 0 _ _ _ ls (Nat.lt_succ_self _) (by omega) hTy hFr Fr.rf hW (lv_sub hl [0, 1, 2] rfl)
      · refine lv_bipush (v := (-4)) hx hb dX11_press_58 (by decide) ?_
        exact W.iret (v := (-4)) hx hb hr (fun t ht h9 => ⟨⟨(-4), S_16, rfl, ⟨hTy, hFr⟩, by rw [ht]; exact hW.1, va_K.moved h9.alike hK, hW.2.1⟩, hW.2.2.F ht⟩) hW.2.2.2.2 dX11_press_60
    · refine lv_bipush (v := (-5)) hx hb dX11_press_26 (by decide) ?_
      exact W.iret (v := (-5)) hx hb hr (fun t ht h9 => ⟨⟨(-5), S_16, rfl, ⟨hTy, hFr⟩, by rw [ht]; exact hW.1, va_K.moved h9.alike hK, hW.2.1⟩, hW.2.2.F ht⟩) hW.2.2.2.2 dX11_press_28

set_option maxHeartbeats 4000000 in
set_option maxRecDepth 100000 in
theorem k_undo (l : Launch) (dC : Nat → ClassId) (dI : Nat → Nat → Nat) (cy : Nat → ClassId) (L : List Nat) (kap : Nat → Nat) (pr : Pr) (S : Nat → va_E) (sz : Nat) (o : Nat) (hTy : Ty cy L kap pr S) (hT_o : TK L kap o 11) : Met l yX11_undo (wT yX11_undo cX11_undo 1 (some .int)) ({ frames := 3, cells := 0, slots := 0, locals := 83 }) (pcN dC dI [.ref o] sz (va_pl L S) (cyT cy) NLs []) (va_Qi (fun r S' => Ty cy L kap pr S' ∧ Fr kap [0, 5, 11, 20, 21, 22, 23, 24] S S') (fun S' t => pB dC dI (AL L sz) (va_pl L S') (cyT cy) t) (AL L sz)) 0 0 (AL L sz) := by
  refine Met.ofW (cc := cX11_undo) (maxL := 1) (ret := (some .int)) (by decide) rfl ?_
  intro p e s m args below meth c s₁ B hml hv
  obtain ⟨rfl, hsz, hP, hK, hD0, hN, -⟩ := hv
  have hx := B.exec
  have hb := B.bytes
  have hr := B.returns
  have hT : ∀ wd ∈ TB, wd.before [.ref o].toArray s = true := fun wd h => atoms_spec (ws := wT yX11_undo cX11_undo 1 (some .int)) B.pre wd (List.mem_cons_of_mem _ h)
  have hown : s.vm.findClass RX11 = some m.cls := findClass_of_methodNamed B.named
  have hlocks := B.notSynchronized
  subst hsz
  have hW : PW dC dI L (AL L s.heap.size) s.heap S s.heap [] := ⟨hP, pl_self hD0, va_S.rf⟩
  have hA0 : ∀ q, q ∈ L → AL L s.heap.size q := fun _ h => Or.inl h
  have hA : ∀ q, s.heap.size ≤ q → AL L s.heap.size q := fun _ h => Or.inr h
  have hFr : Fr kap [0, 5, 11, 20, 21, 22, 23, 24] S S := Fr.rf
  have hl := lv_entry ([.ref o]) (n := 1) (Nat.le_of_ble_eq_true rfl)
  rw [lg_entry_eq]
  generalize (lg_sl ([.ref o]) ++ List.replicate (1 - (lg_sl ([.ref o])).length) Slot.unset).toArray = ls at hl ⊢
  have hl : lv_has ls 1 [(0, .ref o)] := hl
  refine lv_aload_n hx hb dX11_undo_0 rfl (lv_at hl 0 rfl) ?_
  obtain ⟨x_1, x_2, x_3, x_4, x_5, x_6, x_7, x_8, x_9, x_10, x_11, x_12, x_13, hS_o, hT_x_1, hT_x_2, hT_x_3, hT_x_4, hT_x_5, hT_x_6, hT_x_7, hT_x_8, hT_x_9, hT_x_10, hT_x_11, hT_x_12⟩ := hTy.k11 hT_o
  refine pl_get (ci := 11) (v := .ref x_3) (C := RX11) (T := TX11) (N := 13) hx hb hT iX11 hown hK hW hT_o.1 hS_o rfl 2 (by decide) w355 rfl dX11_undo_1 ?_
  obtain ⟨x_14, x_15, hS_x_3, hT_x_14, hb_x_15⟩ := hTy.k5 hT_x_3
  refine pl_get (ci := 5) (v := .int (nI x_15)) (C := RX5) (T := TX5) (N := 2) hx hb hT iX5 hown hK hW hT_x_3.1 hS_x_3 rfl 1 (by decide) w185 rfl dX11_undo_4 ?_
  refine lv_if_ne (tgt := 13) hx hb dX11_undo_7 (by decide) (fun c_7 => ?_) (fun c_7 => ?_)
  · have c_7 : ¬ (x_15 = 0) := fun hh9 => c_7 ((nI_eq (a := x_15) (b := 0) (by omega) (by omega)).mpr hh9)
    refine lv_aload_n hx hb dX11_undo_13 rfl (lv_at hl 0 rfl) ?_
    refine pl_get (ci := 11) (v := .ref x_3) (C := RX11) (T := TX11) (N := 13) hx hb hT iX11 hown hK hW hT_o.1 hS_o rfl 2 (by decide) w355 rfl dX11_undo_14 ?_
    refine lv_aload_n hx hb dX11_undo_17 rfl (lv_at hl 0 rfl) ?_
    refine pl_get (ci := 11) (v := .ref x_12) (C := RX11) (T := TX11) (N := 13) hx hb hT iX11 hown hK hW hT_o.1 hS_o rfl 11 (by decide) w364 rfl dX11_undo_18 ?_
    refine pl_callv (va_runV (As := [.ref x_12]) (rest := []) ⟨hx, hb, hml, hown, hT⟩ (s_takeBack l dC dI cy L kap pr S s.heap.size x_3 x_12 hTy hT_x_3 hT_x_12) (cwV 1 hT (gV w848 w849 w850 w7 w851) rfl rfl rfl (by decide +kernel) ⟨(Nat.le_of_ble_eq_true rfl), (Nat.le_of_ble_eq_true rfl)⟩) ⟨pcN.blind, pl_recv hK hW hT_x_3.1 hS_x_3 rfl, pcN.pre hW.1 hK hW.2.1 hN (fun q h => absurd h List.not_mem_nil)⟩ rfl rfl hl.1 rfl (lv_room (Nat.le_of_ble_eq_true rfl)) dX11_undo_21 ⟨(Nat.le_of_ble_eq_true rfl), (Nat.le_of_ble_eq_true rfl)⟩) hW hA0 hA (fun S_16 H locs hrel hW => ?_)
    obtain ⟨hTy, hF1⟩ := hrel
    have hFr := hFr.tr hF1 (by decide)
    have hS_o := hF1.at hT_o (by decide) hS_o
    refine lv_aload_n hx hb dX11_undo_24 rfl (lv_at hl 0 rfl) ?_
    refine lv_iconst (v := (-1)) hx hb dX11_undo_25 (by decide) ?_
    refine pl_put (ci := 11) (v := .int (-1)) (ty := .int) (C := RX11) (T := TX11) (N := 13) (fs' := [.ref x_1, .ref x_2, .ref x_3, .ref x_4, .ref x_5, .ref x_6, .ref x_7, .ref x_8, .ref x_9, .ref x_10, .ref x_11, .ref x_12, .int (-1)]) hx hb hT iX11 tyX11 tyX11_ok nmX11 hown hK hW hT_o.1 hS_o rfl 12 (by decide) w365 rfl (by decide +kernel) rfl rfl (Nat.le_of_ble_eq_true rfl) rfl dX11_undo_26 (fun H locs S_17 e1 hW => ?_)
    have hTy := hTy.u11 e1 hT_o ⟨x_1, x_2, x_3, x_4, x_5, x_6, x_7, x_8, x_9, x_10, x_11, x_12, (-1), rfl, hT_x_1, hT_x_2, hT_x_3, hT_x_4, hT_x_5, hT_x_6, hT_x_7, hT_x_8, hT_x_9, hT_x_10, hT_x_11, hT_x_12⟩
    have hFr := uf hFr e1 hT_o (by decide) (by decide)
    have hS_o := us e1
    refine lv_aload_n hx hb dX11_undo_29 rfl (lv_at hl 0 rfl) ?_
    refine pl_get (ci := 11) (v := .ref x_3) (C := RX11) (T := TX11) (N := 13) hx hb hT iX11 hown hK hW hT_o.1 hS_o rfl 2 (by decide) w355 rfl dX11_undo_30 ?_
    obtain ⟨x_18, x_19, hS_x_3, hT_x_18, hb_x_19⟩ := hTy.k5 hT_x_3
    refine pl_get (ci := 5) (v := .int (nI x_19)) (C := RX5) (T := TX5) (N := 2) hx hb hT iX5 hown hK hW hT_x_3.1 hS_x_3 rfl 1 (by decide) w185 rfl dX11_undo_33 ?_
    exact W.iret (v := nI x_19) hx hb hr (fun t ht h9 => ⟨⟨nI x_19, S_17, rfl, ⟨hTy, hFr⟩, by rw [ht]; exact hW.1, va_K.moved h9.alike hK, hW.2.1⟩, hW.2.2.F ht⟩) hW.2.2.2.2 dX11_undo_36
  · have c_7 : x_15 = 0 := (nI_eq (a := x_15) (b := 0) (by omega) (by omega)).mp c_7
    refine lv_bipush (v := (-5)) hx hb dX11_undo_10 (by decide) ?_
    exact W.iret (v := (-5)) hx hb hr (fun t ht h9 => ⟨⟨(-5), S, rfl, ⟨hTy, hFr⟩, by rw [ht]; exact hW.1, va_K.moved h9.alike hK, hW.2.1⟩, hW.2.2.F ht⟩) hW.2.2.2.2 dX11_undo_12

set_option maxHeartbeats 4000000 in
set_option maxRecDepth 100000 in
theorem k_tradeOf (l : Launch) (dC : Nat → ClassId) (dI : Nat → Nat → Nat) (cy : Nat → ClassId) (L : List Nat) (kap : Nat → Nat) (pr : Pr) (S : Nat → va_E) (sz : Nat) (o : Nat) (tr : Int32) (wh : Int32) (hTy : Ty cy L kap pr S) (hT_o : TK L kap o 11) : Met l yX11_tradeOf (wT yX11_tradeOf cX11_tradeOf 3 (some .int)) ({ frames := 1, cells := 0, slots := 0, locals := 21 }) (pcN dC dI [.ref o, .int tr, .int wh] sz (va_pl L S) (cyT cy) NLs []) (va_Qi (fun r S' => Ty cy L kap pr S' ∧ Fr kap [] S S') (fun S' t => pB dC dI (AL L sz) (va_pl L S') (cyT cy) t) (AL L sz)) 0 0 (AL L sz) := by
  refine Met.ofW (cc := cX11_tradeOf) (maxL := 3) (ret := (some .int)) (by decide) rfl ?_
  intro p e s m args below meth c s₁ B hml hv
  obtain ⟨rfl, hsz, hP, hK, hD0, hN, -⟩ := hv
  have hx := B.exec
  have hb := B.bytes
  have hr := B.returns
  have hT : ∀ wd ∈ TB, wd.before [.ref o, .int tr, .int wh].toArray s = true := fun wd h => atoms_spec (ws := wT yX11_tradeOf cX11_tradeOf 3 (some .int)) B.pre wd (List.mem_cons_of_mem _ h)
  have hown : s.vm.findClass RX11 = some m.cls := findClass_of_methodNamed B.named
  have hlocks := B.notSynchronized
  subst hsz
  have hW : PW dC dI L (AL L s.heap.size) s.heap S s.heap [] := ⟨hP, pl_self hD0, va_S.rf⟩
  have hA0 : ∀ q, q ∈ L → AL L s.heap.size q := fun _ h => Or.inl h
  have hA : ∀ q, s.heap.size ≤ q → AL L s.heap.size q := fun _ h => Or.inr h
  have hFr : Fr kap [] S S := Fr.rf
  have hl := lv_entry ([.ref o, .int tr, .int wh]) (n := 3) (Nat.le_of_ble_eq_true rfl)
  rw [lg_entry_eq]
  generalize (lg_sl ([.ref o, .int tr, .int wh]) ++ List.replicate (3 - (lg_sl ([.ref o, .int tr, .int wh])).length) Slot.unset).toArray = ls at hl ⊢
  have hl : lv_has ls 3 [(0, .ref o), (1, .int tr), (2, .int wh)] := hl
  refine lv_aload_n hx hb dX11_tradeOf_0 rfl (lv_at hl 0 rfl) ?_
  refine lv_iload_n hx hb dX11_tradeOf_1 rfl (lv_at hl 1 rfl) ?_
  obtain ⟨x_1, x_2, x_3, x_4, x_5, x_6, x_7, x_8, x_9, x_10, x_11, x_12, x_13, hS_o, hT_x_1, hT_x_2, hT_x_3, hT_x_4, hT_x_5, hT_x_6, hT_x_7, hT_x_8, hT_x_9, hT_x_10, hT_x_11, hT_x_12⟩ := hTy.k11 hT_o
  refine vp_callSi (va_Run.run (va_runV (As := [.int tr]) (rest := []) ⟨hx, hb, hml, hown, hT⟩ (o_noTrade l dC dI cy L kap pr S s.heap.size o tr hTy hT_o) (cwV 1 hT (gV w639 w641 ws28 w1 w642) rfl rfl rfl (by decide +kernel) ⟨(Nat.le_of_ble_eq_true rfl), (Nat.le_of_ble_eq_true rfl)⟩) ⟨pcN.blind, pl_recv hK hW hT_o.1 hS_o rfl, pcN.pre hW.1 hK hW.2.1 hN (fun q h => absurd h List.not_mem_nil)⟩ rfl rfl hl.1 rfl (lv_room (Nat.le_of_ble_eq_true rfl)) dX11_tradeOf_2 ⟨(Nat.le_of_ble_eq_true rfl), (Nat.le_of_ble_eq_true rfl)⟩)) (fun r_14 hr_14 => ?_)
  rcases hr_14 with hc_ | hc_
  · obtain rfl : r_14 = 1 := hc_
    refine lv_if_eq (tgt := 11) hx hb dX11_tradeOf_5 (by decide) (fun h => absurd h (by decide)) (fun _ => ?_)
    refine lv_bipush (v := (-2)) hx hb dX11_tradeOf_8 (by decide) ?_
    exact W.iret (v := (-2)) hx hb hr (fun t ht h9 => ⟨⟨(-2), S, rfl, ⟨hTy, hFr⟩, by rw [ht]; exact hW.1, va_K.moved h9.alike hK, hW.2.1⟩, hW.2.2.F ht⟩) hW.2.2.2.2 dX11_tradeOf_10
  · obtain ⟨rfl, k_15, hb_k_15, rfl, htr⟩ := hc_
    refine lv_if_eq (tgt := 11) hx hb dX11_tradeOf_5 (by decide) (fun _ => ?_) (fun h => absurd (by decide) h)
    refine lv_iload_n hx hb dX11_tradeOf_11 rfl (lv_at hl 2 rfl) ?_
    by_cases hk_12_0 : wh = 0
    · subst hk_12_0
      refine lv_tableIn (off := 36) (tgt := 48) hx hb dX11_tradeOf_12 (by decide) (by decide) rfl (by decide) ?_
      refine lv_aload_n hx hb dX11_tradeOf_48 rfl (lv_at hl 0 rfl) ?_
      refine pl_get (ci := 11) (v := .ref x_12) (C := RX11) (T := TX11) (N := 13) hx hb hT iX11 hown hK hW hT_o.1 hS_o rfl 11 (by decide) w364 rfl dX11_tradeOf_49 ?_
      obtain ⟨x_16, x_17, x_18, x_19, x_20, x_21, x_22, x_23, hS_x_12, hT_x_16, hT_x_17, hT_x_18, hT_x_19, hT_x_20, hT_x_21, hb_x_22⟩ := hTy.k0 hT_x_12
      refine pl_get (ci := 0) (v := .ref x_16) (C := RX0) (T := TX0) (N := 8) hx hb hT iX0 hown hK hW hT_x_12.1 hS_x_12 rfl 0 (by decide) w91 rfl dX11_tradeOf_52 ?_
      refine lv_iload_n hx hb dX11_tradeOf_55 rfl (lv_at hl 1 rfl) ?_
      obtain ⟨f_24, hS_x_16, hi_f_24⟩ := hTy.k20 hT_x_16
      refine pl_iald hx hb hK hW hT_x_16.1 hS_x_16 (vp_in_nI (n := k_15) (N := 40) (by omega) (by omega)) dX11_tradeOf_56 ?_
      refine lv_topi (fun y_25 ey_25 => ?_)
      obtain ⟨k_26, hb_k_26, hq_k_26⟩ := hi_f_24 (k_15) (by omega)
      obtain rfl : y_25 = nI k_26 := ey_25.trans (by show f_24 (nI (k_15)).toNatClampNeg = _; rw [nI_clamp (by omega)]; exact hq_k_26)
      exact W.iret (v := nI k_26) hx hb hr (fun t ht h9 => ⟨⟨nI k_26, S, rfl, ⟨hTy, hFr⟩, by rw [ht]; exact hW.1, va_K.moved h9.alike hK, hW.2.1⟩, hW.2.2.F ht⟩) hW.2.2.2.2 dX11_tradeOf_57
    by_cases hk_12_1 : wh = 1
    · subst hk_12_1
      refine lv_tableIn (off := 46) (tgt := 58) hx hb dX11_tradeOf_12 (by decide) (by decide) rfl (by decide) ?_
      refine lv_aload_n hx hb dX11_tradeOf_58 rfl (lv_at hl 0 rfl) ?_
      refine pl_get (ci := 11) (v := .ref x_12) (C := RX11) (T := TX11) (N := 13) hx hb hT iX11 hown hK hW hT_o.1 hS_o rfl 11 (by decide) w364 rfl dX11_tradeOf_59 ?_
      obtain ⟨x_27, x_28, x_29, x_30, x_31, x_32, x_33, x_34, hS_x_12, hT_x_27, hT_x_28, hT_x_29, hT_x_30, hT_x_31, hT_x_32, hb_x_33⟩ := hTy.k0 hT_x_12
      refine pl_get (ci := 0) (v := .ref x_28) (C := RX0) (T := TX0) (N := 8) hx hb hT iX0 hown hK hW hT_x_12.1 hS_x_12 rfl 1 (by decide) w95 rfl dX11_tradeOf_62 ?_
      refine lv_iload_n hx hb dX11_tradeOf_65 rfl (lv_at hl 1 rfl) ?_
      obtain ⟨f_35, hS_x_28, hi_f_35⟩ := hTy.k20 hT_x_28
      refine pl_iald hx hb hK hW hT_x_28.1 hS_x_28 (vp_in_nI (n := k_15) (N := 40) (by omega) (by omega)) dX11_tradeOf_66 ?_
      refine lv_topi (fun y_36 ey_36 => ?_)
      obtain ⟨k_37, hb_k_37, hq_k_37⟩ := hi_f_35 (k_15) (by omega)
      obtain rfl : y_36 = nI k_37 := ey_36.trans (by show f_35 (nI (k_15)).toNatClampNeg = _; rw [nI_clamp (by omega)]; exact hq_k_37)
      exact W.iret (v := nI k_37) hx hb hr (fun t ht h9 => ⟨⟨nI k_37, S, rfl, ⟨hTy, hFr⟩, by rw [ht]; exact hW.1, va_K.moved h9.alike hK, hW.2.1⟩, hW.2.2.F ht⟩) hW.2.2.2.2 dX11_tradeOf_67
    by_cases hk_12_2 : wh = 2
    · subst hk_12_2
      refine lv_tableIn (off := 56) (tgt := 68) hx hb dX11_tradeOf_12 (by decide) (by decide) rfl (by decide) ?_
      refine lv_aload_n hx hb dX11_tradeOf_68 rfl (lv_at hl 0 rfl) ?_
      refine pl_get (ci := 11) (v := .ref x_12) (C := RX11) (T := TX11) (N := 13) hx hb hT iX11 hown hK hW hT_o.1 hS_o rfl 11 (by decide) w364 rfl dX11_tradeOf_69 ?_
      obtain ⟨x_38, x_39, x_40, x_41, x_42, x_43, x_44, x_45, hS_x_12, hT_x_38, hT_x_39, hT_x_40, hT_x_41, hT_x_42, hT_x_43, hb_x_44⟩ := hTy.k0 hT_x_12
      refine pl_get (ci := 0) (v := .ref x_41) (C := RX0) (T := TX0) (N := 8) hx hb hT iX0 hown hK hW hT_x_12.1 hS_x_12 rfl 3 (by decide) w103 rfl dX11_tradeOf_72 ?_
      refine lv_iload_n hx hb dX11_tradeOf_75 rfl (lv_at hl 1 rfl) ?_
      obtain ⟨f_46, hS_x_41⟩ := hTy.k22 hT_x_41
      refine pl_lald hx hb hK hW hT_x_41.1 hS_x_41 (vp_in_nI (n := k_15) (N := 40) (by omega) (by omega)) dX11_tradeOf_76 ?_
      refine lv_topl (fun y_47 ey_47 => ?_)
      refine lv_l2i hx hb dX11_tradeOf_77 rfl ?_
      refine lv_topi (fun z_48 ez_48 => ?_)
      exact W.iret (v := z_48) hx hb hr (fun t ht h9 => ⟨⟨z_48, S, rfl, ⟨hTy, hFr⟩, by rw [ht]; exact hW.1, va_K.moved h9.alike hK, hW.2.1⟩, hW.2.2.F ht⟩) hW.2.2.2.2 dX11_tradeOf_78
    by_cases hk_12_3 : wh = 3
    · subst hk_12_3
      refine lv_tableIn (off := 67) (tgt := 79) hx hb dX11_tradeOf_12 (by decide) (by decide) rfl (by decide) ?_
      refine lv_aload_n hx hb dX11_tradeOf_79 rfl (lv_at hl 0 rfl) ?_
      refine pl_get (ci := 11) (v := .ref x_12) (C := RX11) (T := TX11) (N := 13) hx hb hT iX11 hown hK hW hT_o.1 hS_o rfl 11 (by decide) w364 rfl dX11_tradeOf_80 ?_
      obtain ⟨x_49, x_50, x_51, x_52, x_53, x_54, x_55, x_56, hS_x_12, hT_x_49, hT_x_50, hT_x_51, hT_x_52, hT_x_53, hT_x_54, hb_x_55⟩ := hTy.k0 hT_x_12
      refine pl_get (ci := 0) (v := .ref x_51) (C := RX0) (T := TX0) (N := 8) hx hb hT iX0 hown hK hW hT_x_12.1 hS_x_12 rfl 2 (by decide) w99 rfl dX11_tradeOf_83 ?_
      refine lv_iload_n hx hb dX11_tradeOf_86 rfl (lv_at hl 1 rfl) ?_
      obtain ⟨f_57, hS_x_51, hi_f_57⟩ := hTy.k21 hT_x_51
      refine pl_iald hx hb hK hW hT_x_51.1 hS_x_51 (vp_in_nI (n := k_15) (N := 40) (by omega) (by omega)) dX11_tradeOf_87 ?_
      refine lv_topi (fun y_58 ey_58 => ?_)
      obtain ⟨k_59, hb_k_59, hq_k_59⟩ := hi_f_57 (k_15) (by omega)
      obtain rfl : y_58 = nI k_59 := ey_58.trans (by show f_57 (nI (k_15)).toNatClampNeg = _; rw [nI_clamp (by omega)]; exact hq_k_59)
      exact W.iret (v := nI k_59) hx hb hr (fun t ht h9 => ⟨⟨nI k_59, S, rfl, ⟨hTy, hFr⟩, by rw [ht]; exact hW.1, va_K.moved h9.alike hK, hW.2.1⟩, hW.2.2.F ht⟩) hW.2.2.2.2 dX11_tradeOf_88
    by_cases hk_12_4 : wh = 4
    · subst hk_12_4
      refine lv_tableIn (off := 77) (tgt := 89) hx hb dX11_tradeOf_12 (by decide) (by decide) rfl (by decide) ?_
      refine lv_aload_n hx hb dX11_tradeOf_89 rfl (lv_at hl 0 rfl) ?_
      refine pl_get (ci := 11) (v := .ref x_12) (C := RX11) (T := TX11) (N := 13) hx hb hT iX11 hown hK hW hT_o.1 hS_o rfl 11 (by decide) w364 rfl dX11_tradeOf_90 ?_
      obtain ⟨x_60, x_61, x_62, x_63, x_64, x_65, x_66, x_67, hS_x_12, hT_x_60, hT_x_61, hT_x_62, hT_x_63, hT_x_64, hT_x_65, hb_x_66⟩ := hTy.k0 hT_x_12
      refine pl_get (ci := 0) (v := .ref x_64) (C := RX0) (T := TX0) (N := 8) hx hb hT iX0 hown hK hW hT_x_12.1 hS_x_12 rfl 4 (by decide) w107 rfl dX11_tradeOf_93 ?_
      refine lv_iload_n hx hb dX11_tradeOf_96 rfl (lv_at hl 1 rfl) ?_
      obtain ⟨f_68, hS_x_64⟩ := hTy.k23 hT_x_64
      refine pl_zald hx hb hK hW hT_x_64.1 hS_x_64 (vp_in_nI (n := k_15) (N := 40) (by omega) (by omega)) dX11_tradeOf_97 ?_
      refine lv_topi (fun y_69 ey_69 => ?_)
      refine lv_if_eq (tgt := 105) hx hb dX11_tradeOf_98 (by decide) (fun c_98 => ?_) (fun c_98 => ?_)
      · refine lv_iconst (v := 0) hx hb dX11_tradeOf_105 (by decide) ?_
        exact W.iret (v := 0) hx hb hr (fun t ht h9 => ⟨⟨0, S, rfl, ⟨hTy, hFr⟩, by rw [ht]; exact hW.1, va_K.moved h9.alike hK, hW.2.1⟩, hW.2.2.F ht⟩) hW.2.2.2.2 dX11_tradeOf_106
      · refine lv_iconst (v := 1) hx hb dX11_tradeOf_101 (by decide) ?_
        refine lv_goto (tgt := 106) hx hb dX11_tradeOf_102 (by decide) ?_
        exact W.iret (v := 1) hx hb hr (fun t ht h9 => ⟨⟨1, S, rfl, ⟨hTy, hFr⟩, by rw [ht]; exact hW.1, va_K.moved h9.alike hK, hW.2.1⟩, hW.2.2.F ht⟩) hW.2.2.2.2 dX11_tradeOf_106
    refine lv_tableOut (tgt := 107) hx hb dX11_tradeOf_12 (swout_0_4 hk_12_0 hk_12_1 hk_12_2 hk_12_3 hk_12_4) (by decide) ?_
    refine lv_bipush (v := (-2)) hx hb dX11_tradeOf_107 (by decide) ?_
    exact W.iret (v := (-2)) hx hb hr (fun t ht h9 => ⟨⟨(-2), S, rfl, ⟨hTy, hFr⟩, by rw [ht]; exact hW.1, va_K.moved h9.alike hK, hW.2.1⟩, hW.2.2.F ht⟩) hW.2.2.2.2 dX11_tradeOf_109

set_option maxHeartbeats 4000000 in
set_option maxRecDepth 100000 in
theorem k_flow (l : Launch) (dC : Nat → ClassId) (dI : Nat → Nat → Nat) (cy : Nat → ClassId) (L : List Nat) (kap : Nat → Nat) (pr : Pr) (S : Nat → va_E) (sz : Nat) (o : Nat) (fa : Int32) (fb : Int32) (kd : Int32) (hTy : Ty cy L kap pr S) (hT_o : TK L kap o 11) : Met l yX11_flow (wT yX11_flow cX11_flow 4 (some .int)) ({ frames := 3, cells := 0, slots := 0, locals := 71 }) (pcN dC dI [.ref o, .int fa, .int fb, .int kd] sz (va_pl L S) (cyT cy) NLs []) (va_Qi (fun r S' => Ty cy L kap pr S' ∧ Fr kap [1, 29] S S') (fun S' t => pB dC dI (AL L sz) (va_pl L S') (cyT cy) t) (AL L sz)) 0 0 (AL L sz) := by
  refine Met.ofW (cc := cX11_flow) (maxL := 4) (ret := (some .int)) (by decide) rfl ?_
  intro p e s m args below meth c s₁ B hml hv
  obtain ⟨rfl, hsz, hP, hK, hD0, hN, -⟩ := hv
  have hx := B.exec
  have hb := B.bytes
  have hr := B.returns
  have hT : ∀ wd ∈ TB, wd.before [.ref o, .int fa, .int fb, .int kd].toArray s = true := fun wd h => atoms_spec (ws := wT yX11_flow cX11_flow 4 (some .int)) B.pre wd (List.mem_cons_of_mem _ h)
  have hown : s.vm.findClass RX11 = some m.cls := findClass_of_methodNamed B.named
  have hlocks := B.notSynchronized
  subst hsz
  have hW : PW dC dI L (AL L s.heap.size) s.heap S s.heap [] := ⟨hP, pl_self hD0, va_S.rf⟩
  have hA0 : ∀ q, q ∈ L → AL L s.heap.size q := fun _ h => Or.inl h
  have hA : ∀ q, s.heap.size ≤ q → AL L s.heap.size q := fun _ h => Or.inr h
  have hFr : Fr kap [1, 29] S S := Fr.rf
  have hl := lv_entry ([.ref o, .int fa, .int fb, .int kd]) (n := 4) (Nat.le_of_ble_eq_true rfl)
  rw [lg_entry_eq]
  generalize (lg_sl ([.ref o, .int fa, .int fb, .int kd]) ++ List.replicate (4 - (lg_sl ([.ref o, .int fa, .int fb, .int kd])).length) Slot.unset).toArray = ls at hl ⊢
  have hl : lv_has ls 4 [(0, .ref o), (1, .int fa), (2, .int fb), (3, .int kd)] := hl
  refine lv_aload_n hx hb dX11_flow_0 rfl (lv_at hl 0 rfl) ?_
  refine lv_iload_n hx hb dX11_flow_1 rfl (lv_at hl 1 rfl) ?_
  refine lv_iload_n hx hb dX11_flow_2 rfl (lv_at hl 2 rfl) ?_
  obtain ⟨x_1, x_2, x_3, x_4, x_5, x_6, x_7, x_8, x_9, x_10, x_11, x_12, x_13, hS_o, hT_x_1, hT_x_2, hT_x_3, hT_x_4, hT_x_5, hT_x_6, hT_x_7, hT_x_8, hT_x_9, hT_x_10, hT_x_11, hT_x_12⟩ := hTy.k11 hT_o
  refine vp_callSi (va_Run.run (va_runV (As := [.int fa, .int fb]) (rest := []) ⟨hx, hb, hml, hown, hT⟩ (o_noCouple l dC dI cy L kap pr S s.heap.size o fa fb hTy hT_o) (cwV 2 hT (gV w598 w600 ws22 w1 w601) rfl rfl rfl (by decide +kernel) ⟨(Nat.le_of_ble_eq_true rfl), (Nat.le_of_ble_eq_true rfl)⟩) ⟨pcN.blind, pl_recv hK hW hT_o.1 hS_o rfl, pcN.pre hW.1 hK hW.2.1 hN (fun q h => absurd h List.not_mem_nil)⟩ rfl rfl hl.1 rfl (lv_room (Nat.le_of_ble_eq_true rfl)) dX11_flow_3 ⟨(Nat.le_of_ble_eq_true rfl), (Nat.le_of_ble_eq_true rfl)⟩)) (fun r_14 hr_14 => ?_)
  rcases hr_14 with hc_ | hc_
  · obtain rfl : r_14 = 1 := hc_
    refine lv_if_ne (tgt := 17) hx hb dX11_flow_6 (by decide) (fun _ => ?_) (fun h => absurd h (by decide))
    refine lv_bipush (v := (-2)) hx hb dX11_flow_17 (by decide) ?_
    exact W.iret (v := (-2)) hx hb hr (fun t ht h9 => ⟨⟨(-2), S, rfl, ⟨hTy, hFr⟩, by rw [ht]; exact hW.1, va_K.moved h9.alike hK, hW.2.1⟩, hW.2.2.F ht⟩) hW.2.2.2.2 dX11_flow_19
  · obtain ⟨rfl, ⟨k_15, hb_k_15, rfl⟩, ⟨k_16, hb_k_16, rfl⟩⟩ := hc_
    refine lv_if_ne (tgt := 17) hx hb dX11_flow_6 (by decide) (fun h => absurd (by decide) h) (fun _ => ?_)
    refine lv_aload_n hx hb dX11_flow_9 rfl (lv_at hl 0 rfl) ?_
    refine lv_iload_n hx hb dX11_flow_10 rfl (lv_at hl 3 rfl) ?_
    refine vp_callSi (va_Run.run (va_runV (As := [.int kd]) (rest := []) ⟨hx, hb, hml, hown, hT⟩ (o_noKind l dC dI cy L kap pr S s.heap.size o kd hTy hT_o) (cwV 1 hT (gV w606 w608 ws24 w1 w609) rfl rfl rfl (by decide +kernel) ⟨(Nat.le_of_ble_eq_true rfl), (Nat.le_of_ble_eq_true rfl)⟩) ⟨pcN.blind, pl_recv hK hW hT_o.1 hS_o rfl, pcN.pre hW.1 hK hW.2.1 hN (fun q h => absurd h List.not_mem_nil)⟩ rfl rfl hl.1 rfl (lv_room (Nat.le_of_ble_eq_true rfl)) dX11_flow_11 ⟨(Nat.le_of_ble_eq_true rfl), (Nat.le_of_ble_eq_true rfl)⟩)) (fun r_17 hr_17 => ?_)
    rcases hr_17 with hc_ | hc_
    · obtain rfl : r_17 = 1 := hc_
      refine lv_if_eq (tgt := 20) hx hb dX11_flow_14 (by decide) (fun h => absurd h (by decide)) (fun _ => ?_)
      refine lv_bipush (v := (-2)) hx hb dX11_flow_17 (by decide) ?_
      exact W.iret (v := (-2)) hx hb hr (fun t ht h9 => ⟨⟨(-2), S, rfl, ⟨hTy, hFr⟩, by rw [ht]; exact hW.1, va_K.moved h9.alike hK, hW.2.1⟩, hW.2.2.F ht⟩) hW.2.2.2.2 dX11_flow_19
    · obtain ⟨rfl, k_18, hb_k_18, rfl⟩ := hc_
      refine lv_if_eq (tgt := 20) hx hb dX11_flow_14 (by decide) (fun _ => ?_) (fun h => absurd (by decide) h)
      refine lv_aload_n hx hb dX11_flow_20 rfl (lv_at hl 0 rfl) ?_
      refine lv_iload_n hx hb dX11_flow_21 rfl (lv_at hl 3 rfl) ?_
      refine lv_iconst (v := (-1)) hx hb dX11_flow_22 (by decide) ?_
      refine pl_callv (va_runV (As := [.int (nI k_18), .int (-1)]) (rest := []) ⟨hx, hb, hml, hown, hT⟩ (o_gather l dC dI cy L kap pr S s.heap.size o (nI k_18) (-1) hTy hT_o) (cwV 2 hT (gV w669 w671 ws30 w1 w672) rfl rfl rfl (by decide +kernel) ⟨(Nat.le_of_ble_eq_true rfl), (Nat.le_of_ble_eq_true rfl)⟩) ⟨pcN.blind, pl_recv hK hW hT_o.1 hS_o rfl, pcN.pre hW.1 hK hW.2.1 hN (fun q h => absurd h List.not_mem_nil)⟩ rfl rfl hl.1 rfl (lv_room (Nat.le_of_ble_eq_true rfl)) dX11_flow_23 ⟨(Nat.le_of_ble_eq_true rfl), (Nat.le_of_ble_eq_true rfl)⟩) hW hA0 hA (fun S_19 H locs hrel hW => ?_)
      obtain ⟨hTy, hF1⟩ := hrel
      have hFr := hFr.tr hF1 (by decide)
      have hS_o := hF1.at hT_o (by decide) hS_o
      refine lv_aload_n hx hb dX11_flow_26 rfl (lv_at hl 0 rfl) ?_
      refine pl_get (ci := 11) (v := .ref x_4) (C := RX11) (T := TX11) (N := 13) hx hb hT iX11 hown hK hW hT_o.1 hS_o rfl 3 (by decide) w356 rfl dX11_flow_27 ?_
      obtain ⟨x_20, x_21, hS_x_4, hT_x_20, hb_x_21⟩ := hTy.k1 hT_x_4
      refine pl_get (ci := 1) (v := .ref x_20) (C := RX1) (T := TX1) (N := 2) hx hb hT iX1 hown hK hW hT_x_4.1 hS_x_4 rfl 0 (by decide) w199 rfl dX11_flow_30 ?_
      refine lv_iload_n hx hb dX11_flow_33 rfl (lv_at hl 1 rfl) ?_
      refine lv_iload_n hx hb dX11_flow_34 rfl (lv_at hl 2 rfl) ?_
      refine vp_callSi (va_Run.run (va_runS (As := [.int (nI k_15), .int (nI k_16)]) (rest := [.ref x_20]) ⟨hx, hb, hml, hown, hT⟩ (s_cell l dC dI H.size k_15 k_16 (by omega) (by omega)) (va_cwS 2 hT (gS w660 w576 w1 w577) rfl rfl rfl (by decide +kernel) ⟨(Nat.le_of_ble_eq_true rfl), (Nat.le_of_ble_eq_true rfl)⟩) ⟨pcW.blind, pcW.pre (va_P0 _ _ _) (hK.sub (tys' := []) [] rfl) (va_D0 (fun _ => True))⟩ rfl rfl hl.1 rfl (lv_room (Nat.le_of_ble_eq_true rfl)) dX11_flow_35 ⟨(Nat.le_of_ble_eq_true rfl), (Nat.le_of_ble_eq_true rfl)⟩)) (fun r_22 hr_22 => ?_)
      obtain rfl : r_22 = nI (k_15 * 8 + k_16) := hr_22
      obtain ⟨f_23, hS_x_20⟩ := hTy.k29 hT_x_20
      refine pl_lald hx hb hK hW hT_x_20.1 hS_x_20 (vp_in_nI (n := k_15 * 8 + k_16) (N := 64) (by omega) (by omega)) dX11_flow_38 ?_
      refine lv_topl (fun y_24 ey_24 => ?_)
      refine lv_l2i hx hb dX11_flow_39 rfl ?_
      refine lv_topi (fun z_25 ez_25 => ?_)
      exact W.iret (v := z_25) hx hb hr (fun t ht h9 => ⟨⟨z_25, S_19, rfl, ⟨hTy, hFr⟩, by rw [ht]; exact hW.1, va_K.moved h9.alike hK, hW.2.1⟩, hW.2.2.F ht⟩) hW.2.2.2.2 dX11_flow_40

set_option maxHeartbeats 4000000 in
set_option maxRecDepth 100000 in
theorem k_net (l : Launch) (dC : Nat → ClassId) (dI : Nat → Nat → Nat) (cy : Nat → ClassId) (L : List Nat) (kap : Nat → Nat) (pr : Pr) (S : Nat → va_E) (sz : Nat) (o : Nat) (pa : Int32) (kd : Int32) (fr : Int32) (hTy : Ty cy L kap pr S) (hT_o : TK L kap o 11) : Met l yX11_net (wT yX11_net cX11_net 4 (some .int)) ({ frames := 4, cells := 0, slots := 0, locals := 87 }) (pcN dC dI [.ref o, .int pa, .int kd, .int fr] sz (va_pl L S) (cyT cy) NLs []) (va_Qi (fun r S' => Ty cy L kap pr S' ∧ Fr kap [1, 29] S S') (fun S' t => pB dC dI (AL L sz) (va_pl L S') (cyT cy) t) (AL L sz)) 0 0 (AL L sz) := by
  refine Met.ofW (cc := cX11_net) (maxL := 4) (ret := (some .int)) (by decide) rfl ?_
  intro p e s m args below meth c s₁ B hml hv
  obtain ⟨rfl, hsz, hP, hK, hD0, hN, -⟩ := hv
  have hx := B.exec
  have hb := B.bytes
  have hr := B.returns
  have hT : ∀ wd ∈ TB, wd.before [.ref o, .int pa, .int kd, .int fr].toArray s = true := fun wd h => atoms_spec (ws := wT yX11_net cX11_net 4 (some .int)) B.pre wd (List.mem_cons_of_mem _ h)
  have hown : s.vm.findClass RX11 = some m.cls := findClass_of_methodNamed B.named
  have hlocks := B.notSynchronized
  subst hsz
  have hW : PW dC dI L (AL L s.heap.size) s.heap S s.heap [] := ⟨hP, pl_self hD0, va_S.rf⟩
  have hA0 : ∀ q, q ∈ L → AL L s.heap.size q := fun _ h => Or.inl h
  have hA : ∀ q, s.heap.size ≤ q → AL L s.heap.size q := fun _ h => Or.inr h
  have hFr : Fr kap [1, 29] S S := Fr.rf
  have hl := lv_entry ([.ref o, .int pa, .int kd, .int fr]) (n := 4) (Nat.le_of_ble_eq_true rfl)
  rw [lg_entry_eq]
  generalize (lg_sl ([.ref o, .int pa, .int kd, .int fr]) ++ List.replicate (4 - (lg_sl ([.ref o, .int pa, .int kd, .int fr])).length) Slot.unset).toArray = ls at hl ⊢
  have hl : lv_has ls 4 [(0, .ref o), (1, .int pa), (2, .int kd), (3, .int fr)] := hl
  refine lv_aload_n hx hb dX11_net_0 rfl (lv_at hl 0 rfl) ?_
  refine lv_iload_n hx hb dX11_net_1 rfl (lv_at hl 1 rfl) ?_
  obtain ⟨x_1, x_2, x_3, x_4, x_5, x_6, x_7, x_8, x_9, x_10, x_11, x_12, x_13, hS_o, hT_x_1, hT_x_2, hT_x_3, hT_x_4, hT_x_5, hT_x_6, hT_x_7, hT_x_8, hT_x_9, hT_x_10, hT_x_11, hT_x_12⟩ := hTy.k11 hT_o
  refine vp_callSi (va_Run.run (va_runV (As := [.int pa]) (rest := []) ⟨hx, hb, hml, hown, hT⟩ (o_noParty l dC dI cy L kap pr S s.heap.size o pa hTy hT_o) (cwV 1 hT (gV w602 w604 ws23 w1 w605) rfl rfl rfl (by decide +kernel) ⟨(Nat.le_of_ble_eq_true rfl), (Nat.le_of_ble_eq_true rfl)⟩) ⟨pcN.blind, pl_recv hK hW hT_o.1 hS_o rfl, pcN.pre hW.1 hK hW.2.1 hN (fun q h => absurd h List.not_mem_nil)⟩ rfl rfl hl.1 rfl (lv_room (Nat.le_of_ble_eq_true rfl)) dX11_net_2 ⟨(Nat.le_of_ble_eq_true rfl), (Nat.le_of_ble_eq_true rfl)⟩)) (fun r_14 hr_14 => ?_)
  rcases hr_14 with hc_ | hc_
  · obtain rfl : r_14 = 1 := hc_
    refine lv_if_ne (tgt := 16) hx hb dX11_net_5 (by decide) (fun _ => ?_) (fun h => absurd h (by decide))
    refine lv_bipush (v := (-2)) hx hb dX11_net_16 (by decide) ?_
    exact W.iret (v := (-2)) hx hb hr (fun t ht h9 => ⟨⟨(-2), S, rfl, ⟨hTy, hFr⟩, by rw [ht]; exact hW.1, va_K.moved h9.alike hK, hW.2.1⟩, hW.2.2.F ht⟩) hW.2.2.2.2 dX11_net_18
  · obtain ⟨rfl, k_15, hb_k_15, rfl⟩ := hc_
    refine lv_if_ne (tgt := 16) hx hb dX11_net_5 (by decide) (fun h => absurd (by decide) h) (fun _ => ?_)
    refine lv_aload_n hx hb dX11_net_8 rfl (lv_at hl 0 rfl) ?_
    refine lv_iload_n hx hb dX11_net_9 rfl (lv_at hl 2 rfl) ?_
    refine vp_callSi (va_Run.run (va_runV (As := [.int kd]) (rest := []) ⟨hx, hb, hml, hown, hT⟩ (o_noKind l dC dI cy L kap pr S s.heap.size o kd hTy hT_o) (cwV 1 hT (gV w606 w608 ws24 w1 w609) rfl rfl rfl (by decide +kernel) ⟨(Nat.le_of_ble_eq_true rfl), (Nat.le_of_ble_eq_true rfl)⟩) ⟨pcN.blind, pl_recv hK hW hT_o.1 hS_o rfl, pcN.pre hW.1 hK hW.2.1 hN (fun q h => absurd h List.not_mem_nil)⟩ rfl rfl hl.1 rfl (lv_room (Nat.le_of_ble_eq_true rfl)) dX11_net_10 ⟨(Nat.le_of_ble_eq_true rfl), (Nat.le_of_ble_eq_true rfl)⟩)) (fun r_16 hr_16 => ?_)
    rcases hr_16 with hc_ | hc_
    · obtain rfl : r_16 = 1 := hc_
      refine lv_if_eq (tgt := 19) hx hb dX11_net_13 (by decide) (fun h => absurd h (by decide)) (fun _ => ?_)
      refine lv_bipush (v := (-2)) hx hb dX11_net_16 (by decide) ?_
      exact W.iret (v := (-2)) hx hb hr (fun t ht h9 => ⟨⟨(-2), S, rfl, ⟨hTy, hFr⟩, by rw [ht]; exact hW.1, va_K.moved h9.alike hK, hW.2.1⟩, hW.2.2.F ht⟩) hW.2.2.2.2 dX11_net_18
    · obtain ⟨rfl, k_17, hb_k_17, rfl⟩ := hc_
      refine lv_if_eq (tgt := 19) hx hb dX11_net_13 (by decide) (fun _ => ?_) (fun h => absurd (by decide) h)
      refine lv_iload_n hx hb dX11_net_19 rfl (lv_at hl 3 rfl) ?_
      refine lv_if_eq (tgt := 43) hx hb dX11_net_20 (by decide) (fun c_20 => ?_) (fun c_20 => ?_)
      · refine lv_aload_n hx hb dX11_net_43 rfl (lv_at hl 0 rfl) ?_
        refine pl_get (ci := 11) (v := .ref x_12) (C := RX11) (T := TX11) (N := 13) hx hb hT iX11 hown hK hW hT_o.1 hS_o rfl 11 (by decide) w364 rfl dX11_net_44 ?_
        refine lv_iload_n hx hb dX11_net_47 rfl (lv_at hl 1 rfl) ?_
        refine lv_iload_n hx hb dX11_net_48 rfl (lv_at hl 2 rfl) ?_
        obtain ⟨x_18, x_19, x_20, x_21, x_22, x_23, x_24, x_25, hS_x_12, hT_x_18, hT_x_19, hT_x_20, hT_x_21, hT_x_22, hT_x_23, hb_x_24⟩ := hTy.k0 hT_x_12
        refine vp_callSl (va_Run.run (va_runV (As := [.int (nI k_15), .int (nI k_17)]) (rest := []) ⟨hx, hb, hml, hown, hT⟩ (s_allFrom l dC dI cy L kap pr S s.heap.size x_12 (nI k_15) (nI k_17) hTy hT_x_12) (cwV 2 hT (gV w866 w867 w868 w5 w869) rfl rfl rfl (by decide +kernel) ⟨(Nat.le_of_ble_eq_true rfl), (Nat.le_of_ble_eq_true rfl)⟩) ⟨pcN.blind, pl_recv hK hW hT_x_12.1 hS_x_12 rfl, pcN.pre hW.1 hK hW.2.1 hN (fun q h => absurd h List.not_mem_nil)⟩ rfl rfl hl.1 rfl (lv_room (Nat.le_of_ble_eq_true rfl)) dX11_net_49 ⟨(Nat.le_of_ble_eq_true rfl), (Nat.le_of_ble_eq_true rfl)⟩)) (fun r_26 hr_26 => ?_)
        refine lv_aload_n hx hb dX11_net_52 rfl (lv_at hl 0 rfl) ?_
        refine pl_get (ci := 11) (v := .ref x_12) (C := RX11) (T := TX11) (N := 13) hx hb hT iX11 hown hK hW hT_o.1 hS_o rfl 11 (by decide) w364 rfl dX11_net_53 ?_
        refine lv_iload_n hx hb dX11_net_56 rfl (lv_at hl 1 rfl) ?_
        refine lv_iload_n hx hb dX11_net_57 rfl (lv_at hl 2 rfl) ?_
        refine vp_callSl (va_Run.run (va_runV (As := [.int (nI k_15), .int (nI k_17)]) (rest := [.long r_26]) ⟨hx, hb, hml, hown, hT⟩ (s_allTo l dC dI cy L kap pr S s.heap.size x_12 (nI k_15) (nI k_17) hTy hT_x_12) (cwV 2 hT (gV w870 w871 w872 w5 w873) rfl rfl rfl (by decide +kernel) ⟨(Nat.le_of_ble_eq_true rfl), (Nat.le_of_ble_eq_true rfl)⟩) ⟨pcN.blind, pl_recv hK hW hT_x_12.1 hS_x_12 rfl, pcN.pre hW.1 hK hW.2.1 hN (fun q h => absurd h List.not_mem_nil)⟩ rfl rfl hl.1 rfl (lv_room (Nat.le_of_ble_eq_true rfl)) dX11_net_58 ⟨(Nat.le_of_ble_eq_true rfl), (Nat.le_of_ble_eq_true rfl)⟩)) (fun r_27 hr_27 => ?_)
        refine lv_lsub hx hb dX11_net_61 ?_
        refine lv_topl (fun z_28 ez_28 => ?_)
        refine lv_ldc2 (v := 100000000) hx hb hown (hT _ w865) dX11_net_62 ?_
        refine lv_ladd hx hb dX11_net_65 ?_
        refine lv_topl (fun z_29 ez_29 => ?_)
        refine lv_l2i hx hb dX11_net_66 rfl ?_
        refine lv_topi (fun z_30 ez_30 => ?_)
        exact W.iret (v := z_30) hx hb hr (fun t ht h9 => ⟨⟨z_30, S, rfl, ⟨hTy, hFr⟩, by rw [ht]; exact hW.1, va_K.moved h9.alike hK, hW.2.1⟩, hW.2.2.F ht⟩) hW.2.2.2.2 dX11_net_67
      · refine lv_aload_n hx hb dX11_net_23 rfl (lv_at hl 0 rfl) ?_
        refine lv_iload_n hx hb dX11_net_24 rfl (lv_at hl 2 rfl) ?_
        refine lv_iconst (v := (-1)) hx hb dX11_net_25 (by decide) ?_
        refine pl_callv (va_runV (As := [.int (nI k_17), .int (-1)]) (rest := []) ⟨hx, hb, hml, hown, hT⟩ (o_gather l dC dI cy L kap pr S s.heap.size o (nI k_17) (-1) hTy hT_o) (cwV 2 hT (gV w669 w671 ws30 w1 w672) rfl rfl rfl (by decide +kernel) ⟨(Nat.le_of_ble_eq_true rfl), (Nat.le_of_ble_eq_true rfl)⟩) ⟨pcN.blind, pl_recv hK hW hT_o.1 hS_o rfl, pcN.pre hW.1 hK hW.2.1 hN (fun q h => absurd h List.not_mem_nil)⟩ rfl rfl hl.1 rfl (lv_room (Nat.le_of_ble_eq_true rfl)) dX11_net_26 ⟨(Nat.le_of_ble_eq_true rfl), (Nat.le_of_ble_eq_true rfl)⟩) hW hA0 hA (fun S_31 H locs hrel hW => ?_)
        obtain ⟨hTy, hF1⟩ := hrel
        have hFr := hFr.tr hF1 (by decide)
        have hS_o := hF1.at hT_o (by decide) hS_o
        refine lv_aload_n hx hb dX11_net_29 rfl (lv_at hl 0 rfl) ?_
        refine pl_get (ci := 11) (v := .ref x_4) (C := RX11) (T := TX11) (N := 13) hx hb hT iX11 hown hK hW hT_o.1 hS_o rfl 3 (by decide) w356 rfl dX11_net_30 ?_
        refine lv_iload_n hx hb dX11_net_33 rfl (lv_at hl 1 rfl) ?_
        obtain ⟨x_32, x_33, hS_x_4, hT_x_32, hb_x_33⟩ := hTy.k1 hT_x_4
        refine vp_callSl (va_Run.run (va_runV (As := [.int (nI k_15)]) (rest := []) ⟨hx, hb, hml, hown, hT⟩ (s_netOf l dC dI cy L kap pr S_31 H.size x_4 k_15 hTy hT_x_4 (by omega)) (cwV 1 hT (gV w864 w739 w740 w8 w741) rfl rfl rfl (by decide +kernel) ⟨(Nat.le_of_ble_eq_true rfl), (Nat.le_of_ble_eq_true rfl)⟩) ⟨pcN.blind, pl_recv hK hW hT_x_4.1 hS_x_4 rfl, pcN.pre hW.1 hK hW.2.1 hN (fun q h => absurd h List.not_mem_nil)⟩ rfl rfl hl.1 rfl (lv_room (Nat.le_of_ble_eq_true rfl)) dX11_net_34 ⟨(Nat.le_of_ble_eq_true rfl), (Nat.le_of_ble_eq_true rfl)⟩)) (fun r_34 hr_34 => ?_)
        refine lv_ldc2 (v := 100000000) hx hb hown (hT _ w865) dX11_net_37 ?_
        refine lv_ladd hx hb dX11_net_40 ?_
        refine lv_topl (fun z_35 ez_35 => ?_)
        refine lv_l2i hx hb dX11_net_41 rfl ?_
        refine lv_topi (fun z_36 ez_36 => ?_)
        exact W.iret (v := z_36) hx hb hr (fun t ht h9 => ⟨⟨z_36, S_31, rfl, ⟨hTy, hFr⟩, by rw [ht]; exact hW.1, va_K.moved h9.alike hK, hW.2.1⟩, hW.2.2.F ht⟩) hW.2.2.2.2 dX11_net_42

set_option maxHeartbeats 4000000 in
set_option maxRecDepth 100000 in
theorem k_side (l : Launch) (dC : Nat → ClassId) (dI : Nat → Nat → Nat) (cy : Nat → ClassId) (L : List Nat) (kap : Nat → Nat) (pr : Pr) (S : Nat → va_E) (sz : Nat) (o : Nat) (pa : Int32) (kd : Int32) (wh : Int32) (hTy : Ty cy L kap pr S) (hT_o : TK L kap o 11) : Met l yX11_side (wT yX11_side cX11_side 4 (some .int)) ({ frames := 2, cells := 0, slots := 0, locals := 44 }) (pcN dC dI [.ref o, .int pa, .int kd, .int wh] sz (va_pl L S) (cyT cy) NLs []) (va_Qi (fun r S' => Ty cy L kap pr S' ∧ Fr kap [] S S') (fun S' t => pB dC dI (AL L sz) (va_pl L S') (cyT cy) t) (AL L sz)) 0 0 (AL L sz) := by
  refine Met.ofW (cc := cX11_side) (maxL := 4) (ret := (some .int)) (by decide) rfl ?_
  intro p e s m args below meth c s₁ B hml hv
  obtain ⟨rfl, hsz, hP, hK, hD0, hN, -⟩ := hv
  have hx := B.exec
  have hb := B.bytes
  have hr := B.returns
  have hT : ∀ wd ∈ TB, wd.before [.ref o, .int pa, .int kd, .int wh].toArray s = true := fun wd h => atoms_spec (ws := wT yX11_side cX11_side 4 (some .int)) B.pre wd (List.mem_cons_of_mem _ h)
  have hown : s.vm.findClass RX11 = some m.cls := findClass_of_methodNamed B.named
  have hlocks := B.notSynchronized
  subst hsz
  have hW : PW dC dI L (AL L s.heap.size) s.heap S s.heap [] := ⟨hP, pl_self hD0, va_S.rf⟩
  have hA0 : ∀ q, q ∈ L → AL L s.heap.size q := fun _ h => Or.inl h
  have hA : ∀ q, s.heap.size ≤ q → AL L s.heap.size q := fun _ h => Or.inr h
  have hFr : Fr kap [] S S := Fr.rf
  have hl := lv_entry ([.ref o, .int pa, .int kd, .int wh]) (n := 4) (Nat.le_of_ble_eq_true rfl)
  rw [lg_entry_eq]
  generalize (lg_sl ([.ref o, .int pa, .int kd, .int wh]) ++ List.replicate (4 - (lg_sl ([.ref o, .int pa, .int kd, .int wh])).length) Slot.unset).toArray = ls at hl ⊢
  have hl : lv_has ls 4 [(0, .ref o), (1, .int pa), (2, .int kd), (3, .int wh)] := hl
  refine lv_aload_n hx hb dX11_side_0 rfl (lv_at hl 0 rfl) ?_
  refine lv_iload_n hx hb dX11_side_1 rfl (lv_at hl 1 rfl) ?_
  obtain ⟨x_1, x_2, x_3, x_4, x_5, x_6, x_7, x_8, x_9, x_10, x_11, x_12, x_13, hS_o, hT_x_1, hT_x_2, hT_x_3, hT_x_4, hT_x_5, hT_x_6, hT_x_7, hT_x_8, hT_x_9, hT_x_10, hT_x_11, hT_x_12⟩ := hTy.k11 hT_o
  refine vp_callSi (va_Run.run (va_runV (As := [.int pa]) (rest := []) ⟨hx, hb, hml, hown, hT⟩ (o_noParty l dC dI cy L kap pr S s.heap.size o pa hTy hT_o) (cwV 1 hT (gV w602 w604 ws23 w1 w605) rfl rfl rfl (by decide +kernel) ⟨(Nat.le_of_ble_eq_true rfl), (Nat.le_of_ble_eq_true rfl)⟩) ⟨pcN.blind, pl_recv hK hW hT_o.1 hS_o rfl, pcN.pre hW.1 hK hW.2.1 hN (fun q h => absurd h List.not_mem_nil)⟩ rfl rfl hl.1 rfl (lv_room (Nat.le_of_ble_eq_true rfl)) dX11_side_2 ⟨(Nat.le_of_ble_eq_true rfl), (Nat.le_of_ble_eq_true rfl)⟩)) (fun r_14 hr_14 => ?_)
  rcases hr_14 with hc_ | hc_
  · obtain rfl : r_14 = 1 := hc_
    refine lv_if_ne (tgt := 16) hx hb dX11_side_5 (by decide) (fun _ => ?_) (fun h => absurd h (by decide))
    refine lv_bipush (v := (-2)) hx hb dX11_side_16 (by decide) ?_
    exact W.iret (v := (-2)) hx hb hr (fun t ht h9 => ⟨⟨(-2), S, rfl, ⟨hTy, hFr⟩, by rw [ht]; exact hW.1, va_K.moved h9.alike hK, hW.2.1⟩, hW.2.2.F ht⟩) hW.2.2.2.2 dX11_side_18
  · obtain ⟨rfl, k_15, hb_k_15, rfl⟩ := hc_
    refine lv_if_ne (tgt := 16) hx hb dX11_side_5 (by decide) (fun h => absurd (by decide) h) (fun _ => ?_)
    refine lv_aload_n hx hb dX11_side_8 rfl (lv_at hl 0 rfl) ?_
    refine lv_iload_n hx hb dX11_side_9 rfl (lv_at hl 2 rfl) ?_
    refine vp_callSi (va_Run.run (va_runV (As := [.int kd]) (rest := []) ⟨hx, hb, hml, hown, hT⟩ (o_noKind l dC dI cy L kap pr S s.heap.size o kd hTy hT_o) (cwV 1 hT (gV w606 w608 ws24 w1 w609) rfl rfl rfl (by decide +kernel) ⟨(Nat.le_of_ble_eq_true rfl), (Nat.le_of_ble_eq_true rfl)⟩) ⟨pcN.blind, pl_recv hK hW hT_o.1 hS_o rfl, pcN.pre hW.1 hK hW.2.1 hN (fun q h => absurd h List.not_mem_nil)⟩ rfl rfl hl.1 rfl (lv_room (Nat.le_of_ble_eq_true rfl)) dX11_side_10 ⟨(Nat.le_of_ble_eq_true rfl), (Nat.le_of_ble_eq_true rfl)⟩)) (fun r_16 hr_16 => ?_)
    rcases hr_16 with hc_ | hc_
    · obtain rfl : r_16 = 1 := hc_
      refine lv_if_eq (tgt := 19) hx hb dX11_side_13 (by decide) (fun h => absurd h (by decide)) (fun _ => ?_)
      refine lv_bipush (v := (-2)) hx hb dX11_side_16 (by decide) ?_
      exact W.iret (v := (-2)) hx hb hr (fun t ht h9 => ⟨⟨(-2), S, rfl, ⟨hTy, hFr⟩, by rw [ht]; exact hW.1, va_K.moved h9.alike hK, hW.2.1⟩, hW.2.2.F ht⟩) hW.2.2.2.2 dX11_side_18
    · obtain ⟨rfl, k_17, hb_k_17, rfl⟩ := hc_
      refine lv_if_eq (tgt := 19) hx hb dX11_side_13 (by decide) (fun _ => ?_) (fun h => absurd (by decide) h)
      refine lv_iload_n hx hb dX11_side_19 rfl (lv_at hl 3 rfl) ?_
      by_cases hk_20_0 : wh = 0
      · subst hk_20_0
        refine lv_tableIn (off := 28) (tgt := 48) hx hb dX11_side_20 (by decide) (by decide) rfl (by decide) ?_
        refine lv_aload_n hx hb dX11_side_48 rfl (lv_at hl 0 rfl) ?_
        refine pl_get (ci := 11) (v := .ref x_12) (C := RX11) (T := TX11) (N := 13) hx hb hT iX11 hown hK hW hT_o.1 hS_o rfl 11 (by decide) w364 rfl dX11_side_49 ?_
        refine lv_iload_n hx hb dX11_side_52 rfl (lv_at hl 1 rfl) ?_
        refine lv_iload_n hx hb dX11_side_53 rfl (lv_at hl 2 rfl) ?_
        obtain ⟨x_18, x_19, x_20, x_21, x_22, x_23, x_24, x_25, hS_x_12, hT_x_18, hT_x_19, hT_x_20, hT_x_21, hT_x_22, hT_x_23, hb_x_24⟩ := hTy.k0 hT_x_12
        refine vp_callSl (va_Run.run (va_runV (As := [.int (nI k_15), .int (nI k_17)]) (rest := []) ⟨hx, hb, hml, hown, hT⟩ (s_allFrom l dC dI cy L kap pr S s.heap.size x_12 (nI k_15) (nI k_17) hTy hT_x_12) (cwV 2 hT (gV w866 w867 w868 w5 w869) rfl rfl rfl (by decide +kernel) ⟨(Nat.le_of_ble_eq_true rfl), (Nat.le_of_ble_eq_true rfl)⟩) ⟨pcN.blind, pl_recv hK hW hT_x_12.1 hS_x_12 rfl, pcN.pre hW.1 hK hW.2.1 hN (fun q h => absurd h List.not_mem_nil)⟩ rfl rfl hl.1 rfl (lv_room (Nat.le_of_ble_eq_true rfl)) dX11_side_54 ⟨(Nat.le_of_ble_eq_true rfl), (Nat.le_of_ble_eq_true rfl)⟩)) (fun r_26 hr_26 => ?_)
        refine lv_l2i hx hb dX11_side_57 rfl ?_
        refine lv_topi (fun z_27 ez_27 => ?_)
        exact W.iret (v := z_27) hx hb hr (fun t ht h9 => ⟨⟨z_27, S, rfl, ⟨hTy, hFr⟩, by rw [ht]; exact hW.1, va_K.moved h9.alike hK, hW.2.1⟩, hW.2.2.F ht⟩) hW.2.2.2.2 dX11_side_58
      by_cases hk_20_1 : wh = 1
      · subst hk_20_1
        refine lv_tableIn (off := 39) (tgt := 59) hx hb dX11_side_20 (by decide) (by decide) rfl (by decide) ?_
        refine lv_aload_n hx hb dX11_side_59 rfl (lv_at hl 0 rfl) ?_
        refine pl_get (ci := 11) (v := .ref x_12) (C := RX11) (T := TX11) (N := 13) hx hb hT iX11 hown hK hW hT_o.1 hS_o rfl 11 (by decide) w364 rfl dX11_side_60 ?_
        refine lv_iload_n hx hb dX11_side_63 rfl (lv_at hl 1 rfl) ?_
        refine lv_iload_n hx hb dX11_side_64 rfl (lv_at hl 2 rfl) ?_
        obtain ⟨x_28, x_29, x_30, x_31, x_32, x_33, x_34, x_35, hS_x_12, hT_x_28, hT_x_29, hT_x_30, hT_x_31, hT_x_32, hT_x_33, hb_x_34⟩ := hTy.k0 hT_x_12
        refine vp_callSl (va_Run.run (va_runV (As := [.int (nI k_15), .int (nI k_17)]) (rest := []) ⟨hx, hb, hml, hown, hT⟩ (s_allTo l dC dI cy L kap pr S s.heap.size x_12 (nI k_15) (nI k_17) hTy hT_x_12) (cwV 2 hT (gV w870 w871 w872 w5 w873) rfl rfl rfl (by decide +kernel) ⟨(Nat.le_of_ble_eq_true rfl), (Nat.le_of_ble_eq_true rfl)⟩) ⟨pcN.blind, pl_recv hK hW hT_x_12.1 hS_x_12 rfl, pcN.pre hW.1 hK hW.2.1 hN (fun q h => absurd h List.not_mem_nil)⟩ rfl rfl hl.1 rfl (lv_room (Nat.le_of_ble_eq_true rfl)) dX11_side_65 ⟨(Nat.le_of_ble_eq_true rfl), (Nat.le_of_ble_eq_true rfl)⟩)) (fun r_36 hr_36 => ?_)
        refine lv_l2i hx hb dX11_side_68 rfl ?_
        refine lv_topi (fun z_37 ez_37 => ?_)
        exact W.iret (v := z_37) hx hb hr (fun t ht h9 => ⟨⟨z_37, S, rfl, ⟨hTy, hFr⟩, by rw [ht]; exact hW.1, va_K.moved h9.alike hK, hW.2.1⟩, hW.2.2.F ht⟩) hW.2.2.2.2 dX11_side_69
      by_cases hk_20_2 : wh = 2
      · subst hk_20_2
        refine lv_tableIn (off := 50) (tgt := 70) hx hb dX11_side_20 (by decide) (by decide) rfl (by decide) ?_
        refine lv_aload_n hx hb dX11_side_70 rfl (lv_at hl 0 rfl) ?_
        refine pl_get (ci := 11) (v := .ref x_12) (C := RX11) (T := TX11) (N := 13) hx hb hT iX11 hown hK hW hT_o.1 hS_o rfl 11 (by decide) w364 rfl dX11_side_71 ?_
        refine lv_iload_n hx hb dX11_side_74 rfl (lv_at hl 1 rfl) ?_
        refine lv_iload_n hx hb dX11_side_75 rfl (lv_at hl 2 rfl) ?_
        obtain ⟨x_38, x_39, x_40, x_41, x_42, x_43, x_44, x_45, hS_x_12, hT_x_38, hT_x_39, hT_x_40, hT_x_41, hT_x_42, hT_x_43, hb_x_44⟩ := hTy.k0 hT_x_12
        refine vp_callSi (va_Run.run (va_runV (As := [.int (nI k_15), .int (nI k_17)]) (rest := []) ⟨hx, hb, hml, hown, hT⟩ (s_othersOf l dC dI cy L kap pr S s.heap.size x_12 (nI k_15) (nI k_17) hTy hT_x_12) (cwV 2 hT (gV w878 w879 w880 w5 w881) rfl rfl rfl (by decide +kernel) ⟨(Nat.le_of_ble_eq_true rfl), (Nat.le_of_ble_eq_true rfl)⟩) ⟨pcN.blind, pl_recv hK hW hT_x_12.1 hS_x_12 rfl, pcN.pre hW.1 hK hW.2.1 hN (fun q h => absurd h List.not_mem_nil)⟩ rfl rfl hl.1 rfl (lv_room (Nat.le_of_ble_eq_true rfl)) dX11_side_76 ⟨(Nat.le_of_ble_eq_true rfl), (Nat.le_of_ble_eq_true rfl)⟩)) (fun r_46 hr_46 => ?_)
        exact W.iret (v := r_46) hx hb hr (fun t ht h9 => ⟨⟨r_46, S, rfl, ⟨hTy, hFr⟩, by rw [ht]; exact hW.1, va_K.moved h9.alike hK, hW.2.1⟩, hW.2.2.F ht⟩) hW.2.2.2.2 dX11_side_79
      refine lv_tableOut (tgt := 80) hx hb dX11_side_20 (swout_0_2 hk_20_0 hk_20_1 hk_20_2) (by decide) ?_
      refine lv_bipush (v := (-2)) hx hb dX11_side_80 (by decide) ?_
      exact W.iret (v := (-2)) hx hb hr (fun t ht h9 => ⟨⟨(-2), S, rfl, ⟨hTy, hFr⟩, by rw [ht]; exact hW.1, va_K.moved h9.alike hK, hW.2.1⟩, hW.2.2.F ht⟩) hW.2.2.2.2 dX11_side_82

set_option maxHeartbeats 4000000 in
set_option maxRecDepth 100000 in
theorem k_total (l : Launch) (dC : Nat → ClassId) (dI : Nat → Nat → Nat) (cy : Nat → ClassId) (L : List Nat) (kap : Nat → Nat) (pr : Pr) (S : Nat → va_E) (sz : Nat) (o : Nat) (kd : Int32) (wh : Int32) (hTy : Ty cy L kap pr S) (hT_o : TK L kap o 11) : Met l yX11_total (wT yX11_total cX11_total 3 (some .int)) ({ frames := 5, cells := 0, slots := 0, locals := 110 }) (pcN dC dI [.ref o, .int kd, .int wh] sz (va_pl L S) (cyT cy) NLs []) (va_Qi (fun r S' => Ty cy L kap pr S' ∧ Fr kap [1, 29] S S') (fun S' t => pB dC dI (AL L sz) (va_pl L S') (cyT cy) t) (AL L sz)) 0 0 (AL L sz) := by
  refine Met.ofW (cc := cX11_total) (maxL := 3) (ret := (some .int)) (by decide) rfl ?_
  intro p e s m args below meth c s₁ B hml hv
  obtain ⟨rfl, hsz, hP, hK, hD0, hN, -⟩ := hv
  have hx := B.exec
  have hb := B.bytes
  have hr := B.returns
  have hT : ∀ wd ∈ TB, wd.before [.ref o, .int kd, .int wh].toArray s = true := fun wd h => atoms_spec (ws := wT yX11_total cX11_total 3 (some .int)) B.pre wd (List.mem_cons_of_mem _ h)
  have hown : s.vm.findClass RX11 = some m.cls := findClass_of_methodNamed B.named
  have hlocks := B.notSynchronized
  subst hsz
  have hW : PW dC dI L (AL L s.heap.size) s.heap S s.heap [] := ⟨hP, pl_self hD0, va_S.rf⟩
  have hA0 : ∀ q, q ∈ L → AL L s.heap.size q := fun _ h => Or.inl h
  have hA : ∀ q, s.heap.size ≤ q → AL L s.heap.size q := fun _ h => Or.inr h
  have hFr : Fr kap [1, 29] S S := Fr.rf
  have hl := lv_entry ([.ref o, .int kd, .int wh]) (n := 3) (Nat.le_of_ble_eq_true rfl)
  rw [lg_entry_eq]
  generalize (lg_sl ([.ref o, .int kd, .int wh]) ++ List.replicate (3 - (lg_sl ([.ref o, .int kd, .int wh])).length) Slot.unset).toArray = ls at hl ⊢
  have hl : lv_has ls 3 [(0, .ref o), (1, .int kd), (2, .int wh)] := hl
  refine lv_aload_n hx hb dX11_total_0 rfl (lv_at hl 0 rfl) ?_
  refine lv_iload_n hx hb dX11_total_1 rfl (lv_at hl 1 rfl) ?_
  obtain ⟨x_1, x_2, x_3, x_4, x_5, x_6, x_7, x_8, x_9, x_10, x_11, x_12, x_13, hS_o, hT_x_1, hT_x_2, hT_x_3, hT_x_4, hT_x_5, hT_x_6, hT_x_7, hT_x_8, hT_x_9, hT_x_10, hT_x_11, hT_x_12⟩ := hTy.k11 hT_o
  refine vp_callSi (va_Run.run (va_runV (As := [.int kd]) (rest := []) ⟨hx, hb, hml, hown, hT⟩ (o_noKind l dC dI cy L kap pr S s.heap.size o kd hTy hT_o) (cwV 1 hT (gV w606 w608 ws24 w1 w609) rfl rfl rfl (by decide +kernel) ⟨(Nat.le_of_ble_eq_true rfl), (Nat.le_of_ble_eq_true rfl)⟩) ⟨pcN.blind, pl_recv hK hW hT_o.1 hS_o rfl, pcN.pre hW.1 hK hW.2.1 hN (fun q h => absurd h List.not_mem_nil)⟩ rfl rfl hl.1 rfl (lv_room (Nat.le_of_ble_eq_true rfl)) dX11_total_2 ⟨(Nat.le_of_ble_eq_true rfl), (Nat.le_of_ble_eq_true rfl)⟩)) (fun r_14 hr_14 => ?_)
  rcases hr_14 with hc_ | hc_
  · obtain rfl : r_14 = 1 := hc_
    refine lv_if_eq (tgt := 11) hx hb dX11_total_5 (by decide) (fun h => absurd h (by decide)) (fun _ => ?_)
    refine lv_bipush (v := (-2)) hx hb dX11_total_8 (by decide) ?_
    exact W.iret (v := (-2)) hx hb hr (fun t ht h9 => ⟨⟨(-2), S, rfl, ⟨hTy, hFr⟩, by rw [ht]; exact hW.1, va_K.moved h9.alike hK, hW.2.1⟩, hW.2.2.F ht⟩) hW.2.2.2.2 dX11_total_10
  · obtain ⟨rfl, k_15, hb_k_15, rfl⟩ := hc_
    refine lv_if_eq (tgt := 11) hx hb dX11_total_5 (by decide) (fun _ => ?_) (fun h => absurd (by decide) h)
    refine lv_aload_n hx hb dX11_total_11 rfl (lv_at hl 0 rfl) ?_
    refine lv_iload_n hx hb dX11_total_12 rfl (lv_at hl 1 rfl) ?_
    refine lv_iconst (v := (-1)) hx hb dX11_total_13 (by decide) ?_
    refine pl_callv (va_runV (As := [.int (nI k_15), .int (-1)]) (rest := []) ⟨hx, hb, hml, hown, hT⟩ (o_gather l dC dI cy L kap pr S s.heap.size o (nI k_15) (-1) hTy hT_o) (cwV 2 hT (gV w669 w671 ws30 w1 w672) rfl rfl rfl (by decide +kernel) ⟨(Nat.le_of_ble_eq_true rfl), (Nat.le_of_ble_eq_true rfl)⟩) ⟨pcN.blind, pl_recv hK hW hT_o.1 hS_o rfl, pcN.pre hW.1 hK hW.2.1 hN (fun q h => absurd h List.not_mem_nil)⟩ rfl rfl hl.1 rfl (lv_room (Nat.le_of_ble_eq_true rfl)) dX11_total_14 ⟨(Nat.le_of_ble_eq_true rfl), (Nat.le_of_ble_eq_true rfl)⟩) hW hA0 hA (fun S_16 H locs hrel hW => ?_)
    obtain ⟨hTy, hF1⟩ := hrel
    have hFr := hFr.tr hF1 (by decide)
    have hS_o := hF1.at hT_o (by decide) hS_o
    refine lv_iload_n hx hb dX11_total_17 rfl (lv_at hl 2 rfl) ?_
    by_cases hk_18_0 : wh = 0
    · subst hk_18_0
      refine lv_tableIn (off := 30) (tgt := 48) hx hb dX11_total_18 (by decide) (by decide) rfl (by decide) ?_
      refine lv_aload_n hx hb dX11_total_48 rfl (lv_at hl 0 rfl) ?_
      refine pl_get (ci := 11) (v := .ref x_4) (C := RX11) (T := TX11) (N := 13) hx hb hT iX11 hown hK hW hT_o.1 hS_o rfl 3 (by decide) w356 rfl dX11_total_49 ?_
      obtain ⟨x_17, x_18, hS_x_4, hT_x_17, hb_x_18⟩ := hTy.k1 hT_x_4
      refine vp_callSl (va_Run.run (va_runV (As := []) (rest := []) ⟨hx, hb, hml, hown, hT⟩ (s_fsum l dC dI cy L kap pr S_16 H.size x_4 hTy hT_x_4) (cwV 0 hT (gV w892 w893 w894 w8 w895) rfl rfl rfl (by decide +kernel) ⟨(Nat.le_of_ble_eq_true rfl), (Nat.le_of_ble_eq_true rfl)⟩) ⟨pcN.blind, pl_recv hK hW hT_x_4.1 hS_x_4 rfl, pcN.pre hW.1 hK hW.2.1 hN (fun q h => absurd h List.not_mem_nil)⟩ rfl rfl hl.1 rfl (lv_room (Nat.le_of_ble_eq_true rfl)) dX11_total_52 ⟨(Nat.le_of_ble_eq_true rfl), (Nat.le_of_ble_eq_true rfl)⟩)) (fun r_19 hr_19 => ?_)
      refine lv_l2i hx hb dX11_total_55 rfl ?_
      refine lv_topi (fun z_20 ez_20 => ?_)
      exact W.iret (v := z_20) hx hb hr (fun t ht h9 => ⟨⟨z_20, S_16, rfl, ⟨hTy, hFr⟩, by rw [ht]; exact hW.1, va_K.moved h9.alike hK, hW.2.1⟩, hW.2.2.F ht⟩) hW.2.2.2.2 dX11_total_56
    by_cases hk_18_1 : wh = 1
    · subst hk_18_1
      refine lv_tableIn (off := 39) (tgt := 57) hx hb dX11_total_18 (by decide) (by decide) rfl (by decide) ?_
      refine lv_aload_n hx hb dX11_total_57 rfl (lv_at hl 0 rfl) ?_
      refine pl_get (ci := 11) (v := .ref x_4) (C := RX11) (T := TX11) (N := 13) hx hb hT iX11 hown hK hW hT_o.1 hS_o rfl 3 (by decide) w356 rfl dX11_total_58 ?_
      obtain ⟨x_21, x_22, hS_x_4, hT_x_21, hb_x_22⟩ := hTy.k1 hT_x_4
      refine vp_callSi (va_Run.run (va_runV (As := []) (rest := []) ⟨hx, hb, hml, hown, hT⟩ (s_aboveZero l dC dI cy L kap pr S_16 H.size x_4 hTy hT_x_4) (cwV 0 hT (gV w896 w897 w898 w8 w899) rfl rfl rfl (by decide +kernel) ⟨(Nat.le_of_ble_eq_true rfl), (Nat.le_of_ble_eq_true rfl)⟩) ⟨pcN.blind, pl_recv hK hW hT_x_4.1 hS_x_4 rfl, pcN.pre hW.1 hK hW.2.1 hN (fun q h => absurd h List.not_mem_nil)⟩ rfl rfl hl.1 rfl (lv_room (Nat.le_of_ble_eq_true rfl)) dX11_total_61 ⟨(Nat.le_of_ble_eq_true rfl), (Nat.le_of_ble_eq_true rfl)⟩)) (fun r_23 hr_23 => ?_)
      exact W.iret (v := r_23) hx hb hr (fun t ht h9 => ⟨⟨r_23, S_16, rfl, ⟨hTy, hFr⟩, by rw [ht]; exact hW.1, va_K.moved h9.alike hK, hW.2.1⟩, hW.2.2.F ht⟩) hW.2.2.2.2 dX11_total_64
    by_cases hk_18_2 : wh = 2
    · subst hk_18_2
      refine lv_tableIn (off := 47) (tgt := 65) hx hb dX11_total_18 (by decide) (by decide) rfl (by decide) ?_
      refine lv_aload_n hx hb dX11_total_65 rfl (lv_at hl 0 rfl) ?_
      refine pl_get (ci := 11) (v := .ref x_12) (C := RX11) (T := TX11) (N := 13) hx hb hT iX11 hown hK hW hT_o.1 hS_o rfl 11 (by decide) w364 rfl dX11_total_66 ?_
      refine lv_iload_n hx hb dX11_total_69 rfl (lv_at hl 1 rfl) ?_
      obtain ⟨x_24, x_25, x_26, x_27, x_28, x_29, x_30, x_31, hS_x_12, hT_x_24, hT_x_25, hT_x_26, hT_x_27, hT_x_28, hT_x_29, hb_x_30⟩ := hTy.k0 hT_x_12
      refine vp_callSl (va_Run.run (va_runV (As := [.int (nI k_15)]) (rest := []) ⟨hx, hb, hml, hown, hT⟩ (s_keptOf l dC dI cy L kap pr S_16 H.size x_12 (nI k_15) hTy hT_x_12) (cwV 1 hT (gV w901 w902 w903 w5 w904) rfl rfl rfl (by decide +kernel) ⟨(Nat.le_of_ble_eq_true rfl), (Nat.le_of_ble_eq_true rfl)⟩) ⟨pcN.blind, pl_recv hK hW hT_x_12.1 hS_x_12 rfl, pcN.pre hW.1 hK hW.2.1 hN (fun q h => absurd h List.not_mem_nil)⟩ rfl rfl hl.1 rfl (lv_room (Nat.le_of_ble_eq_true rfl)) dX11_total_70 ⟨(Nat.le_of_ble_eq_true rfl), (Nat.le_of_ble_eq_true rfl)⟩)) (fun r_32 hr_32 => ?_)
      refine lv_l2i hx hb dX11_total_73 rfl ?_
      refine lv_topi (fun z_33 ez_33 => ?_)
      exact W.iret (v := z_33) hx hb hr (fun t ht h9 => ⟨⟨z_33, S_16, rfl, ⟨hTy, hFr⟩, by rw [ht]; exact hW.1, va_K.moved h9.alike hK, hW.2.1⟩, hW.2.2.F ht⟩) hW.2.2.2.2 dX11_total_74
    by_cases hk_18_3 : wh = 3
    · subst hk_18_3
      refine lv_tableIn (off := 57) (tgt := 75) hx hb dX11_total_18 (by decide) (by decide) rfl (by decide) ?_
      refine lv_aload_n hx hb dX11_total_75 rfl (lv_at hl 0 rfl) ?_
      refine pl_get (ci := 11) (v := .ref x_4) (C := RX11) (T := TX11) (N := 13) hx hb hT iX11 hown hK hW hT_o.1 hS_o rfl 3 (by decide) w356 rfl dX11_total_76 ?_
      obtain ⟨x_34, x_35, hS_x_4, hT_x_34, hb_x_35⟩ := hTy.k1 hT_x_4
      refine vp_callSl (va_Run.run (va_runV (As := []) (rest := []) ⟨hx, hb, hml, hown, hT⟩ (s_netsAbove l dC dI cy L kap pr S_16 H.size x_4 hTy hT_x_4) (cwV 0 hT (gV w905 w906 w907 w8 w908) rfl rfl rfl (by decide +kernel) ⟨(Nat.le_of_ble_eq_true rfl), (Nat.le_of_ble_eq_true rfl)⟩) ⟨pcN.blind, pl_recv hK hW hT_x_4.1 hS_x_4 rfl, pcN.pre hW.1 hK hW.2.1 hN (fun q h => absurd h List.not_mem_nil)⟩ rfl rfl hl.1 rfl (lv_room (Nat.le_of_ble_eq_true rfl)) dX11_total_79 ⟨(Nat.le_of_ble_eq_true rfl), (Nat.le_of_ble_eq_true rfl)⟩)) (fun r_36 hr_36 => ?_)
      refine lv_l2i hx hb dX11_total_82 rfl ?_
      refine lv_topi (fun z_37 ez_37 => ?_)
      exact W.iret (v := z_37) hx hb hr (fun t ht h9 => ⟨⟨z_37, S_16, rfl, ⟨hTy, hFr⟩, by rw [ht]; exact hW.1, va_K.moved h9.alike hK, hW.2.1⟩, hW.2.2.F ht⟩) hW.2.2.2.2 dX11_total_83
    refine lv_tableOut (tgt := 84) hx hb dX11_total_18 (swout_0_3 hk_18_0 hk_18_1 hk_18_2 hk_18_3) (by decide) ?_
    refine lv_bipush (v := (-2)) hx hb dX11_total_84 (by decide) ?_
    exact W.iret (v := (-2)) hx hb hr (fun t ht h9 => ⟨⟨(-2), S_16, rfl, ⟨hTy, hFr⟩, by rw [ht]; exact hW.1, va_K.moved h9.alike hK, hW.2.1⟩, hW.2.2.F ht⟩) hW.2.2.2.2 dX11_total_86

set_option maxHeartbeats 4000000 in
set_option maxRecDepth 100000 in
theorem k_bound (l : Launch) (dC : Nat → ClassId) (dI : Nat → Nat → Nat) (cy : Nat → ClassId) (L : List Nat) (kap : Nat → Nat) (pr : Pr) (S : Nat → va_E) (sz : Nat) (o : Nat) (fa : Int32) (fb : Int32) (kd : Int32) (hTy : Ty cy L kap pr S) (hT_o : TK L kap o 11) : Met l yX11_bound (wT yX11_bound cX11_bound 4 (some .int)) ({ frames := 3, cells := 0, slots := 0, locals := 71 }) (pcN dC dI [.ref o, .int fa, .int fb, .int kd] sz (va_pl L S) (cyT cy) NLs []) (va_Qi (fun r S' => Ty cy L kap pr S' ∧ Fr kap [1, 29] S S') (fun S' t => pB dC dI (AL L sz) (va_pl L S') (cyT cy) t) (AL L sz)) 0 0 (AL L sz) := by
  refine Met.ofW (cc := cX11_bound) (maxL := 4) (ret := (some .int)) (by decide) rfl ?_
  intro p e s m args below meth c s₁ B hml hv
  obtain ⟨rfl, hsz, hP, hK, hD0, hN, -⟩ := hv
  have hx := B.exec
  have hb := B.bytes
  have hr := B.returns
  have hT : ∀ wd ∈ TB, wd.before [.ref o, .int fa, .int fb, .int kd].toArray s = true := fun wd h => atoms_spec (ws := wT yX11_bound cX11_bound 4 (some .int)) B.pre wd (List.mem_cons_of_mem _ h)
  have hown : s.vm.findClass RX11 = some m.cls := findClass_of_methodNamed B.named
  have hlocks := B.notSynchronized
  subst hsz
  have hW : PW dC dI L (AL L s.heap.size) s.heap S s.heap [] := ⟨hP, pl_self hD0, va_S.rf⟩
  have hA0 : ∀ q, q ∈ L → AL L s.heap.size q := fun _ h => Or.inl h
  have hA : ∀ q, s.heap.size ≤ q → AL L s.heap.size q := fun _ h => Or.inr h
  have hFr : Fr kap [1, 29] S S := Fr.rf
  have hl := lv_entry ([.ref o, .int fa, .int fb, .int kd]) (n := 4) (Nat.le_of_ble_eq_true rfl)
  rw [lg_entry_eq]
  generalize (lg_sl ([.ref o, .int fa, .int fb, .int kd]) ++ List.replicate (4 - (lg_sl ([.ref o, .int fa, .int fb, .int kd])).length) Slot.unset).toArray = ls at hl ⊢
  have hl : lv_has ls 4 [(0, .ref o), (1, .int fa), (2, .int fb), (3, .int kd)] := hl
  refine lv_aload_n hx hb dX11_bound_0 rfl (lv_at hl 0 rfl) ?_
  refine lv_iload_n hx hb dX11_bound_1 rfl (lv_at hl 1 rfl) ?_
  refine lv_iload_n hx hb dX11_bound_2 rfl (lv_at hl 2 rfl) ?_
  obtain ⟨x_1, x_2, x_3, x_4, x_5, x_6, x_7, x_8, x_9, x_10, x_11, x_12, x_13, hS_o, hT_x_1, hT_x_2, hT_x_3, hT_x_4, hT_x_5, hT_x_6, hT_x_7, hT_x_8, hT_x_9, hT_x_10, hT_x_11, hT_x_12⟩ := hTy.k11 hT_o
  refine vp_callSi (va_Run.run (va_runV (As := [.int fa, .int fb]) (rest := []) ⟨hx, hb, hml, hown, hT⟩ (o_noCouple l dC dI cy L kap pr S s.heap.size o fa fb hTy hT_o) (cwV 2 hT (gV w598 w600 ws22 w1 w601) rfl rfl rfl (by decide +kernel) ⟨(Nat.le_of_ble_eq_true rfl), (Nat.le_of_ble_eq_true rfl)⟩) ⟨pcN.blind, pl_recv hK hW hT_o.1 hS_o rfl, pcN.pre hW.1 hK hW.2.1 hN (fun q h => absurd h List.not_mem_nil)⟩ rfl rfl hl.1 rfl (lv_room (Nat.le_of_ble_eq_true rfl)) dX11_bound_3 ⟨(Nat.le_of_ble_eq_true rfl), (Nat.le_of_ble_eq_true rfl)⟩)) (fun r_14 hr_14 => ?_)
  rcases hr_14 with hc_ | hc_
  · obtain rfl : r_14 = 1 := hc_
    refine lv_if_ne (tgt := 17) hx hb dX11_bound_6 (by decide) (fun _ => ?_) (fun h => absurd h (by decide))
    refine lv_bipush (v := (-2)) hx hb dX11_bound_17 (by decide) ?_
    exact W.iret (v := (-2)) hx hb hr (fun t ht h9 => ⟨⟨(-2), S, rfl, ⟨hTy, hFr⟩, by rw [ht]; exact hW.1, va_K.moved h9.alike hK, hW.2.1⟩, hW.2.2.F ht⟩) hW.2.2.2.2 dX11_bound_19
  · obtain ⟨rfl, ⟨k_15, hb_k_15, rfl⟩, ⟨k_16, hb_k_16, rfl⟩⟩ := hc_
    refine lv_if_ne (tgt := 17) hx hb dX11_bound_6 (by decide) (fun h => absurd (by decide) h) (fun _ => ?_)
    refine lv_aload_n hx hb dX11_bound_9 rfl (lv_at hl 0 rfl) ?_
    refine lv_iload_n hx hb dX11_bound_10 rfl (lv_at hl 3 rfl) ?_
    refine vp_callSi (va_Run.run (va_runV (As := [.int kd]) (rest := []) ⟨hx, hb, hml, hown, hT⟩ (o_noKind l dC dI cy L kap pr S s.heap.size o kd hTy hT_o) (cwV 1 hT (gV w606 w608 ws24 w1 w609) rfl rfl rfl (by decide +kernel) ⟨(Nat.le_of_ble_eq_true rfl), (Nat.le_of_ble_eq_true rfl)⟩) ⟨pcN.blind, pl_recv hK hW hT_o.1 hS_o rfl, pcN.pre hW.1 hK hW.2.1 hN (fun q h => absurd h List.not_mem_nil)⟩ rfl rfl hl.1 rfl (lv_room (Nat.le_of_ble_eq_true rfl)) dX11_bound_11 ⟨(Nat.le_of_ble_eq_true rfl), (Nat.le_of_ble_eq_true rfl)⟩)) (fun r_17 hr_17 => ?_)
    rcases hr_17 with hc_ | hc_
    · obtain rfl : r_17 = 1 := hc_
      refine lv_if_eq (tgt := 20) hx hb dX11_bound_14 (by decide) (fun h => absurd h (by decide)) (fun _ => ?_)
      refine lv_bipush (v := (-2)) hx hb dX11_bound_17 (by decide) ?_
      exact W.iret (v := (-2)) hx hb hr (fun t ht h9 => ⟨⟨(-2), S, rfl, ⟨hTy, hFr⟩, by rw [ht]; exact hW.1, va_K.moved h9.alike hK, hW.2.1⟩, hW.2.2.F ht⟩) hW.2.2.2.2 dX11_bound_19
    · obtain ⟨rfl, k_18, hb_k_18, rfl⟩ := hc_
      refine lv_if_eq (tgt := 20) hx hb dX11_bound_14 (by decide) (fun _ => ?_) (fun h => absurd (by decide) h)
      refine lv_aload_n hx hb dX11_bound_20 rfl (lv_at hl 0 rfl) ?_
      refine lv_iload_n hx hb dX11_bound_21 rfl (lv_at hl 3 rfl) ?_
      refine lv_iconst (v := (-1)) hx hb dX11_bound_22 (by decide) ?_
      refine pl_callv (va_runV (As := [.int (nI k_18), .int (-1)]) (rest := []) ⟨hx, hb, hml, hown, hT⟩ (o_gather l dC dI cy L kap pr S s.heap.size o (nI k_18) (-1) hTy hT_o) (cwV 2 hT (gV w669 w671 ws30 w1 w672) rfl rfl rfl (by decide +kernel) ⟨(Nat.le_of_ble_eq_true rfl), (Nat.le_of_ble_eq_true rfl)⟩) ⟨pcN.blind, pl_recv hK hW hT_o.1 hS_o rfl, pcN.pre hW.1 hK hW.2.1 hN (fun q h => absurd h List.not_mem_nil)⟩ rfl rfl hl.1 rfl (lv_room (Nat.le_of_ble_eq_true rfl)) dX11_bound_23 ⟨(Nat.le_of_ble_eq_true rfl), (Nat.le_of_ble_eq_true rfl)⟩) hW hA0 hA (fun S_19 H locs hrel hW => ?_)
      obtain ⟨hTy, hF1⟩ := hrel
      have hFr := hFr.tr hF1 (by decide)
      have hS_o := hF1.at hT_o (by decide) hS_o
      refine lv_aload_n hx hb dX11_bound_26 rfl (lv_at hl 0 rfl) ?_
      refine pl_get (ci := 11) (v := .ref x_12) (C := RX11) (T := TX11) (N := 13) hx hb hT iX11 hown hK hW hT_o.1 hS_o rfl 11 (by decide) w364 rfl dX11_bound_27 ?_
      refine lv_aload_n hx hb dX11_bound_30 rfl (lv_at hl 0 rfl) ?_
      refine pl_get (ci := 11) (v := .ref x_4) (C := RX11) (T := TX11) (N := 13) hx hb hT iX11 hown hK hW hT_o.1 hS_o rfl 3 (by decide) w356 rfl dX11_bound_31 ?_
      refine lv_iload_n hx hb dX11_bound_34 rfl (lv_at hl 1 rfl) ?_
      refine lv_iload_n hx hb dX11_bound_35 rfl (lv_at hl 2 rfl) ?_
      refine vp_callSl (va_Run.run (va_runS (As := [.ref x_12, .ref x_4, .int (nI k_15), .int (nI k_16)]) (rest := []) ⟨hx, hb, hml, hown, hT⟩ (s_boundOf l dC dI cy L kap pr S_19 H.size x_12 x_4 k_15 k_16 hTy hT_x_12 hT_x_4 (by omega) (by omega)) (va_cwS 4 hT (gS w915 w764 w1 w765) rfl rfl rfl (by decide +kernel) ⟨(Nat.le_of_ble_eq_true rfl), (Nat.le_of_ble_eq_true rfl)⟩) ⟨pcN.blind, pcN.pre hW.1 hK hW.2.1 hN (fun q h => absurd h List.not_mem_nil)⟩ rfl rfl hl.1 rfl (lv_room (Nat.le_of_ble_eq_true rfl)) dX11_bound_36 ⟨(Nat.le_of_ble_eq_true rfl), (Nat.le_of_ble_eq_true rfl)⟩)) (fun r_20 hr_20 => ?_)
      refine lv_l2i hx hb dX11_bound_39 rfl ?_
      refine lv_topi (fun z_21 ez_21 => ?_)
      exact W.iret (v := z_21) hx hb hr (fun t ht h9 => ⟨⟨z_21, S_19, rfl, ⟨hTy, hFr⟩, by rw [ht]; exact hW.1, va_K.moved h9.alike hK, hW.2.1⟩, hW.2.2.F ht⟩) hW.2.2.2.2 dX11_bound_40

set_option maxHeartbeats 4000000 in
set_option maxRecDepth 100000 in
theorem k_ring (l : Launch) (dC : Nat → ClassId) (dI : Nat → Nat → Nat) (cy : Nat → ClassId) (L : List Nat) (kap : Nat → Nat) (pr : Pr) (S : Nat → va_E) (sz : Nat) (o : Nat) (kd : Int32) (ix : Int32) (hTy : Ty cy L kap pr S) (hT_o : TK L kap o 11) : Met l yX11_ring (wT yX11_ring cX11_ring 3 (some .int)) ({ frames := 6, cells := 0, slots := 0, locals := 135 }) (pcN dC dI [.ref o, .int kd, .int ix] sz (va_pl L S) (cyT cy) NLs []) (va_Qi (fun r S' => Ty cy L kap pr S' ∧ Fr kap [1, 7, 29, 31, 32, 42] S S') (fun S' t => pB dC dI (AL L sz) (va_pl L S') (cyT cy) t) (AL L sz)) 0 0 (AL L sz) := by
  refine Met.ofW (cc := cX11_ring) (maxL := 3) (ret := (some .int)) (by decide) rfl ?_
  intro p e s m args below meth c s₁ B hml hv
  obtain ⟨rfl, hsz, hP, hK, hD0, hN, -⟩ := hv
  have hx := B.exec
  have hb := B.bytes
  have hr := B.returns
  have hT : ∀ wd ∈ TB, wd.before [.ref o, .int kd, .int ix].toArray s = true := fun wd h => atoms_spec (ws := wT yX11_ring cX11_ring 3 (some .int)) B.pre wd (List.mem_cons_of_mem _ h)
  have hown : s.vm.findClass RX11 = some m.cls := findClass_of_methodNamed B.named
  have hlocks := B.notSynchronized
  subst hsz
  have hW : PW dC dI L (AL L s.heap.size) s.heap S s.heap [] := ⟨hP, pl_self hD0, va_S.rf⟩
  have hA0 : ∀ q, q ∈ L → AL L s.heap.size q := fun _ h => Or.inl h
  have hA : ∀ q, s.heap.size ≤ q → AL L s.heap.size q := fun _ h => Or.inr h
  have hFr : Fr kap [1, 7, 29, 31, 32, 42] S S := Fr.rf
  have hl := lv_entry ([.ref o, .int kd, .int ix]) (n := 3) (Nat.le_of_ble_eq_true rfl)
  rw [lg_entry_eq]
  generalize (lg_sl ([.ref o, .int kd, .int ix]) ++ List.replicate (3 - (lg_sl ([.ref o, .int kd, .int ix])).length) Slot.unset).toArray = ls at hl ⊢
  have hl : lv_has ls 3 [(0, .ref o), (1, .int kd), (2, .int ix)] := hl
  refine lv_aload_n hx hb dX11_ring_0 rfl (lv_at hl 0 rfl) ?_
  refine lv_iload_n hx hb dX11_ring_1 rfl (lv_at hl 1 rfl) ?_
  obtain ⟨x_1, x_2, x_3, x_4, x_5, x_6, x_7, x_8, x_9, x_10, x_11, x_12, x_13, hS_o, hT_x_1, hT_x_2, hT_x_3, hT_x_4, hT_x_5, hT_x_6, hT_x_7, hT_x_8, hT_x_9, hT_x_10, hT_x_11, hT_x_12⟩ := hTy.k11 hT_o
  refine vp_callSi (va_Run.run (va_runV (As := [.int kd]) (rest := []) ⟨hx, hb, hml, hown, hT⟩ (o_noKind l dC dI cy L kap pr S s.heap.size o kd hTy hT_o) (cwV 1 hT (gV w606 w608 ws24 w1 w609) rfl rfl rfl (by decide +kernel) ⟨(Nat.le_of_ble_eq_true rfl), (Nat.le_of_ble_eq_true rfl)⟩) ⟨pcN.blind, pl_recv hK hW hT_o.1 hS_o rfl, pcN.pre hW.1 hK hW.2.1 hN (fun q h => absurd h List.not_mem_nil)⟩ rfl rfl hl.1 rfl (lv_room (Nat.le_of_ble_eq_true rfl)) dX11_ring_2 ⟨(Nat.le_of_ble_eq_true rfl), (Nat.le_of_ble_eq_true rfl)⟩)) (fun r_14 hr_14 => ?_)
  rcases hr_14 with hc_ | hc_
  · obtain rfl : r_14 = 1 := hc_
    refine lv_if_eq (tgt := 11) hx hb dX11_ring_5 (by decide) (fun h => absurd h (by decide)) (fun _ => ?_)
    refine lv_bipush (v := (-2)) hx hb dX11_ring_8 (by decide) ?_
    exact W.iret (v := (-2)) hx hb hr (fun t ht h9 => ⟨⟨(-2), S, rfl, ⟨hTy, hFr⟩, by rw [ht]; exact hW.1, va_K.moved h9.alike hK, hW.2.1⟩, hW.2.2.F ht⟩) hW.2.2.2.2 dX11_ring_10
  · obtain ⟨rfl, k_15, hb_k_15, rfl⟩ := hc_
    refine lv_if_eq (tgt := 11) hx hb dX11_ring_5 (by decide) (fun _ => ?_) (fun h => absurd (by decide) h)
    refine lv_iload_n hx hb dX11_ring_11 rfl (lv_at hl 2 rfl) ?_
    refine lv_iconst (v := (-1)) hx hb dX11_ring_12 (by decide) ?_
    refine lv_icmp_ge (tgt := 19) hx hb dX11_ring_13 (by decide) (fun c_13 => ?_) (fun c_13 => ?_)
    · refine lv_aload_n hx hb dX11_ring_19 rfl (lv_at hl 0 rfl) ?_
      refine lv_iload_n hx hb dX11_ring_20 rfl (lv_at hl 1 rfl) ?_
      refine pl_callv (va_runV (As := [.int (nI k_15)]) (rest := []) ⟨hx, hb, hml, hown, hT⟩ (o_findRing l dC dI cy L kap pr S s.heap.size o (nI k_15) hTy hT_o) (cwV 1 hT (gV w665 w667 ws29 w1 w668) rfl rfl rfl (by decide +kernel) ⟨(Nat.le_of_ble_eq_true rfl), (Nat.le_of_ble_eq_true rfl)⟩) ⟨pcN.blind, pl_recv hK hW hT_o.1 hS_o rfl, pcN.pre hW.1 hK hW.2.1 hN (fun q h => absurd h List.not_mem_nil)⟩ rfl rfl hl.1 rfl (lv_room (Nat.le_of_ble_eq_true rfl)) dX11_ring_21 ⟨(Nat.le_of_ble_eq_true rfl), (Nat.le_of_ble_eq_true rfl)⟩) hW hA0 hA (fun S_16 H locs hrel hW => ?_)
      obtain ⟨hTy, hF1⟩ := hrel
      have hFr := hFr.tr hF1 (by decide)
      have hS_o := hF1.at hT_o (by decide) hS_o
      refine lv_aload_n hx hb dX11_ring_24 rfl (lv_at hl 0 rfl) ?_
      refine pl_get (ci := 11) (v := .ref x_5) (C := RX11) (T := TX11) (N := 13) hx hb hT iX11 hown hK hW hT_o.1 hS_o rfl 4 (by decide) w357 rfl dX11_ring_25 ?_
      obtain ⟨x_17, x_18, x_19, x_20, x_21, x_22, hS_x_5, hT_x_17, hb_x_18, hT_x_21, hT_x_22⟩ := hTy.k7 hT_x_5
      refine pl_get (ci := 7) (v := .int (nI x_18)) (C := RX7) (T := TX7) (N := 6) hx hb hT iX7 hown hK hW hT_x_5.1 hS_x_5 rfl 1 (by decide) w219 rfl dX11_ring_28 ?_
      refine lv_if_eq (tgt := 45) hx hb dX11_ring_31 (by decide) (fun c_31 => ?_) (fun c_31 => ?_)
      · have c_31 : x_18 = 0 := (nI_eq (a := x_18) (b := 0) (by omega) (by omega)).mp c_31
        refine lv_iconst (v := (-1)) hx hb dX11_ring_45 (by decide) ?_
        exact W.iret (v := (-1)) hx hb hr (fun t ht h9 => ⟨⟨(-1), S_16, rfl, ⟨hTy, hFr⟩, by rw [ht]; exact hW.1, va_K.moved h9.alike hK, hW.2.1⟩, hW.2.2.F ht⟩) hW.2.2.2.2 dX11_ring_46
      · have c_31 : ¬ (x_18 = 0) := fun hh9 => c_31 ((nI_eq (a := x_18) (b := 0) (by omega) (by omega)).mpr hh9)
        refine lv_iload_n hx hb dX11_ring_34 rfl (lv_at hl 2 rfl) ?_
        refine lv_aload_n hx hb dX11_ring_35 rfl (lv_at hl 0 rfl) ?_
        refine pl_get (ci := 11) (v := .ref x_5) (C := RX11) (T := TX11) (N := 13) hx hb hT iX11 hown hK hW hT_o.1 hS_o rfl 4 (by decide) w357 rfl dX11_ring_36 ?_
        refine pl_get (ci := 7) (v := .int (nI x_18)) (C := RX7) (T := TX7) (N := 6) hx hb hT iX7 hown hK hW hT_x_5.1 hS_x_5 rfl 1 (by decide) w219 rfl dX11_ring_39 ?_
        refine lv_icmp_lt (tgt := 47) hx hb dX11_ring_42 (by decide) (fun c_42 => ?_) (fun c_42 => ?_)
        · refine lv_iload_n hx hb dX11_ring_47 rfl (lv_at hl 2 rfl) ?_
          refine lv_iconst (v := (-1)) hx hb dX11_ring_48 (by decide) ?_
          refine lv_icmp_ne (tgt := 62) hx hb dX11_ring_49 (by decide) (fun c_49 => ?_) (fun c_49 => ?_)
          · obtain ⟨k_23, hb_k_23, rfl⟩ := nix (n := x_18) c_13 c_49 c_42 (by omega)
            refine lv_aload_n hx hb dX11_ring_62 rfl (lv_at hl 0 rfl) ?_
            refine pl_get (ci := 11) (v := .ref x_5) (C := RX11) (T := TX11) (N := 13) hx hb hT iX11 hown hK hW hT_o.1 hS_o rfl 4 (by decide) w357 rfl dX11_ring_63 ?_
            refine pl_get (ci := 7) (v := .ref x_17) (C := RX7) (T := TX7) (N := 6) hx hb hT iX7 hown hK hW hT_x_5.1 hS_x_5 rfl 0 (by decide) w217 rfl dX11_ring_66 ?_
            refine lv_iload_n hx hb dX11_ring_69 rfl (lv_at hl 2 rfl) ?_
            obtain ⟨f_24, hS_x_17, hi_f_24⟩ := hTy.k42 hT_x_17
            refine pl_iald hx hb hK hW hT_x_17.1 hS_x_17 (vp_in_nI (n := k_23) (N := 8) (by omega) (by omega)) dX11_ring_70 ?_
            refine lv_topi (fun y_25 ey_25 => ?_)
            obtain ⟨k_26, hb_k_26, hq_k_26⟩ := hi_f_24 (k_23) (by omega)
            obtain rfl : y_25 = nI k_26 := ey_25.trans (by show f_24 (nI (k_23)).toNatClampNeg = _; rw [nI_clamp (by omega)]; exact hq_k_26)
            exact W.iret (v := nI k_26) hx hb hr (fun t ht h9 => ⟨⟨nI k_26, S_16, rfl, ⟨hTy, hFr⟩, by rw [ht]; exact hW.1, va_K.moved h9.alike hK, hW.2.1⟩, hW.2.2.F ht⟩) hW.2.2.2.2 dX11_ring_71
          · refine lv_aload_n hx hb dX11_ring_52 rfl (lv_at hl 0 rfl) ?_
            refine pl_get (ci := 11) (v := .ref x_5) (C := RX11) (T := TX11) (N := 13) hx hb hT iX11 hown hK hW hT_o.1 hS_o rfl 4 (by decide) w357 rfl dX11_ring_53 ?_
            refine pl_get (ci := 7) (v := .int (nI x_18)) (C := RX7) (T := TX7) (N := 6) hx hb hT iX7 hown hK hW hT_x_5.1 hS_x_5 rfl 1 (by decide) w219 rfl dX11_ring_56 ?_
            refine lv_goto (tgt := 71) hx hb dX11_ring_59 (by decide) ?_
            exact W.iret (v := nI x_18) hx hb hr (fun t ht h9 => ⟨⟨nI x_18, S_16, rfl, ⟨hTy, hFr⟩, by rw [ht]; exact hW.1, va_K.moved h9.alike hK, hW.2.1⟩, hW.2.2.F ht⟩) hW.2.2.2.2 dX11_ring_71
        · refine lv_iconst (v := (-1)) hx hb dX11_ring_45 (by decide) ?_
          exact W.iret (v := (-1)) hx hb hr (fun t ht h9 => ⟨⟨(-1), S_16, rfl, ⟨hTy, hFr⟩, by rw [ht]; exact hW.1, va_K.moved h9.alike hK, hW.2.1⟩, hW.2.2.F ht⟩) hW.2.2.2.2 dX11_ring_46
    · refine lv_bipush (v := (-3)) hx hb dX11_ring_16 (by decide) ?_
      exact W.iret (v := (-3)) hx hb hr (fun t ht h9 => ⟨⟨(-3), S, rfl, ⟨hTy, hFr⟩, by rw [ht]; exact hW.1, va_K.moved h9.alike hK, hW.2.1⟩, hW.2.2.F ht⟩) hW.2.2.2.2 dX11_ring_18

set_option maxHeartbeats 4000000 in
set_option maxRecDepth 100000 in
theorem k_load (l : Launch) (dC : Nat → ClassId) (dI : Nat → Nat → Nat) (cy : Nat → ClassId) (L : List Nat) (kap : Nat → Nat) (pr : Pr) (S : Nat → va_E) (sz : Nat) (o : Nat) (kd : Int32) (hTy : Ty cy L kap pr S) (hT_o : TK L kap o 11) : Met l yX11_load (wT yX11_load cX11_load 2 (some .int)) ({ frames := 6, cells := 0, slots := 0, locals := 135 }) (pcN dC dI [.ref o, .int kd] sz (va_pl L S) (cyT cy) NLs []) (va_Qi (fun r S' => Ty cy L kap pr S' ∧ Fr kap [1, 7, 29, 31, 32, 42] S S') (fun S' t => pB dC dI (AL L sz) (va_pl L S') (cyT cy) t) (AL L sz)) 0 0 (AL L sz) := by
  refine Met.ofW (cc := cX11_load) (maxL := 2) (ret := (some .int)) (by decide) rfl ?_
  intro p e s m args below meth c s₁ B hml hv
  obtain ⟨rfl, hsz, hP, hK, hD0, hN, -⟩ := hv
  have hx := B.exec
  have hb := B.bytes
  have hr := B.returns
  have hT : ∀ wd ∈ TB, wd.before [.ref o, .int kd].toArray s = true := fun wd h => atoms_spec (ws := wT yX11_load cX11_load 2 (some .int)) B.pre wd (List.mem_cons_of_mem _ h)
  have hown : s.vm.findClass RX11 = some m.cls := findClass_of_methodNamed B.named
  have hlocks := B.notSynchronized
  subst hsz
  have hW : PW dC dI L (AL L s.heap.size) s.heap S s.heap [] := ⟨hP, pl_self hD0, va_S.rf⟩
  have hA0 : ∀ q, q ∈ L → AL L s.heap.size q := fun _ h => Or.inl h
  have hA : ∀ q, s.heap.size ≤ q → AL L s.heap.size q := fun _ h => Or.inr h
  have hFr : Fr kap [1, 7, 29, 31, 32, 42] S S := Fr.rf
  have hl := lv_entry ([.ref o, .int kd]) (n := 2) (Nat.le_of_ble_eq_true rfl)
  rw [lg_entry_eq]
  generalize (lg_sl ([.ref o, .int kd]) ++ List.replicate (2 - (lg_sl ([.ref o, .int kd])).length) Slot.unset).toArray = ls at hl ⊢
  have hl : lv_has ls 2 [(0, .ref o), (1, .int kd)] := hl
  refine lv_aload_n hx hb dX11_load_0 rfl (lv_at hl 0 rfl) ?_
  refine lv_iload_n hx hb dX11_load_1 rfl (lv_at hl 1 rfl) ?_
  obtain ⟨x_1, x_2, x_3, x_4, x_5, x_6, x_7, x_8, x_9, x_10, x_11, x_12, x_13, hS_o, hT_x_1, hT_x_2, hT_x_3, hT_x_4, hT_x_5, hT_x_6, hT_x_7, hT_x_8, hT_x_9, hT_x_10, hT_x_11, hT_x_12⟩ := hTy.k11 hT_o
  refine vp_callSi (va_Run.run (va_runV (As := [.int kd]) (rest := []) ⟨hx, hb, hml, hown, hT⟩ (o_noKind l dC dI cy L kap pr S s.heap.size o kd hTy hT_o) (cwV 1 hT (gV w606 w608 ws24 w1 w609) rfl rfl rfl (by decide +kernel) ⟨(Nat.le_of_ble_eq_true rfl), (Nat.le_of_ble_eq_true rfl)⟩) ⟨pcN.blind, pl_recv hK hW hT_o.1 hS_o rfl, pcN.pre hW.1 hK hW.2.1 hN (fun q h => absurd h List.not_mem_nil)⟩ rfl rfl hl.1 rfl (lv_room (Nat.le_of_ble_eq_true rfl)) dX11_load_2 ⟨(Nat.le_of_ble_eq_true rfl), (Nat.le_of_ble_eq_true rfl)⟩)) (fun r_14 hr_14 => ?_)
  rcases hr_14 with hc_ | hc_
  · obtain rfl : r_14 = 1 := hc_
    refine lv_if_eq (tgt := 11) hx hb dX11_load_5 (by decide) (fun h => absurd h (by decide)) (fun _ => ?_)
    refine lv_bipush (v := (-2)) hx hb dX11_load_8 (by decide) ?_
    exact W.iret (v := (-2)) hx hb hr (fun t ht h9 => ⟨⟨(-2), S, rfl, ⟨hTy, hFr⟩, by rw [ht]; exact hW.1, va_K.moved h9.alike hK, hW.2.1⟩, hW.2.2.F ht⟩) hW.2.2.2.2 dX11_load_10
  · obtain ⟨rfl, k_15, hb_k_15, rfl⟩ := hc_
    refine lv_if_eq (tgt := 11) hx hb dX11_load_5 (by decide) (fun _ => ?_) (fun h => absurd (by decide) h)
    refine lv_aload_n hx hb dX11_load_11 rfl (lv_at hl 0 rfl) ?_
    refine lv_iload_n hx hb dX11_load_12 rfl (lv_at hl 1 rfl) ?_
    refine pl_callv (va_runV (As := [.int (nI k_15)]) (rest := []) ⟨hx, hb, hml, hown, hT⟩ (o_findRing l dC dI cy L kap pr S s.heap.size o (nI k_15) hTy hT_o) (cwV 1 hT (gV w665 w667 ws29 w1 w668) rfl rfl rfl (by decide +kernel) ⟨(Nat.le_of_ble_eq_true rfl), (Nat.le_of_ble_eq_true rfl)⟩) ⟨pcN.blind, pl_recv hK hW hT_o.1 hS_o rfl, pcN.pre hW.1 hK hW.2.1 hN (fun q h => absurd h List.not_mem_nil)⟩ rfl rfl hl.1 rfl (lv_room (Nat.le_of_ble_eq_true rfl)) dX11_load_13 ⟨(Nat.le_of_ble_eq_true rfl), (Nat.le_of_ble_eq_true rfl)⟩) hW hA0 hA (fun S_16 H locs hrel hW => ?_)
    obtain ⟨hTy, hF1⟩ := hrel
    have hFr := hFr.tr hF1 (by decide)
    have hS_o := hF1.at hT_o (by decide) hS_o
    refine lv_aload_n hx hb dX11_load_16 rfl (lv_at hl 0 rfl) ?_
    refine pl_get (ci := 11) (v := .ref x_5) (C := RX11) (T := TX11) (N := 13) hx hb hT iX11 hown hK hW hT_o.1 hS_o rfl 4 (by decide) w357 rfl dX11_load_17 ?_
    obtain ⟨x_17, x_18, x_19, x_20, x_21, x_22, hS_x_5, hT_x_17, hb_x_18, hT_x_21, hT_x_22⟩ := hTy.k7 hT_x_5
    refine pl_get (ci := 7) (v := .int (nI x_18)) (C := RX7) (T := TX7) (N := 6) hx hb hT iX7 hown hK hW hT_x_5.1 hS_x_5 rfl 1 (by decide) w219 rfl dX11_load_20 ?_
    refine lv_if_ne (tgt := 30) hx hb dX11_load_23 (by decide) (fun c_23 => ?_) (fun c_23 => ?_)
    · have c_23 : ¬ (x_18 = 0) := fun hh9 => c_23 ((nI_eq (a := x_18) (b := 0) (by omega) (by omega)).mpr hh9)
      refine lv_aload_n hx hb dX11_load_30 rfl (lv_at hl 0 rfl) ?_
      refine pl_get (ci := 11) (v := .ref x_5) (C := RX11) (T := TX11) (N := 13) hx hb hT iX11 hown hK hW hT_o.1 hS_o rfl 4 (by decide) w357 rfl dX11_load_31 ?_
      refine lv_aload_n hx hb dX11_load_34 rfl (lv_at hl 0 rfl) ?_
      refine pl_get (ci := 11) (v := .ref x_4) (C := RX11) (T := TX11) (N := 13) hx hb hT iX11 hown hK hW hT_o.1 hS_o rfl 3 (by decide) w356 rfl dX11_load_35 ?_
      refine vp_callSl (va_Run.run (va_runV (As := [.ref x_4]) (rest := []) ⟨hx, hb, hml, hown, hT⟩ (s_leastFlow l dC dI cy L kap pr S_16 H.size x_5 x_4 hTy hT_x_5 hT_x_4) (cwV 1 hT (gV w706 w707 w708 w9 w709) rfl rfl rfl (by decide +kernel) ⟨(Nat.le_of_ble_eq_true rfl), (Nat.le_of_ble_eq_true rfl)⟩) ⟨pcN.blind, pl_recv hK hW hT_x_5.1 hS_x_5 rfl, pcN.pre hW.1 hK hW.2.1 hN (fun q h => absurd h List.not_mem_nil)⟩ rfl rfl hl.1 rfl (lv_room (Nat.le_of_ble_eq_true rfl)) dX11_load_38 ⟨(Nat.le_of_ble_eq_true rfl), (Nat.le_of_ble_eq_true rfl)⟩)) (fun r_23 hr_23 => ?_)
      refine lv_l2i hx hb dX11_load_41 rfl ?_
      refine lv_topi (fun z_24 ez_24 => ?_)
      exact W.iret (v := z_24) hx hb hr (fun t ht h9 => ⟨⟨z_24, S_16, rfl, ⟨hTy, hFr⟩, by rw [ht]; exact hW.1, va_K.moved h9.alike hK, hW.2.1⟩, hW.2.2.F ht⟩) hW.2.2.2.2 dX11_load_42
    · have c_23 : x_18 = 0 := (nI_eq (a := x_18) (b := 0) (by omega) (by omega)).mp c_23
      refine lv_iconst (v := (-1)) hx hb dX11_load_26 (by decide) ?_
      refine lv_goto (tgt := 42) hx hb dX11_load_27 (by decide) ?_
      exact W.iret (v := (-1)) hx hb hr (fun t ht h9 => ⟨⟨(-1), S_16, rfl, ⟨hTy, hFr⟩, by rw [ht]; exact hW.1, va_K.moved h9.alike hK, hW.2.1⟩, hW.2.2.F ht⟩) hW.2.2.2.2 dX11_load_42

set_option maxHeartbeats 4000000 in
set_option maxRecDepth 100000 in
theorem k_cleared (l : Launch) (dC : Nat → ClassId) (dI : Nat → Nat → Nat) (cy : Nat → ClassId) (L : List Nat) (kap : Nat → Nat) (pr : Pr) (S : Nat → va_E) (sz : Nat) (o : Nat) (kd : Int32) (wh : Int32) (hTy : Ty cy L kap pr S) (hT_o : TK L kap o 11) : Met l yX11_cleared (wT yX11_cleared cX11_cleared 3 (some .int)) ({ frames := 6, cells := 0, slots := 0, locals := 140 }) (pcN dC dI [.ref o, .int kd, .int wh] sz (va_pl L S) (cyT cy) NLs []) (va_Qi (fun r S' => Ty cy L kap pr S' ∧ Fr kap [1, 7, 29, 31, 32, 42] S S') (fun S' t => pB dC dI (AL L sz) (va_pl L S') (cyT cy) t) (AL L sz)) 0 0 (AL L sz) := by
  refine Met.ofW (cc := cX11_cleared) (maxL := 3) (ret := (some .int)) (by decide) rfl ?_
  intro p e s m args below meth c s₁ B hml hv
  obtain ⟨rfl, hsz, hP, hK, hD0, hN, -⟩ := hv
  have hx := B.exec
  have hb := B.bytes
  have hr := B.returns
  have hT : ∀ wd ∈ TB, wd.before [.ref o, .int kd, .int wh].toArray s = true := fun wd h => atoms_spec (ws := wT yX11_cleared cX11_cleared 3 (some .int)) B.pre wd (List.mem_cons_of_mem _ h)
  have hown : s.vm.findClass RX11 = some m.cls := findClass_of_methodNamed B.named
  have hlocks := B.notSynchronized
  subst hsz
  have hW : PW dC dI L (AL L s.heap.size) s.heap S s.heap [] := ⟨hP, pl_self hD0, va_S.rf⟩
  have hA0 : ∀ q, q ∈ L → AL L s.heap.size q := fun _ h => Or.inl h
  have hA : ∀ q, s.heap.size ≤ q → AL L s.heap.size q := fun _ h => Or.inr h
  have hFr : Fr kap [1, 7, 29, 31, 32, 42] S S := Fr.rf
  have hl := lv_entry ([.ref o, .int kd, .int wh]) (n := 3) (Nat.le_of_ble_eq_true rfl)
  rw [lg_entry_eq]
  generalize (lg_sl ([.ref o, .int kd, .int wh]) ++ List.replicate (3 - (lg_sl ([.ref o, .int kd, .int wh])).length) Slot.unset).toArray = ls at hl ⊢
  have hl : lv_has ls 3 [(0, .ref o), (1, .int kd), (2, .int wh)] := hl
  refine lv_aload_n hx hb dX11_cleared_0 rfl (lv_at hl 0 rfl) ?_
  refine lv_iload_n hx hb dX11_cleared_1 rfl (lv_at hl 1 rfl) ?_
  obtain ⟨x_1, x_2, x_3, x_4, x_5, x_6, x_7, x_8, x_9, x_10, x_11, x_12, x_13, hS_o, hT_x_1, hT_x_2, hT_x_3, hT_x_4, hT_x_5, hT_x_6, hT_x_7, hT_x_8, hT_x_9, hT_x_10, hT_x_11, hT_x_12⟩ := hTy.k11 hT_o
  refine vp_callSi (va_Run.run (va_runV (As := [.int kd]) (rest := []) ⟨hx, hb, hml, hown, hT⟩ (o_noKind l dC dI cy L kap pr S s.heap.size o kd hTy hT_o) (cwV 1 hT (gV w606 w608 ws24 w1 w609) rfl rfl rfl (by decide +kernel) ⟨(Nat.le_of_ble_eq_true rfl), (Nat.le_of_ble_eq_true rfl)⟩) ⟨pcN.blind, pl_recv hK hW hT_o.1 hS_o rfl, pcN.pre hW.1 hK hW.2.1 hN (fun q h => absurd h List.not_mem_nil)⟩ rfl rfl hl.1 rfl (lv_room (Nat.le_of_ble_eq_true rfl)) dX11_cleared_2 ⟨(Nat.le_of_ble_eq_true rfl), (Nat.le_of_ble_eq_true rfl)⟩)) (fun r_14 hr_14 => ?_)
  rcases hr_14 with hc_ | hc_
  · obtain rfl : r_14 = 1 := hc_
    refine lv_if_eq (tgt := 11) hx hb dX11_cleared_5 (by decide) (fun h => absurd h (by decide)) (fun _ => ?_)
    refine lv_bipush (v := (-2)) hx hb dX11_cleared_8 (by decide) ?_
    exact W.iret (v := (-2)) hx hb hr (fun t ht h9 => ⟨⟨(-2), S, rfl, ⟨hTy, hFr⟩, by rw [ht]; exact hW.1, va_K.moved h9.alike hK, hW.2.1⟩, hW.2.2.F ht⟩) hW.2.2.2.2 dX11_cleared_10
  · obtain ⟨rfl, k_15, hb_k_15, rfl⟩ := hc_
    refine lv_if_eq (tgt := 11) hx hb dX11_cleared_5 (by decide) (fun _ => ?_) (fun h => absurd (by decide) h)
    refine lv_aload_n hx hb dX11_cleared_11 rfl (lv_at hl 0 rfl) ?_
    refine lv_iload_n hx hb dX11_cleared_12 rfl (lv_at hl 1 rfl) ?_
    refine lv_iconst (v := (-1)) hx hb dX11_cleared_13 (by decide) ?_
    refine pl_callv (va_runV (As := [.int (nI k_15), .int (-1)]) (rest := []) ⟨hx, hb, hml, hown, hT⟩ (o_gather l dC dI cy L kap pr S s.heap.size o (nI k_15) (-1) hTy hT_o) (cwV 2 hT (gV w669 w671 ws30 w1 w672) rfl rfl rfl (by decide +kernel) ⟨(Nat.le_of_ble_eq_true rfl), (Nat.le_of_ble_eq_true rfl)⟩) ⟨pcN.blind, pl_recv hK hW hT_o.1 hS_o rfl, pcN.pre hW.1 hK hW.2.1 hN (fun q h => absurd h List.not_mem_nil)⟩ rfl rfl hl.1 rfl (lv_room (Nat.le_of_ble_eq_true rfl)) dX11_cleared_14 ⟨(Nat.le_of_ble_eq_true rfl), (Nat.le_of_ble_eq_true rfl)⟩) hW hA0 hA (fun S_16 H locs hrel hW => ?_)
    obtain ⟨hTy, hF1⟩ := hrel
    have hFr := hFr.tr hF1 (by decide)
    have hS_o := hF1.at hT_o (by decide) hS_o
    refine lv_aload_n hx hb dX11_cleared_17 rfl (lv_at hl 0 rfl) ?_
    refine pl_get (ci := 11) (v := .ref x_5) (C := RX11) (T := TX11) (N := 13) hx hb hT iX11 hown hK hW hT_o.1 hS_o rfl 4 (by decide) w357 rfl dX11_cleared_18 ?_
    refine lv_aload_n hx hb dX11_cleared_21 rfl (lv_at hl 0 rfl) ?_
    refine pl_get (ci := 11) (v := .ref x_4) (C := RX11) (T := TX11) (N := 13) hx hb hT iX11 hown hK hW hT_o.1 hS_o rfl 3 (by decide) w356 rfl dX11_cleared_22 ?_
    refine lv_bipush (v := 99) hx hb dX11_cleared_25 (by decide) ?_
    obtain ⟨x_17, x_18, x_19, x_20, x_21, x_22, hS_x_5, hT_x_17, hb_x_18, hT_x_21, hT_x_22⟩ := hTy.k7 hT_x_5
    refine pl_callv (va_runV (As := [.ref x_4, .int 99]) (rest := []) ⟨hx, hb, hml, hown, hT⟩ (s_takeOut l dC dI cy L kap pr S_16 H.size x_5 x_4 99 hTy hT_x_5 hT_x_4 (by omega)) (cwV 2 hT (gV w928 w929 w930 w9 w931) rfl rfl rfl (by decide +kernel) ⟨(Nat.le_of_ble_eq_true rfl), (Nat.le_of_ble_eq_true rfl)⟩) ⟨pcN.blind, pl_recv hK hW hT_x_5.1 hS_x_5 rfl, pcN.pre hW.1 hK hW.2.1 hN (fun q h => absurd h List.not_mem_nil)⟩ rfl rfl hl.1 rfl (lv_room (Nat.le_of_ble_eq_true rfl)) dX11_cleared_27 ⟨(Nat.le_of_ble_eq_true rfl), (Nat.le_of_ble_eq_true rfl)⟩) hW hA0 hA (fun S_23 H locs hrel hW => ?_)
    obtain ⟨hTy, hF1⟩ := hrel
    have hFr := hFr.tr hF1 (by decide)
    have hS_o := hF1.at hT_o (by decide) hS_o
    refine lv_iload_n hx hb dX11_cleared_30 rfl (lv_at hl 2 rfl) ?_
    by_cases hk_31_0 : wh = 0
    · subst hk_31_0
      refine lv_tableIn (off := 25) (tgt := 56) hx hb dX11_cleared_31 (by decide) (by decide) rfl (by decide) ?_
      refine lv_aload_n hx hb dX11_cleared_56 rfl (lv_at hl 0 rfl) ?_
      refine pl_get (ci := 11) (v := .ref x_5) (C := RX11) (T := TX11) (N := 13) hx hb hT iX11 hown hK hW hT_o.1 hS_o rfl 4 (by decide) w357 rfl dX11_cleared_57 ?_
      obtain ⟨x_24, x_25, x_26, x_27, x_28, x_29, hS_x_5, hT_x_24, hb_x_25, hT_x_28, hT_x_29⟩ := hTy.k7 hT_x_5
      refine pl_get (ci := 7) (v := .long x_26) (C := RX7) (T := TX7) (N := 6) hx hb hT iX7 hown hK hW hT_x_5.1 hS_x_5 rfl 2 (by decide) w221 rfl dX11_cleared_60 ?_
      refine lv_l2i hx hb dX11_cleared_63 rfl ?_
      refine lv_topi (fun z_30 ez_30 => ?_)
      exact W.iret (v := z_30) hx hb hr (fun t ht h9 => ⟨⟨z_30, S_23, rfl, ⟨hTy, hFr⟩, by rw [ht]; exact hW.1, va_K.moved h9.alike hK, hW.2.1⟩, hW.2.2.F ht⟩) hW.2.2.2.2 dX11_cleared_64
    by_cases hk_31_1 : wh = 1
    · subst hk_31_1
      refine lv_tableIn (off := 34) (tgt := 65) hx hb dX11_cleared_31 (by decide) (by decide) rfl (by decide) ?_
      refine lv_aload_n hx hb dX11_cleared_65 rfl (lv_at hl 0 rfl) ?_
      refine pl_get (ci := 11) (v := .ref x_5) (C := RX11) (T := TX11) (N := 13) hx hb hT iX11 hown hK hW hT_o.1 hS_o rfl 4 (by decide) w357 rfl dX11_cleared_66 ?_
      obtain ⟨x_31, x_32, x_33, x_34, x_35, x_36, hS_x_5, hT_x_31, hb_x_32, hT_x_35, hT_x_36⟩ := hTy.k7 hT_x_5
      refine pl_get (ci := 7) (v := .int x_34) (C := RX7) (T := TX7) (N := 6) hx hb hT iX7 hown hK hW hT_x_5.1 hS_x_5 rfl 3 (by decide) w223 rfl dX11_cleared_69 ?_
      exact W.iret (v := x_34) hx hb hr (fun t ht h9 => ⟨⟨x_34, S_23, rfl, ⟨hTy, hFr⟩, by rw [ht]; exact hW.1, va_K.moved h9.alike hK, hW.2.1⟩, hW.2.2.F ht⟩) hW.2.2.2.2 dX11_cleared_72
    by_cases hk_31_2 : wh = 2
    · subst hk_31_2
      refine lv_tableIn (off := 42) (tgt := 73) hx hb dX11_cleared_31 (by decide) (by decide) rfl (by decide) ?_
      refine lv_aload_n hx hb dX11_cleared_73 rfl (lv_at hl 0 rfl) ?_
      refine pl_get (ci := 11) (v := .ref x_4) (C := RX11) (T := TX11) (N := 13) hx hb hT iX11 hown hK hW hT_o.1 hS_o rfl 3 (by decide) w356 rfl dX11_cleared_74 ?_
      obtain ⟨x_37, x_38, hS_x_4, hT_x_37, hb_x_38⟩ := hTy.k1 hT_x_4
      refine vp_callSi (va_Run.run (va_runV (As := []) (rest := []) ⟨hx, hb, hml, hown, hT⟩ (s_aboveZero l dC dI cy L kap pr S_23 H.size x_4 hTy hT_x_4) (cwV 0 hT (gV w896 w897 w898 w8 w899) rfl rfl rfl (by decide +kernel) ⟨(Nat.le_of_ble_eq_true rfl), (Nat.le_of_ble_eq_true rfl)⟩) ⟨pcN.blind, pl_recv hK hW hT_x_4.1 hS_x_4 rfl, pcN.pre hW.1 hK hW.2.1 hN (fun q h => absurd h List.not_mem_nil)⟩ rfl rfl hl.1 rfl (lv_room (Nat.le_of_ble_eq_true rfl)) dX11_cleared_77 ⟨(Nat.le_of_ble_eq_true rfl), (Nat.le_of_ble_eq_true rfl)⟩)) (fun r_39 hr_39 => ?_)
      exact W.iret (v := r_39) hx hb hr (fun t ht h9 => ⟨⟨r_39, S_23, rfl, ⟨hTy, hFr⟩, by rw [ht]; exact hW.1, va_K.moved h9.alike hK, hW.2.1⟩, hW.2.2.F ht⟩) hW.2.2.2.2 dX11_cleared_80
    refine lv_tableOut (tgt := 81) hx hb dX11_cleared_31 (swout_0_2 hk_31_0 hk_31_1 hk_31_2) (by decide) ?_
    refine lv_bipush (v := (-2)) hx hb dX11_cleared_81 (by decide) ?_
    exact W.iret (v := (-2)) hx hb hr (fun t ht h9 => ⟨⟨(-2), S_23, rfl, ⟨hTy, hFr⟩, by rw [ht]; exact hW.1, va_K.moved h9.alike hK, hW.2.1⟩, hW.2.2.F ht⟩) hW.2.2.2.2 dX11_cleared_83

set_option maxHeartbeats 4000000 in
set_option maxRecDepth 100000 in
theorem k_rounds (l : Launch) (dC : Nat → ClassId) (dI : Nat → Nat → Nat) (cy : Nat → ClassId) (L : List Nat) (kap : Nat → Nat) (pr : Pr) (S : Nat → va_E) (sz : Nat) (o : Nat) (kd : Int32) (rn : Int32) (hTy : Ty cy L kap pr S) (hT_o : TK L kap o 11) : Met l yX11_rounds (wT yX11_rounds cX11_rounds 3 (some .int)) ({ frames := 6, cells := 0, slots := 0, locals := 140 }) (pcN dC dI [.ref o, .int kd, .int rn] sz (va_pl L S) (cyT cy) NLs []) (va_Qi (fun r S' => Ty cy L kap pr S' ∧ Fr kap [1, 7, 29, 31, 32, 42] S S') (fun S' t => pB dC dI (AL L sz) (va_pl L S') (cyT cy) t) (AL L sz)) 0 0 (AL L sz) := by
  refine Met.ofW (cc := cX11_rounds) (maxL := 3) (ret := (some .int)) (by decide) rfl ?_
  intro p e s m args below meth c s₁ B hml hv
  obtain ⟨rfl, hsz, hP, hK, hD0, hN, -⟩ := hv
  have hx := B.exec
  have hb := B.bytes
  have hr := B.returns
  have hT : ∀ wd ∈ TB, wd.before [.ref o, .int kd, .int rn].toArray s = true := fun wd h => atoms_spec (ws := wT yX11_rounds cX11_rounds 3 (some .int)) B.pre wd (List.mem_cons_of_mem _ h)
  have hown : s.vm.findClass RX11 = some m.cls := findClass_of_methodNamed B.named
  have hlocks := B.notSynchronized
  subst hsz
  have hW : PW dC dI L (AL L s.heap.size) s.heap S s.heap [] := ⟨hP, pl_self hD0, va_S.rf⟩
  have hA0 : ∀ q, q ∈ L → AL L s.heap.size q := fun _ h => Or.inl h
  have hA : ∀ q, s.heap.size ≤ q → AL L s.heap.size q := fun _ h => Or.inr h
  have hFr : Fr kap [1, 7, 29, 31, 32, 42] S S := Fr.rf
  have hl := lv_entry ([.ref o, .int kd, .int rn]) (n := 3) (Nat.le_of_ble_eq_true rfl)
  rw [lg_entry_eq]
  generalize (lg_sl ([.ref o, .int kd, .int rn]) ++ List.replicate (3 - (lg_sl ([.ref o, .int kd, .int rn])).length) Slot.unset).toArray = ls at hl ⊢
  have hl : lv_has ls 3 [(0, .ref o), (1, .int kd), (2, .int rn)] := hl
  refine lv_aload_n hx hb dX11_rounds_0 rfl (lv_at hl 0 rfl) ?_
  refine lv_iload_n hx hb dX11_rounds_1 rfl (lv_at hl 1 rfl) ?_
  obtain ⟨x_1, x_2, x_3, x_4, x_5, x_6, x_7, x_8, x_9, x_10, x_11, x_12, x_13, hS_o, hT_x_1, hT_x_2, hT_x_3, hT_x_4, hT_x_5, hT_x_6, hT_x_7, hT_x_8, hT_x_9, hT_x_10, hT_x_11, hT_x_12⟩ := hTy.k11 hT_o
  refine vp_callSi (va_Run.run (va_runV (As := [.int kd]) (rest := []) ⟨hx, hb, hml, hown, hT⟩ (o_noKind l dC dI cy L kap pr S s.heap.size o kd hTy hT_o) (cwV 1 hT (gV w606 w608 ws24 w1 w609) rfl rfl rfl (by decide +kernel) ⟨(Nat.le_of_ble_eq_true rfl), (Nat.le_of_ble_eq_true rfl)⟩) ⟨pcN.blind, pl_recv hK hW hT_o.1 hS_o rfl, pcN.pre hW.1 hK hW.2.1 hN (fun q h => absurd h List.not_mem_nil)⟩ rfl rfl hl.1 rfl (lv_room (Nat.le_of_ble_eq_true rfl)) dX11_rounds_2 ⟨(Nat.le_of_ble_eq_true rfl), (Nat.le_of_ble_eq_true rfl)⟩)) (fun r_14 hr_14 => ?_)
  rcases hr_14 with hc_ | hc_
  · obtain rfl : r_14 = 1 := hc_
    refine lv_if_eq (tgt := 11) hx hb dX11_rounds_5 (by decide) (fun h => absurd h (by decide)) (fun _ => ?_)
    refine lv_bipush (v := (-2)) hx hb dX11_rounds_8 (by decide) ?_
    exact W.iret (v := (-2)) hx hb hr (fun t ht h9 => ⟨⟨(-2), S, rfl, ⟨hTy, hFr⟩, by rw [ht]; exact hW.1, va_K.moved h9.alike hK, hW.2.1⟩, hW.2.2.F ht⟩) hW.2.2.2.2 dX11_rounds_10
  · obtain ⟨rfl, k_15, hb_k_15, rfl⟩ := hc_
    refine lv_if_eq (tgt := 11) hx hb dX11_rounds_5 (by decide) (fun _ => ?_) (fun h => absurd (by decide) h)
    refine lv_iload_n hx hb dX11_rounds_11 rfl (lv_at hl 2 rfl) ?_
    refine lv_if_lt (tgt := 21) hx hb dX11_rounds_12 (by decide) (fun c_12 => ?_) (fun c_12 => ?_)
    · skip
      refine lv_bipush (v := (-3)) hx hb dX11_rounds_21 (by decide) ?_
      exact W.iret (v := (-3)) hx hb hr (fun t ht h9 => ⟨⟨(-3), S, rfl, ⟨hTy, hFr⟩, by rw [ht]; exact hW.1, va_K.moved h9.alike hK, hW.2.1⟩, hW.2.2.F ht⟩) hW.2.2.2.2 dX11_rounds_23
    · obtain ⟨j_16, hj_j_16, rfl⟩ := nI_of c_12
      refine lv_iload_n hx hb dX11_rounds_15 rfl (lv_at hl 2 rfl) ?_
      refine lv_bipush (v := 99) hx hb dX11_rounds_16 (by decide) ?_
      refine lv_icmp_le (tgt := 24) hx hb dX11_rounds_18 (by decide) (fun c_18 => ?_) (fun c_18 => ?_)
      · have c_18 : j_16 ≤ 99 := (nI_leI (a := j_16) (b := 99) (by omega) (by omega)).mp c_18
        refine lv_aload_n hx hb dX11_rounds_24 rfl (lv_at hl 0 rfl) ?_
        refine lv_iload_n hx hb dX11_rounds_25 rfl (lv_at hl 1 rfl) ?_
        refine lv_iconst (v := (-1)) hx hb dX11_rounds_26 (by decide) ?_
        refine pl_callv (va_runV (As := [.int (nI k_15), .int (-1)]) (rest := []) ⟨hx, hb, hml, hown, hT⟩ (o_gather l dC dI cy L kap pr S s.heap.size o (nI k_15) (-1) hTy hT_o) (cwV 2 hT (gV w669 w671 ws30 w1 w672) rfl rfl rfl (by decide +kernel) ⟨(Nat.le_of_ble_eq_true rfl), (Nat.le_of_ble_eq_true rfl)⟩) ⟨pcN.blind, pl_recv hK hW hT_o.1 hS_o rfl, pcN.pre hW.1 hK hW.2.1 hN (fun q h => absurd h List.not_mem_nil)⟩ rfl rfl hl.1 rfl (lv_room (Nat.le_of_ble_eq_true rfl)) dX11_rounds_27 ⟨(Nat.le_of_ble_eq_true rfl), (Nat.le_of_ble_eq_true rfl)⟩) hW hA0 hA (fun S_17 H locs hrel hW => ?_)
        obtain ⟨hTy, hF1⟩ := hrel
        have hFr := hFr.tr hF1 (by decide)
        have hS_o := hF1.at hT_o (by decide) hS_o
        refine lv_aload_n hx hb dX11_rounds_30 rfl (lv_at hl 0 rfl) ?_
        refine pl_get (ci := 11) (v := .ref x_5) (C := RX11) (T := TX11) (N := 13) hx hb hT iX11 hown hK hW hT_o.1 hS_o rfl 4 (by decide) w357 rfl dX11_rounds_31 ?_
        refine lv_aload_n hx hb dX11_rounds_34 rfl (lv_at hl 0 rfl) ?_
        refine pl_get (ci := 11) (v := .ref x_4) (C := RX11) (T := TX11) (N := 13) hx hb hT iX11 hown hK hW hT_o.1 hS_o rfl 3 (by decide) w356 rfl dX11_rounds_35 ?_
        refine lv_iload_n hx hb dX11_rounds_38 rfl (lv_at hl 2 rfl) ?_
        obtain ⟨x_18, x_19, x_20, x_21, x_22, x_23, hS_x_5, hT_x_18, hb_x_19, hT_x_22, hT_x_23⟩ := hTy.k7 hT_x_5
        refine pl_callv (va_runV (As := [.ref x_4, .int (nI j_16)]) (rest := []) ⟨hx, hb, hml, hown, hT⟩ (s_takeOut l dC dI cy L kap pr S_17 H.size x_5 x_4 j_16 hTy hT_x_5 hT_x_4 (by omega)) (cwV 2 hT (gV w928 w929 w930 w9 w931) rfl rfl rfl (by decide +kernel) ⟨(Nat.le_of_ble_eq_true rfl), (Nat.le_of_ble_eq_true rfl)⟩) ⟨pcN.blind, pl_recv hK hW hT_x_5.1 hS_x_5 rfl, pcN.pre hW.1 hK hW.2.1 hN (fun q h => absurd h List.not_mem_nil)⟩ rfl rfl hl.1 rfl (lv_room (Nat.le_of_ble_eq_true rfl)) dX11_rounds_39 ⟨(Nat.le_of_ble_eq_true rfl), (Nat.le_of_ble_eq_true rfl)⟩) hW hA0 hA (fun S_24 H locs hrel hW => ?_)
        obtain ⟨hTy, hF1⟩ := hrel
        have hFr := hFr.tr hF1 (by decide)
        have hS_o := hF1.at hT_o (by decide) hS_o
        refine lv_aload_n hx hb dX11_rounds_42 rfl (lv_at hl 0 rfl) ?_
        refine pl_get (ci := 11) (v := .ref x_4) (C := RX11) (T := TX11) (N := 13) hx hb hT iX11 hown hK hW hT_o.1 hS_o rfl 3 (by decide) w356 rfl dX11_rounds_43 ?_
        obtain ⟨x_25, x_26, hS_x_4, hT_x_25, hb_x_26⟩ := hTy.k1 hT_x_4
        refine vp_callSl (va_Run.run (va_runV (As := []) (rest := []) ⟨hx, hb, hml, hown, hT⟩ (s_fsum l dC dI cy L kap pr S_24 H.size x_4 hTy hT_x_4) (cwV 0 hT (gV w892 w893 w894 w8 w895) rfl rfl rfl (by decide +kernel) ⟨(Nat.le_of_ble_eq_true rfl), (Nat.le_of_ble_eq_true rfl)⟩) ⟨pcN.blind, pl_recv hK hW hT_x_4.1 hS_x_4 rfl, pcN.pre hW.1 hK hW.2.1 hN (fun q h => absurd h List.not_mem_nil)⟩ rfl rfl hl.1 rfl (lv_room (Nat.le_of_ble_eq_true rfl)) dX11_rounds_46 ⟨(Nat.le_of_ble_eq_true rfl), (Nat.le_of_ble_eq_true rfl)⟩)) (fun r_27 hr_27 => ?_)
        refine lv_l2i hx hb dX11_rounds_49 rfl ?_
        refine lv_topi (fun z_28 ez_28 => ?_)
        exact W.iret (v := z_28) hx hb hr (fun t ht h9 => ⟨⟨z_28, S_24, rfl, ⟨hTy, hFr⟩, by rw [ht]; exact hW.1, va_K.moved h9.alike hK, hW.2.1⟩, hW.2.2.F ht⟩) hW.2.2.2.2 dX11_rounds_50
      · have c_18 : ¬ (j_16 ≤ 99) := fun hh9 => c_18 ((nI_leI (a := j_16) (b := 99) (by omega) (by omega)).mpr hh9)
        refine lv_bipush (v := (-3)) hx hb dX11_rounds_21 (by decide) ?_
        exact W.iret (v := (-3)) hx hb hr (fun t ht h9 => ⟨⟨(-3), S, rfl, ⟨hTy, hFr⟩, by rw [ht]; exact hW.1, va_K.moved h9.alike hK, hW.2.1⟩, hW.2.2.F ht⟩) hW.2.2.2.2 dX11_rounds_23

set_option maxHeartbeats 4000000 in
set_option maxRecDepth 100000 in
theorem k_chain (l : Launch) (dC : Nat → ClassId) (dI : Nat → Nat → Nat) (cy : Nat → ClassId) (L : List Nat) (kap : Nat → Nat) (pr : Pr) (S : Nat → va_E) (sz : Nat) (o : Nat) (kd : Int32) (ix : Int32) (hTy : Ty cy L kap pr S) (hT_o : TK L kap o 11) : Met l yX11_chain (wT yX11_chain cX11_chain 3 (some .int)) ({ frames := 6, cells := 0, slots := 0, locals := 140 }) (pcN dC dI [.ref o, .int kd, .int ix] sz (va_pl L S) (cyT cy) NLs []) (va_Qi (fun r S' => Ty cy L kap pr S' ∧ Fr kap [1, 7, 8, 29, 30, 31, 32, 42] S S') (fun S' t => pB dC dI (AL L sz) (va_pl L S') (cyT cy) t) (AL L sz)) 0 0 (AL L sz) := by
  refine Met.ofW (cc := cX11_chain) (maxL := 3) (ret := (some .int)) (by decide) rfl ?_
  intro p e s m args below meth c s₁ B hml hv
  obtain ⟨rfl, hsz, hP, hK, hD0, hN, -⟩ := hv
  have hx := B.exec
  have hb := B.bytes
  have hr := B.returns
  have hT : ∀ wd ∈ TB, wd.before [.ref o, .int kd, .int ix].toArray s = true := fun wd h => atoms_spec (ws := wT yX11_chain cX11_chain 3 (some .int)) B.pre wd (List.mem_cons_of_mem _ h)
  have hown : s.vm.findClass RX11 = some m.cls := findClass_of_methodNamed B.named
  have hlocks := B.notSynchronized
  subst hsz
  have hW : PW dC dI L (AL L s.heap.size) s.heap S s.heap [] := ⟨hP, pl_self hD0, va_S.rf⟩
  have hA0 : ∀ q, q ∈ L → AL L s.heap.size q := fun _ h => Or.inl h
  have hA : ∀ q, s.heap.size ≤ q → AL L s.heap.size q := fun _ h => Or.inr h
  have hFr : Fr kap [1, 7, 8, 29, 30, 31, 32, 42] S S := Fr.rf
  have hl := lv_entry ([.ref o, .int kd, .int ix]) (n := 3) (Nat.le_of_ble_eq_true rfl)
  rw [lg_entry_eq]
  generalize (lg_sl ([.ref o, .int kd, .int ix]) ++ List.replicate (3 - (lg_sl ([.ref o, .int kd, .int ix])).length) Slot.unset).toArray = ls at hl ⊢
  have hl : lv_has ls 3 [(0, .ref o), (1, .int kd), (2, .int ix)] := hl
  refine lv_aload_n hx hb dX11_chain_0 rfl (lv_at hl 0 rfl) ?_
  refine lv_iload_n hx hb dX11_chain_1 rfl (lv_at hl 1 rfl) ?_
  obtain ⟨x_1, x_2, x_3, x_4, x_5, x_6, x_7, x_8, x_9, x_10, x_11, x_12, x_13, hS_o, hT_x_1, hT_x_2, hT_x_3, hT_x_4, hT_x_5, hT_x_6, hT_x_7, hT_x_8, hT_x_9, hT_x_10, hT_x_11, hT_x_12⟩ := hTy.k11 hT_o
  refine vp_callSi (va_Run.run (va_runV (As := [.int kd]) (rest := []) ⟨hx, hb, hml, hown, hT⟩ (o_noKind l dC dI cy L kap pr S s.heap.size o kd hTy hT_o) (cwV 1 hT (gV w606 w608 ws24 w1 w609) rfl rfl rfl (by decide +kernel) ⟨(Nat.le_of_ble_eq_true rfl), (Nat.le_of_ble_eq_true rfl)⟩) ⟨pcN.blind, pl_recv hK hW hT_o.1 hS_o rfl, pcN.pre hW.1 hK hW.2.1 hN (fun q h => absurd h List.not_mem_nil)⟩ rfl rfl hl.1 rfl (lv_room (Nat.le_of_ble_eq_true rfl)) dX11_chain_2 ⟨(Nat.le_of_ble_eq_true rfl), (Nat.le_of_ble_eq_true rfl)⟩)) (fun r_14 hr_14 => ?_)
  rcases hr_14 with hc_ | hc_
  · obtain rfl : r_14 = 1 := hc_
    refine lv_if_eq (tgt := 11) hx hb dX11_chain_5 (by decide) (fun h => absurd h (by decide)) (fun _ => ?_)
    refine lv_bipush (v := (-2)) hx hb dX11_chain_8 (by decide) ?_
    exact W.iret (v := (-2)) hx hb hr (fun t ht h9 => ⟨⟨(-2), S, rfl, ⟨hTy, hFr⟩, by rw [ht]; exact hW.1, va_K.moved h9.alike hK, hW.2.1⟩, hW.2.2.F ht⟩) hW.2.2.2.2 dX11_chain_10
  · obtain ⟨rfl, k_15, hb_k_15, rfl⟩ := hc_
    refine lv_if_eq (tgt := 11) hx hb dX11_chain_5 (by decide) (fun _ => ?_) (fun h => absurd (by decide) h)
    refine lv_iload_n hx hb dX11_chain_11 rfl (lv_at hl 2 rfl) ?_
    refine lv_iconst (v := (-1)) hx hb dX11_chain_12 (by decide) ?_
    refine lv_icmp_ge (tgt := 19) hx hb dX11_chain_13 (by decide) (fun c_13 => ?_) (fun c_13 => ?_)
    · refine lv_aload_n hx hb dX11_chain_19 rfl (lv_at hl 0 rfl) ?_
      refine lv_iload_n hx hb dX11_chain_20 rfl (lv_at hl 1 rfl) ?_
      refine lv_iconst (v := (-1)) hx hb dX11_chain_21 (by decide) ?_
      refine pl_callv (va_runV (As := [.int (nI k_15), .int (-1)]) (rest := []) ⟨hx, hb, hml, hown, hT⟩ (o_gather l dC dI cy L kap pr S s.heap.size o (nI k_15) (-1) hTy hT_o) (cwV 2 hT (gV w669 w671 ws30 w1 w672) rfl rfl rfl (by decide +kernel) ⟨(Nat.le_of_ble_eq_true rfl), (Nat.le_of_ble_eq_true rfl)⟩) ⟨pcN.blind, pl_recv hK hW hT_o.1 hS_o rfl, pcN.pre hW.1 hK hW.2.1 hN (fun q h => absurd h List.not_mem_nil)⟩ rfl rfl hl.1 rfl (lv_room (Nat.le_of_ble_eq_true rfl)) dX11_chain_22 ⟨(Nat.le_of_ble_eq_true rfl), (Nat.le_of_ble_eq_true rfl)⟩) hW hA0 hA (fun S_16 H locs hrel hW => ?_)
      obtain ⟨hTy, hF1⟩ := hrel
      have hFr := hFr.tr hF1 (by decide)
      have hS_o := hF1.at hT_o (by decide) hS_o
      refine lv_aload_n hx hb dX11_chain_25 rfl (lv_at hl 0 rfl) ?_
      refine pl_get (ci := 11) (v := .ref x_5) (C := RX11) (T := TX11) (N := 13) hx hb hT iX11 hown hK hW hT_o.1 hS_o rfl 4 (by decide) w357 rfl dX11_chain_26 ?_
      refine lv_aload_n hx hb dX11_chain_29 rfl (lv_at hl 0 rfl) ?_
      refine pl_get (ci := 11) (v := .ref x_4) (C := RX11) (T := TX11) (N := 13) hx hb hT iX11 hown hK hW hT_o.1 hS_o rfl 3 (by decide) w356 rfl dX11_chain_30 ?_
      refine lv_bipush (v := 99) hx hb dX11_chain_33 (by decide) ?_
      obtain ⟨x_17, x_18, x_19, x_20, x_21, x_22, hS_x_5, hT_x_17, hb_x_18, hT_x_21, hT_x_22⟩ := hTy.k7 hT_x_5
      refine pl_callv (va_runV (As := [.ref x_4, .int 99]) (rest := []) ⟨hx, hb, hml, hown, hT⟩ (s_takeOut l dC dI cy L kap pr S_16 H.size x_5 x_4 99 hTy hT_x_5 hT_x_4 (by omega)) (cwV 2 hT (gV w928 w929 w930 w9 w931) rfl rfl rfl (by decide +kernel) ⟨(Nat.le_of_ble_eq_true rfl), (Nat.le_of_ble_eq_true rfl)⟩) ⟨pcN.blind, pl_recv hK hW hT_x_5.1 hS_x_5 rfl, pcN.pre hW.1 hK hW.2.1 hN (fun q h => absurd h List.not_mem_nil)⟩ rfl rfl hl.1 rfl (lv_room (Nat.le_of_ble_eq_true rfl)) dX11_chain_35 ⟨(Nat.le_of_ble_eq_true rfl), (Nat.le_of_ble_eq_true rfl)⟩) hW hA0 hA (fun S_23 H locs hrel hW => ?_)
      obtain ⟨hTy, hF1⟩ := hrel
      have hFr := hFr.tr hF1 (by decide)
      have hS_o := hF1.at hT_o (by decide) hS_o
      refine lv_aload_n hx hb dX11_chain_38 rfl (lv_at hl 0 rfl) ?_
      refine pl_get (ci := 11) (v := .ref x_6) (C := RX11) (T := TX11) (N := 13) hx hb hT iX11 hown hK hW hT_o.1 hS_o rfl 5 (by decide) w358 rfl dX11_chain_39 ?_
      refine lv_aload_n hx hb dX11_chain_42 rfl (lv_at hl 0 rfl) ?_
      refine pl_get (ci := 11) (v := .ref x_4) (C := RX11) (T := TX11) (N := 13) hx hb hT iX11 hown hK hW hT_o.1 hS_o rfl 3 (by decide) w356 rfl dX11_chain_43 ?_
      obtain ⟨x_24, x_25, x_26, hS_x_6, hT_x_24, hb_x_25, hT_x_26⟩ := hTy.k8 hT_x_6
      refine pl_callv (va_runV (As := [.ref x_4]) (rest := []) ⟨hx, hb, hml, hown, hT⟩ (s_rfind l dC dI cy L kap pr S_23 H.size x_6 x_4 hTy hT_x_6 hT_x_4) (cwV 1 hT (gV w942 w943 w944 w10 w945) rfl rfl rfl (by decide +kernel) ⟨(Nat.le_of_ble_eq_true rfl), (Nat.le_of_ble_eq_true rfl)⟩) ⟨pcN.blind, pl_recv hK hW hT_x_6.1 hS_x_6 rfl, pcN.pre hW.1 hK hW.2.1 hN (fun q h => absurd h List.not_mem_nil)⟩ rfl rfl hl.1 rfl (lv_room (Nat.le_of_ble_eq_true rfl)) dX11_chain_46 ⟨(Nat.le_of_ble_eq_true rfl), (Nat.le_of_ble_eq_true rfl)⟩) hW hA0 hA (fun S_27 H locs hrel hW => ?_)
      obtain ⟨hTy, hF1⟩ := hrel
      have hFr := hFr.tr hF1 (by decide)
      have hS_o := hF1.at hT_o (by decide) hS_o
      refine lv_iload_n hx hb dX11_chain_49 rfl (lv_at hl 2 rfl) ?_
      refine lv_iconst (v := (-1)) hx hb dX11_chain_50 (by decide) ?_
      refine lv_icmp_ne (tgt := 62) hx hb dX11_chain_51 (by decide) (fun c_51 => ?_) (fun c_51 => ?_)
      · refine lv_iload_n hx hb dX11_chain_62 rfl (lv_at hl 2 rfl) ?_
        refine lv_aload_n hx hb dX11_chain_63 rfl (lv_at hl 0 rfl) ?_
        refine pl_get (ci := 11) (v := .ref x_6) (C := RX11) (T := TX11) (N := 13) hx hb hT iX11 hown hK hW hT_o.1 hS_o rfl 5 (by decide) w358 rfl dX11_chain_64 ?_
        obtain ⟨x_28, x_29, x_30, hS_x_6, hT_x_28, hb_x_29, hT_x_30⟩ := hTy.k8 hT_x_6
        refine pl_get (ci := 8) (v := .int (nI x_29)) (C := RX8) (T := TX8) (N := 3) hx hb hT iX8 hown hK hW hT_x_6.1 hS_x_6 rfl 1 (by decide) w248 rfl dX11_chain_67 ?_
        refine lv_icmp_ge (tgt := 85) hx hb dX11_chain_70 (by decide) (fun c_70 => ?_) (fun c_70 => ?_)
        · refine lv_iconst (v := (-1)) hx hb dX11_chain_85 (by decide) ?_
          exact W.iret (v := (-1)) hx hb hr (fun t ht h9 => ⟨⟨(-1), S_27, rfl, ⟨hTy, hFr⟩, by rw [ht]; exact hW.1, va_K.moved h9.alike hK, hW.2.1⟩, hW.2.2.F ht⟩) hW.2.2.2.2 dX11_chain_86
        · obtain ⟨k_31, hb_k_31, rfl⟩ := nix (n := x_29) c_13 c_51 (nlt_of_nle c_70) (by omega)
          refine lv_aload_n hx hb dX11_chain_73 rfl (lv_at hl 0 rfl) ?_
          refine pl_get (ci := 11) (v := .ref x_6) (C := RX11) (T := TX11) (N := 13) hx hb hT iX11 hown hK hW hT_o.1 hS_o rfl 5 (by decide) w358 rfl dX11_chain_74 ?_
          refine pl_get (ci := 8) (v := .ref x_28) (C := RX8) (T := TX8) (N := 3) hx hb hT iX8 hown hK hW hT_x_6.1 hS_x_6 rfl 0 (by decide) w246 rfl dX11_chain_77 ?_
          refine lv_iload_n hx hb dX11_chain_80 rfl (lv_at hl 2 rfl) ?_
          obtain ⟨f_32, hS_x_28, hi_f_32⟩ := hTy.k42 hT_x_28
          refine pl_iald hx hb hK hW hT_x_28.1 hS_x_28 (vp_in_nI (n := k_31) (N := 8) (by omega) (by omega)) dX11_chain_81 ?_
          refine lv_topi (fun y_33 ey_33 => ?_)
          obtain ⟨k_34, hb_k_34, hq_k_34⟩ := hi_f_32 (k_31) (by omega)
          obtain rfl : y_33 = nI k_34 := ey_33.trans (by show f_32 (nI (k_31)).toNatClampNeg = _; rw [nI_clamp (by omega)]; exact hq_k_34)
          refine lv_goto (tgt := 86) hx hb dX11_chain_82 (by decide) ?_
          exact W.iret (v := nI k_34) hx hb hr (fun t ht h9 => ⟨⟨nI k_34, S_27, rfl, ⟨hTy, hFr⟩, by rw [ht]; exact hW.1, va_K.moved h9.alike hK, hW.2.1⟩, hW.2.2.F ht⟩) hW.2.2.2.2 dX11_chain_86
      · refine lv_aload_n hx hb dX11_chain_54 rfl (lv_at hl 0 rfl) ?_
        refine pl_get (ci := 11) (v := .ref x_6) (C := RX11) (T := TX11) (N := 13) hx hb hT iX11 hown hK hW hT_o.1 hS_o rfl 5 (by decide) w358 rfl dX11_chain_55 ?_
        obtain ⟨x_35, x_36, x_37, hS_x_6, hT_x_35, hb_x_36, hT_x_37⟩ := hTy.k8 hT_x_6
        refine pl_get (ci := 8) (v := .int (nI x_36)) (C := RX8) (T := TX8) (N := 3) hx hb hT iX8 hown hK hW hT_x_6.1 hS_x_6 rfl 1 (by decide) w248 rfl dX11_chain_58 ?_
        exact W.iret (v := nI x_36) hx hb hr (fun t ht h9 => ⟨⟨nI x_36, S_27, rfl, ⟨hTy, hFr⟩, by rw [ht]; exact hW.1, va_K.moved h9.alike hK, hW.2.1⟩, hW.2.2.F ht⟩) hW.2.2.2.2 dX11_chain_61
    · refine lv_bipush (v := (-3)) hx hb dX11_chain_16 (by decide) ?_
      exact W.iret (v := (-3)) hx hb hr (fun t ht h9 => ⟨⟨(-3), S, rfl, ⟨hTy, hFr⟩, by rw [ht]; exact hW.1, va_K.moved h9.alike hK, hW.2.1⟩, hW.2.2.F ht⟩) hW.2.2.2.2 dX11_chain_18

set_option maxHeartbeats 4000000 in
set_option maxRecDepth 100000 in
theorem k_least (l : Launch) (dC : Nat → ClassId) (dI : Nat → Nat → Nat) (cy : Nat → ClassId) (L : List Nat) (kap : Nat → Nat) (pr : Pr) (S : Nat → va_E) (sz : Nat) (o : Nat) (kd : Int32) (hTy : Ty cy L kap pr S) (hT_o : TK L kap o 11) : Met l yX11_least (wT yX11_least cX11_least 2 (some .int)) ({ frames := 7, cells := 0, slots := 0, locals := 184 }) (pcN dC dI [.ref o, .int kd] sz (va_pl L S) (cyT cy) NLs []) (va_Qi (fun r S' => Ty cy L kap pr S' ∧ Fr kap [1, 9, 11, 29, 33, 35, 36, 37, 38, 43, 44, 45] S S') (fun S' t => pB dC dI (AL L sz) (va_pl L S') (cyT cy) t) (AL L sz)) 0 0 (AL L sz) := by
  refine Met.ofW (cc := cX11_least) (maxL := 2) (ret := (some .int)) (by decide) rfl ?_
  intro p e s m args below meth c s₁ B hml hv
  obtain ⟨rfl, hsz, hP, hK, hD0, hN, -⟩ := hv
  have hx := B.exec
  have hb := B.bytes
  have hr := B.returns
  have hT : ∀ wd ∈ TB, wd.before [.ref o, .int kd].toArray s = true := fun wd h => atoms_spec (ws := wT yX11_least cX11_least 2 (some .int)) B.pre wd (List.mem_cons_of_mem _ h)
  have hown : s.vm.findClass RX11 = some m.cls := findClass_of_methodNamed B.named
  have hlocks := B.notSynchronized
  subst hsz
  have hW : PW dC dI L (AL L s.heap.size) s.heap S s.heap [] := ⟨hP, pl_self hD0, va_S.rf⟩
  have hA0 : ∀ q, q ∈ L → AL L s.heap.size q := fun _ h => Or.inl h
  have hA : ∀ q, s.heap.size ≤ q → AL L s.heap.size q := fun _ h => Or.inr h
  have hFr : Fr kap [1, 9, 11, 29, 33, 35, 36, 37, 38, 43, 44, 45] S S := Fr.rf
  have hl := lv_entry ([.ref o, .int kd]) (n := 2) (Nat.le_of_ble_eq_true rfl)
  rw [lg_entry_eq]
  generalize (lg_sl ([.ref o, .int kd]) ++ List.replicate (2 - (lg_sl ([.ref o, .int kd])).length) Slot.unset).toArray = ls at hl ⊢
  have hl : lv_has ls 2 [(0, .ref o), (1, .int kd)] := hl
  refine lv_aload_n hx hb dX11_least_0 rfl (lv_at hl 0 rfl) ?_
  refine lv_iload_n hx hb dX11_least_1 rfl (lv_at hl 1 rfl) ?_
  obtain ⟨x_1, x_2, x_3, x_4, x_5, x_6, x_7, x_8, x_9, x_10, x_11, x_12, x_13, hS_o, hT_x_1, hT_x_2, hT_x_3, hT_x_4, hT_x_5, hT_x_6, hT_x_7, hT_x_8, hT_x_9, hT_x_10, hT_x_11, hT_x_12⟩ := hTy.k11 hT_o
  refine vp_callSi (va_Run.run (va_runV (As := [.int kd]) (rest := []) ⟨hx, hb, hml, hown, hT⟩ (o_noKind l dC dI cy L kap pr S s.heap.size o kd hTy hT_o) (cwV 1 hT (gV w606 w608 ws24 w1 w609) rfl rfl rfl (by decide +kernel) ⟨(Nat.le_of_ble_eq_true rfl), (Nat.le_of_ble_eq_true rfl)⟩) ⟨pcN.blind, pl_recv hK hW hT_o.1 hS_o rfl, pcN.pre hW.1 hK hW.2.1 hN (fun q h => absurd h List.not_mem_nil)⟩ rfl rfl hl.1 rfl (lv_room (Nat.le_of_ble_eq_true rfl)) dX11_least_2 ⟨(Nat.le_of_ble_eq_true rfl), (Nat.le_of_ble_eq_true rfl)⟩)) (fun r_14 hr_14 => ?_)
  rcases hr_14 with hc_ | hc_
  · obtain rfl : r_14 = 1 := hc_
    refine lv_if_eq (tgt := 11) hx hb dX11_least_5 (by decide) (fun h => absurd h (by decide)) (fun _ => ?_)
    refine lv_bipush (v := (-2)) hx hb dX11_least_8 (by decide) ?_
    exact W.iret (v := (-2)) hx hb hr (fun t ht h9 => ⟨⟨(-2), S, rfl, ⟨hTy, hFr⟩, by rw [ht]; exact hW.1, va_K.moved h9.alike hK, hW.2.1⟩, hW.2.2.F ht⟩) hW.2.2.2.2 dX11_least_10
  · obtain ⟨rfl, k_15, hb_k_15, rfl⟩ := hc_
    refine lv_if_eq (tgt := 11) hx hb dX11_least_5 (by decide) (fun _ => ?_) (fun h => absurd (by decide) h)
    refine lv_aload_n hx hb dX11_least_11 rfl (lv_at hl 0 rfl) ?_
    refine lv_iload_n hx hb dX11_least_12 rfl (lv_at hl 1 rfl) ?_
    refine pl_callv (va_runV (As := [.int (nI k_15)]) (rest := []) ⟨hx, hb, hml, hown, hT⟩ (o_solveKind l dC dI cy L kap pr S s.heap.size o (nI k_15) hTy hT_o) (cwV 1 hT (gV w729 w731 ws35 w1 w732) rfl rfl rfl (by decide +kernel) ⟨(Nat.le_of_ble_eq_true rfl), (Nat.le_of_ble_eq_true rfl)⟩) ⟨pcN.blind, pl_recv hK hW hT_o.1 hS_o rfl, pcN.pre hW.1 hK hW.2.1 hN (fun q h => absurd h List.not_mem_nil)⟩ rfl rfl hl.1 rfl (lv_room (Nat.le_of_ble_eq_true rfl)) dX11_least_13 ⟨(Nat.le_of_ble_eq_true rfl), (Nat.le_of_ble_eq_true rfl)⟩) hW hA0 hA (fun S_16 H locs hrel hW => ?_)
    obtain ⟨hTy, hF1⟩ := hrel
    have hFr := hFr.tr hF1 (by decide)
    refine lv_aload_n hx hb dX11_least_16 rfl (lv_at hl 0 rfl) ?_
    obtain ⟨x_17, x_18, x_19, x_20, x_21, x_22, x_23, x_24, x_25, x_26, x_27, x_28, x_29, hS_o, hT_x_17, hT_x_18, hT_x_19, hT_x_20, hT_x_21, hT_x_22, hT_x_23, hT_x_24, hT_x_25, hT_x_26, hT_x_27, hT_x_28⟩ := hTy.k11 hT_o
    refine pl_get (ci := 11) (v := .ref x_23) (C := RX11) (T := TX11) (N := 13) hx hb hT iX11 hown hK hW hT_o.1 hS_o rfl 6 (by decide) w359 rfl dX11_least_17 ?_
    obtain ⟨x_30, x_31, x_32, x_33, x_34, x_35, x_36, x_37, x_38, x_39, x_40, x_41, x_42, hS_x_23, hT_x_30, hT_x_31, hT_x_34, hT_x_35, hT_x_36, hT_x_37, hT_x_38, hT_x_39, hT_x_40, hb_x_41, hb_x_42⟩ := hTy.k9 hT_x_23
    refine pl_get (ci := 9) (v := .int x_32) (C := RX9) (T := TX9) (N := 13) hx hb hT iX9 hown hK hW hT_x_23.1 hS_x_23 rfl 2 (by decide) w268 rfl dX11_least_20 ?_
    refine lv_if_eq (tgt := 37) hx hb dX11_least_23 (by decide) (fun c_23 => ?_) (fun c_23 => ?_)
    · refine lv_iconst (v := (-1)) hx hb dX11_least_37 (by decide) ?_
      exact W.iret (v := (-1)) hx hb hr (fun t ht h9 => ⟨⟨(-1), S_16, rfl, ⟨hTy, hFr⟩, by rw [ht]; exact hW.1, va_K.moved h9.alike hK, hW.2.1⟩, hW.2.2.F ht⟩) hW.2.2.2.2 dX11_least_38
    · refine lv_aload_n hx hb dX11_least_26 rfl (lv_at hl 0 rfl) ?_
      refine pl_get (ci := 11) (v := .ref x_23) (C := RX11) (T := TX11) (N := 13) hx hb hT iX11 hown hK hW hT_o.1 hS_o rfl 6 (by decide) w359 rfl dX11_least_27 ?_
      refine pl_get (ci := 9) (v := .long x_33) (C := RX9) (T := TX9) (N := 13) hx hb hT iX9 hown hK hW hT_x_23.1 hS_x_23 rfl 3 (by decide) w270 rfl dX11_least_30 ?_
      refine lv_l2i hx hb dX11_least_33 rfl ?_
      refine lv_topi (fun z_43 ez_43 => ?_)
      refine lv_goto (tgt := 38) hx hb dX11_least_34 (by decide) ?_
      exact W.iret (v := z_43) hx hb hr (fun t ht h9 => ⟨⟨z_43, S_16, rfl, ⟨hTy, hFr⟩, by rw [ht]; exact hW.1, va_K.moved h9.alike hK, hW.2.1⟩, hW.2.2.F ht⟩) hW.2.2.2.2 dX11_least_38

set_option maxHeartbeats 4000000 in
set_option maxRecDepth 100000 in
theorem k_pressed (l : Launch) (dC : Nat → ClassId) (dI : Nat → Nat → Nat) (cy : Nat → ClassId) (L : List Nat) (kap : Nat → Nat) (pr : Pr) (S : Nat → va_E) (sz : Nat) (o : Nat) (fa : Int32) (fb : Int32) (kd : Int32) (hTy : Ty cy L kap pr S) (hT_o : TK L kap o 11) : Met l yX11_pressed (wT yX11_pressed cX11_pressed 4 (some .int)) ({ frames := 7, cells := 0, slots := 0, locals := 184 }) (pcN dC dI [.ref o, .int fa, .int fb, .int kd] sz (va_pl L S) (cyT cy) NLs []) (va_Qi (fun r S' => Ty cy L kap pr S' ∧ Fr kap [1, 9, 11, 29, 33, 35, 36, 37, 38, 43, 44, 45] S S') (fun S' t => pB dC dI (AL L sz) (va_pl L S') (cyT cy) t) (AL L sz)) 0 0 (AL L sz) := by
  refine Met.ofW (cc := cX11_pressed) (maxL := 4) (ret := (some .int)) (by decide) rfl ?_
  intro p e s m args below meth c s₁ B hml hv
  obtain ⟨rfl, hsz, hP, hK, hD0, hN, -⟩ := hv
  have hx := B.exec
  have hb := B.bytes
  have hr := B.returns
  have hT : ∀ wd ∈ TB, wd.before [.ref o, .int fa, .int fb, .int kd].toArray s = true := fun wd h => atoms_spec (ws := wT yX11_pressed cX11_pressed 4 (some .int)) B.pre wd (List.mem_cons_of_mem _ h)
  have hown : s.vm.findClass RX11 = some m.cls := findClass_of_methodNamed B.named
  have hlocks := B.notSynchronized
  subst hsz
  have hW : PW dC dI L (AL L s.heap.size) s.heap S s.heap [] := ⟨hP, pl_self hD0, va_S.rf⟩
  have hA0 : ∀ q, q ∈ L → AL L s.heap.size q := fun _ h => Or.inl h
  have hA : ∀ q, s.heap.size ≤ q → AL L s.heap.size q := fun _ h => Or.inr h
  have hFr : Fr kap [1, 9, 11, 29, 33, 35, 36, 37, 38, 43, 44, 45] S S := Fr.rf
  have hl := lv_entry ([.ref o, .int fa, .int fb, .int kd]) (n := 4) (Nat.le_of_ble_eq_true rfl)
  rw [lg_entry_eq]
  generalize (lg_sl ([.ref o, .int fa, .int fb, .int kd]) ++ List.replicate (4 - (lg_sl ([.ref o, .int fa, .int fb, .int kd])).length) Slot.unset).toArray = ls at hl ⊢
  have hl : lv_has ls 4 [(0, .ref o), (1, .int fa), (2, .int fb), (3, .int kd)] := hl
  refine lv_aload_n hx hb dX11_pressed_0 rfl (lv_at hl 0 rfl) ?_
  refine lv_iload_n hx hb dX11_pressed_1 rfl (lv_at hl 1 rfl) ?_
  refine lv_iload_n hx hb dX11_pressed_2 rfl (lv_at hl 2 rfl) ?_
  obtain ⟨x_1, x_2, x_3, x_4, x_5, x_6, x_7, x_8, x_9, x_10, x_11, x_12, x_13, hS_o, hT_x_1, hT_x_2, hT_x_3, hT_x_4, hT_x_5, hT_x_6, hT_x_7, hT_x_8, hT_x_9, hT_x_10, hT_x_11, hT_x_12⟩ := hTy.k11 hT_o
  refine vp_callSi (va_Run.run (va_runV (As := [.int fa, .int fb]) (rest := []) ⟨hx, hb, hml, hown, hT⟩ (o_noCouple l dC dI cy L kap pr S s.heap.size o fa fb hTy hT_o) (cwV 2 hT (gV w598 w600 ws22 w1 w601) rfl rfl rfl (by decide +kernel) ⟨(Nat.le_of_ble_eq_true rfl), (Nat.le_of_ble_eq_true rfl)⟩) ⟨pcN.blind, pl_recv hK hW hT_o.1 hS_o rfl, pcN.pre hW.1 hK hW.2.1 hN (fun q h => absurd h List.not_mem_nil)⟩ rfl rfl hl.1 rfl (lv_room (Nat.le_of_ble_eq_true rfl)) dX11_pressed_3 ⟨(Nat.le_of_ble_eq_true rfl), (Nat.le_of_ble_eq_true rfl)⟩)) (fun r_14 hr_14 => ?_)
  rcases hr_14 with hc_ | hc_
  · obtain rfl : r_14 = 1 := hc_
    refine lv_if_ne (tgt := 17) hx hb dX11_pressed_6 (by decide) (fun _ => ?_) (fun h => absurd h (by decide))
    refine lv_bipush (v := (-2)) hx hb dX11_pressed_17 (by decide) ?_
    exact W.iret (v := (-2)) hx hb hr (fun t ht h9 => ⟨⟨(-2), S, rfl, ⟨hTy, hFr⟩, by rw [ht]; exact hW.1, va_K.moved h9.alike hK, hW.2.1⟩, hW.2.2.F ht⟩) hW.2.2.2.2 dX11_pressed_19
  · obtain ⟨rfl, ⟨k_15, hb_k_15, rfl⟩, ⟨k_16, hb_k_16, rfl⟩⟩ := hc_
    refine lv_if_ne (tgt := 17) hx hb dX11_pressed_6 (by decide) (fun h => absurd (by decide) h) (fun _ => ?_)
    refine lv_aload_n hx hb dX11_pressed_9 rfl (lv_at hl 0 rfl) ?_
    refine lv_iload_n hx hb dX11_pressed_10 rfl (lv_at hl 3 rfl) ?_
    refine vp_callSi (va_Run.run (va_runV (As := [.int kd]) (rest := []) ⟨hx, hb, hml, hown, hT⟩ (o_noKind l dC dI cy L kap pr S s.heap.size o kd hTy hT_o) (cwV 1 hT (gV w606 w608 ws24 w1 w609) rfl rfl rfl (by decide +kernel) ⟨(Nat.le_of_ble_eq_true rfl), (Nat.le_of_ble_eq_true rfl)⟩) ⟨pcN.blind, pl_recv hK hW hT_o.1 hS_o rfl, pcN.pre hW.1 hK hW.2.1 hN (fun q h => absurd h List.not_mem_nil)⟩ rfl rfl hl.1 rfl (lv_room (Nat.le_of_ble_eq_true rfl)) dX11_pressed_11 ⟨(Nat.le_of_ble_eq_true rfl), (Nat.le_of_ble_eq_true rfl)⟩)) (fun r_17 hr_17 => ?_)
    rcases hr_17 with hc_ | hc_
    · obtain rfl : r_17 = 1 := hc_
      refine lv_if_eq (tgt := 20) hx hb dX11_pressed_14 (by decide) (fun h => absurd h (by decide)) (fun _ => ?_)
      refine lv_bipush (v := (-2)) hx hb dX11_pressed_17 (by decide) ?_
      exact W.iret (v := (-2)) hx hb hr (fun t ht h9 => ⟨⟨(-2), S, rfl, ⟨hTy, hFr⟩, by rw [ht]; exact hW.1, va_K.moved h9.alike hK, hW.2.1⟩, hW.2.2.F ht⟩) hW.2.2.2.2 dX11_pressed_19
    · obtain ⟨rfl, k_18, hb_k_18, rfl⟩ := hc_
      refine lv_if_eq (tgt := 20) hx hb dX11_pressed_14 (by decide) (fun _ => ?_) (fun h => absurd (by decide) h)
      refine lv_aload_n hx hb dX11_pressed_20 rfl (lv_at hl 0 rfl) ?_
      refine lv_iload_n hx hb dX11_pressed_21 rfl (lv_at hl 3 rfl) ?_
      refine pl_callv (va_runV (As := [.int (nI k_18)]) (rest := []) ⟨hx, hb, hml, hown, hT⟩ (o_solveKind l dC dI cy L kap pr S s.heap.size o (nI k_18) hTy hT_o) (cwV 1 hT (gV w729 w731 ws35 w1 w732) rfl rfl rfl (by decide +kernel) ⟨(Nat.le_of_ble_eq_true rfl), (Nat.le_of_ble_eq_true rfl)⟩) ⟨pcN.blind, pl_recv hK hW hT_o.1 hS_o rfl, pcN.pre hW.1 hK hW.2.1 hN (fun q h => absurd h List.not_mem_nil)⟩ rfl rfl hl.1 rfl (lv_room (Nat.le_of_ble_eq_true rfl)) dX11_pressed_22 ⟨(Nat.le_of_ble_eq_true rfl), (Nat.le_of_ble_eq_true rfl)⟩) hW hA0 hA (fun S_19 H locs hrel hW => ?_)
      obtain ⟨hTy, hF1⟩ := hrel
      have hFr := hFr.tr hF1 (by decide)
      refine lv_aload_n hx hb dX11_pressed_25 rfl (lv_at hl 0 rfl) ?_
      obtain ⟨x_20, x_21, x_22, x_23, x_24, x_25, x_26, x_27, x_28, x_29, x_30, x_31, x_32, hS_o, hT_x_20, hT_x_21, hT_x_22, hT_x_23, hT_x_24, hT_x_25, hT_x_26, hT_x_27, hT_x_28, hT_x_29, hT_x_30, hT_x_31⟩ := hTy.k11 hT_o
      refine pl_get (ci := 11) (v := .ref x_26) (C := RX11) (T := TX11) (N := 13) hx hb hT iX11 hown hK hW hT_o.1 hS_o rfl 6 (by decide) w359 rfl dX11_pressed_26 ?_
      obtain ⟨x_33, x_34, x_35, x_36, x_37, x_38, x_39, x_40, x_41, x_42, x_43, x_44, x_45, hS_x_26, hT_x_33, hT_x_34, hT_x_37, hT_x_38, hT_x_39, hT_x_40, hT_x_41, hT_x_42, hT_x_43, hb_x_44, hb_x_45⟩ := hTy.k9 hT_x_26
      refine pl_get (ci := 9) (v := .int x_35) (C := RX9) (T := TX9) (N := 13) hx hb hT iX9 hown hK hW hT_x_26.1 hS_x_26 rfl 2 (by decide) w268 rfl dX11_pressed_29 ?_
      refine lv_if_eq (tgt := 52) hx hb dX11_pressed_32 (by decide) (fun c_32 => ?_) (fun c_32 => ?_)
      · refine lv_iconst (v := (-1)) hx hb dX11_pressed_52 (by decide) ?_
        exact W.iret (v := (-1)) hx hb hr (fun t ht h9 => ⟨⟨(-1), S_19, rfl, ⟨hTy, hFr⟩, by rw [ht]; exact hW.1, va_K.moved h9.alike hK, hW.2.1⟩, hW.2.2.F ht⟩) hW.2.2.2.2 dX11_pressed_53
      · refine lv_aload_n hx hb dX11_pressed_35 rfl (lv_at hl 0 rfl) ?_
        refine pl_get (ci := 11) (v := .ref x_26) (C := RX11) (T := TX11) (N := 13) hx hb hT iX11 hown hK hW hT_o.1 hS_o rfl 6 (by decide) w359 rfl dX11_pressed_36 ?_
        refine pl_get (ci := 9) (v := .ref x_34) (C := RX9) (T := TX9) (N := 13) hx hb hT iX9 hown hK hW hT_x_26.1 hS_x_26 rfl 1 (by decide) w266 rfl dX11_pressed_39 ?_
        refine lv_iload_n hx hb dX11_pressed_42 rfl (lv_at hl 1 rfl) ?_
        refine lv_iload_n hx hb dX11_pressed_43 rfl (lv_at hl 2 rfl) ?_
        refine vp_callSi (va_Run.run (va_runS (As := [.int (nI k_15), .int (nI k_16)]) (rest := [.ref x_34]) ⟨hx, hb, hml, hown, hT⟩ (s_cell l dC dI H.size k_15 k_16 (by omega) (by omega)) (va_cwS 2 hT (gS w660 w576 w1 w577) rfl rfl rfl (by decide +kernel) ⟨(Nat.le_of_ble_eq_true rfl), (Nat.le_of_ble_eq_true rfl)⟩) ⟨pcW.blind, pcW.pre (va_P0 _ _ _) (hK.sub (tys' := []) [] rfl) (va_D0 (fun _ => True))⟩ rfl rfl hl.1 rfl (lv_room (Nat.le_of_ble_eq_true rfl)) dX11_pressed_44 ⟨(Nat.le_of_ble_eq_true rfl), (Nat.le_of_ble_eq_true rfl)⟩)) (fun r_46 hr_46 => ?_)
        obtain rfl : r_46 = nI (k_15 * 8 + k_16) := hr_46
        obtain ⟨f_47, hS_x_34⟩ := hTy.k43 hT_x_34
        refine pl_lald hx hb hK hW hT_x_34.1 hS_x_34 (vp_in_nI (n := k_15 * 8 + k_16) (N := 64) (by omega) (by omega)) dX11_pressed_47 ?_
        refine lv_topl (fun y_48 ey_48 => ?_)
        refine lv_l2i hx hb dX11_pressed_48 rfl ?_
        refine lv_topi (fun z_49 ez_49 => ?_)
        refine lv_goto (tgt := 53) hx hb dX11_pressed_49 (by decide) ?_
        exact W.iret (v := z_49) hx hb hr (fun t ht h9 => ⟨⟨z_49, S_19, rfl, ⟨hTy, hFr⟩, by rw [ht]; exact hW.1, va_K.moved h9.alike hK, hW.2.1⟩, hW.2.2.F ht⟩) hW.2.2.2.2 dX11_pressed_53

set_option maxHeartbeats 4000000 in
set_option maxRecDepth 100000 in
theorem k_couples (l : Launch) (dC : Nat → ClassId) (dI : Nat → Nat → Nat) (cy : Nat → ClassId) (L : List Nat) (kap : Nat → Nat) (pr : Pr) (S : Nat → va_E) (sz : Nat) (o : Nat) (kd : Int32) (hTy : Ty cy L kap pr S) (hT_o : TK L kap o 11) : Met l yX11_couples (wT yX11_couples cX11_couples 2 (some .int)) ({ frames := 7, cells := 0, slots := 0, locals := 184 }) (pcN dC dI [.ref o, .int kd] sz (va_pl L S) (cyT cy) NLs []) (va_Qi (fun r S' => Ty cy L kap pr S' ∧ Fr kap [1, 9, 11, 29, 33, 35, 36, 37, 38, 43, 44, 45] S S') (fun S' t => pB dC dI (AL L sz) (va_pl L S') (cyT cy) t) (AL L sz)) 0 0 (AL L sz) := by
  refine Met.ofW (cc := cX11_couples) (maxL := 2) (ret := (some .int)) (by decide) rfl ?_
  intro p e s m args below meth c s₁ B hml hv
  obtain ⟨rfl, hsz, hP, hK, hD0, hN, -⟩ := hv
  have hx := B.exec
  have hb := B.bytes
  have hr := B.returns
  have hT : ∀ wd ∈ TB, wd.before [.ref o, .int kd].toArray s = true := fun wd h => atoms_spec (ws := wT yX11_couples cX11_couples 2 (some .int)) B.pre wd (List.mem_cons_of_mem _ h)
  have hown : s.vm.findClass RX11 = some m.cls := findClass_of_methodNamed B.named
  have hlocks := B.notSynchronized
  subst hsz
  have hW : PW dC dI L (AL L s.heap.size) s.heap S s.heap [] := ⟨hP, pl_self hD0, va_S.rf⟩
  have hA0 : ∀ q, q ∈ L → AL L s.heap.size q := fun _ h => Or.inl h
  have hA : ∀ q, s.heap.size ≤ q → AL L s.heap.size q := fun _ h => Or.inr h
  have hFr : Fr kap [1, 9, 11, 29, 33, 35, 36, 37, 38, 43, 44, 45] S S := Fr.rf
  have hl := lv_entry ([.ref o, .int kd]) (n := 2) (Nat.le_of_ble_eq_true rfl)
  rw [lg_entry_eq]
  generalize (lg_sl ([.ref o, .int kd]) ++ List.replicate (2 - (lg_sl ([.ref o, .int kd])).length) Slot.unset).toArray = ls at hl ⊢
  have hl : lv_has ls 2 [(0, .ref o), (1, .int kd)] := hl
  refine lv_aload_n hx hb dX11_couples_0 rfl (lv_at hl 0 rfl) ?_
  refine lv_iload_n hx hb dX11_couples_1 rfl (lv_at hl 1 rfl) ?_
  obtain ⟨x_1, x_2, x_3, x_4, x_5, x_6, x_7, x_8, x_9, x_10, x_11, x_12, x_13, hS_o, hT_x_1, hT_x_2, hT_x_3, hT_x_4, hT_x_5, hT_x_6, hT_x_7, hT_x_8, hT_x_9, hT_x_10, hT_x_11, hT_x_12⟩ := hTy.k11 hT_o
  refine vp_callSi (va_Run.run (va_runV (As := [.int kd]) (rest := []) ⟨hx, hb, hml, hown, hT⟩ (o_noKind l dC dI cy L kap pr S s.heap.size o kd hTy hT_o) (cwV 1 hT (gV w606 w608 ws24 w1 w609) rfl rfl rfl (by decide +kernel) ⟨(Nat.le_of_ble_eq_true rfl), (Nat.le_of_ble_eq_true rfl)⟩) ⟨pcN.blind, pl_recv hK hW hT_o.1 hS_o rfl, pcN.pre hW.1 hK hW.2.1 hN (fun q h => absurd h List.not_mem_nil)⟩ rfl rfl hl.1 rfl (lv_room (Nat.le_of_ble_eq_true rfl)) dX11_couples_2 ⟨(Nat.le_of_ble_eq_true rfl), (Nat.le_of_ble_eq_true rfl)⟩)) (fun r_14 hr_14 => ?_)
  rcases hr_14 with hc_ | hc_
  · obtain rfl : r_14 = 1 := hc_
    refine lv_if_eq (tgt := 11) hx hb dX11_couples_5 (by decide) (fun h => absurd h (by decide)) (fun _ => ?_)
    refine lv_bipush (v := (-2)) hx hb dX11_couples_8 (by decide) ?_
    exact W.iret (v := (-2)) hx hb hr (fun t ht h9 => ⟨⟨(-2), S, rfl, ⟨hTy, hFr⟩, by rw [ht]; exact hW.1, va_K.moved h9.alike hK, hW.2.1⟩, hW.2.2.F ht⟩) hW.2.2.2.2 dX11_couples_10
  · obtain ⟨rfl, k_15, hb_k_15, rfl⟩ := hc_
    refine lv_if_eq (tgt := 11) hx hb dX11_couples_5 (by decide) (fun _ => ?_) (fun h => absurd (by decide) h)
    refine lv_aload_n hx hb dX11_couples_11 rfl (lv_at hl 0 rfl) ?_
    refine lv_iload_n hx hb dX11_couples_12 rfl (lv_at hl 1 rfl) ?_
    refine pl_callv (va_runV (As := [.int (nI k_15)]) (rest := []) ⟨hx, hb, hml, hown, hT⟩ (o_solveKind l dC dI cy L kap pr S s.heap.size o (nI k_15) hTy hT_o) (cwV 1 hT (gV w729 w731 ws35 w1 w732) rfl rfl rfl (by decide +kernel) ⟨(Nat.le_of_ble_eq_true rfl), (Nat.le_of_ble_eq_true rfl)⟩) ⟨pcN.blind, pl_recv hK hW hT_o.1 hS_o rfl, pcN.pre hW.1 hK hW.2.1 hN (fun q h => absurd h List.not_mem_nil)⟩ rfl rfl hl.1 rfl (lv_room (Nat.le_of_ble_eq_true rfl)) dX11_couples_13 ⟨(Nat.le_of_ble_eq_true rfl), (Nat.le_of_ble_eq_true rfl)⟩) hW hA0 hA (fun S_16 H locs hrel hW => ?_)
    obtain ⟨hTy, hF1⟩ := hrel
    have hFr := hFr.tr hF1 (by decide)
    refine lv_aload_n hx hb dX11_couples_16 rfl (lv_at hl 0 rfl) ?_
    obtain ⟨x_17, x_18, x_19, x_20, x_21, x_22, x_23, x_24, x_25, x_26, x_27, x_28, x_29, hS_o, hT_x_17, hT_x_18, hT_x_19, hT_x_20, hT_x_21, hT_x_22, hT_x_23, hT_x_24, hT_x_25, hT_x_26, hT_x_27, hT_x_28⟩ := hTy.k11 hT_o
    refine pl_get (ci := 11) (v := .ref x_23) (C := RX11) (T := TX11) (N := 13) hx hb hT iX11 hown hK hW hT_o.1 hS_o rfl 6 (by decide) w359 rfl dX11_couples_17 ?_
    obtain ⟨x_30, x_31, x_32, x_33, x_34, x_35, x_36, x_37, x_38, x_39, x_40, x_41, x_42, hS_x_23, hT_x_30, hT_x_31, hT_x_34, hT_x_35, hT_x_36, hT_x_37, hT_x_38, hT_x_39, hT_x_40, hb_x_41, hb_x_42⟩ := hTy.k9 hT_x_23
    refine pl_get (ci := 9) (v := .int x_32) (C := RX9) (T := TX9) (N := 13) hx hb hT iX9 hown hK hW hT_x_23.1 hS_x_23 rfl 2 (by decide) w268 rfl dX11_couples_20 ?_
    refine lv_if_eq (tgt := 36) hx hb dX11_couples_23 (by decide) (fun c_23 => ?_) (fun c_23 => ?_)
    · refine lv_iconst (v := (-1)) hx hb dX11_couples_36 (by decide) ?_
      exact W.iret (v := (-1)) hx hb hr (fun t ht h9 => ⟨⟨(-1), S_16, rfl, ⟨hTy, hFr⟩, by rw [ht]; exact hW.1, va_K.moved h9.alike hK, hW.2.1⟩, hW.2.2.F ht⟩) hW.2.2.2.2 dX11_couples_37
    · refine lv_aload_n hx hb dX11_couples_26 rfl (lv_at hl 0 rfl) ?_
      refine pl_get (ci := 11) (v := .ref x_23) (C := RX11) (T := TX11) (N := 13) hx hb hT iX11 hown hK hW hT_o.1 hS_o rfl 6 (by decide) w359 rfl dX11_couples_27 ?_
      refine vp_callSi (va_Run.run (va_runV (As := []) (rest := []) ⟨hx, hb, hml, hown, hT⟩ (s_firstAbove l dC dI cy L kap pr S_16 H.size x_23 hTy hT_x_23) (cwV 0 hT (gV w833 w834 w835 w11 w836) rfl rfl rfl (by decide +kernel) ⟨(Nat.le_of_ble_eq_true rfl), (Nat.le_of_ble_eq_true rfl)⟩) ⟨pcN.blind, pl_recv hK hW hT_x_23.1 hS_x_23 rfl, pcN.pre hW.1 hK hW.2.1 hN (fun q h => absurd h List.not_mem_nil)⟩ rfl rfl hl.1 rfl (lv_room (Nat.le_of_ble_eq_true rfl)) dX11_couples_30 ⟨(Nat.le_of_ble_eq_true rfl), (Nat.le_of_ble_eq_true rfl)⟩)) (fun r_43 hr_43 => ?_)
      refine lv_goto (tgt := 37) hx hb dX11_couples_33 (by decide) ?_
      exact W.iret (v := r_43) hx hb hr (fun t ht h9 => ⟨⟨r_43, S_16, rfl, ⟨hTy, hFr⟩, by rw [ht]; exact hW.1, va_K.moved h9.alike hK, hW.2.1⟩, hW.2.2.F ht⟩) hW.2.2.2.2 dX11_couples_37

set_option maxHeartbeats 4000000 in
set_option maxRecDepth 100000 in
theorem k_span (l : Launch) (dC : Nat → ClassId) (dI : Nat → Nat → Nat) (cy : Nat → ClassId) (L : List Nat) (kap : Nat → Nat) (pr : Pr) (S : Nat → va_E) (sz : Nat) (o : Nat) (fa : Int32) (fb : Int32) (kd : Int32) (hi : Int32) (hTy : Ty cy L kap pr S) (hT_o : TK L kap o 11) : Met l yX11_span (wT yX11_span cX11_span 5 (some .int)) ({ frames := 7, cells := 0, slots := 0, locals := 184 }) (pcN dC dI [.ref o, .int fa, .int fb, .int kd, .int hi] sz (va_pl L S) (cyT cy) NLs []) (va_Qi (fun r S' => Ty cy L kap pr S' ∧ Fr kap [1, 9, 11, 29, 33, 35, 36, 37, 38, 43, 44, 45] S S') (fun S' t => pB dC dI (AL L sz) (va_pl L S') (cyT cy) t) (AL L sz)) 0 0 (AL L sz) := by
  refine Met.ofW (cc := cX11_span) (maxL := 5) (ret := (some .int)) (by decide) rfl ?_
  intro p e s m args below meth c s₁ B hml hv
  obtain ⟨rfl, hsz, hP, hK, hD0, hN, -⟩ := hv
  have hx := B.exec
  have hb := B.bytes
  have hr := B.returns
  have hT : ∀ wd ∈ TB, wd.before [.ref o, .int fa, .int fb, .int kd, .int hi].toArray s = true := fun wd h => atoms_spec (ws := wT yX11_span cX11_span 5 (some .int)) B.pre wd (List.mem_cons_of_mem _ h)
  have hown : s.vm.findClass RX11 = some m.cls := findClass_of_methodNamed B.named
  have hlocks := B.notSynchronized
  subst hsz
  have hW : PW dC dI L (AL L s.heap.size) s.heap S s.heap [] := ⟨hP, pl_self hD0, va_S.rf⟩
  have hA0 : ∀ q, q ∈ L → AL L s.heap.size q := fun _ h => Or.inl h
  have hA : ∀ q, s.heap.size ≤ q → AL L s.heap.size q := fun _ h => Or.inr h
  have hFr : Fr kap [1, 9, 11, 29, 33, 35, 36, 37, 38, 43, 44, 45] S S := Fr.rf
  have hl := lv_entry ([.ref o, .int fa, .int fb, .int kd, .int hi]) (n := 5) (Nat.le_of_ble_eq_true rfl)
  rw [lg_entry_eq]
  generalize (lg_sl ([.ref o, .int fa, .int fb, .int kd, .int hi]) ++ List.replicate (5 - (lg_sl ([.ref o, .int fa, .int fb, .int kd, .int hi])).length) Slot.unset).toArray = ls at hl ⊢
  have hl : lv_has ls 5 [(0, .ref o), (1, .int fa), (2, .int fb), (3, .int kd), (4, .int hi)] := hl
  refine lv_aload_n hx hb dX11_span_0 rfl (lv_at hl 0 rfl) ?_
  refine lv_iload_n hx hb dX11_span_1 rfl (lv_at hl 1 rfl) ?_
  refine lv_iload_n hx hb dX11_span_2 rfl (lv_at hl 2 rfl) ?_
  obtain ⟨x_1, x_2, x_3, x_4, x_5, x_6, x_7, x_8, x_9, x_10, x_11, x_12, x_13, hS_o, hT_x_1, hT_x_2, hT_x_3, hT_x_4, hT_x_5, hT_x_6, hT_x_7, hT_x_8, hT_x_9, hT_x_10, hT_x_11, hT_x_12⟩ := hTy.k11 hT_o
  refine vp_callSi (va_Run.run (va_runV (As := [.int fa, .int fb]) (rest := []) ⟨hx, hb, hml, hown, hT⟩ (o_noCouple l dC dI cy L kap pr S s.heap.size o fa fb hTy hT_o) (cwV 2 hT (gV w598 w600 ws22 w1 w601) rfl rfl rfl (by decide +kernel) ⟨(Nat.le_of_ble_eq_true rfl), (Nat.le_of_ble_eq_true rfl)⟩) ⟨pcN.blind, pl_recv hK hW hT_o.1 hS_o rfl, pcN.pre hW.1 hK hW.2.1 hN (fun q h => absurd h List.not_mem_nil)⟩ rfl rfl hl.1 rfl (lv_room (Nat.le_of_ble_eq_true rfl)) dX11_span_3 ⟨(Nat.le_of_ble_eq_true rfl), (Nat.le_of_ble_eq_true rfl)⟩)) (fun r_14 hr_14 => ?_)
  rcases hr_14 with hc_ | hc_
  · obtain rfl : r_14 = 1 := hc_
    refine lv_if_ne (tgt := 17) hx hb dX11_span_6 (by decide) (fun _ => ?_) (fun h => absurd h (by decide))
    refine lv_bipush (v := (-2)) hx hb dX11_span_17 (by decide) ?_
    exact W.iret (v := (-2)) hx hb hr (fun t ht h9 => ⟨⟨(-2), S, rfl, ⟨hTy, hFr⟩, by rw [ht]; exact hW.1, va_K.moved h9.alike hK, hW.2.1⟩, hW.2.2.F ht⟩) hW.2.2.2.2 dX11_span_19
  · obtain ⟨rfl, ⟨k_15, hb_k_15, rfl⟩, ⟨k_16, hb_k_16, rfl⟩⟩ := hc_
    refine lv_if_ne (tgt := 17) hx hb dX11_span_6 (by decide) (fun h => absurd (by decide) h) (fun _ => ?_)
    refine lv_aload_n hx hb dX11_span_9 rfl (lv_at hl 0 rfl) ?_
    refine lv_iload_n hx hb dX11_span_10 rfl (lv_at hl 3 rfl) ?_
    refine vp_callSi (va_Run.run (va_runV (As := [.int kd]) (rest := []) ⟨hx, hb, hml, hown, hT⟩ (o_noKind l dC dI cy L kap pr S s.heap.size o kd hTy hT_o) (cwV 1 hT (gV w606 w608 ws24 w1 w609) rfl rfl rfl (by decide +kernel) ⟨(Nat.le_of_ble_eq_true rfl), (Nat.le_of_ble_eq_true rfl)⟩) ⟨pcN.blind, pl_recv hK hW hT_o.1 hS_o rfl, pcN.pre hW.1 hK hW.2.1 hN (fun q h => absurd h List.not_mem_nil)⟩ rfl rfl hl.1 rfl (lv_room (Nat.le_of_ble_eq_true rfl)) dX11_span_11 ⟨(Nat.le_of_ble_eq_true rfl), (Nat.le_of_ble_eq_true rfl)⟩)) (fun r_17 hr_17 => ?_)
    rcases hr_17 with hc_ | hc_
    · obtain rfl : r_17 = 1 := hc_
      refine lv_if_eq (tgt := 20) hx hb dX11_span_14 (by decide) (fun h => absurd h (by decide)) (fun _ => ?_)
      refine lv_bipush (v := (-2)) hx hb dX11_span_17 (by decide) ?_
      exact W.iret (v := (-2)) hx hb hr (fun t ht h9 => ⟨⟨(-2), S, rfl, ⟨hTy, hFr⟩, by rw [ht]; exact hW.1, va_K.moved h9.alike hK, hW.2.1⟩, hW.2.2.F ht⟩) hW.2.2.2.2 dX11_span_19
    · obtain ⟨rfl, k_18, hb_k_18, rfl⟩ := hc_
      refine lv_if_eq (tgt := 20) hx hb dX11_span_14 (by decide) (fun _ => ?_) (fun h => absurd (by decide) h)
      refine lv_iload hx hb dX11_span_20 (lv_at hl 4 rfl) ?_
      refine lv_if_eq (tgt := 34) hx hb dX11_span_22 (by decide) (fun c_22 => ?_) (fun c_22 => ?_)
      · refine lv_aload_n hx hb dX11_span_34 rfl (lv_at hl 0 rfl) ?_
        refine lv_iload_n hx hb dX11_span_35 rfl (lv_at hl 3 rfl) ?_
        refine pl_callv (va_runV (As := [.int (nI k_18)]) (rest := []) ⟨hx, hb, hml, hown, hT⟩ (o_solveKind l dC dI cy L kap pr S s.heap.size o (nI k_18) hTy hT_o) (cwV 1 hT (gV w729 w731 ws35 w1 w732) rfl rfl rfl (by decide +kernel) ⟨(Nat.le_of_ble_eq_true rfl), (Nat.le_of_ble_eq_true rfl)⟩) ⟨pcN.blind, pl_recv hK hW hT_o.1 hS_o rfl, pcN.pre hW.1 hK hW.2.1 hN (fun q h => absurd h List.not_mem_nil)⟩ rfl rfl hl.1 rfl (lv_room (Nat.le_of_ble_eq_true rfl)) dX11_span_36 ⟨(Nat.le_of_ble_eq_true rfl), (Nat.le_of_ble_eq_true rfl)⟩) hW hA0 hA (fun S_19 H locs hrel hW => ?_)
        obtain ⟨hTy, hF1⟩ := hrel
        have hFr := hFr.tr hF1 (by decide)
        refine lv_aload_n hx hb dX11_span_39 rfl (lv_at hl 0 rfl) ?_
        obtain ⟨x_20, x_21, x_22, x_23, x_24, x_25, x_26, x_27, x_28, x_29, x_30, x_31, x_32, hS_o, hT_x_20, hT_x_21, hT_x_22, hT_x_23, hT_x_24, hT_x_25, hT_x_26, hT_x_27, hT_x_28, hT_x_29, hT_x_30, hT_x_31⟩ := hTy.k11 hT_o
        refine pl_get (ci := 11) (v := .ref x_26) (C := RX11) (T := TX11) (N := 13) hx hb hT iX11 hown hK hW hT_o.1 hS_o rfl 6 (by decide) w359 rfl dX11_span_40 ?_
        obtain ⟨x_33, x_34, x_35, x_36, x_37, x_38, x_39, x_40, x_41, x_42, x_43, x_44, x_45, hS_x_26, hT_x_33, hT_x_34, hT_x_37, hT_x_38, hT_x_39, hT_x_40, hT_x_41, hT_x_42, hT_x_43, hb_x_44, hb_x_45⟩ := hTy.k9 hT_x_26
        refine pl_get (ci := 9) (v := .int x_35) (C := RX9) (T := TX9) (N := 13) hx hb hT iX9 hown hK hW hT_x_26.1 hS_x_26 rfl 2 (by decide) w268 rfl dX11_span_43 ?_
        refine lv_if_eq (tgt := 73) hx hb dX11_span_46 (by decide) (fun c_46 => ?_) (fun c_46 => ?_)
        · refine lv_iconst (v := (-1)) hx hb dX11_span_73 (by decide) ?_
          exact W.iret (v := (-1)) hx hb hr (fun t ht h9 => ⟨⟨(-1), S_19, rfl, ⟨hTy, hFr⟩, by rw [ht]; exact hW.1, va_K.moved h9.alike hK, hW.2.1⟩, hW.2.2.F ht⟩) hW.2.2.2.2 dX11_span_74
        · refine lv_aload_n hx hb dX11_span_49 rfl (lv_at hl 0 rfl) ?_
          refine pl_get (ci := 11) (v := .ref x_26) (C := RX11) (T := TX11) (N := 13) hx hb hT iX11 hown hK hW hT_o.1 hS_o rfl 6 (by decide) w359 rfl dX11_span_50 ?_
          refine lv_iload_n hx hb dX11_span_53 rfl (lv_at hl 1 rfl) ?_
          refine lv_iload_n hx hb dX11_span_54 rfl (lv_at hl 2 rfl) ?_
          refine lv_iload hx hb dX11_span_55 (lv_at hl 4 rfl) ?_
          refine lv_iconst (v := 1) hx hb dX11_span_57 (by decide) ?_
          refine lv_icmp_ne (tgt := 65) hx hb dX11_span_58 (by decide) (fun c_58 => ?_) (fun c_58 => ?_)
          · refine lv_iconst (v := 0) hx hb dX11_span_65 (by decide) ?_
            refine pl_calll (va_runV (As := [.int (nI k_15), .int (nI k_16), .int 0]) (rest := []) ⟨hx, hb, hml, hown, hT⟩ (s_farthest l dC dI cy L kap pr S_19 H.size x_26 k_15 k_16 0 hTy hT_x_26 (by omega) (by omega)) (cwV 3 hT (gV w975 w976 w977 w11 w978) rfl rfl rfl (by decide +kernel) ⟨(Nat.le_of_ble_eq_true rfl), (Nat.le_of_ble_eq_true rfl)⟩) ⟨pcN.blind, pl_recv hK hW hT_x_26.1 hS_x_26 rfl, pcN.pre hW.1 hK hW.2.1 hN (fun q h => absurd h List.not_mem_nil)⟩ rfl rfl hl.1 rfl (lv_room (Nat.le_of_ble_eq_true rfl)) dX11_span_66 ⟨(Nat.le_of_ble_eq_true rfl), (Nat.le_of_ble_eq_true rfl)⟩) hW hA0 hA (fun r_47 S_46 H locs hrel hW => ?_)
            obtain ⟨hTy, hF1⟩ := hrel
            have hFr := hFr.tr hF1 (by decide)
            have hS_o := hF1.at hT_o (by decide) hS_o
            have hS_x_26 := hF1.at hT_x_26 (by decide) hS_x_26
            refine lv_l2i hx hb dX11_span_69 rfl ?_
            refine lv_topi (fun z_48 ez_48 => ?_)
            refine lv_goto (tgt := 74) hx hb dX11_span_70 (by decide) ?_
            exact W.iret (v := z_48) hx hb hr (fun t ht h9 => ⟨⟨z_48, S_46, rfl, ⟨hTy, hFr⟩, by rw [ht]; exact hW.1, va_K.moved h9.alike hK, hW.2.1⟩, hW.2.2.F ht⟩) hW.2.2.2.2 dX11_span_74
          · refine lv_iconst (v := 1) hx hb dX11_span_61 (by decide) ?_
            refine lv_goto (tgt := 66) hx hb dX11_span_62 (by decide) ?_
            refine pl_calll (va_runV (As := [.int (nI k_15), .int (nI k_16), .int 1]) (rest := []) ⟨hx, hb, hml, hown, hT⟩ (s_farthest l dC dI cy L kap pr S_19 H.size x_26 k_15 k_16 1 hTy hT_x_26 (by omega) (by omega)) (cwV 3 hT (gV w975 w976 w977 w11 w978) rfl rfl rfl (by decide +kernel) ⟨(Nat.le_of_ble_eq_true rfl), (Nat.le_of_ble_eq_true rfl)⟩) ⟨pcN.blind, pl_recv hK hW hT_x_26.1 hS_x_26 rfl, pcN.pre hW.1 hK hW.2.1 hN (fun q h => absurd h List.not_mem_nil)⟩ rfl rfl hl.1 rfl (lv_room (Nat.le_of_ble_eq_true rfl)) dX11_span_66 ⟨(Nat.le_of_ble_eq_true rfl), (Nat.le_of_ble_eq_true rfl)⟩) hW hA0 hA (fun r_50 S_49 H locs hrel hW => ?_)
            obtain ⟨hTy, hF1⟩ := hrel
            have hFr := hFr.tr hF1 (by decide)
            have hS_o := hF1.at hT_o (by decide) hS_o
            have hS_x_26 := hF1.at hT_x_26 (by decide) hS_x_26
            refine lv_l2i hx hb dX11_span_69 rfl ?_
            refine lv_topi (fun z_51 ez_51 => ?_)
            refine lv_goto (tgt := 74) hx hb dX11_span_70 (by decide) ?_
            exact W.iret (v := z_51) hx hb hr (fun t ht h9 => ⟨⟨z_51, S_49, rfl, ⟨hTy, hFr⟩, by rw [ht]; exact hW.1, va_K.moved h9.alike hK, hW.2.1⟩, hW.2.2.F ht⟩) hW.2.2.2.2 dX11_span_74
      · refine lv_iload hx hb dX11_span_25 (lv_at hl 4 rfl) ?_
        refine lv_iconst (v := 1) hx hb dX11_span_27 (by decide) ?_
        refine lv_icmp_eq (tgt := 34) hx hb dX11_span_28 (by decide) (fun c_28 => ?_) (fun c_28 => ?_)
        · refine lv_aload_n hx hb dX11_span_34 rfl (lv_at hl 0 rfl) ?_
          refine lv_iload_n hx hb dX11_span_35 rfl (lv_at hl 3 rfl) ?_
          refine pl_callv (va_runV (As := [.int (nI k_18)]) (rest := []) ⟨hx, hb, hml, hown, hT⟩ (o_solveKind l dC dI cy L kap pr S s.heap.size o (nI k_18) hTy hT_o) (cwV 1 hT (gV w729 w731 ws35 w1 w732) rfl rfl rfl (by decide +kernel) ⟨(Nat.le_of_ble_eq_true rfl), (Nat.le_of_ble_eq_true rfl)⟩) ⟨pcN.blind, pl_recv hK hW hT_o.1 hS_o rfl, pcN.pre hW.1 hK hW.2.1 hN (fun q h => absurd h List.not_mem_nil)⟩ rfl rfl hl.1 rfl (lv_room (Nat.le_of_ble_eq_true rfl)) dX11_span_36 ⟨(Nat.le_of_ble_eq_true rfl), (Nat.le_of_ble_eq_true rfl)⟩) hW hA0 hA (fun S_52 H locs hrel hW => ?_)
          obtain ⟨hTy, hF1⟩ := hrel
          have hFr := hFr.tr hF1 (by decide)
          refine lv_aload_n hx hb dX11_span_39 rfl (lv_at hl 0 rfl) ?_
          obtain ⟨x_53, x_54, x_55, x_56, x_57, x_58, x_59, x_60, x_61, x_62, x_63, x_64, x_65, hS_o, hT_x_53, hT_x_54, hT_x_55, hT_x_56, hT_x_57, hT_x_58, hT_x_59, hT_x_60, hT_x_61, hT_x_62, hT_x_63, hT_x_64⟩ := hTy.k11 hT_o
          refine pl_get (ci := 11) (v := .ref x_59) (C := RX11) (T := TX11) (N := 13) hx hb hT iX11 hown hK hW hT_o.1 hS_o rfl 6 (by decide) w359 rfl dX11_span_40 ?_
          obtain ⟨x_66, x_67, x_68, x_69, x_70, x_71, x_72, x_73, x_74, x_75, x_76, x_77, x_78, hS_x_59, hT_x_66, hT_x_67, hT_x_70, hT_x_71, hT_x_72, hT_x_73, hT_x_74, hT_x_75, hT_x_76, hb_x_77, hb_x_78⟩ := hTy.k9 hT_x_59
          refine pl_get (ci := 9) (v := .int x_68) (C := RX9) (T := TX9) (N := 13) hx hb hT iX9 hown hK hW hT_x_59.1 hS_x_59 rfl 2 (by decide) w268 rfl dX11_span_43 ?_
          refine lv_if_eq (tgt := 73) hx hb dX11_span_46 (by decide) (fun c_46 => ?_) (fun c_46 => ?_)
          · refine lv_iconst (v := (-1)) hx hb dX11_span_73 (by decide) ?_
            exact W.iret (v := (-1)) hx hb hr (fun t ht h9 => ⟨⟨(-1), S_52, rfl, ⟨hTy, hFr⟩, by rw [ht]; exact hW.1, va_K.moved h9.alike hK, hW.2.1⟩, hW.2.2.F ht⟩) hW.2.2.2.2 dX11_span_74
          · refine lv_aload_n hx hb dX11_span_49 rfl (lv_at hl 0 rfl) ?_
            refine pl_get (ci := 11) (v := .ref x_59) (C := RX11) (T := TX11) (N := 13) hx hb hT iX11 hown hK hW hT_o.1 hS_o rfl 6 (by decide) w359 rfl dX11_span_50 ?_
            refine lv_iload_n hx hb dX11_span_53 rfl (lv_at hl 1 rfl) ?_
            refine lv_iload_n hx hb dX11_span_54 rfl (lv_at hl 2 rfl) ?_
            refine lv_iload hx hb dX11_span_55 (lv_at hl 4 rfl) ?_
            refine lv_iconst (v := 1) hx hb dX11_span_57 (by decide) ?_
            refine lv_icmp_ne (tgt := 65) hx hb dX11_span_58 (by decide) (fun c_58 => ?_) (fun c_58 => ?_)
            · refine lv_iconst (v := 0) hx hb dX11_span_65 (by decide) ?_
              refine pl_calll (va_runV (As := [.int (nI k_15), .int (nI k_16), .int 0]) (rest := []) ⟨hx, hb, hml, hown, hT⟩ (s_farthest l dC dI cy L kap pr S_52 H.size x_59 k_15 k_16 0 hTy hT_x_59 (by omega) (by omega)) (cwV 3 hT (gV w975 w976 w977 w11 w978) rfl rfl rfl (by decide +kernel) ⟨(Nat.le_of_ble_eq_true rfl), (Nat.le_of_ble_eq_true rfl)⟩) ⟨pcN.blind, pl_recv hK hW hT_x_59.1 hS_x_59 rfl, pcN.pre hW.1 hK hW.2.1 hN (fun q h => absurd h List.not_mem_nil)⟩ rfl rfl hl.1 rfl (lv_room (Nat.le_of_ble_eq_true rfl)) dX11_span_66 ⟨(Nat.le_of_ble_eq_true rfl), (Nat.le_of_ble_eq_true rfl)⟩) hW hA0 hA (fun r_80 S_79 H locs hrel hW => ?_)
              obtain ⟨hTy, hF1⟩ := hrel
              have hFr := hFr.tr hF1 (by decide)
              have hS_o := hF1.at hT_o (by decide) hS_o
              have hS_x_59 := hF1.at hT_x_59 (by decide) hS_x_59
              refine lv_l2i hx hb dX11_span_69 rfl ?_
              refine lv_topi (fun z_81 ez_81 => ?_)
              refine lv_goto (tgt := 74) hx hb dX11_span_70 (by decide) ?_
              exact W.iret (v := z_81) hx hb hr (fun t ht h9 => ⟨⟨z_81, S_79, rfl, ⟨hTy, hFr⟩, by rw [ht]; exact hW.1, va_K.moved h9.alike hK, hW.2.1⟩, hW.2.2.F ht⟩) hW.2.2.2.2 dX11_span_74
            · refine lv_iconst (v := 1) hx hb dX11_span_61 (by decide) ?_
              refine lv_goto (tgt := 66) hx hb dX11_span_62 (by decide) ?_
              refine pl_calll (va_runV (As := [.int (nI k_15), .int (nI k_16), .int 1]) (rest := []) ⟨hx, hb, hml, hown, hT⟩ (s_farthest l dC dI cy L kap pr S_52 H.size x_59 k_15 k_16 1 hTy hT_x_59 (by omega) (by omega)) (cwV 3 hT (gV w975 w976 w977 w11 w978) rfl rfl rfl (by decide +kernel) ⟨(Nat.le_of_ble_eq_true rfl), (Nat.le_of_ble_eq_true rfl)⟩) ⟨pcN.blind, pl_recv hK hW hT_x_59.1 hS_x_59 rfl, pcN.pre hW.1 hK hW.2.1 hN (fun q h => absurd h List.not_mem_nil)⟩ rfl rfl hl.1 rfl (lv_room (Nat.le_of_ble_eq_true rfl)) dX11_span_66 ⟨(Nat.le_of_ble_eq_true rfl), (Nat.le_of_ble_eq_true rfl)⟩) hW hA0 hA (fun r_83 S_82 H locs hrel hW => ?_)
              obtain ⟨hTy, hF1⟩ := hrel
              have hFr := hFr.tr hF1 (by decide)
              have hS_o := hF1.at hT_o (by decide) hS_o
              have hS_x_59 := hF1.at hT_x_59 (by decide) hS_x_59
              refine lv_l2i hx hb dX11_span_69 rfl ?_
              refine lv_topi (fun z_84 ez_84 => ?_)
              refine lv_goto (tgt := 74) hx hb dX11_span_70 (by decide) ?_
              exact W.iret (v := z_84) hx hb hr (fun t ht h9 => ⟨⟨z_84, S_82, rfl, ⟨hTy, hFr⟩, by rw [ht]; exact hW.1, va_K.moved h9.alike hK, hW.2.1⟩, hW.2.2.F ht⟩) hW.2.2.2.2 dX11_span_74
        · refine lv_bipush (v := (-3)) hx hb dX11_span_31 (by decide) ?_
          exact W.iret (v := (-3)) hx hb hr (fun t ht h9 => ⟨⟨(-3), S, rfl, ⟨hTy, hFr⟩, by rw [ht]; exact hW.1, va_K.moved h9.alike hK, hW.2.1⟩, hW.2.2.F ht⟩) hW.2.2.2.2 dX11_span_33

set_option maxHeartbeats 4000000 in
set_option maxRecDepth 100000 in
theorem k_gain (l : Launch) (dC : Nat → ClassId) (dI : Nat → Nat → Nat) (cy : Nat → ClassId) (L : List Nat) (kap : Nat → Nat) (pr : Pr) (S : Nat → va_E) (sz : Nat) (o : Nat) (fa : Int32) (fb : Int32) (kd : Int32) (hTy : Ty cy L kap pr S) (hT_o : TK L kap o 11) : Met l yX11_gain (wT yX11_gain cX11_gain 4 (some .int)) ({ frames := 7, cells := 0, slots := 0, locals := 184 }) (pcN dC dI [.ref o, .int fa, .int fb, .int kd] sz (va_pl L S) (cyT cy) NLs []) (va_Qi (fun r S' => Ty cy L kap pr S' ∧ Fr kap [1, 9, 11, 29, 33, 35, 36, 37, 38, 43, 44, 45] S S') (fun S' t => pB dC dI (AL L sz) (va_pl L S') (cyT cy) t) (AL L sz)) 0 0 (AL L sz) := by
  refine Met.ofW (cc := cX11_gain) (maxL := 4) (ret := (some .int)) (by decide) rfl ?_
  intro p e s m args below meth c s₁ B hml hv
  obtain ⟨rfl, hsz, hP, hK, hD0, hN, -⟩ := hv
  have hx := B.exec
  have hb := B.bytes
  have hr := B.returns
  have hT : ∀ wd ∈ TB, wd.before [.ref o, .int fa, .int fb, .int kd].toArray s = true := fun wd h => atoms_spec (ws := wT yX11_gain cX11_gain 4 (some .int)) B.pre wd (List.mem_cons_of_mem _ h)
  have hown : s.vm.findClass RX11 = some m.cls := findClass_of_methodNamed B.named
  have hlocks := B.notSynchronized
  subst hsz
  have hW : PW dC dI L (AL L s.heap.size) s.heap S s.heap [] := ⟨hP, pl_self hD0, va_S.rf⟩
  have hA0 : ∀ q, q ∈ L → AL L s.heap.size q := fun _ h => Or.inl h
  have hA : ∀ q, s.heap.size ≤ q → AL L s.heap.size q := fun _ h => Or.inr h
  have hFr : Fr kap [1, 9, 11, 29, 33, 35, 36, 37, 38, 43, 44, 45] S S := Fr.rf
  have hl := lv_entry ([.ref o, .int fa, .int fb, .int kd]) (n := 4) (Nat.le_of_ble_eq_true rfl)
  rw [lg_entry_eq]
  generalize (lg_sl ([.ref o, .int fa, .int fb, .int kd]) ++ List.replicate (4 - (lg_sl ([.ref o, .int fa, .int fb, .int kd])).length) Slot.unset).toArray = ls at hl ⊢
  have hl : lv_has ls 4 [(0, .ref o), (1, .int fa), (2, .int fb), (3, .int kd)] := hl
  refine lv_aload_n hx hb dX11_gain_0 rfl (lv_at hl 0 rfl) ?_
  refine lv_iload_n hx hb dX11_gain_1 rfl (lv_at hl 1 rfl) ?_
  refine lv_iload_n hx hb dX11_gain_2 rfl (lv_at hl 2 rfl) ?_
  obtain ⟨x_1, x_2, x_3, x_4, x_5, x_6, x_7, x_8, x_9, x_10, x_11, x_12, x_13, hS_o, hT_x_1, hT_x_2, hT_x_3, hT_x_4, hT_x_5, hT_x_6, hT_x_7, hT_x_8, hT_x_9, hT_x_10, hT_x_11, hT_x_12⟩ := hTy.k11 hT_o
  refine vp_callSi (va_Run.run (va_runV (As := [.int fa, .int fb]) (rest := []) ⟨hx, hb, hml, hown, hT⟩ (o_noCouple l dC dI cy L kap pr S s.heap.size o fa fb hTy hT_o) (cwV 2 hT (gV w598 w600 ws22 w1 w601) rfl rfl rfl (by decide +kernel) ⟨(Nat.le_of_ble_eq_true rfl), (Nat.le_of_ble_eq_true rfl)⟩) ⟨pcN.blind, pl_recv hK hW hT_o.1 hS_o rfl, pcN.pre hW.1 hK hW.2.1 hN (fun q h => absurd h List.not_mem_nil)⟩ rfl rfl hl.1 rfl (lv_room (Nat.le_of_ble_eq_true rfl)) dX11_gain_3 ⟨(Nat.le_of_ble_eq_true rfl), (Nat.le_of_ble_eq_true rfl)⟩)) (fun r_14 hr_14 => ?_)
  rcases hr_14 with hc_ | hc_
  · obtain rfl : r_14 = 1 := hc_
    refine lv_if_ne (tgt := 17) hx hb dX11_gain_6 (by decide) (fun _ => ?_) (fun h => absurd h (by decide))
    refine lv_bipush (v := (-2)) hx hb dX11_gain_17 (by decide) ?_
    exact W.iret (v := (-2)) hx hb hr (fun t ht h9 => ⟨⟨(-2), S, rfl, ⟨hTy, hFr⟩, by rw [ht]; exact hW.1, va_K.moved h9.alike hK, hW.2.1⟩, hW.2.2.F ht⟩) hW.2.2.2.2 dX11_gain_19
  · obtain ⟨rfl, ⟨k_15, hb_k_15, rfl⟩, ⟨k_16, hb_k_16, rfl⟩⟩ := hc_
    refine lv_if_ne (tgt := 17) hx hb dX11_gain_6 (by decide) (fun h => absurd (by decide) h) (fun _ => ?_)
    refine lv_aload_n hx hb dX11_gain_9 rfl (lv_at hl 0 rfl) ?_
    refine lv_iload_n hx hb dX11_gain_10 rfl (lv_at hl 3 rfl) ?_
    refine vp_callSi (va_Run.run (va_runV (As := [.int kd]) (rest := []) ⟨hx, hb, hml, hown, hT⟩ (o_noKind l dC dI cy L kap pr S s.heap.size o kd hTy hT_o) (cwV 1 hT (gV w606 w608 ws24 w1 w609) rfl rfl rfl (by decide +kernel) ⟨(Nat.le_of_ble_eq_true rfl), (Nat.le_of_ble_eq_true rfl)⟩) ⟨pcN.blind, pl_recv hK hW hT_o.1 hS_o rfl, pcN.pre hW.1 hK hW.2.1 hN (fun q h => absurd h List.not_mem_nil)⟩ rfl rfl hl.1 rfl (lv_room (Nat.le_of_ble_eq_true rfl)) dX11_gain_11 ⟨(Nat.le_of_ble_eq_true rfl), (Nat.le_of_ble_eq_true rfl)⟩)) (fun r_17 hr_17 => ?_)
    rcases hr_17 with hc_ | hc_
    · obtain rfl : r_17 = 1 := hc_
      refine lv_if_eq (tgt := 20) hx hb dX11_gain_14 (by decide) (fun h => absurd h (by decide)) (fun _ => ?_)
      refine lv_bipush (v := (-2)) hx hb dX11_gain_17 (by decide) ?_
      exact W.iret (v := (-2)) hx hb hr (fun t ht h9 => ⟨⟨(-2), S, rfl, ⟨hTy, hFr⟩, by rw [ht]; exact hW.1, va_K.moved h9.alike hK, hW.2.1⟩, hW.2.2.F ht⟩) hW.2.2.2.2 dX11_gain_19
    · obtain ⟨rfl, k_18, hb_k_18, rfl⟩ := hc_
      refine lv_if_eq (tgt := 20) hx hb dX11_gain_14 (by decide) (fun _ => ?_) (fun h => absurd (by decide) h)
      refine lv_aload_n hx hb dX11_gain_20 rfl (lv_at hl 0 rfl) ?_
      refine lv_iload_n hx hb dX11_gain_21 rfl (lv_at hl 3 rfl) ?_
      refine pl_callv (va_runV (As := [.int (nI k_18)]) (rest := []) ⟨hx, hb, hml, hown, hT⟩ (o_solveKind l dC dI cy L kap pr S s.heap.size o (nI k_18) hTy hT_o) (cwV 1 hT (gV w729 w731 ws35 w1 w732) rfl rfl rfl (by decide +kernel) ⟨(Nat.le_of_ble_eq_true rfl), (Nat.le_of_ble_eq_true rfl)⟩) ⟨pcN.blind, pl_recv hK hW hT_o.1 hS_o rfl, pcN.pre hW.1 hK hW.2.1 hN (fun q h => absurd h List.not_mem_nil)⟩ rfl rfl hl.1 rfl (lv_room (Nat.le_of_ble_eq_true rfl)) dX11_gain_22 ⟨(Nat.le_of_ble_eq_true rfl), (Nat.le_of_ble_eq_true rfl)⟩) hW hA0 hA (fun S_19 H locs hrel hW => ?_)
      obtain ⟨hTy, hF1⟩ := hrel
      have hFr := hFr.tr hF1 (by decide)
      refine lv_aload_n hx hb dX11_gain_25 rfl (lv_at hl 0 rfl) ?_
      obtain ⟨x_20, x_21, x_22, x_23, x_24, x_25, x_26, x_27, x_28, x_29, x_30, x_31, x_32, hS_o, hT_x_20, hT_x_21, hT_x_22, hT_x_23, hT_x_24, hT_x_25, hT_x_26, hT_x_27, hT_x_28, hT_x_29, hT_x_30, hT_x_31⟩ := hTy.k11 hT_o
      refine pl_get (ci := 11) (v := .ref x_26) (C := RX11) (T := TX11) (N := 13) hx hb hT iX11 hown hK hW hT_o.1 hS_o rfl 6 (by decide) w359 rfl dX11_gain_26 ?_
      obtain ⟨x_33, x_34, x_35, x_36, x_37, x_38, x_39, x_40, x_41, x_42, x_43, x_44, x_45, hS_x_26, hT_x_33, hT_x_34, hT_x_37, hT_x_38, hT_x_39, hT_x_40, hT_x_41, hT_x_42, hT_x_43, hb_x_44, hb_x_45⟩ := hTy.k9 hT_x_26
      refine pl_get (ci := 9) (v := .int x_35) (C := RX9) (T := TX9) (N := 13) hx hb hT iX9 hown hK hW hT_x_26.1 hS_x_26 rfl 2 (by decide) w268 rfl dX11_gain_29 ?_
      refine lv_if_ne (tgt := 37) hx hb dX11_gain_32 (by decide) (fun c_32 => ?_) (fun c_32 => ?_)
      · refine lv_aload_n hx hb dX11_gain_37 rfl (lv_at hl 0 rfl) ?_
        refine lv_iload_n hx hb dX11_gain_38 rfl (lv_at hl 3 rfl) ?_
        refine lv_iconst (v := (-1)) hx hb dX11_gain_39 (by decide) ?_
        refine pl_callv (va_runV (As := [.int (nI k_18), .int (-1)]) (rest := []) ⟨hx, hb, hml, hown, hT⟩ (o_prepTrial l dC dI cy L kap pr S_19 H.size o (nI k_18) (-1) hTy hT_o) (cwV 2 hT (gV w983 w985 ws48 w1 w986) rfl rfl rfl (by decide +kernel) ⟨(Nat.le_of_ble_eq_true rfl), (Nat.le_of_ble_eq_true rfl)⟩) ⟨pcN.blind, pl_recv hK hW hT_o.1 hS_o rfl, pcN.pre hW.1 hK hW.2.1 hN (fun q h => absurd h List.not_mem_nil)⟩ rfl rfl hl.1 rfl (lv_room (Nat.le_of_ble_eq_true rfl)) dX11_gain_40 ⟨(Nat.le_of_ble_eq_true rfl), (Nat.le_of_ble_eq_true rfl)⟩) hW hA0 hA (fun S_46 H locs hrel hW => ?_)
        obtain ⟨hTy, hF1⟩ := hrel
        have hFr := hFr.tr hF1 (by decide)
        have hS_o := hF1.at hT_o (by decide) hS_o
        refine lv_aload_n hx hb dX11_gain_43 rfl (lv_at hl 0 rfl) ?_
        refine pl_get (ci := 11) (v := .ref x_27) (C := RX11) (T := TX11) (N := 13) hx hb hT iX11 hown hK hW hT_o.1 hS_o rfl 7 (by decide) w360 rfl dX11_gain_44 ?_
        obtain ⟨x_47, x_48, x_49, x_50, x_51, x_52, x_53, x_54, x_55, x_56, x_57, x_58, x_59, hS_x_27, hT_x_47, hT_x_48, hT_x_51, hT_x_52, hT_x_53, hT_x_54, hT_x_55, hT_x_56, hT_x_57, hb_x_58, hb_x_59⟩ := hTy.k9 hT_x_27
        refine pl_get (ci := 9) (v := .ref x_47) (C := RX9) (T := TX9) (N := 13) hx hb hT iX9 hown hK hW hT_x_27.1 hS_x_27 rfl 0 (by decide) w264 rfl dX11_gain_47 ?_
        refine lv_iload_n hx hb dX11_gain_50 rfl (lv_at hl 1 rfl) ?_
        refine lv_iload_n hx hb dX11_gain_51 rfl (lv_at hl 2 rfl) ?_
        refine vp_callSi (va_Run.run (va_runS (As := [.int (nI k_15), .int (nI k_16)]) (rest := [.ref x_47]) ⟨hx, hb, hml, hown, hT⟩ (s_cell l dC dI H.size k_15 k_16 (by omega) (by omega)) (va_cwS 2 hT (gS w660 w576 w1 w577) rfl rfl rfl (by decide +kernel) ⟨(Nat.le_of_ble_eq_true rfl), (Nat.le_of_ble_eq_true rfl)⟩) ⟨pcW.blind, pcW.pre (va_P0 _ _ _) (hK.sub (tys' := []) [] rfl) (va_D0 (fun _ => True))⟩ rfl rfl hl.1 rfl (lv_room (Nat.le_of_ble_eq_true rfl)) dX11_gain_52 ⟨(Nat.le_of_ble_eq_true rfl), (Nat.le_of_ble_eq_true rfl)⟩)) (fun r_60 hr_60 => ?_)
        obtain rfl : r_60 = nI (k_15 * 8 + k_16) := hr_60
        refine lv_dup2_11 hx hb dX11_gain_55 rfl rfl ?_
        obtain ⟨f_61, hS_x_47⟩ := hTy.k29 hT_x_47
        refine pl_lald hx hb hK hW hT_x_47.1 hS_x_47 (vp_in_nI (n := k_15 * 8 + k_16) (N := 64) (by omega) (by omega)) dX11_gain_56 ?_
        refine lv_topl (fun y_62 ey_62 => ?_)
        refine lv_lconst (v := 1) hx hb dX11_gain_57 (by decide) ?_
        refine lv_ladd hx hb dX11_gain_58 ?_
        refine lv_topl (fun z_63 ez_63 => ?_)
        refine pl_last hx hb hK hW hT_x_47.1 hS_x_47 (vp_in_nI (n := k_15 * 8 + k_16) (N := 64) (by omega) (by omega)) dX11_gain_59 (fun H locs f_65 S_64 ef_f_65 e1 hW => ?_)
        have hTy := hTy.u29 e1 hT_x_47 ⟨f_65, rfl⟩
        have hS_o := un e1 hT_o hT_x_47 (by decide) hS_o
        have hS_x_27 := un e1 hT_x_27 hT_x_47 (by decide) hS_x_27
        have hFr := uf hFr e1 hT_x_47 (by decide) (by decide)
        have hS_x_47 := us e1
        refine lv_aload_n hx hb dX11_gain_60 rfl (lv_at hl 0 rfl) ?_
        refine pl_get (ci := 11) (v := .ref x_27) (C := RX11) (T := TX11) (N := 13) hx hb hT iX11 hown hK hW hT_o.1 hS_o rfl 7 (by decide) w360 rfl dX11_gain_61 ?_
        refine pl_callv (va_runV (As := []) (rest := []) ⟨hx, hb, hml, hown, hT⟩ (s_solve l dC dI cy L kap pr S_64 H.size x_27 hTy hT_x_27) (cwV 0 hT (gV w766 w767 w768 w11 w769) rfl rfl rfl (by decide +kernel) ⟨(Nat.le_of_ble_eq_true rfl), (Nat.le_of_ble_eq_true rfl)⟩) ⟨pcN.blind, pl_recv hK hW hT_x_27.1 hS_x_27 rfl, pcN.pre hW.1 hK hW.2.1 hN (fun q h => absurd h List.not_mem_nil)⟩ rfl rfl hl.1 rfl (lv_room (Nat.le_of_ble_eq_true rfl)) dX11_gain_64 ⟨(Nat.le_of_ble_eq_true rfl), (Nat.le_of_ble_eq_true rfl)⟩) hW hA0 hA (fun S_66 H locs hrel hW => ?_)
        obtain ⟨hTy, hF1⟩ := hrel
        have hFr := hFr.tr hF1 (by decide)
        have hS_o := hF1.at hT_o (by decide) hS_o
        have hS_x_47 := hF1.at hT_x_47 (by decide) hS_x_47
        refine lv_aload_n hx hb dX11_gain_67 rfl (lv_at hl 0 rfl) ?_
        refine pl_get (ci := 11) (v := .ref x_26) (C := RX11) (T := TX11) (N := 13) hx hb hT iX11 hown hK hW hT_o.1 hS_o rfl 6 (by decide) w359 rfl dX11_gain_68 ?_
        obtain ⟨x_67, x_68, x_69, x_70, x_71, x_72, x_73, x_74, x_75, x_76, x_77, x_78, x_79, hS_x_26, hT_x_67, hT_x_68, hT_x_71, hT_x_72, hT_x_73, hT_x_74, hT_x_75, hT_x_76, hT_x_77, hb_x_78, hb_x_79⟩ := hTy.k9 hT_x_26
        refine pl_get (ci := 9) (v := .long x_70) (C := RX9) (T := TX9) (N := 13) hx hb hT iX9 hown hK hW hT_x_26.1 hS_x_26 rfl 3 (by decide) w270 rfl dX11_gain_71 ?_
        refine lv_aload_n hx hb dX11_gain_74 rfl (lv_at hl 0 rfl) ?_
        refine pl_get (ci := 11) (v := .ref x_27) (C := RX11) (T := TX11) (N := 13) hx hb hT iX11 hown hK hW hT_o.1 hS_o rfl 7 (by decide) w360 rfl dX11_gain_75 ?_
        obtain ⟨x_80, x_81, x_82, x_83, x_84, x_85, x_86, x_87, x_88, x_89, x_90, x_91, x_92, hS_x_27, hT_x_80, hT_x_81, hT_x_84, hT_x_85, hT_x_86, hT_x_87, hT_x_88, hT_x_89, hT_x_90, hb_x_91, hb_x_92⟩ := hTy.k9 hT_x_27
        refine pl_get (ci := 9) (v := .long x_83) (C := RX9) (T := TX9) (N := 13) hx hb hT iX9 hown hK hW hT_x_27.1 hS_x_27 rfl 3 (by decide) w270 rfl dX11_gain_78 ?_
        refine lv_lsub hx hb dX11_gain_81 ?_
        refine lv_topl (fun z_93 ez_93 => ?_)
        refine lv_l2i hx hb dX11_gain_82 rfl ?_
        refine lv_topi (fun z_94 ez_94 => ?_)
        exact W.iret (v := z_94) hx hb hr (fun t ht h9 => ⟨⟨z_94, S_66, rfl, ⟨hTy, hFr⟩, by rw [ht]; exact hW.1, va_K.moved h9.alike hK, hW.2.1⟩, hW.2.2.F ht⟩) hW.2.2.2.2 dX11_gain_83
      · refine lv_iconst (v := (-1)) hx hb dX11_gain_35 (by decide) ?_
        exact W.iret (v := (-1)) hx hb hr (fun t ht h9 => ⟨⟨(-1), S_19, rfl, ⟨hTy, hFr⟩, by rw [ht]; exact hW.1, va_K.moved h9.alike hK, hW.2.1⟩, hW.2.2.F ht⟩) hW.2.2.2.2 dX11_gain_36

set_option maxHeartbeats 4000000 in
set_option maxRecDepth 100000 in
theorem k_without (l : Launch) (dC : Nat → ClassId) (dI : Nat → Nat → Nat) (cy : Nat → ClassId) (L : List Nat) (kap : Nat → Nat) (pr : Pr) (S : Nat → va_E) (sz : Nat) (o : Nat) (pa : Int32) (kd : Int32) (hTy : Ty cy L kap pr S) (hT_o : TK L kap o 11) : Met l yX11_without (wT yX11_without cX11_without 5 (some .int)) ({ frames := 6, cells := 0, slots := 0, locals := 133 }) (pcN dC dI [.ref o, .int pa, .int kd] sz (va_pl L S) (cyT cy) NLs []) (va_Qi (fun r S' => Ty cy L kap pr S' ∧ Fr kap [1, 9, 29, 33, 35, 36, 37, 38, 44, 45] S S') (fun S' t => pB dC dI (AL L sz) (va_pl L S') (cyT cy) t) (AL L sz)) 0 0 (AL L sz) := by
  refine Met.ofW (cc := cX11_without) (maxL := 5) (ret := (some .int)) (by decide) rfl ?_
  intro p e s m args below meth c s₁ B hml hv
  obtain ⟨rfl, hsz, hP, hK, hD0, hN, -⟩ := hv
  have hx := B.exec
  have hb := B.bytes
  have hr := B.returns
  have hT : ∀ wd ∈ TB, wd.before [.ref o, .int pa, .int kd].toArray s = true := fun wd h => atoms_spec (ws := wT yX11_without cX11_without 5 (some .int)) B.pre wd (List.mem_cons_of_mem _ h)
  have hown : s.vm.findClass RX11 = some m.cls := findClass_of_methodNamed B.named
  have hlocks := B.notSynchronized
  subst hsz
  have hW : PW dC dI L (AL L s.heap.size) s.heap S s.heap [] := ⟨hP, pl_self hD0, va_S.rf⟩
  have hA0 : ∀ q, q ∈ L → AL L s.heap.size q := fun _ h => Or.inl h
  have hA : ∀ q, s.heap.size ≤ q → AL L s.heap.size q := fun _ h => Or.inr h
  have hFr : Fr kap [1, 9, 29, 33, 35, 36, 37, 38, 44, 45] S S := Fr.rf
  have hl := lv_entry ([.ref o, .int pa, .int kd]) (n := 5) (Nat.le_of_ble_eq_true rfl)
  rw [lg_entry_eq]
  generalize (lg_sl ([.ref o, .int pa, .int kd]) ++ List.replicate (5 - (lg_sl ([.ref o, .int pa, .int kd])).length) Slot.unset).toArray = ls at hl ⊢
  have hl : lv_has ls 5 [(0, .ref o), (1, .int pa), (2, .int kd)] := hl
  refine lv_aload_n hx hb dX11_without_0 rfl (lv_at hl 0 rfl) ?_
  refine lv_iload_n hx hb dX11_without_1 rfl (lv_at hl 1 rfl) ?_
  obtain ⟨x_1, x_2, x_3, x_4, x_5, x_6, x_7, x_8, x_9, x_10, x_11, x_12, x_13, hS_o, hT_x_1, hT_x_2, hT_x_3, hT_x_4, hT_x_5, hT_x_6, hT_x_7, hT_x_8, hT_x_9, hT_x_10, hT_x_11, hT_x_12⟩ := hTy.k11 hT_o
  refine vp_callSi (va_Run.run (va_runV (As := [.int pa]) (rest := []) ⟨hx, hb, hml, hown, hT⟩ (o_noParty l dC dI cy L kap pr S s.heap.size o pa hTy hT_o) (cwV 1 hT (gV w602 w604 ws23 w1 w605) rfl rfl rfl (by decide +kernel) ⟨(Nat.le_of_ble_eq_true rfl), (Nat.le_of_ble_eq_true rfl)⟩) ⟨pcN.blind, pl_recv hK hW hT_o.1 hS_o rfl, pcN.pre hW.1 hK hW.2.1 hN (fun q h => absurd h List.not_mem_nil)⟩ rfl rfl hl.1 rfl (lv_room (Nat.le_of_ble_eq_true rfl)) dX11_without_2 ⟨(Nat.le_of_ble_eq_true rfl), (Nat.le_of_ble_eq_true rfl)⟩)) (fun r_14 hr_14 => ?_)
  rcases hr_14 with hc_ | hc_
  · obtain rfl : r_14 = 1 := hc_
    refine lv_if_ne (tgt := 16) hx hb dX11_without_5 (by decide) (fun _ => ?_) (fun h => absurd h (by decide))
    refine lv_bipush (v := (-2)) hx hb dX11_without_16 (by decide) ?_
    exact W.iret (v := (-2)) hx hb hr (fun t ht h9 => ⟨⟨(-2), S, rfl, ⟨hTy, hFr⟩, by rw [ht]; exact hW.1, va_K.moved h9.alike hK, hW.2.1⟩, hW.2.2.F ht⟩) hW.2.2.2.2 dX11_without_18
  · obtain ⟨rfl, k_15, hb_k_15, rfl⟩ := hc_
    refine lv_if_ne (tgt := 16) hx hb dX11_without_5 (by decide) (fun h => absurd (by decide) h) (fun _ => ?_)
    refine lv_aload_n hx hb dX11_without_8 rfl (lv_at hl 0 rfl) ?_
    refine lv_iload_n hx hb dX11_without_9 rfl (lv_at hl 2 rfl) ?_
    refine vp_callSi (va_Run.run (va_runV (As := [.int kd]) (rest := []) ⟨hx, hb, hml, hown, hT⟩ (o_noKind l dC dI cy L kap pr S s.heap.size o kd hTy hT_o) (cwV 1 hT (gV w606 w608 ws24 w1 w609) rfl rfl rfl (by decide +kernel) ⟨(Nat.le_of_ble_eq_true rfl), (Nat.le_of_ble_eq_true rfl)⟩) ⟨pcN.blind, pl_recv hK hW hT_o.1 hS_o rfl, pcN.pre hW.1 hK hW.2.1 hN (fun q h => absurd h List.not_mem_nil)⟩ rfl rfl hl.1 rfl (lv_room (Nat.le_of_ble_eq_true rfl)) dX11_without_10 ⟨(Nat.le_of_ble_eq_true rfl), (Nat.le_of_ble_eq_true rfl)⟩)) (fun r_16 hr_16 => ?_)
    rcases hr_16 with hc_ | hc_
    · obtain rfl : r_16 = 1 := hc_
      refine lv_if_eq (tgt := 19) hx hb dX11_without_13 (by decide) (fun h => absurd h (by decide)) (fun _ => ?_)
      refine lv_bipush (v := (-2)) hx hb dX11_without_16 (by decide) ?_
      exact W.iret (v := (-2)) hx hb hr (fun t ht h9 => ⟨⟨(-2), S, rfl, ⟨hTy, hFr⟩, by rw [ht]; exact hW.1, va_K.moved h9.alike hK, hW.2.1⟩, hW.2.2.F ht⟩) hW.2.2.2.2 dX11_without_18
    · obtain ⟨rfl, k_17, hb_k_17, rfl⟩ := hc_
      refine lv_if_eq (tgt := 19) hx hb dX11_without_13 (by decide) (fun _ => ?_) (fun h => absurd (by decide) h)
      refine lv_aload_n hx hb dX11_without_19 rfl (lv_at hl 0 rfl) ?_
      refine lv_iload_n hx hb dX11_without_20 rfl (lv_at hl 2 rfl) ?_
      refine lv_iconst (v := (-1)) hx hb dX11_without_21 (by decide) ?_
      refine pl_callv (va_runV (As := [.int (nI k_17), .int (-1)]) (rest := []) ⟨hx, hb, hml, hown, hT⟩ (o_gather l dC dI cy L kap pr S s.heap.size o (nI k_17) (-1) hTy hT_o) (cwV 2 hT (gV w669 w671 ws30 w1 w672) rfl rfl rfl (by decide +kernel) ⟨(Nat.le_of_ble_eq_true rfl), (Nat.le_of_ble_eq_true rfl)⟩) ⟨pcN.blind, pl_recv hK hW hT_o.1 hS_o rfl, pcN.pre hW.1 hK hW.2.1 hN (fun q h => absurd h List.not_mem_nil)⟩ rfl rfl hl.1 rfl (lv_room (Nat.le_of_ble_eq_true rfl)) dX11_without_22 ⟨(Nat.le_of_ble_eq_true rfl), (Nat.le_of_ble_eq_true rfl)⟩) hW hA0 hA (fun S_18 H locs hrel hW => ?_)
      obtain ⟨hTy, hF1⟩ := hrel
      have hFr := hFr.tr hF1 (by decide)
      have hS_o := hF1.at hT_o (by decide) hS_o
      refine lv_aload_n hx hb dX11_without_25 rfl (lv_at hl 0 rfl) ?_
      refine pl_get (ci := 11) (v := .ref x_4) (C := RX11) (T := TX11) (N := 13) hx hb hT iX11 hown hK hW hT_o.1 hS_o rfl 3 (by decide) w356 rfl dX11_without_26 ?_
      refine lv_iload_n hx hb dX11_without_29 rfl (lv_at hl 1 rfl) ?_
      obtain ⟨x_19, x_20, hS_x_4, hT_x_19, hb_x_20⟩ := hTy.k1 hT_x_4
      refine vp_callSl (va_Run.run (va_runV (As := [.int (nI k_15)]) (rest := []) ⟨hx, hb, hml, hown, hT⟩ (s_outOf l dC dI cy L kap pr S_18 H.size x_4 k_15 hTy hT_x_4 (by omega)) (cwV 1 hT (gV w991 w743 w744 w8 w745) rfl rfl rfl (by decide +kernel) ⟨(Nat.le_of_ble_eq_true rfl), (Nat.le_of_ble_eq_true rfl)⟩) ⟨pcN.blind, pl_recv hK hW hT_x_4.1 hS_x_4 rfl, pcN.pre hW.1 hK hW.2.1 hN (fun q h => absurd h List.not_mem_nil)⟩ rfl rfl hl.1 rfl (lv_room (Nat.le_of_ble_eq_true rfl)) dX11_without_30 ⟨(Nat.le_of_ble_eq_true rfl), (Nat.le_of_ble_eq_true rfl)⟩)) (fun r_21 hr_21 => ?_)
      refine lv_aload_n hx hb dX11_without_33 rfl (lv_at hl 0 rfl) ?_
      refine pl_get (ci := 11) (v := .ref x_4) (C := RX11) (T := TX11) (N := 13) hx hb hT iX11 hown hK hW hT_o.1 hS_o rfl 3 (by decide) w356 rfl dX11_without_34 ?_
      refine lv_iload_n hx hb dX11_without_37 rfl (lv_at hl 1 rfl) ?_
      refine vp_callSl (va_Run.run (va_runV (As := [.int (nI k_15)]) (rest := [.long r_21]) ⟨hx, hb, hml, hown, hT⟩ (s_into l dC dI cy L kap pr S_18 H.size x_4 k_15 hTy hT_x_4 (by omega)) (cwV 1 hT (gV w992 w750 w751 w8 w752) rfl rfl rfl (by decide +kernel) ⟨(Nat.le_of_ble_eq_true rfl), (Nat.le_of_ble_eq_true rfl)⟩) ⟨pcN.blind, pl_recv hK hW hT_x_4.1 hS_x_4 rfl, pcN.pre hW.1 hK hW.2.1 hN (fun q h => absurd h List.not_mem_nil)⟩ rfl rfl hl.1 rfl (lv_room (Nat.le_of_ble_eq_true rfl)) dX11_without_38 ⟨(Nat.le_of_ble_eq_true rfl), (Nat.le_of_ble_eq_true rfl)⟩)) (fun r_22 hr_22 => ?_)
      refine lv_ladd hx hb dX11_without_41 ?_
      refine lv_topl (fun z_23 ez_23 => ?_)
      refine lv_lstore_n (lv' := [(3, .long z_23), (0, .ref o), (1, .int (nI k_15)), (2, .int (nI k_17))]) hx hb dX11_without_42 rfl hl (by decide) rfl (fun ls hl => ?_)
      refine lv_aload_n hx hb dX11_without_43 rfl (lv_at hl 1 rfl) ?_
      refine lv_iload_n hx hb dX11_without_44 rfl (lv_at hl 3 rfl) ?_
      refine lv_iload_n hx hb dX11_without_45 rfl (lv_at hl 2 rfl) ?_
      refine pl_callv (va_runV (As := [.int (nI k_17), .int (nI k_15)]) (rest := []) ⟨hx, hb, hml, hown, hT⟩ (o_prepTrial l dC dI cy L kap pr S_18 H.size o (nI k_17) (nI k_15) hTy hT_o) (cwV 2 hT (gV w983 w985 ws48 w1 w986) rfl rfl rfl (by decide +kernel) ⟨(Nat.le_of_ble_eq_true rfl), (Nat.le_of_ble_eq_true rfl)⟩) ⟨pcN.blind, pl_recv hK hW hT_o.1 hS_o rfl, pcN.pre hW.1 hK hW.2.1 hN (fun q h => absurd h List.not_mem_nil)⟩ rfl rfl hl.1 rfl (lv_room (Nat.le_of_ble_eq_true rfl)) dX11_without_46 ⟨(Nat.le_of_ble_eq_true rfl), (Nat.le_of_ble_eq_true rfl)⟩) hW hA0 hA (fun S_24 H locs hrel hW => ?_)
      obtain ⟨hTy, hF1⟩ := hrel
      have hFr := hFr.tr hF1 (by decide)
      have hS_o := hF1.at hT_o (by decide) hS_o
      refine lv_aload_n hx hb dX11_without_49 rfl (lv_at hl 1 rfl) ?_
      refine pl_get (ci := 11) (v := .ref x_8) (C := RX11) (T := TX11) (N := 13) hx hb hT iX11 hown hK hW hT_o.1 hS_o rfl 7 (by decide) w360 rfl dX11_without_50 ?_
      obtain ⟨x_25, x_26, x_27, x_28, x_29, x_30, x_31, x_32, x_33, x_34, x_35, x_36, x_37, hS_x_8, hT_x_25, hT_x_26, hT_x_29, hT_x_30, hT_x_31, hT_x_32, hT_x_33, hT_x_34, hT_x_35, hb_x_36, hb_x_37⟩ := hTy.k9 hT_x_8
      refine pl_callv (va_runV (As := []) (rest := []) ⟨hx, hb, hml, hown, hT⟩ (s_solve l dC dI cy L kap pr S_24 H.size x_8 hTy hT_x_8) (cwV 0 hT (gV w766 w767 w768 w11 w769) rfl rfl rfl (by decide +kernel) ⟨(Nat.le_of_ble_eq_true rfl), (Nat.le_of_ble_eq_true rfl)⟩) ⟨pcN.blind, pl_recv hK hW hT_x_8.1 hS_x_8 rfl, pcN.pre hW.1 hK hW.2.1 hN (fun q h => absurd h List.not_mem_nil)⟩ rfl rfl hl.1 rfl (lv_room (Nat.le_of_ble_eq_true rfl)) dX11_without_53 ⟨(Nat.le_of_ble_eq_true rfl), (Nat.le_of_ble_eq_true rfl)⟩) hW hA0 hA (fun S_38 H locs hrel hW => ?_)
      obtain ⟨hTy, hF1⟩ := hrel
      have hFr := hFr.tr hF1 (by decide)
      have hS_o := hF1.at hT_o (by decide) hS_o
      refine lv_aload_n hx hb dX11_without_56 rfl (lv_at hl 1 rfl) ?_
      refine pl_get (ci := 11) (v := .ref x_8) (C := RX11) (T := TX11) (N := 13) hx hb hT iX11 hown hK hW hT_o.1 hS_o rfl 7 (by decide) w360 rfl dX11_without_57 ?_
      obtain ⟨x_39, x_40, x_41, x_42, x_43, x_44, x_45, x_46, x_47, x_48, x_49, x_50, x_51, hS_x_8, hT_x_39, hT_x_40, hT_x_43, hT_x_44, hT_x_45, hT_x_46, hT_x_47, hT_x_48, hT_x_49, hb_x_50, hb_x_51⟩ := hTy.k9 hT_x_8
      refine pl_get (ci := 9) (v := .int x_41) (C := RX9) (T := TX9) (N := 13) hx hb hT iX9 hown hK hW hT_x_8.1 hS_x_8 rfl 2 (by decide) w268 rfl dX11_without_60 ?_
      refine lv_if_eq (tgt := 79) hx hb dX11_without_63 (by decide) (fun c_63 => ?_) (fun c_63 => ?_)
      · refine lv_iconst (v := (-1)) hx hb dX11_without_79 (by decide) ?_
        exact W.iret (v := (-1)) hx hb hr (fun t ht h9 => ⟨⟨(-1), S_38, rfl, ⟨hTy, hFr⟩, by rw [ht]; exact hW.1, va_K.moved h9.alike hK, hW.2.1⟩, hW.2.2.F ht⟩) hW.2.2.2.2 dX11_without_80
      · refine lv_aload_n hx hb dX11_without_66 rfl (lv_at hl 1 rfl) ?_
        refine pl_get (ci := 11) (v := .ref x_8) (C := RX11) (T := TX11) (N := 13) hx hb hT iX11 hown hK hW hT_o.1 hS_o rfl 7 (by decide) w360 rfl dX11_without_67 ?_
        refine pl_get (ci := 9) (v := .long x_42) (C := RX9) (T := TX9) (N := 13) hx hb hT iX9 hown hK hW hT_x_8.1 hS_x_8 rfl 3 (by decide) w270 rfl dX11_without_70 ?_
        refine lv_lload_n hx hb dX11_without_73 rfl (lv_at hl 0 rfl) ?_
        refine lv_ladd hx hb dX11_without_74 ?_
        refine lv_topl (fun z_52 ez_52 => ?_)
        refine lv_l2i hx hb dX11_without_75 rfl ?_
        refine lv_topi (fun z_53 ez_53 => ?_)
        refine lv_goto (tgt := 80) hx hb dX11_without_76 (by decide) ?_
        exact W.iret (v := z_53) hx hb hr (fun t ht h9 => ⟨⟨z_53, S_38, rfl, ⟨hTy, hFr⟩, by rw [ht]; exact hW.1, va_K.moved h9.alike hK, hW.2.1⟩, hW.2.2.F ht⟩) hW.2.2.2.2 dX11_without_80

set_option maxHeartbeats 4000000 in
set_option maxRecDepth 100000 in
theorem k_relief (l : Launch) (dC : Nat → ClassId) (dI : Nat → Nat → Nat) (cy : Nat → ClassId) (L : List Nat) (kap : Nat → Nat) (pr : Pr) (S : Nat → va_E) (sz : Nat) (o : Nat) (pa : Int32) (kd : Int32) (hTy : Ty cy L kap pr S) (hT_o : TK L kap o 11) : Met l yX11_relief (wT yX11_relief cX11_relief 3 (some .int)) ({ frames := 7, cells := 0, slots := 0, locals := 184 }) (pcN dC dI [.ref o, .int pa, .int kd] sz (va_pl L S) (cyT cy) NLs []) (va_Qi (fun r S' => Ty cy L kap pr S' ∧ Fr kap [1, 9, 11, 29, 33, 35, 36, 37, 38, 43, 44, 45] S S') (fun S' t => pB dC dI (AL L sz) (va_pl L S') (cyT cy) t) (AL L sz)) 0 0 (AL L sz) := by
  refine Met.ofW (cc := cX11_relief) (maxL := 3) (ret := (some .int)) (by decide) rfl ?_
  intro p e s m args below meth c s₁ B hml hv
  obtain ⟨rfl, hsz, hP, hK, hD0, hN, -⟩ := hv
  have hx := B.exec
  have hb := B.bytes
  have hr := B.returns
  have hT : ∀ wd ∈ TB, wd.before [.ref o, .int pa, .int kd].toArray s = true := fun wd h => atoms_spec (ws := wT yX11_relief cX11_relief 3 (some .int)) B.pre wd (List.mem_cons_of_mem _ h)
  have hown : s.vm.findClass RX11 = some m.cls := findClass_of_methodNamed B.named
  have hlocks := B.notSynchronized
  subst hsz
  have hW : PW dC dI L (AL L s.heap.size) s.heap S s.heap [] := ⟨hP, pl_self hD0, va_S.rf⟩
  have hA0 : ∀ q, q ∈ L → AL L s.heap.size q := fun _ h => Or.inl h
  have hA : ∀ q, s.heap.size ≤ q → AL L s.heap.size q := fun _ h => Or.inr h
  have hFr : Fr kap [1, 9, 11, 29, 33, 35, 36, 37, 38, 43, 44, 45] S S := Fr.rf
  have hl := lv_entry ([.ref o, .int pa, .int kd]) (n := 3) (Nat.le_of_ble_eq_true rfl)
  rw [lg_entry_eq]
  generalize (lg_sl ([.ref o, .int pa, .int kd]) ++ List.replicate (3 - (lg_sl ([.ref o, .int pa, .int kd])).length) Slot.unset).toArray = ls at hl ⊢
  have hl : lv_has ls 3 [(0, .ref o), (1, .int pa), (2, .int kd)] := hl
  refine lv_aload_n hx hb dX11_relief_0 rfl (lv_at hl 0 rfl) ?_
  refine lv_iload_n hx hb dX11_relief_1 rfl (lv_at hl 1 rfl) ?_
  obtain ⟨x_1, x_2, x_3, x_4, x_5, x_6, x_7, x_8, x_9, x_10, x_11, x_12, x_13, hS_o, hT_x_1, hT_x_2, hT_x_3, hT_x_4, hT_x_5, hT_x_6, hT_x_7, hT_x_8, hT_x_9, hT_x_10, hT_x_11, hT_x_12⟩ := hTy.k11 hT_o
  refine vp_callSi (va_Run.run (va_runV (As := [.int pa]) (rest := []) ⟨hx, hb, hml, hown, hT⟩ (o_noParty l dC dI cy L kap pr S s.heap.size o pa hTy hT_o) (cwV 1 hT (gV w602 w604 ws23 w1 w605) rfl rfl rfl (by decide +kernel) ⟨(Nat.le_of_ble_eq_true rfl), (Nat.le_of_ble_eq_true rfl)⟩) ⟨pcN.blind, pl_recv hK hW hT_o.1 hS_o rfl, pcN.pre hW.1 hK hW.2.1 hN (fun q h => absurd h List.not_mem_nil)⟩ rfl rfl hl.1 rfl (lv_room (Nat.le_of_ble_eq_true rfl)) dX11_relief_2 ⟨(Nat.le_of_ble_eq_true rfl), (Nat.le_of_ble_eq_true rfl)⟩)) (fun r_14 hr_14 => ?_)
  rcases hr_14 with hc_ | hc_
  · obtain rfl : r_14 = 1 := hc_
    refine lv_if_ne (tgt := 16) hx hb dX11_relief_5 (by decide) (fun _ => ?_) (fun h => absurd h (by decide))
    refine lv_bipush (v := (-2)) hx hb dX11_relief_16 (by decide) ?_
    exact W.iret (v := (-2)) hx hb hr (fun t ht h9 => ⟨⟨(-2), S, rfl, ⟨hTy, hFr⟩, by rw [ht]; exact hW.1, va_K.moved h9.alike hK, hW.2.1⟩, hW.2.2.F ht⟩) hW.2.2.2.2 dX11_relief_18
  · obtain ⟨rfl, k_15, hb_k_15, rfl⟩ := hc_
    refine lv_if_ne (tgt := 16) hx hb dX11_relief_5 (by decide) (fun h => absurd (by decide) h) (fun _ => ?_)
    refine lv_aload_n hx hb dX11_relief_8 rfl (lv_at hl 0 rfl) ?_
    refine lv_iload_n hx hb dX11_relief_9 rfl (lv_at hl 2 rfl) ?_
    refine vp_callSi (va_Run.run (va_runV (As := [.int kd]) (rest := []) ⟨hx, hb, hml, hown, hT⟩ (o_noKind l dC dI cy L kap pr S s.heap.size o kd hTy hT_o) (cwV 1 hT (gV w606 w608 ws24 w1 w609) rfl rfl rfl (by decide +kernel) ⟨(Nat.le_of_ble_eq_true rfl), (Nat.le_of_ble_eq_true rfl)⟩) ⟨pcN.blind, pl_recv hK hW hT_o.1 hS_o rfl, pcN.pre hW.1 hK hW.2.1 hN (fun q h => absurd h List.not_mem_nil)⟩ rfl rfl hl.1 rfl (lv_room (Nat.le_of_ble_eq_true rfl)) dX11_relief_10 ⟨(Nat.le_of_ble_eq_true rfl), (Nat.le_of_ble_eq_true rfl)⟩)) (fun r_16 hr_16 => ?_)
    rcases hr_16 with hc_ | hc_
    · obtain rfl : r_16 = 1 := hc_
      refine lv_if_eq (tgt := 19) hx hb dX11_relief_13 (by decide) (fun h => absurd h (by decide)) (fun _ => ?_)
      refine lv_bipush (v := (-2)) hx hb dX11_relief_16 (by decide) ?_
      exact W.iret (v := (-2)) hx hb hr (fun t ht h9 => ⟨⟨(-2), S, rfl, ⟨hTy, hFr⟩, by rw [ht]; exact hW.1, va_K.moved h9.alike hK, hW.2.1⟩, hW.2.2.F ht⟩) hW.2.2.2.2 dX11_relief_18
    · obtain ⟨rfl, k_17, hb_k_17, rfl⟩ := hc_
      refine lv_if_eq (tgt := 19) hx hb dX11_relief_13 (by decide) (fun _ => ?_) (fun h => absurd (by decide) h)
      refine lv_aload_n hx hb dX11_relief_19 rfl (lv_at hl 0 rfl) ?_
      refine lv_iload_n hx hb dX11_relief_20 rfl (lv_at hl 2 rfl) ?_
      refine pl_callv (va_runV (As := [.int (nI k_17)]) (rest := []) ⟨hx, hb, hml, hown, hT⟩ (o_solveKind l dC dI cy L kap pr S s.heap.size o (nI k_17) hTy hT_o) (cwV 1 hT (gV w729 w731 ws35 w1 w732) rfl rfl rfl (by decide +kernel) ⟨(Nat.le_of_ble_eq_true rfl), (Nat.le_of_ble_eq_true rfl)⟩) ⟨pcN.blind, pl_recv hK hW hT_o.1 hS_o rfl, pcN.pre hW.1 hK hW.2.1 hN (fun q h => absurd h List.not_mem_nil)⟩ rfl rfl hl.1 rfl (lv_room (Nat.le_of_ble_eq_true rfl)) dX11_relief_21 ⟨(Nat.le_of_ble_eq_true rfl), (Nat.le_of_ble_eq_true rfl)⟩) hW hA0 hA (fun S_18 H locs hrel hW => ?_)
      obtain ⟨hTy, hF1⟩ := hrel
      have hFr := hFr.tr hF1 (by decide)
      refine lv_aload_n hx hb dX11_relief_24 rfl (lv_at hl 0 rfl) ?_
      obtain ⟨x_19, x_20, x_21, x_22, x_23, x_24, x_25, x_26, x_27, x_28, x_29, x_30, x_31, hS_o, hT_x_19, hT_x_20, hT_x_21, hT_x_22, hT_x_23, hT_x_24, hT_x_25, hT_x_26, hT_x_27, hT_x_28, hT_x_29, hT_x_30⟩ := hTy.k11 hT_o
      refine pl_get (ci := 11) (v := .ref x_25) (C := RX11) (T := TX11) (N := 13) hx hb hT iX11 hown hK hW hT_o.1 hS_o rfl 6 (by decide) w359 rfl dX11_relief_25 ?_
      obtain ⟨x_32, x_33, x_34, x_35, x_36, x_37, x_38, x_39, x_40, x_41, x_42, x_43, x_44, hS_x_25, hT_x_32, hT_x_33, hT_x_36, hT_x_37, hT_x_38, hT_x_39, hT_x_40, hT_x_41, hT_x_42, hb_x_43, hb_x_44⟩ := hTy.k9 hT_x_25
      refine pl_get (ci := 9) (v := .int x_34) (C := RX9) (T := TX9) (N := 13) hx hb hT iX9 hown hK hW hT_x_25.1 hS_x_25 rfl 2 (by decide) w268 rfl dX11_relief_28 ?_
      refine lv_if_ne (tgt := 36) hx hb dX11_relief_31 (by decide) (fun c_31 => ?_) (fun c_31 => ?_)
      · refine lv_aload_n hx hb dX11_relief_36 rfl (lv_at hl 0 rfl) ?_
        refine lv_iload_n hx hb dX11_relief_37 rfl (lv_at hl 2 rfl) ?_
        refine lv_iconst (v := (-1)) hx hb dX11_relief_38 (by decide) ?_
        refine pl_callv (va_runV (As := [.int (nI k_17), .int (-1)]) (rest := []) ⟨hx, hb, hml, hown, hT⟩ (o_gather l dC dI cy L kap pr S_18 H.size o (nI k_17) (-1) hTy hT_o) (cwV 2 hT (gV w669 w671 ws30 w1 w672) rfl rfl rfl (by decide +kernel) ⟨(Nat.le_of_ble_eq_true rfl), (Nat.le_of_ble_eq_true rfl)⟩) ⟨pcN.blind, pl_recv hK hW hT_o.1 hS_o rfl, pcN.pre hW.1 hK hW.2.1 hN (fun q h => absurd h List.not_mem_nil)⟩ rfl rfl hl.1 rfl (lv_room (Nat.le_of_ble_eq_true rfl)) dX11_relief_39 ⟨(Nat.le_of_ble_eq_true rfl), (Nat.le_of_ble_eq_true rfl)⟩) hW hA0 hA (fun S_45 H locs hrel hW => ?_)
        obtain ⟨hTy, hF1⟩ := hrel
        have hFr := hFr.tr hF1 (by decide)
        have hS_o := hF1.at hT_o (by decide) hS_o
        have hS_x_25 := hF1.at hT_x_25 (by decide) hS_x_25
        refine lv_aload_n hx hb dX11_relief_42 rfl (lv_at hl 0 rfl) ?_
        refine lv_iload_n hx hb dX11_relief_43 rfl (lv_at hl 1 rfl) ?_
        refine vp_callSl (va_Run.run (va_runV (As := [.int (nI k_15)]) (rest := []) ⟨hx, hb, hml, hown, hT⟩ (o_reliefOf l dC dI cy L kap pr S_45 H.size o k_15 hTy hT_o (by omega)) (cwV 1 hT (gV w997 w999 ws49 w1 w1000) rfl rfl rfl (by decide +kernel) ⟨(Nat.le_of_ble_eq_true rfl), (Nat.le_of_ble_eq_true rfl)⟩) ⟨pcN.blind, pl_recv hK hW hT_o.1 hS_o rfl, pcN.pre hW.1 hK hW.2.1 hN (fun q h => absurd h List.not_mem_nil)⟩ rfl rfl hl.1 rfl (lv_room (Nat.le_of_ble_eq_true rfl)) dX11_relief_44 ⟨(Nat.le_of_ble_eq_true rfl), (Nat.le_of_ble_eq_true rfl)⟩)) (fun r_46 hr_46 => ?_)
        refine lv_ldc2 (v := 100000000) hx hb hown (hT _ w865) dX11_relief_47 ?_
        refine lv_ladd hx hb dX11_relief_50 ?_
        refine lv_topl (fun z_47 ez_47 => ?_)
        refine lv_l2i hx hb dX11_relief_51 rfl ?_
        refine lv_topi (fun z_48 ez_48 => ?_)
        exact W.iret (v := z_48) hx hb hr (fun t ht h9 => ⟨⟨z_48, S_45, rfl, ⟨hTy, hFr⟩, by rw [ht]; exact hW.1, va_K.moved h9.alike hK, hW.2.1⟩, hW.2.2.F ht⟩) hW.2.2.2.2 dX11_relief_52
      · refine lv_iconst (v := (-1)) hx hb dX11_relief_34 (by decide) ?_
        exact W.iret (v := (-1)) hx hb hr (fun t ht h9 => ⟨⟨(-1), S_18, rfl, ⟨hTy, hFr⟩, by rw [ht]; exact hW.1, va_K.moved h9.alike hK, hW.2.1⟩, hW.2.2.F ht⟩) hW.2.2.2.2 dX11_relief_35

set_option maxHeartbeats 4000000 in
set_option maxRecDepth 100000 in
theorem k_through (l : Launch) (dC : Nat → ClassId) (dI : Nat → Nat → Nat) (cy : Nat → ClassId) (L : List Nat) (kap : Nat → Nat) (pr : Pr) (S : Nat → va_E) (sz : Nat) (o : Nat) (pa : Int32) (kd : Int32) (wh : Int32) (hTy : Ty cy L kap pr S) (hT_o : TK L kap o 11) : Met l yX11_through (wT yX11_through cX11_through 4 (some .int)) ({ frames := 7, cells := 0, slots := 0, locals := 184 }) (pcN dC dI [.ref o, .int pa, .int kd, .int wh] sz (va_pl L S) (cyT cy) NLs []) (va_Qi (fun r S' => Ty cy L kap pr S' ∧ Fr kap [1, 9, 11, 29, 33, 35, 36, 37, 38, 43, 44, 45] S S') (fun S' t => pB dC dI (AL L sz) (va_pl L S') (cyT cy) t) (AL L sz)) 0 0 (AL L sz) := by
  refine Met.ofW (cc := cX11_through) (maxL := 4) (ret := (some .int)) (by decide) rfl ?_
  intro p e s m args below meth c s₁ B hml hv
  obtain ⟨rfl, hsz, hP, hK, hD0, hN, -⟩ := hv
  have hx := B.exec
  have hb := B.bytes
  have hr := B.returns
  have hT : ∀ wd ∈ TB, wd.before [.ref o, .int pa, .int kd, .int wh].toArray s = true := fun wd h => atoms_spec (ws := wT yX11_through cX11_through 4 (some .int)) B.pre wd (List.mem_cons_of_mem _ h)
  have hown : s.vm.findClass RX11 = some m.cls := findClass_of_methodNamed B.named
  have hlocks := B.notSynchronized
  subst hsz
  have hW : PW dC dI L (AL L s.heap.size) s.heap S s.heap [] := ⟨hP, pl_self hD0, va_S.rf⟩
  have hA0 : ∀ q, q ∈ L → AL L s.heap.size q := fun _ h => Or.inl h
  have hA : ∀ q, s.heap.size ≤ q → AL L s.heap.size q := fun _ h => Or.inr h
  have hFr : Fr kap [1, 9, 11, 29, 33, 35, 36, 37, 38, 43, 44, 45] S S := Fr.rf
  have hl := lv_entry ([.ref o, .int pa, .int kd, .int wh]) (n := 4) (Nat.le_of_ble_eq_true rfl)
  rw [lg_entry_eq]
  generalize (lg_sl ([.ref o, .int pa, .int kd, .int wh]) ++ List.replicate (4 - (lg_sl ([.ref o, .int pa, .int kd, .int wh])).length) Slot.unset).toArray = ls at hl ⊢
  have hl : lv_has ls 4 [(0, .ref o), (1, .int pa), (2, .int kd), (3, .int wh)] := hl
  refine lv_aload_n hx hb dX11_through_0 rfl (lv_at hl 0 rfl) ?_
  refine lv_iload_n hx hb dX11_through_1 rfl (lv_at hl 1 rfl) ?_
  obtain ⟨x_1, x_2, x_3, x_4, x_5, x_6, x_7, x_8, x_9, x_10, x_11, x_12, x_13, hS_o, hT_x_1, hT_x_2, hT_x_3, hT_x_4, hT_x_5, hT_x_6, hT_x_7, hT_x_8, hT_x_9, hT_x_10, hT_x_11, hT_x_12⟩ := hTy.k11 hT_o
  refine vp_callSi (va_Run.run (va_runV (As := [.int pa]) (rest := []) ⟨hx, hb, hml, hown, hT⟩ (o_noParty l dC dI cy L kap pr S s.heap.size o pa hTy hT_o) (cwV 1 hT (gV w602 w604 ws23 w1 w605) rfl rfl rfl (by decide +kernel) ⟨(Nat.le_of_ble_eq_true rfl), (Nat.le_of_ble_eq_true rfl)⟩) ⟨pcN.blind, pl_recv hK hW hT_o.1 hS_o rfl, pcN.pre hW.1 hK hW.2.1 hN (fun q h => absurd h List.not_mem_nil)⟩ rfl rfl hl.1 rfl (lv_room (Nat.le_of_ble_eq_true rfl)) dX11_through_2 ⟨(Nat.le_of_ble_eq_true rfl), (Nat.le_of_ble_eq_true rfl)⟩)) (fun r_14 hr_14 => ?_)
  rcases hr_14 with hc_ | hc_
  · obtain rfl : r_14 = 1 := hc_
    refine lv_if_ne (tgt := 16) hx hb dX11_through_5 (by decide) (fun _ => ?_) (fun h => absurd h (by decide))
    refine lv_bipush (v := (-2)) hx hb dX11_through_16 (by decide) ?_
    exact W.iret (v := (-2)) hx hb hr (fun t ht h9 => ⟨⟨(-2), S, rfl, ⟨hTy, hFr⟩, by rw [ht]; exact hW.1, va_K.moved h9.alike hK, hW.2.1⟩, hW.2.2.F ht⟩) hW.2.2.2.2 dX11_through_18
  · obtain ⟨rfl, k_15, hb_k_15, rfl⟩ := hc_
    refine lv_if_ne (tgt := 16) hx hb dX11_through_5 (by decide) (fun h => absurd (by decide) h) (fun _ => ?_)
    refine lv_aload_n hx hb dX11_through_8 rfl (lv_at hl 0 rfl) ?_
    refine lv_iload_n hx hb dX11_through_9 rfl (lv_at hl 2 rfl) ?_
    refine vp_callSi (va_Run.run (va_runV (As := [.int kd]) (rest := []) ⟨hx, hb, hml, hown, hT⟩ (o_noKind l dC dI cy L kap pr S s.heap.size o kd hTy hT_o) (cwV 1 hT (gV w606 w608 ws24 w1 w609) rfl rfl rfl (by decide +kernel) ⟨(Nat.le_of_ble_eq_true rfl), (Nat.le_of_ble_eq_true rfl)⟩) ⟨pcN.blind, pl_recv hK hW hT_o.1 hS_o rfl, pcN.pre hW.1 hK hW.2.1 hN (fun q h => absurd h List.not_mem_nil)⟩ rfl rfl hl.1 rfl (lv_room (Nat.le_of_ble_eq_true rfl)) dX11_through_10 ⟨(Nat.le_of_ble_eq_true rfl), (Nat.le_of_ble_eq_true rfl)⟩)) (fun r_16 hr_16 => ?_)
    rcases hr_16 with hc_ | hc_
    · obtain rfl : r_16 = 1 := hc_
      refine lv_if_eq (tgt := 19) hx hb dX11_through_13 (by decide) (fun h => absurd h (by decide)) (fun _ => ?_)
      refine lv_bipush (v := (-2)) hx hb dX11_through_16 (by decide) ?_
      exact W.iret (v := (-2)) hx hb hr (fun t ht h9 => ⟨⟨(-2), S, rfl, ⟨hTy, hFr⟩, by rw [ht]; exact hW.1, va_K.moved h9.alike hK, hW.2.1⟩, hW.2.2.F ht⟩) hW.2.2.2.2 dX11_through_18
    · obtain ⟨rfl, k_17, hb_k_17, rfl⟩ := hc_
      refine lv_if_eq (tgt := 19) hx hb dX11_through_13 (by decide) (fun _ => ?_) (fun h => absurd (by decide) h)
      refine lv_iload_n hx hb dX11_through_19 rfl (lv_at hl 3 rfl) ?_
      by_cases hk_20_0 : wh = 0
      · subst hk_20_0
        refine lv_lookup (off := 28) (tgt := 48) hx hb dX11_through_20 (by decide) (by decide) (by decide) ?_
        refine lv_aload_n hx hb dX11_through_48 rfl (lv_at hl 0 rfl) ?_
        refine lv_iload_n hx hb dX11_through_49 rfl (lv_at hl 2 rfl) ?_
        refine lv_iconst (v := (-1)) hx hb dX11_through_50 (by decide) ?_
        refine pl_callv (va_runV (As := [.int (nI k_17), .int (-1)]) (rest := []) ⟨hx, hb, hml, hown, hT⟩ (o_gather l dC dI cy L kap pr S s.heap.size o (nI k_17) (-1) hTy hT_o) (cwV 2 hT (gV w669 w671 ws30 w1 w672) rfl rfl rfl (by decide +kernel) ⟨(Nat.le_of_ble_eq_true rfl), (Nat.le_of_ble_eq_true rfl)⟩) ⟨pcN.blind, pl_recv hK hW hT_o.1 hS_o rfl, pcN.pre hW.1 hK hW.2.1 hN (fun q h => absurd h List.not_mem_nil)⟩ rfl rfl hl.1 rfl (lv_room (Nat.le_of_ble_eq_true rfl)) dX11_through_51 ⟨(Nat.le_of_ble_eq_true rfl), (Nat.le_of_ble_eq_true rfl)⟩) hW hA0 hA (fun S_18 H locs hrel hW => ?_)
        obtain ⟨hTy, hF1⟩ := hrel
        have hFr := hFr.tr hF1 (by decide)
        have hS_o := hF1.at hT_o (by decide) hS_o
        refine lv_aload_n hx hb dX11_through_54 rfl (lv_at hl 0 rfl) ?_
        refine pl_get (ci := 11) (v := .ref x_4) (C := RX11) (T := TX11) (N := 13) hx hb hT iX11 hown hK hW hT_o.1 hS_o rfl 3 (by decide) w356 rfl dX11_through_55 ?_
        refine lv_iload_n hx hb dX11_through_58 rfl (lv_at hl 1 rfl) ?_
        obtain ⟨x_19, x_20, hS_x_4, hT_x_19, hb_x_20⟩ := hTy.k1 hT_x_4
        refine vp_callSl (va_Run.run (va_runV (As := [.int (nI k_15)]) (rest := []) ⟨hx, hb, hml, hown, hT⟩ (s_throughOf l dC dI cy L kap pr S_18 H.size x_4 k_15 hTy hT_x_4 (by omega)) (cwV 1 hT (gV w1007 w757 w758 w8 w759) rfl rfl rfl (by decide +kernel) ⟨(Nat.le_of_ble_eq_true rfl), (Nat.le_of_ble_eq_true rfl)⟩) ⟨pcN.blind, pl_recv hK hW hT_x_4.1 hS_x_4 rfl, pcN.pre hW.1 hK hW.2.1 hN (fun q h => absurd h List.not_mem_nil)⟩ rfl rfl hl.1 rfl (lv_room (Nat.le_of_ble_eq_true rfl)) dX11_through_59 ⟨(Nat.le_of_ble_eq_true rfl), (Nat.le_of_ble_eq_true rfl)⟩)) (fun r_21 hr_21 => ?_)
        refine lv_l2i hx hb dX11_through_62 rfl ?_
        refine lv_topi (fun z_22 ez_22 => ?_)
        exact W.iret (v := z_22) hx hb hr (fun t ht h9 => ⟨⟨z_22, S_18, rfl, ⟨hTy, hFr⟩, by rw [ht]; exact hW.1, va_K.moved h9.alike hK, hW.2.1⟩, hW.2.2.F ht⟩) hW.2.2.2.2 dX11_through_63
      by_cases hk_20_1 : wh = 1
      · subst hk_20_1
        refine lv_lookup (off := 44) (tgt := 64) hx hb dX11_through_20 (by decide) (by decide) (by decide) ?_
        refine lv_aload_n hx hb dX11_through_64 rfl (lv_at hl 0 rfl) ?_
        refine lv_iload_n hx hb dX11_through_65 rfl (lv_at hl 2 rfl) ?_
        refine pl_callv (va_runV (As := [.int (nI k_17)]) (rest := []) ⟨hx, hb, hml, hown, hT⟩ (o_solveKind l dC dI cy L kap pr S s.heap.size o (nI k_17) hTy hT_o) (cwV 1 hT (gV w729 w731 ws35 w1 w732) rfl rfl rfl (by decide +kernel) ⟨(Nat.le_of_ble_eq_true rfl), (Nat.le_of_ble_eq_true rfl)⟩) ⟨pcN.blind, pl_recv hK hW hT_o.1 hS_o rfl, pcN.pre hW.1 hK hW.2.1 hN (fun q h => absurd h List.not_mem_nil)⟩ rfl rfl hl.1 rfl (lv_room (Nat.le_of_ble_eq_true rfl)) dX11_through_66 ⟨(Nat.le_of_ble_eq_true rfl), (Nat.le_of_ble_eq_true rfl)⟩) hW hA0 hA (fun S_23 H locs hrel hW => ?_)
        obtain ⟨hTy, hF1⟩ := hrel
        have hFr := hFr.tr hF1 (by decide)
        refine lv_aload_n hx hb dX11_through_69 rfl (lv_at hl 0 rfl) ?_
        obtain ⟨x_24, x_25, x_26, x_27, x_28, x_29, x_30, x_31, x_32, x_33, x_34, x_35, x_36, hS_o, hT_x_24, hT_x_25, hT_x_26, hT_x_27, hT_x_28, hT_x_29, hT_x_30, hT_x_31, hT_x_32, hT_x_33, hT_x_34, hT_x_35⟩ := hTy.k11 hT_o
        refine pl_get (ci := 11) (v := .ref x_30) (C := RX11) (T := TX11) (N := 13) hx hb hT iX11 hown hK hW hT_o.1 hS_o rfl 6 (by decide) w359 rfl dX11_through_70 ?_
        obtain ⟨x_37, x_38, x_39, x_40, x_41, x_42, x_43, x_44, x_45, x_46, x_47, x_48, x_49, hS_x_30, hT_x_37, hT_x_38, hT_x_41, hT_x_42, hT_x_43, hT_x_44, hT_x_45, hT_x_46, hT_x_47, hb_x_48, hb_x_49⟩ := hTy.k9 hT_x_30
        refine pl_get (ci := 9) (v := .int x_39) (C := RX9) (T := TX9) (N := 13) hx hb hT iX9 hown hK hW hT_x_30.1 hS_x_30 rfl 2 (by decide) w268 rfl dX11_through_73 ?_
        refine lv_if_eq (tgt := 108) hx hb dX11_through_76 (by decide) (fun c_76 => ?_) (fun c_76 => ?_)
        · refine lv_iconst (v := (-1)) hx hb dX11_through_108 (by decide) ?_
          exact W.iret (v := (-1)) hx hb hr (fun t ht h9 => ⟨⟨(-1), S_23, rfl, ⟨hTy, hFr⟩, by rw [ht]; exact hW.1, va_K.moved h9.alike hK, hW.2.1⟩, hW.2.2.F ht⟩) hW.2.2.2.2 dX11_through_109
        · refine lv_aload_n hx hb dX11_through_79 rfl (lv_at hl 0 rfl) ?_
          refine pl_get (ci := 11) (v := .ref x_30) (C := RX11) (T := TX11) (N := 13) hx hb hT iX11 hown hK hW hT_o.1 hS_o rfl 6 (by decide) w359 rfl dX11_through_80 ?_
          refine pl_get (ci := 9) (v := .ref x_38) (C := RX9) (T := TX9) (N := 13) hx hb hT iX9 hown hK hW hT_x_30.1 hS_x_30 rfl 1 (by decide) w266 rfl dX11_through_83 ?_
          refine lv_iload_n hx hb dX11_through_86 rfl (lv_at hl 1 rfl) ?_
          refine vp_callSl (va_Run.run (va_runS (As := [.ref x_38, .int (nI k_15)]) (rest := []) ⟨hx, hb, hml, hown, hT⟩ (s_sumOut43 l dC dI cy L kap pr S_23 H.size x_38 k_15 hTy hT_x_38 (by omega)) (va_cwS 2 hT (gS w1001 w747 w1 w748) rfl rfl rfl (by decide +kernel) ⟨(Nat.le_of_ble_eq_true rfl), (Nat.le_of_ble_eq_true rfl)⟩) ⟨pcN.blind, pcN.pre hW.1 hK hW.2.1 hN (fun q h => absurd h List.not_mem_nil)⟩ rfl rfl hl.1 rfl (lv_room (Nat.le_of_ble_eq_true rfl)) dX11_through_87 ⟨(Nat.le_of_ble_eq_true rfl), (Nat.le_of_ble_eq_true rfl)⟩)) (fun r_50 hr_50 => ?_)
          refine lv_aload_n hx hb dX11_through_90 rfl (lv_at hl 0 rfl) ?_
          refine pl_get (ci := 11) (v := .ref x_30) (C := RX11) (T := TX11) (N := 13) hx hb hT iX11 hown hK hW hT_o.1 hS_o rfl 6 (by decide) w359 rfl dX11_through_91 ?_
          refine pl_get (ci := 9) (v := .ref x_38) (C := RX9) (T := TX9) (N := 13) hx hb hT iX9 hown hK hW hT_x_30.1 hS_x_30 rfl 1 (by decide) w266 rfl dX11_through_94 ?_
          refine lv_iload_n hx hb dX11_through_97 rfl (lv_at hl 1 rfl) ?_
          refine vp_callSl (va_Run.run (va_runS (As := [.ref x_38, .int (nI k_15)]) (rest := [.long r_50]) ⟨hx, hb, hml, hown, hT⟩ (s_sumIn43 l dC dI cy L kap pr S_23 H.size x_38 k_15 hTy hT_x_38 (by omega)) (va_cwS 2 hT (gS w1002 w754 w1 w755) rfl rfl rfl (by decide +kernel) ⟨(Nat.le_of_ble_eq_true rfl), (Nat.le_of_ble_eq_true rfl)⟩) ⟨pcN.blind, pcN.pre hW.1 hK hW.2.1 hN (fun q h => absurd h List.not_mem_nil)⟩ rfl rfl hl.1 rfl (lv_room (Nat.le_of_ble_eq_true rfl)) dX11_through_98 ⟨(Nat.le_of_ble_eq_true rfl), (Nat.le_of_ble_eq_true rfl)⟩)) (fun r_51 hr_51 => ?_)
          refine va_mmin_long hx hb (hml.trans hl.1.symm) hown (hT _ w1008) (hT _ w716) (hT _ w15) (hT _ w717) (Nat.le_of_ble_eq_true rfl) (Nat.le_of_ble_eq_true rfl) (Nat.le_of_ble_eq_true rfl) (Nat.le_of_ble_eq_true rfl) dX11_through_101 ?_
          refine lv_topl (fun z_52 ez_52 => ?_)
          refine lv_l2i hx hb dX11_through_104 rfl ?_
          refine lv_topi (fun z_53 ez_53 => ?_)
          refine lv_goto (tgt := 109) hx hb dX11_through_105 (by decide) ?_
          exact W.iret (v := z_53) hx hb hr (fun t ht h9 => ⟨⟨z_53, S_23, rfl, ⟨hTy, hFr⟩, by rw [ht]; exact hW.1, va_K.moved h9.alike hK, hW.2.1⟩, hW.2.2.F ht⟩) hW.2.2.2.2 dX11_through_109
      refine lv_lookup (off := 90) (tgt := 110) hx hb dX11_through_20 (by decide) (by show Op.lookupswitch.offset [(0, 28), (1, 44)] 90 _ = _; rw [lv_osw (a := 0) hk_20_0 (by decide), lv_osw (a := 1) hk_20_1 (by decide)]; rfl) (by decide) ?_
      refine lv_bipush (v := (-2)) hx hb dX11_through_110 (by decide) ?_
      exact W.iret (v := (-2)) hx hb hr (fun t ht h9 => ⟨⟨(-2), S, rfl, ⟨hTy, hFr⟩, by rw [ht]; exact hW.1, va_K.moved h9.alike hK, hW.2.1⟩, hW.2.2.F ht⟩) hW.2.2.2.2 dX11_through_112

set_option maxHeartbeats 4000000 in
set_option maxRecDepth 100000 in
theorem k_relieved (l : Launch) (dC : Nat → ClassId) (dI : Nat → Nat → Nat) (cy : Nat → ClassId) (L : List Nat) (kap : Nat → Nat) (pr : Pr) (S : Nat → va_E) (sz : Nat) (o : Nat) (kd : Int32) (hTy : Ty cy L kap pr S) (hT_o : TK L kap o 11) : Met l yX11_relieved (wT yX11_relieved cX11_relieved 8 (some .int)) ({ frames := 7, cells := 0, slots := 0, locals := 184 }) (pcN dC dI [.ref o, .int kd] sz (va_pl L S) (cyT cy) NLs []) (va_Qi (fun r S' => Ty cy L kap pr S' ∧ Fr kap [1, 9, 11, 29, 33, 35, 36, 37, 38, 43, 44, 45] S S') (fun S' t => pB dC dI (AL L sz) (va_pl L S') (cyT cy) t) (AL L sz)) 0 0 (AL L sz) := by
  refine Met.ofW (cc := cX11_relieved) (maxL := 8) (ret := (some .int)) (by decide) rfl ?_
  intro p e s m args below meth c s₁ B hml hv
  obtain ⟨rfl, hsz, hP, hK, hD0, hN, -⟩ := hv
  have hx := B.exec
  have hb := B.bytes
  have hr := B.returns
  have hT : ∀ wd ∈ TB, wd.before [.ref o, .int kd].toArray s = true := fun wd h => atoms_spec (ws := wT yX11_relieved cX11_relieved 8 (some .int)) B.pre wd (List.mem_cons_of_mem _ h)
  have hown : s.vm.findClass RX11 = some m.cls := findClass_of_methodNamed B.named
  have hlocks := B.notSynchronized
  subst hsz
  have hW : PW dC dI L (AL L s.heap.size) s.heap S s.heap [] := ⟨hP, pl_self hD0, va_S.rf⟩
  have hA0 : ∀ q, q ∈ L → AL L s.heap.size q := fun _ h => Or.inl h
  have hA : ∀ q, s.heap.size ≤ q → AL L s.heap.size q := fun _ h => Or.inr h
  have hFr : Fr kap [1, 9, 11, 29, 33, 35, 36, 37, 38, 43, 44, 45] S S := Fr.rf
  have hl := lv_entry ([.ref o, .int kd]) (n := 8) (Nat.le_of_ble_eq_true rfl)
  rw [lg_entry_eq]
  generalize (lg_sl ([.ref o, .int kd]) ++ List.replicate (8 - (lg_sl ([.ref o, .int kd])).length) Slot.unset).toArray = ls at hl ⊢
  have hl : lv_has ls 8 [(0, .ref o), (1, .int kd)] := hl
  refine lv_aload_n hx hb dX11_relieved_0 rfl (lv_at hl 0 rfl) ?_
  refine lv_iload_n hx hb dX11_relieved_1 rfl (lv_at hl 1 rfl) ?_
  obtain ⟨x_1, x_2, x_3, x_4, x_5, x_6, x_7, x_8, x_9, x_10, x_11, x_12, x_13, hS_o, hT_x_1, hT_x_2, hT_x_3, hT_x_4, hT_x_5, hT_x_6, hT_x_7, hT_x_8, hT_x_9, hT_x_10, hT_x_11, hT_x_12⟩ := hTy.k11 hT_o
  refine vp_callSi (va_Run.run (va_runV (As := [.int kd]) (rest := []) ⟨hx, hb, hml, hown, hT⟩ (o_noKind l dC dI cy L kap pr S s.heap.size o kd hTy hT_o) (cwV 1 hT (gV w606 w608 ws24 w1 w609) rfl rfl rfl (by decide +kernel) ⟨(Nat.le_of_ble_eq_true rfl), (Nat.le_of_ble_eq_true rfl)⟩) ⟨pcN.blind, pl_recv hK hW hT_o.1 hS_o rfl, pcN.pre hW.1 hK hW.2.1 hN (fun q h => absurd h List.not_mem_nil)⟩ rfl rfl hl.1 rfl (lv_room (Nat.le_of_ble_eq_true rfl)) dX11_relieved_2 ⟨(Nat.le_of_ble_eq_true rfl), (Nat.le_of_ble_eq_true rfl)⟩)) (fun r_14 hr_14 => ?_)
  rcases hr_14 with hc_ | hc_
  · obtain rfl : r_14 = 1 := hc_
    refine lv_if_eq (tgt := 11) hx hb dX11_relieved_5 (by decide) (fun h => absurd h (by decide)) (fun _ => ?_)
    refine lv_bipush (v := (-2)) hx hb dX11_relieved_8 (by decide) ?_
    exact W.iret (v := (-2)) hx hb hr (fun t ht h9 => ⟨⟨(-2), S, rfl, ⟨hTy, hFr⟩, by rw [ht]; exact hW.1, va_K.moved h9.alike hK, hW.2.1⟩, hW.2.2.F ht⟩) hW.2.2.2.2 dX11_relieved_10
  · obtain ⟨rfl, k_15, hb_k_15, rfl⟩ := hc_
    refine lv_if_eq (tgt := 11) hx hb dX11_relieved_5 (by decide) (fun _ => ?_) (fun h => absurd (by decide) h)
    refine lv_aload_n hx hb dX11_relieved_11 rfl (lv_at hl 0 rfl) ?_
    refine lv_iload_n hx hb dX11_relieved_12 rfl (lv_at hl 1 rfl) ?_
    refine pl_callv (va_runV (As := [.int (nI k_15)]) (rest := []) ⟨hx, hb, hml, hown, hT⟩ (o_solveKind l dC dI cy L kap pr S s.heap.size o (nI k_15) hTy hT_o) (cwV 1 hT (gV w729 w731 ws35 w1 w732) rfl rfl rfl (by decide +kernel) ⟨(Nat.le_of_ble_eq_true rfl), (Nat.le_of_ble_eq_true rfl)⟩) ⟨pcN.blind, pl_recv hK hW hT_o.1 hS_o rfl, pcN.pre hW.1 hK hW.2.1 hN (fun q h => absurd h List.not_mem_nil)⟩ rfl rfl hl.1 rfl (lv_room (Nat.le_of_ble_eq_true rfl)) dX11_relieved_13 ⟨(Nat.le_of_ble_eq_true rfl), (Nat.le_of_ble_eq_true rfl)⟩) hW hA0 hA (fun S_16 H locs hrel hW => ?_)
    obtain ⟨hTy, hF1⟩ := hrel
    have hFr := hFr.tr hF1 (by decide)
    refine lv_aload_n hx hb dX11_relieved_16 rfl (lv_at hl 0 rfl) ?_
    obtain ⟨x_17, x_18, x_19, x_20, x_21, x_22, x_23, x_24, x_25, x_26, x_27, x_28, x_29, hS_o, hT_x_17, hT_x_18, hT_x_19, hT_x_20, hT_x_21, hT_x_22, hT_x_23, hT_x_24, hT_x_25, hT_x_26, hT_x_27, hT_x_28⟩ := hTy.k11 hT_o
    refine pl_get (ci := 11) (v := .ref x_23) (C := RX11) (T := TX11) (N := 13) hx hb hT iX11 hown hK hW hT_o.1 hS_o rfl 6 (by decide) w359 rfl dX11_relieved_17 ?_
    obtain ⟨x_30, x_31, x_32, x_33, x_34, x_35, x_36, x_37, x_38, x_39, x_40, x_41, x_42, hS_x_23, hT_x_30, hT_x_31, hT_x_34, hT_x_35, hT_x_36, hT_x_37, hT_x_38, hT_x_39, hT_x_40, hb_x_41, hb_x_42⟩ := hTy.k9 hT_x_23
    refine pl_get (ci := 9) (v := .int x_32) (C := RX9) (T := TX9) (N := 13) hx hb hT iX9 hown hK hW hT_x_23.1 hS_x_23 rfl 2 (by decide) w268 rfl dX11_relieved_20 ?_
    refine lv_if_ne (tgt := 28) hx hb dX11_relieved_23 (by decide) (fun c_23 => ?_) (fun c_23 => ?_)
    · refine lv_aload_n hx hb dX11_relieved_28 rfl (lv_at hl 0 rfl) ?_
      refine lv_iload_n hx hb dX11_relieved_29 rfl (lv_at hl 1 rfl) ?_
      refine lv_iconst (v := (-1)) hx hb dX11_relieved_30 (by decide) ?_
      refine pl_callv (va_runV (As := [.int (nI k_15), .int (-1)]) (rest := []) ⟨hx, hb, hml, hown, hT⟩ (o_gather l dC dI cy L kap pr S_16 H.size o (nI k_15) (-1) hTy hT_o) (cwV 2 hT (gV w669 w671 ws30 w1 w672) rfl rfl rfl (by decide +kernel) ⟨(Nat.le_of_ble_eq_true rfl), (Nat.le_of_ble_eq_true rfl)⟩) ⟨pcN.blind, pl_recv hK hW hT_o.1 hS_o rfl, pcN.pre hW.1 hK hW.2.1 hN (fun q h => absurd h List.not_mem_nil)⟩ rfl rfl hl.1 rfl (lv_room (Nat.le_of_ble_eq_true rfl)) dX11_relieved_31 ⟨(Nat.le_of_ble_eq_true rfl), (Nat.le_of_ble_eq_true rfl)⟩) hW hA0 hA (fun S_43 H locs hrel hW => ?_)
      obtain ⟨hTy, hF1⟩ := hrel
      have hFr := hFr.tr hF1 (by decide)
      have hS_o := hF1.at hT_o (by decide) hS_o
      have hS_x_23 := hF1.at hT_x_23 (by decide) hS_x_23
      refine lv_iconst (v := (-1)) hx hb dX11_relieved_34 (by decide) ?_
      refine lv_istore_n (lv' := [(2, .int (-1)), (0, .ref o), (1, .int (nI k_15))]) hx hb dX11_relieved_35 rfl hl (by decide) rfl (fun ls hl => ?_)
      refine lv_lconst (v := 0) hx hb dX11_relieved_36 (by decide) ?_
      refine lv_lstore_n (lv' := [(3, .long 0), (2, .int (-1)), (0, .ref o), (1, .int (nI k_15))]) hx hb dX11_relieved_37 rfl hl (by decide) rfl (fun ls hl => ?_)
      refine lv_iconst (v := 0) hx hb dX11_relieved_38 (by decide) ?_
      refine lv_istore (lv' := [(5, .int 0), (3, .long 0), (2, .int (-1)), (0, .ref o), (1, .int (nI k_15))]) hx hb dX11_relieved_39 hl (by decide) rfl (fun ls hl => ?_)
      have loop : ∀ (fuel : Nat) (i : Nat) (be : Int32) (mo : Int64) (SS : Nat → va_E) (H : Heap) (locs : List Loc) (ls : Array Slot), 9 - i < fuel → (i ≤ 8) → Ty cy L kap pr SS → Fr kap [1, 9, 11, 29, 33, 35, 36, 37, 38, 43, 44, 45] S SS → Fr kap [1, 9, 11, 29, 33, 35, 36, 37, 38, 43, 44, 45] S_43 SS → PW dC dI L (AL L s.heap.size) s.heap SS H locs → lv_has ls 8 [(5, .int (nI i)), (3, .long mo), (2, .int be), (0, .ref o), (1, .int (nI k_15))] → W p l e (headSpec (wT yX11_relieved cX11_relieved 8 (some .int)) { frames := 7, cells := 0, slots := 0, locals := 184 }).room s m [.ref o, .int (nI k_15)].toArray below meth c H locs 0 0 (MQ below (va_Qi (fun r S' => Ty cy L kap pr S' ∧ Fr kap [1, 9, 11, 29, 33, 35, 36, 37, 38, 43, 44, 45] S S') (fun S' t => pB dC dI (AL L s.heap.size) (va_pl L S') (cyT cy) t) (AL L s.heap.size)) [.ref o, .int (nI k_15)].toArray s 0 0 (AL L s.heap.size)) (F0 m 41 ls []) := by
        intro fuel
        induction fuel with
        | zero => intro i be mo SS H locs ls h; exact absurd h (Nat.not_lt_zero _)
        | succ fu41 ih41 =>
          intro i be mo S_44 H locs ls hm41 hb_i hTy hFr hFl41 hW hl
          refine lv_iload hx hb dX11_relieved_41 (lv_at hl 0 rfl) ?_
          refine lv_aload_n hx hb dX11_relieved_43 rfl (lv_at hl 3 rfl) ?_
          obtain ⟨x_45, x_46, x_47, x_48, x_49, x_50, x_51, x_52, x_53, x_54, x_55, x_56, x_57, hS_o, hT_x_45, hT_x_46, hT_x_47, hT_x_48, hT_x_49, hT_x_50, hT_x_51, hT_x_52, hT_x_53, hT_x_54, hT_x_55, hT_x_56⟩ := hTy.k11 hT_o
          refine pl_get (ci := 11) (v := .ref x_55) (C := RX11) (T := TX11) (N := 13) hx hb hT iX11 hown hK hW hT_o.1 hS_o rfl 10 (by decide) w363 rfl dX11_relieved_44 ?_
          obtain ⟨x_58, x_59, x_60, x_61, hS_x_55, hT_x_58, hT_x_59, hb_x_60, hb_x_61⟩ := hTy.k3 hT_x_55
          refine pl_get (ci := 3) (v := .int (nI x_60)) (C := RX3) (T := TX3) (N := 4) hx hb hT iX3 hown hK hW hT_x_55.1 hS_x_55 rfl 2 (by decide) w64 rfl dX11_relieved_47 ?_
          refine lv_icmp_ge (tgt := 85) hx hb dX11_relieved_50 (by decide) (fun c_50 => ?_) (fun c_50 => ?_)
          · have c_50 : x_60 ≤ i := (nI_leI (a := x_60) (b := i) (by omega) (by omega)).mp c_50
            refine lv_iload_n hx hb dX11_relieved_85 rfl (lv_at hl 2 rfl) ?_
            exact W.iret (v := be) hx hb hr (fun t ht h9 => ⟨⟨be, S_44, rfl, ⟨hTy, hFr⟩, by rw [ht]; exact hW.1, va_K.moved h9.alike hK, hW.2.1⟩, hW.2.2.F ht⟩) hW.2.2.2.2 dX11_relieved_86
          · have c_50 : ¬ (x_60 ≤ i) := fun hh9 => c_50 ((nI_leI (a := x_60) (b := i) (by omega) (by omega)).mpr hh9)
            refine lv_aload_n hx hb dX11_relieved_53 rfl (lv_at hl 3 rfl) ?_
            refine lv_iload hx hb dX11_relieved_54 (lv_at hl 0 rfl) ?_
            refine vp_callSl (va_Run.run (va_runV (As := [.int (nI i)]) (rest := []) ⟨hx, hb, hml, hown, hT⟩ (o_reliefOf l dC dI cy L kap pr S_44 H.size o i hTy hT_o (by omega)) (cwV 1 hT (gV w997 w999 ws49 w1 w1000) rfl rfl rfl (by decide +kernel) ⟨(Nat.le_of_ble_eq_true rfl), (Nat.le_of_ble_eq_true rfl)⟩) ⟨pcN.blind, pl_recv hK hW hT_o.1 hS_o rfl, pcN.pre hW.1 hK hW.2.1 hN (fun q h => absurd h List.not_mem_nil)⟩ rfl rfl hl.1 rfl (lv_room (Nat.le_of_ble_eq_true rfl)) dX11_relieved_56 ⟨(Nat.le_of_ble_eq_true rfl), (Nat.le_of_ble_eq_true rfl)⟩)) (fun r_62 hr_62 => ?_)
            refine lv_lstore (lv' := [(6, .long r_62), (5, .int (nI i)), (3, .long mo), (2, .int be), (0, .ref o), (1, .int (nI k_15))]) hx hb dX11_relieved_59 hl (by decide) rfl (fun ls hl => ?_)
            refine lv_iload_n hx hb dX11_relieved_61 rfl (lv_at hl 3 rfl) ?_
            refine lv_iconst (v := (-1)) hx hb dX11_relieved_62 (by decide) ?_
            refine lv_icmp_eq (tgt := 73) hx hb dX11_relieved_63 (by decide) (fun c_63 => ?_) (fun c_63 => ?_)
            · refine lv_iload hx hb dX11_relieved_73 (lv_at hl 1 rfl) ?_
              refine lv_istore_n (lv' := [(2, .int (nI i)), (6, .long r_62), (5, .int (nI i)), (3, .long mo), (0, .ref o), (1, .int (nI k_15))]) hx hb dX11_relieved_75 rfl hl (by decide) rfl (fun ls hl => ?_)
              refine lv_lload hx hb dX11_relieved_76 (lv_at hl 1 rfl) ?_
              refine lv_lstore_n (lv' := [(3, .long r_62), (2, .int (nI i)), (6, .long r_62), (5, .int (nI i)), (0, .ref o), (1, .int (nI k_15))]) hx hb dX11_relieved_78 rfl hl (by decide) rfl (fun ls hl => ?_)
              refine lv_iinc (v := nI (i + 1)) (lv' := [(5, .int (nI (i + 1))), (3, .long r_62), (2, .int (nI i)), (6, .long r_62), (0, .ref o), (1, .int (nI k_15))]) hx hb dX11_relieved_79 hl (k := 3) rfl (nI_add (i) 1) (by decide) rfl (fun ls hl => ?_)
              refine lv_goto (tgt := 41) hx hb dX11_relieved_82 (by decide) ?_
              exact ih41 (i + 1) (nI i) r_62 _ _ _ ls (by omega) (by omega) hTy hFr hFl41 hW (lv_sub hl [0, 1, 2, 4, 5] rfl)
            · refine lv_lload hx hb dX11_relieved_66 (lv_at hl 0 rfl) ?_
              refine lv_lload_n hx hb dX11_relieved_68 rfl (lv_at hl 2 rfl) ?_
              refine W.lcmp hx hb dX11_relieved_69 ?_
              refine lv_if_le (tgt := 79) hx hb dX11_relieved_70 (by decide) (fun c_70 => ?_) (fun c_70 => ?_)
              · refine lv_iinc (v := nI (i + 1)) (lv' := [(5, .int (nI (i + 1))), (6, .long r_62), (3, .long mo), (2, .int be), (0, .ref o), (1, .int (nI k_15))]) hx hb dX11_relieved_79 hl (k := 1) rfl (nI_add (i) 1) (by decide) rfl (fun ls hl => ?_)
                refine lv_goto (tgt := 41) hx hb dX11_relieved_82 (by decide) ?_
                exact ih41 (i + 1) be mo _ _ _ ls (by omega) (by omega) hTy hFr hFl41 hW (lv_sub hl [0, 2, 3, 4, 5] rfl)
              · refine lv_iload hx hb dX11_relieved_73 (lv_at hl 1 rfl) ?_
                refine lv_istore_n (lv' := [(2, .int (nI i)), (6, .long r_62), (5, .int (nI i)), (3, .long mo), (0, .ref o), (1, .int (nI k_15))]) hx hb dX11_relieved_75 rfl hl (by decide) rfl (fun ls hl => ?_)
                refine lv_lload hx hb dX11_relieved_76 (lv_at hl 1 rfl) ?_
                refine lv_lstore_n (lv' := [(3, .long r_62), (2, .int (nI i)), (6, .long r_62), (5, .int (nI i)), (0, .ref o), (1, .int (nI k_15))]) hx hb dX11_relieved_78 rfl hl (by decide) rfl (fun ls hl => ?_)
                refine lv_iinc (v := nI (i + 1)) (lv' := [(5, .int (nI (i + 1))), (3, .long r_62), (2, .int (nI i)), (6, .long r_62), (0, .ref o), (1, .int (nI k_15))]) hx hb dX11_relieved_79 hl (k := 3) rfl (nI_add (i) 1) (by decide) rfl (fun ls hl => ?_)
                refine lv_goto (tgt := 41) hx hb dX11_relieved_82 (by decide) ?_
                exact ih41 (i + 1) (nI i) r_62 _ _ _ ls (by omega) (by omega) hTy hFr hFl41 hW (lv_sub hl [0, 1, 2, 4, 5] rfl)
      exact loop ((9 - 0) + 1) 0 (-1) 0 _ _ _ ls (Nat.lt_succ_self _) (by omega) hTy hFr Fr.rf hW (lv_sub hl [0, 1, 2, 3, 4] rfl)
    · refine lv_iconst (v := (-1)) hx hb dX11_relieved_26 (by decide) ?_
      exact W.iret (v := (-1)) hx hb hr (fun t ht h9 => ⟨⟨(-1), S_16, rfl, ⟨hTy, hFr⟩, by rw [ht]; exact hW.1, va_K.moved h9.alike hK, hW.2.1⟩, hW.2.2.F ht⟩) hW.2.2.2.2 dX11_relieved_27

set_option maxHeartbeats 4000000 in
set_option maxRecDepth 100000 in
theorem k_all (l : Launch) (dC : Nat → ClassId) (dI : Nat → Nat → Nat) (cy : Nat → ClassId) (L : List Nat) (kap : Nat → Nat) (pr : Pr) (S : Nat → va_E) (sz : Nat) (o : Nat) (hTy : Ty cy L kap pr S) (hT_o : TK L kap o 11) : Met l yX11_all (wT yX11_all cX11_all 4 (some .int)) ({ frames := 6, cells := 0, slots := 0, locals := 133 }) (pcN dC dI [.ref o] sz (va_pl L S) (cyT cy) NLs []) (va_Qi (fun r S' => Ty cy L kap pr S' ∧ Fr kap [1, 9, 29, 33, 35, 36, 37, 38, 44, 45] S S') (fun S' t => pB dC dI (AL L sz) (va_pl L S') (cyT cy) t) (AL L sz)) 0 0 (AL L sz) := by
  refine Met.ofW (cc := cX11_all) (maxL := 4) (ret := (some .int)) (by decide) rfl ?_
  intro p e s m args below meth c s₁ B hml hv
  obtain ⟨rfl, hsz, hP, hK, hD0, hN, -⟩ := hv
  have hx := B.exec
  have hb := B.bytes
  have hr := B.returns
  have hT : ∀ wd ∈ TB, wd.before [.ref o].toArray s = true := fun wd h => atoms_spec (ws := wT yX11_all cX11_all 4 (some .int)) B.pre wd (List.mem_cons_of_mem _ h)
  have hown : s.vm.findClass RX11 = some m.cls := findClass_of_methodNamed B.named
  have hlocks := B.notSynchronized
  subst hsz
  have hW : PW dC dI L (AL L s.heap.size) s.heap S s.heap [] := ⟨hP, pl_self hD0, va_S.rf⟩
  have hA0 : ∀ q, q ∈ L → AL L s.heap.size q := fun _ h => Or.inl h
  have hA : ∀ q, s.heap.size ≤ q → AL L s.heap.size q := fun _ h => Or.inr h
  have hFr : Fr kap [1, 9, 29, 33, 35, 36, 37, 38, 44, 45] S S := Fr.rf
  have hl := lv_entry ([.ref o]) (n := 4) (Nat.le_of_ble_eq_true rfl)
  rw [lg_entry_eq]
  generalize (lg_sl ([.ref o]) ++ List.replicate (4 - (lg_sl ([.ref o])).length) Slot.unset).toArray = ls at hl ⊢
  have hl : lv_has ls 4 [(0, .ref o)] := hl
  refine lv_lconst (v := 0) hx hb dX11_all_0 (by decide) ?_
  refine lv_lstore_n (lv' := [(1, .long 0), (0, .ref o)]) hx hb dX11_all_1 rfl hl (by decide) rfl (fun ls hl => ?_)
  refine lv_iconst (v := 0) hx hb dX11_all_2 (by decide) ?_
  refine lv_istore_n (lv' := [(3, .int 0), (1, .long 0), (0, .ref o)]) hx hb dX11_all_3 rfl hl (by decide) rfl (fun ls hl => ?_)
  have loop : ∀ (fuel : Nat) (i : Nat) (sm : Int64) (SS : Nat → va_E) (H : Heap) (locs : List Loc) (ls : Array Slot), 5 - i < fuel → (i ≤ 4) → Ty cy L kap pr SS → Fr kap [1, 9, 29, 33, 35, 36, 37, 38, 44, 45] S SS → Fr kap [1, 9, 29, 33, 35, 36, 37, 38, 44, 45] S SS → PW dC dI L (AL L s.heap.size) s.heap SS H locs → lv_has ls 4 [(3, .int (nI i)), (1, .long sm), (0, .ref o)] → W p l e (headSpec (wT yX11_all cX11_all 4 (some .int)) { frames := 6, cells := 0, slots := 0, locals := 133 }).room s m [.ref o].toArray below meth c H locs 0 0 (MQ below (va_Qi (fun r S' => Ty cy L kap pr S' ∧ Fr kap [1, 9, 29, 33, 35, 36, 37, 38, 44, 45] S S') (fun S' t => pB dC dI (AL L s.heap.size) (va_pl L S') (cyT cy) t) (AL L s.heap.size)) [.ref o].toArray s 0 0 (AL L s.heap.size)) (F0 m 4 ls []) := by
    intro fuel
    induction fuel with
    | zero => intro i sm SS H locs ls h; exact absurd h (Nat.not_lt_zero _)
    | succ fu4 ih4 =>
      intro i sm S_1 H locs ls hm4 hb_i hTy hFr hFl4 hW hl
      refine lv_iload_n hx hb dX11_all_4 rfl (lv_at hl 0 rfl) ?_
      refine lv_aload_n hx hb dX11_all_5 rfl (lv_at hl 2 rfl) ?_
      obtain ⟨x_2, x_3, x_4, x_5, x_6, x_7, x_8, x_9, x_10, x_11, x_12, x_13, x_14, hS_o, hT_x_2, hT_x_3, hT_x_4, hT_x_5, hT_x_6, hT_x_7, hT_x_8, hT_x_9, hT_x_10, hT_x_11, hT_x_12, hT_x_13⟩ := hTy.k11 hT_o
      refine pl_get (ci := 11) (v := .ref x_12) (C := RX11) (T := TX11) (N := 13) hx hb hT iX11 hown hK hW hT_o.1 hS_o rfl 10 (by decide) w363 rfl dX11_all_6 ?_
      obtain ⟨x_15, x_16, x_17, x_18, hS_x_12, hT_x_15, hT_x_16, hb_x_17, hb_x_18⟩ := hTy.k3 hT_x_12
      refine pl_get (ci := 3) (v := .int (nI x_18)) (C := RX3) (T := TX3) (N := 4) hx hb hT iX3 hown hK hW hT_x_12.1 hS_x_12 rfl 3 (by decide) w67 rfl dX11_all_9 ?_
      refine lv_icmp_ge (tgt := 56) hx hb dX11_all_12 (by decide) (fun c_12 => ?_) (fun c_12 => ?_)
      · have c_12 : x_18 ≤ i := (nI_leI (a := x_18) (b := i) (by omega) (by omega)).mp c_12
        refine lv_lload_n hx hb dX11_all_56 rfl (lv_at hl 1 rfl) ?_
        refine lv_l2i hx hb dX11_all_57 rfl ?_
        refine lv_topi (fun z_19 ez_19 => ?_)
        exact W.iret (v := z_19) hx hb hr (fun t ht h9 => ⟨⟨z_19, S_1, rfl, ⟨hTy, hFr⟩, by rw [ht]; exact hW.1, va_K.moved h9.alike hK, hW.2.1⟩, hW.2.2.F ht⟩) hW.2.2.2.2 dX11_all_58
      · have c_12 : ¬ (x_18 ≤ i) := fun hh9 => c_12 ((nI_leI (a := x_18) (b := i) (by omega) (by omega)).mpr hh9)
        refine lv_aload_n hx hb dX11_all_15 rfl (lv_at hl 2 rfl) ?_
        refine lv_iload_n hx hb dX11_all_16 rfl (lv_at hl 0 rfl) ?_
        refine lv_iconst (v := (-1)) hx hb dX11_all_17 (by decide) ?_
        refine pl_callv (va_runV (As := [.int (nI i), .int (-1)]) (rest := []) ⟨hx, hb, hml, hown, hT⟩ (o_prepTrial l dC dI cy L kap pr S_1 H.size o (nI i) (-1) hTy hT_o) (cwV 2 hT (gV w983 w985 ws48 w1 w986) rfl rfl rfl (by decide +kernel) ⟨(Nat.le_of_ble_eq_true rfl), (Nat.le_of_ble_eq_true rfl)⟩) ⟨pcN.blind, pl_recv hK hW hT_o.1 hS_o rfl, pcN.pre hW.1 hK hW.2.1 hN (fun q h => absurd h List.not_mem_nil)⟩ rfl rfl hl.1 rfl (lv_room (Nat.le_of_ble_eq_true rfl)) dX11_all_18 ⟨(Nat.le_of_ble_eq_true rfl), (Nat.le_of_ble_eq_true rfl)⟩) hW hA0 hA (fun S_20 H locs hrel hW => ?_)
        obtain ⟨hTy, hF1⟩ := hrel
        have hFr := hFr.tr hF1 (by decide)
        have hFl4 := hFl4.tr hF1 (by decide)
        have hS_o := hF1.at hT_o (by decide) hS_o
        have hS_x_12 := hF1.at hT_x_12 (by decide) hS_x_12
        refine lv_aload_n hx hb dX11_all_21 rfl (lv_at hl 2 rfl) ?_
        refine pl_get (ci := 11) (v := .ref x_9) (C := RX11) (T := TX11) (N := 13) hx hb hT iX11 hown hK hW hT_o.1 hS_o rfl 7 (by decide) w360 rfl dX11_all_22 ?_
        obtain ⟨x_21, x_22, x_23, x_24, x_25, x_26, x_27, x_28, x_29, x_30, x_31, x_32, x_33, hS_x_9, hT_x_21, hT_x_22, hT_x_25, hT_x_26, hT_x_27, hT_x_28, hT_x_29, hT_x_30, hT_x_31, hb_x_32, hb_x_33⟩ := hTy.k9 hT_x_9
        refine pl_callv (va_runV (As := []) (rest := []) ⟨hx, hb, hml, hown, hT⟩ (s_solve l dC dI cy L kap pr S_20 H.size x_9 hTy hT_x_9) (cwV 0 hT (gV w766 w767 w768 w11 w769) rfl rfl rfl (by decide +kernel) ⟨(Nat.le_of_ble_eq_true rfl), (Nat.le_of_ble_eq_true rfl)⟩) ⟨pcN.blind, pl_recv hK hW hT_x_9.1 hS_x_9 rfl, pcN.pre hW.1 hK hW.2.1 hN (fun q h => absurd h List.not_mem_nil)⟩ rfl rfl hl.1 rfl (lv_room (Nat.le_of_ble_eq_true rfl)) dX11_all_25 ⟨(Nat.le_of_ble_eq_true rfl), (Nat.le_of_ble_eq_true rfl)⟩) hW hA0 hA (fun S_34 H locs hrel hW => ?_)
        obtain ⟨hTy, hF1⟩ := hrel
        have hFr := hFr.tr hF1 (by decide)
        have hFl4 := hFl4.tr hF1 (by decide)
        have hS_o := hF1.at hT_o (by decide) hS_o
        have hS_x_12 := hF1.at hT_x_12 (by decide) hS_x_12
        refine lv_aload_n hx hb dX11_all_28 rfl (lv_at hl 2 rfl) ?_
        refine pl_get (ci := 11) (v := .ref x_9) (C := RX11) (T := TX11) (N := 13) hx hb hT iX11 hown hK hW hT_o.1 hS_o rfl 7 (by decide) w360 rfl dX11_all_29 ?_
        obtain ⟨x_35, x_36, x_37, x_38, x_39, x_40, x_41, x_42, x_43, x_44, x_45, x_46, x_47, hS_x_9, hT_x_35, hT_x_36, hT_x_39, hT_x_40, hT_x_41, hT_x_42, hT_x_43, hT_x_44, hT_x_45, hb_x_46, hb_x_47⟩ := hTy.k9 hT_x_9
        refine pl_get (ci := 9) (v := .int x_37) (C := RX9) (T := TX9) (N := 13) hx hb hT iX9 hown hK hW hT_x_9.1 hS_x_9 rfl 2 (by decide) w268 rfl dX11_all_32 ?_
        refine lv_if_ne (tgt := 40) hx hb dX11_all_35 (by decide) (fun c_35 => ?_) (fun c_35 => ?_)
        · refine lv_lload_n hx hb dX11_all_40 rfl (lv_at hl 1 rfl) ?_
          refine lv_aload_n hx hb dX11_all_41 rfl (lv_at hl 2 rfl) ?_
          refine pl_get (ci := 11) (v := .ref x_9) (C := RX11) (T := TX11) (N := 13) hx hb hT iX11 hown hK hW hT_o.1 hS_o rfl 7 (by decide) w360 rfl dX11_all_42 ?_
          refine pl_get (ci := 9) (v := .long x_38) (C := RX9) (T := TX9) (N := 13) hx hb hT iX9 hown hK hW hT_x_9.1 hS_x_9 rfl 3 (by decide) w270 rfl dX11_all_45 ?_
          refine lv_ladd hx hb dX11_all_48 ?_
          refine lv_topl (fun z_48 ez_48 => ?_)
          refine lv_lstore_n (lv' := [(1, .long z_48), (3, .int (nI i)), (0, .ref o)]) hx hb dX11_all_49 rfl hl (by decide) rfl (fun ls hl => ?_)
          refine lv_iinc (v := nI (i + 1)) (lv' := [(3, .int (nI (i + 1))), (1, .long z_48), (0, .ref o)]) hx hb dX11_all_50 hl (k := 1) rfl (nI_add (i) 1) (by decide) rfl (fun ls hl => ?_)
          refine lv_goto (tgt := 4) hx hb dX11_all_53 (by decide) ?_
          exact ih4 (i + 1) z_48 _ _ _ ls (by omega) (by omega) hTy hFr hFl4 hW (lv_sub hl [0, 1, 2] rfl)
        · refine lv_iconst (v := (-1)) hx hb dX11_all_38 (by decide) ?_
          exact W.iret (v := (-1)) hx hb hr (fun t ht h9 => ⟨⟨(-1), S_34, rfl, ⟨hTy, hFr⟩, by rw [ht]; exact hW.1, va_K.moved h9.alike hK, hW.2.1⟩, hW.2.2.F ht⟩) hW.2.2.2.2 dX11_all_39
  exact loop ((5 - 0) + 1) 0 0 _ _ _ ls (Nat.lt_succ_self _) (by omega) hTy hFr Fr.rf hW (lv_sub hl [0, 1, 2] rfl)

set_option maxHeartbeats 4000000 in
set_option maxRecDepth 100000 in
theorem k_enough (l : Launch) (dC : Nat → ClassId) (dI : Nat → Nat → Nat) (cy : Nat → ClassId) (L : List Nat) (kap : Nat → Nat) (pr : Pr) (S : Nat → va_E) (sz : Nat) (o : Nat) (fa : Int32) (fb : Int32) (kd : Int32) (hTy : Ty cy L kap pr S) (hT_o : TK L kap o 11) : Met l yX11_enough (wT yX11_enough cX11_enough 4 (some .int)) ({ frames := 6, cells := 0, slots := 0, locals := 166 }) (pcN dC dI [.ref o, .int fa, .int fb, .int kd] sz (va_pl L S) (cyT cy) NLs []) (va_Qi (fun r S' => Ty cy L kap pr S' ∧ Fr kap [1, 9, 29, 33, 35, 36, 37, 38, 44, 45] S S') (fun S' t => pB dC dI (AL L sz) (va_pl L S') (cyT cy) t) (AL L sz)) 0 0 (AL L sz) := by
  refine Met.ofW (cc := cX11_enough) (maxL := 4) (ret := (some .int)) (by decide) rfl ?_
  intro p e s m args below meth c s₁ B hml hv
  obtain ⟨rfl, hsz, hP, hK, hD0, hN, -⟩ := hv
  have hx := B.exec
  have hb := B.bytes
  have hr := B.returns
  have hT : ∀ wd ∈ TB, wd.before [.ref o, .int fa, .int fb, .int kd].toArray s = true := fun wd h => atoms_spec (ws := wT yX11_enough cX11_enough 4 (some .int)) B.pre wd (List.mem_cons_of_mem _ h)
  have hown : s.vm.findClass RX11 = some m.cls := findClass_of_methodNamed B.named
  have hlocks := B.notSynchronized
  subst hsz
  have hW : PW dC dI L (AL L s.heap.size) s.heap S s.heap [] := ⟨hP, pl_self hD0, va_S.rf⟩
  have hA0 : ∀ q, q ∈ L → AL L s.heap.size q := fun _ h => Or.inl h
  have hA : ∀ q, s.heap.size ≤ q → AL L s.heap.size q := fun _ h => Or.inr h
  have hFr : Fr kap [1, 9, 29, 33, 35, 36, 37, 38, 44, 45] S S := Fr.rf
  have hl := lv_entry ([.ref o, .int fa, .int fb, .int kd]) (n := 4) (Nat.le_of_ble_eq_true rfl)
  rw [lg_entry_eq]
  generalize (lg_sl ([.ref o, .int fa, .int fb, .int kd]) ++ List.replicate (4 - (lg_sl ([.ref o, .int fa, .int fb, .int kd])).length) Slot.unset).toArray = ls at hl ⊢
  have hl : lv_has ls 4 [(0, .ref o), (1, .int fa), (2, .int fb), (3, .int kd)] := hl
  refine lv_aload_n hx hb dX11_enough_0 rfl (lv_at hl 0 rfl) ?_
  refine lv_iload_n hx hb dX11_enough_1 rfl (lv_at hl 1 rfl) ?_
  refine lv_iload_n hx hb dX11_enough_2 rfl (lv_at hl 2 rfl) ?_
  obtain ⟨x_1, x_2, x_3, x_4, x_5, x_6, x_7, x_8, x_9, x_10, x_11, x_12, x_13, hS_o, hT_x_1, hT_x_2, hT_x_3, hT_x_4, hT_x_5, hT_x_6, hT_x_7, hT_x_8, hT_x_9, hT_x_10, hT_x_11, hT_x_12⟩ := hTy.k11 hT_o
  refine vp_callSi (va_Run.run (va_runV (As := [.int fa, .int fb]) (rest := []) ⟨hx, hb, hml, hown, hT⟩ (o_noCouple l dC dI cy L kap pr S s.heap.size o fa fb hTy hT_o) (cwV 2 hT (gV w598 w600 ws22 w1 w601) rfl rfl rfl (by decide +kernel) ⟨(Nat.le_of_ble_eq_true rfl), (Nat.le_of_ble_eq_true rfl)⟩) ⟨pcN.blind, pl_recv hK hW hT_o.1 hS_o rfl, pcN.pre hW.1 hK hW.2.1 hN (fun q h => absurd h List.not_mem_nil)⟩ rfl rfl hl.1 rfl (lv_room (Nat.le_of_ble_eq_true rfl)) dX11_enough_3 ⟨(Nat.le_of_ble_eq_true rfl), (Nat.le_of_ble_eq_true rfl)⟩)) (fun r_14 hr_14 => ?_)
  rcases hr_14 with hc_ | hc_
  · obtain rfl : r_14 = 1 := hc_
    refine lv_if_ne (tgt := 17) hx hb dX11_enough_6 (by decide) (fun _ => ?_) (fun h => absurd h (by decide))
    refine lv_bipush (v := (-2)) hx hb dX11_enough_17 (by decide) ?_
    exact W.iret (v := (-2)) hx hb hr (fun t ht h9 => ⟨⟨(-2), S, rfl, ⟨hTy, hFr⟩, by rw [ht]; exact hW.1, va_K.moved h9.alike hK, hW.2.1⟩, hW.2.2.F ht⟩) hW.2.2.2.2 dX11_enough_19
  · obtain ⟨rfl, ⟨k_15, hb_k_15, rfl⟩, ⟨k_16, hb_k_16, rfl⟩⟩ := hc_
    refine lv_if_ne (tgt := 17) hx hb dX11_enough_6 (by decide) (fun h => absurd (by decide) h) (fun _ => ?_)
    refine lv_aload_n hx hb dX11_enough_9 rfl (lv_at hl 0 rfl) ?_
    refine lv_iload_n hx hb dX11_enough_10 rfl (lv_at hl 3 rfl) ?_
    refine vp_callSi (va_Run.run (va_runV (As := [.int kd]) (rest := []) ⟨hx, hb, hml, hown, hT⟩ (o_noKind l dC dI cy L kap pr S s.heap.size o kd hTy hT_o) (cwV 1 hT (gV w606 w608 ws24 w1 w609) rfl rfl rfl (by decide +kernel) ⟨(Nat.le_of_ble_eq_true rfl), (Nat.le_of_ble_eq_true rfl)⟩) ⟨pcN.blind, pl_recv hK hW hT_o.1 hS_o rfl, pcN.pre hW.1 hK hW.2.1 hN (fun q h => absurd h List.not_mem_nil)⟩ rfl rfl hl.1 rfl (lv_room (Nat.le_of_ble_eq_true rfl)) dX11_enough_11 ⟨(Nat.le_of_ble_eq_true rfl), (Nat.le_of_ble_eq_true rfl)⟩)) (fun r_17 hr_17 => ?_)
    rcases hr_17 with hc_ | hc_
    · obtain rfl : r_17 = 1 := hc_
      refine lv_if_eq (tgt := 20) hx hb dX11_enough_14 (by decide) (fun h => absurd h (by decide)) (fun _ => ?_)
      refine lv_bipush (v := (-2)) hx hb dX11_enough_17 (by decide) ?_
      exact W.iret (v := (-2)) hx hb hr (fun t ht h9 => ⟨⟨(-2), S, rfl, ⟨hTy, hFr⟩, by rw [ht]; exact hW.1, va_K.moved h9.alike hK, hW.2.1⟩, hW.2.2.F ht⟩) hW.2.2.2.2 dX11_enough_19
    · obtain ⟨rfl, k_18, hb_k_18, rfl⟩ := hc_
      refine lv_if_eq (tgt := 20) hx hb dX11_enough_14 (by decide) (fun _ => ?_) (fun h => absurd (by decide) h)
      refine lv_aload_n hx hb dX11_enough_20 rfl (lv_at hl 0 rfl) ?_
      refine lv_iload_n hx hb dX11_enough_21 rfl (lv_at hl 3 rfl) ?_
      refine lv_iconst (v := (-1)) hx hb dX11_enough_22 (by decide) ?_
      refine pl_callv (va_runV (As := [.int (nI k_18), .int (-1)]) (rest := []) ⟨hx, hb, hml, hown, hT⟩ (o_prepTrial l dC dI cy L kap pr S s.heap.size o (nI k_18) (-1) hTy hT_o) (cwV 2 hT (gV w983 w985 ws48 w1 w986) rfl rfl rfl (by decide +kernel) ⟨(Nat.le_of_ble_eq_true rfl), (Nat.le_of_ble_eq_true rfl)⟩) ⟨pcN.blind, pl_recv hK hW hT_o.1 hS_o rfl, pcN.pre hW.1 hK hW.2.1 hN (fun q h => absurd h List.not_mem_nil)⟩ rfl rfl hl.1 rfl (lv_room (Nat.le_of_ble_eq_true rfl)) dX11_enough_23 ⟨(Nat.le_of_ble_eq_true rfl), (Nat.le_of_ble_eq_true rfl)⟩) hW hA0 hA (fun S_19 H locs hrel hW => ?_)
      obtain ⟨hTy, hF1⟩ := hrel
      have hFr := hFr.tr hF1 (by decide)
      have hS_o := hF1.at hT_o (by decide) hS_o
      refine lv_aload_n hx hb dX11_enough_26 rfl (lv_at hl 0 rfl) ?_
      refine pl_get (ci := 11) (v := .ref x_8) (C := RX11) (T := TX11) (N := 13) hx hb hT iX11 hown hK hW hT_o.1 hS_o rfl 7 (by decide) w360 rfl dX11_enough_27 ?_
      obtain ⟨x_20, x_21, x_22, x_23, x_24, x_25, x_26, x_27, x_28, x_29, x_30, x_31, x_32, hS_x_8, hT_x_20, hT_x_21, hT_x_24, hT_x_25, hT_x_26, hT_x_27, hT_x_28, hT_x_29, hT_x_30, hb_x_31, hb_x_32⟩ := hTy.k9 hT_x_8
      refine pl_get (ci := 9) (v := .ref x_20) (C := RX9) (T := TX9) (N := 13) hx hb hT iX9 hown hK hW hT_x_8.1 hS_x_8 rfl 0 (by decide) w264 rfl dX11_enough_30 ?_
      refine lv_iload_n hx hb dX11_enough_33 rfl (lv_at hl 1 rfl) ?_
      refine lv_iload_n hx hb dX11_enough_34 rfl (lv_at hl 2 rfl) ?_
      refine vp_callSi (va_Run.run (va_runS (As := [.int (nI k_15), .int (nI k_16)]) (rest := [.ref x_20]) ⟨hx, hb, hml, hown, hT⟩ (s_cell l dC dI H.size k_15 k_16 (by omega) (by omega)) (va_cwS 2 hT (gS w660 w576 w1 w577) rfl rfl rfl (by decide +kernel) ⟨(Nat.le_of_ble_eq_true rfl), (Nat.le_of_ble_eq_true rfl)⟩) ⟨pcW.blind, pcW.pre (va_P0 _ _ _) (hK.sub (tys' := []) [] rfl) (va_D0 (fun _ => True))⟩ rfl rfl hl.1 rfl (lv_room (Nat.le_of_ble_eq_true rfl)) dX11_enough_35 ⟨(Nat.le_of_ble_eq_true rfl), (Nat.le_of_ble_eq_true rfl)⟩)) (fun r_33 hr_33 => ?_)
      obtain rfl : r_33 = nI (k_15 * 8 + k_16) := hr_33
      refine lv_ldc2 (v := 99999999) hx hb hown (hT _ w1021) dX11_enough_38 ?_
      obtain ⟨f_34, hS_x_20⟩ := hTy.k29 hT_x_20
      refine pl_last hx hb hK hW hT_x_20.1 hS_x_20 (vp_in_nI (n := k_15 * 8 + k_16) (N := 64) (by omega) (by omega)) dX11_enough_41 (fun H locs f_36 S_35 ef_f_36 e1 hW => ?_)
      have hTy := hTy.u29 e1 hT_x_20 ⟨f_36, rfl⟩
      have hS_o := un e1 hT_o hT_x_20 (by decide) hS_o
      have hS_x_8 := un e1 hT_x_8 hT_x_20 (by decide) hS_x_8
      have hFr := uf hFr e1 hT_x_20 (by decide) (by decide)
      have hS_x_20 := us e1
      refine lv_aload_n hx hb dX11_enough_42 rfl (lv_at hl 0 rfl) ?_
      refine pl_get (ci := 11) (v := .ref x_8) (C := RX11) (T := TX11) (N := 13) hx hb hT iX11 hown hK hW hT_o.1 hS_o rfl 7 (by decide) w360 rfl dX11_enough_43 ?_
      refine pl_callv (va_runV (As := []) (rest := []) ⟨hx, hb, hml, hown, hT⟩ (s_solve l dC dI cy L kap pr S_35 H.size x_8 hTy hT_x_8) (cwV 0 hT (gV w766 w767 w768 w11 w769) rfl rfl rfl (by decide +kernel) ⟨(Nat.le_of_ble_eq_true rfl), (Nat.le_of_ble_eq_true rfl)⟩) ⟨pcN.blind, pl_recv hK hW hT_x_8.1 hS_x_8 rfl, pcN.pre hW.1 hK hW.2.1 hN (fun q h => absurd h List.not_mem_nil)⟩ rfl rfl hl.1 rfl (lv_room (Nat.le_of_ble_eq_true rfl)) dX11_enough_46 ⟨(Nat.le_of_ble_eq_true rfl), (Nat.le_of_ble_eq_true rfl)⟩) hW hA0 hA (fun S_37 H locs hrel hW => ?_)
      obtain ⟨hTy, hF1⟩ := hrel
      have hFr := hFr.tr hF1 (by decide)
      have hS_o := hF1.at hT_o (by decide) hS_o
      have hS_x_20 := hF1.at hT_x_20 (by decide) hS_x_20
      refine lv_aload_n hx hb dX11_enough_49 rfl (lv_at hl 0 rfl) ?_
      refine pl_get (ci := 11) (v := .ref x_8) (C := RX11) (T := TX11) (N := 13) hx hb hT iX11 hown hK hW hT_o.1 hS_o rfl 7 (by decide) w360 rfl dX11_enough_50 ?_
      obtain ⟨x_38, x_39, x_40, x_41, x_42, x_43, x_44, x_45, x_46, x_47, x_48, x_49, x_50, hS_x_8, hT_x_38, hT_x_39, hT_x_42, hT_x_43, hT_x_44, hT_x_45, hT_x_46, hT_x_47, hT_x_48, hb_x_49, hb_x_50⟩ := hTy.k9 hT_x_8
      refine pl_get (ci := 9) (v := .int x_40) (C := RX9) (T := TX9) (N := 13) hx hb hT iX9 hown hK hW hT_x_8.1 hS_x_8 rfl 2 (by decide) w268 rfl dX11_enough_53 ?_
      refine lv_if_eq (tgt := 73) hx hb dX11_enough_56 (by decide) (fun c_56 => ?_) (fun c_56 => ?_)
      · refine lv_iconst (v := (-1)) hx hb dX11_enough_73 (by decide) ?_
        exact W.iret (v := (-1)) hx hb hr (fun t ht h9 => ⟨⟨(-1), S_37, rfl, ⟨hTy, hFr⟩, by rw [ht]; exact hW.1, va_K.moved h9.alike hK, hW.2.1⟩, hW.2.2.F ht⟩) hW.2.2.2.2 dX11_enough_74
      · refine lv_aload_n hx hb dX11_enough_59 rfl (lv_at hl 0 rfl) ?_
        refine pl_get (ci := 11) (v := .ref x_8) (C := RX11) (T := TX11) (N := 13) hx hb hT iX11 hown hK hW hT_o.1 hS_o rfl 7 (by decide) w360 rfl dX11_enough_60 ?_
        refine lv_iload_n hx hb dX11_enough_63 rfl (lv_at hl 1 rfl) ?_
        refine lv_iload_n hx hb dX11_enough_64 rfl (lv_at hl 2 rfl) ?_
        refine lv_iconst (v := 0) hx hb dX11_enough_65 (by decide) ?_
        refine pl_calll (va_runV (As := [.int (nI k_15), .int (nI k_16), .int 0]) (rest := []) ⟨hx, hb, hml, hown, hT⟩ (s_farthest l dC dI cy L kap pr S_37 H.size x_8 k_15 k_16 0 hTy hT_x_8 (by omega) (by omega)) (cwV 3 hT (gV w975 w976 w977 w11 w978) rfl rfl rfl (by decide +kernel) ⟨(Nat.le_of_ble_eq_true rfl), (Nat.le_of_ble_eq_true rfl)⟩) ⟨pcN.blind, pl_recv hK hW hT_x_8.1 hS_x_8 rfl, pcN.pre hW.1 hK hW.2.1 hN (fun q h => absurd h List.not_mem_nil)⟩ rfl rfl hl.1 rfl (lv_room (Nat.le_of_ble_eq_true rfl)) dX11_enough_66 ⟨(Nat.le_of_ble_eq_true rfl), (Nat.le_of_ble_eq_true rfl)⟩) hW hA0 hA (fun r_52 S_51 H locs hrel hW => ?_)
        obtain ⟨hTy, hF1⟩ := hrel
        have hFr := hFr.tr hF1 (by decide)
        have hS_o := hF1.at hT_o (by decide) hS_o
        have hS_x_20 := hF1.at hT_x_20 (by decide) hS_x_20
        have hS_x_8 := hF1.at hT_x_8 (by decide) hS_x_8
        refine lv_l2i hx hb dX11_enough_69 rfl ?_
        refine lv_topi (fun z_53 ez_53 => ?_)
        refine lv_goto (tgt := 74) hx hb dX11_enough_70 (by decide) ?_
        exact W.iret (v := z_53) hx hb hr (fun t ht h9 => ⟨⟨z_53, S_51, rfl, ⟨hTy, hFr⟩, by rw [ht]; exact hW.1, va_K.moved h9.alike hK, hW.2.1⟩, hW.2.2.F ht⟩) hW.2.2.2.2 dX11_enough_74

set_option maxHeartbeats 4000000 in
set_option maxRecDepth 100000 in
theorem k_fewest (l : Launch) (dC : Nat → ClassId) (dI : Nat → Nat → Nat) (cy : Nat → ClassId) (L : List Nat) (kap : Nat → Nat) (pr : Pr) (S : Nat → va_E) (sz : Nat) (o : Nat) (kd : Int32) (wh : Int32) (hTy : Ty cy L kap pr S) (hT_o : TK L kap o 11) : Met l yX11_fewest (wT yX11_fewest cX11_fewest 3 (some .int)) ({ frames := 5, cells := 0, slots := 0, locals := 111 }) (pcN dC dI [.ref o, .int kd, .int wh] sz (va_pl L S) (cyT cy) NLs []) (va_Qi (fun r S' => Ty cy L kap pr S' ∧ Fr kap [1, 2, 29, 33, 34, 39] S S') (fun S' t => pB dC dI (AL L sz) (va_pl L S') (cyT cy) t) (AL L sz)) 0 0 (AL L sz) := by
  refine Met.ofW (cc := cX11_fewest) (maxL := 3) (ret := (some .int)) (by decide) rfl ?_
  intro p e s m args below meth c s₁ B hml hv
  obtain ⟨rfl, hsz, hP, hK, hD0, hN, -⟩ := hv
  have hx := B.exec
  have hb := B.bytes
  have hr := B.returns
  have hT : ∀ wd ∈ TB, wd.before [.ref o, .int kd, .int wh].toArray s = true := fun wd h => atoms_spec (ws := wT yX11_fewest cX11_fewest 3 (some .int)) B.pre wd (List.mem_cons_of_mem _ h)
  have hown : s.vm.findClass RX11 = some m.cls := findClass_of_methodNamed B.named
  have hlocks := B.notSynchronized
  subst hsz
  have hW : PW dC dI L (AL L s.heap.size) s.heap S s.heap [] := ⟨hP, pl_self hD0, va_S.rf⟩
  have hA0 : ∀ q, q ∈ L → AL L s.heap.size q := fun _ h => Or.inl h
  have hA : ∀ q, s.heap.size ≤ q → AL L s.heap.size q := fun _ h => Or.inr h
  have hFr : Fr kap [1, 2, 29, 33, 34, 39] S S := Fr.rf
  have hl := lv_entry ([.ref o, .int kd, .int wh]) (n := 3) (Nat.le_of_ble_eq_true rfl)
  rw [lg_entry_eq]
  generalize (lg_sl ([.ref o, .int kd, .int wh]) ++ List.replicate (3 - (lg_sl ([.ref o, .int kd, .int wh])).length) Slot.unset).toArray = ls at hl ⊢
  have hl : lv_has ls 3 [(0, .ref o), (1, .int kd), (2, .int wh)] := hl
  refine lv_aload_n hx hb dX11_fewest_0 rfl (lv_at hl 0 rfl) ?_
  refine lv_iload_n hx hb dX11_fewest_1 rfl (lv_at hl 1 rfl) ?_
  obtain ⟨x_1, x_2, x_3, x_4, x_5, x_6, x_7, x_8, x_9, x_10, x_11, x_12, x_13, hS_o, hT_x_1, hT_x_2, hT_x_3, hT_x_4, hT_x_5, hT_x_6, hT_x_7, hT_x_8, hT_x_9, hT_x_10, hT_x_11, hT_x_12⟩ := hTy.k11 hT_o
  refine vp_callSi (va_Run.run (va_runV (As := [.int kd]) (rest := []) ⟨hx, hb, hml, hown, hT⟩ (o_noKind l dC dI cy L kap pr S s.heap.size o kd hTy hT_o) (cwV 1 hT (gV w606 w608 ws24 w1 w609) rfl rfl rfl (by decide +kernel) ⟨(Nat.le_of_ble_eq_true rfl), (Nat.le_of_ble_eq_true rfl)⟩) ⟨pcN.blind, pl_recv hK hW hT_o.1 hS_o rfl, pcN.pre hW.1 hK hW.2.1 hN (fun q h => absurd h List.not_mem_nil)⟩ rfl rfl hl.1 rfl (lv_room (Nat.le_of_ble_eq_true rfl)) dX11_fewest_2 ⟨(Nat.le_of_ble_eq_true rfl), (Nat.le_of_ble_eq_true rfl)⟩)) (fun r_14 hr_14 => ?_)
  rcases hr_14 with hc_ | hc_
  · obtain rfl : r_14 = 1 := hc_
    refine lv_if_eq (tgt := 11) hx hb dX11_fewest_5 (by decide) (fun h => absurd h (by decide)) (fun _ => ?_)
    refine lv_bipush (v := (-2)) hx hb dX11_fewest_8 (by decide) ?_
    exact W.iret (v := (-2)) hx hb hr (fun t ht h9 => ⟨⟨(-2), S, rfl, ⟨hTy, hFr⟩, by rw [ht]; exact hW.1, va_K.moved h9.alike hK, hW.2.1⟩, hW.2.2.F ht⟩) hW.2.2.2.2 dX11_fewest_10
  · obtain ⟨rfl, k_15, hb_k_15, rfl⟩ := hc_
    refine lv_if_eq (tgt := 11) hx hb dX11_fewest_5 (by decide) (fun _ => ?_) (fun h => absurd (by decide) h)
    refine lv_aload_n hx hb dX11_fewest_11 rfl (lv_at hl 0 rfl) ?_
    refine lv_iload_n hx hb dX11_fewest_12 rfl (lv_at hl 1 rfl) ?_
    refine lv_iconst (v := (-1)) hx hb dX11_fewest_13 (by decide) ?_
    refine pl_callv (va_runV (As := [.int (nI k_15), .int (-1)]) (rest := []) ⟨hx, hb, hml, hown, hT⟩ (o_gather l dC dI cy L kap pr S s.heap.size o (nI k_15) (-1) hTy hT_o) (cwV 2 hT (gV w669 w671 ws30 w1 w672) rfl rfl rfl (by decide +kernel) ⟨(Nat.le_of_ble_eq_true rfl), (Nat.le_of_ble_eq_true rfl)⟩) ⟨pcN.blind, pl_recv hK hW hT_o.1 hS_o rfl, pcN.pre hW.1 hK hW.2.1 hN (fun q h => absurd h List.not_mem_nil)⟩ rfl rfl hl.1 rfl (lv_room (Nat.le_of_ble_eq_true rfl)) dX11_fewest_14 ⟨(Nat.le_of_ble_eq_true rfl), (Nat.le_of_ble_eq_true rfl)⟩) hW hA0 hA (fun S_16 H locs hrel hW => ?_)
    obtain ⟨hTy, hF1⟩ := hrel
    have hFr := hFr.tr hF1 (by decide)
    have hS_o := hF1.at hT_o (by decide) hS_o
    refine lv_aload_n hx hb dX11_fewest_17 rfl (lv_at hl 0 rfl) ?_
    refine pl_get (ci := 11) (v := .ref x_9) (C := RX11) (T := TX11) (N := 13) hx hb hT iX11 hown hK hW hT_o.1 hS_o rfl 8 (by decide) w361 rfl dX11_fewest_18 ?_
    refine lv_aload_n hx hb dX11_fewest_21 rfl (lv_at hl 0 rfl) ?_
    refine pl_get (ci := 11) (v := .ref x_4) (C := RX11) (T := TX11) (N := 13) hx hb hT iX11 hown hK hW hT_o.1 hS_o rfl 3 (by decide) w356 rfl dX11_fewest_22 ?_
    obtain ⟨x_17, x_18, x_19, x_20, x_21, hS_x_9, hb_x_17, hT_x_19, hT_x_20, hT_x_21⟩ := hTy.k2 hT_x_9
    refine pl_callv (va_runV (As := [.ref x_4]) (rest := []) ⟨hx, hb, hml, hown, hT⟩ (s_gfind l dC dI cy L kap pr S_16 H.size x_9 x_4 hTy hT_x_9 hT_x_4) (cwV 1 hT (gV w1026 w1027 w1028 w12 w1029) rfl rfl rfl (by decide +kernel) ⟨(Nat.le_of_ble_eq_true rfl), (Nat.le_of_ble_eq_true rfl)⟩) ⟨pcN.blind, pl_recv hK hW hT_x_9.1 hS_x_9 rfl, pcN.pre hW.1 hK hW.2.1 hN (fun q h => absurd h List.not_mem_nil)⟩ rfl rfl hl.1 rfl (lv_room (Nat.le_of_ble_eq_true rfl)) dX11_fewest_25 ⟨(Nat.le_of_ble_eq_true rfl), (Nat.le_of_ble_eq_true rfl)⟩) hW hA0 hA (fun S_22 H locs hrel hW => ?_)
    obtain ⟨hTy, hF1⟩ := hrel
    have hFr := hFr.tr hF1 (by decide)
    have hS_o := hF1.at hT_o (by decide) hS_o
    refine lv_iload_n hx hb dX11_fewest_28 rfl (lv_at hl 2 rfl) ?_
    by_cases hk_29_0 : wh = 0
    · subst hk_29_0
      refine lv_lookup (off := 27) (tgt := 56) hx hb dX11_fewest_29 (by decide) (by decide) (by decide) ?_
      refine lv_aload_n hx hb dX11_fewest_56 rfl (lv_at hl 0 rfl) ?_
      refine pl_get (ci := 11) (v := .ref x_9) (C := RX11) (T := TX11) (N := 13) hx hb hT iX11 hown hK hW hT_o.1 hS_o rfl 8 (by decide) w361 rfl dX11_fewest_57 ?_
      obtain ⟨x_23, x_24, x_25, x_26, x_27, hS_x_9, hb_x_23, hT_x_25, hT_x_26, hT_x_27⟩ := hTy.k2 hT_x_9
      refine pl_get (ci := 2) (v := .int (nI x_23)) (C := RX2) (T := TX2) (N := 5) hx hb hT iX2 hown hK hW hT_x_9.1 hS_x_9 rfl 0 (by decide) w314 rfl dX11_fewest_60 ?_
      refine lv_aload_n hx hb dX11_fewest_63 rfl (lv_at hl 0 rfl) ?_
      refine pl_get (ci := 11) (v := .ref x_9) (C := RX11) (T := TX11) (N := 13) hx hb hT iX11 hown hK hW hT_o.1 hS_o rfl 8 (by decide) w361 rfl dX11_fewest_64 ?_
      refine pl_get (ci := 2) (v := .int x_24) (C := RX2) (T := TX2) (N := 5) hx hb hT iX2 hown hK hW hT_x_9.1 hS_x_9 rfl 1 (by decide) w316 rfl dX11_fewest_67 ?_
      refine lv_isub hx hb dX11_fewest_70 ?_
      refine lv_topi (fun z_28 ez_28 => ?_)
      exact W.iret (v := z_28) hx hb hr (fun t ht h9 => ⟨⟨z_28, S_22, rfl, ⟨hTy, hFr⟩, by rw [ht]; exact hW.1, va_K.moved h9.alike hK, hW.2.1⟩, hW.2.2.F ht⟩) hW.2.2.2.2 dX11_fewest_71
    by_cases hk_29_1 : wh = 1
    · subst hk_29_1
      refine lv_lookup (off := 43) (tgt := 72) hx hb dX11_fewest_29 (by decide) (by decide) (by decide) ?_
      refine lv_aload_n hx hb dX11_fewest_72 rfl (lv_at hl 0 rfl) ?_
      refine pl_get (ci := 11) (v := .ref x_9) (C := RX11) (T := TX11) (N := 13) hx hb hT iX11 hown hK hW hT_o.1 hS_o rfl 8 (by decide) w361 rfl dX11_fewest_73 ?_
      obtain ⟨x_29, x_30, x_31, x_32, x_33, hS_x_9, hb_x_29, hT_x_31, hT_x_32, hT_x_33⟩ := hTy.k2 hT_x_9
      refine pl_get (ci := 2) (v := .int x_30) (C := RX2) (T := TX2) (N := 5) hx hb hT iX2 hown hK hW hT_x_9.1 hS_x_9 rfl 1 (by decide) w316 rfl dX11_fewest_76 ?_
      exact W.iret (v := x_30) hx hb hr (fun t ht h9 => ⟨⟨x_30, S_22, rfl, ⟨hTy, hFr⟩, by rw [ht]; exact hW.1, va_K.moved h9.alike hK, hW.2.1⟩, hW.2.2.F ht⟩) hW.2.2.2.2 dX11_fewest_79
    refine lv_lookup (off := 51) (tgt := 80) hx hb dX11_fewest_29 (by decide) (by show Op.lookupswitch.offset [(0, 27), (1, 43)] 51 _ = _; rw [lv_osw (a := 0) hk_29_0 (by decide), lv_osw (a := 1) hk_29_1 (by decide)]; rfl) (by decide) ?_
    refine lv_bipush (v := (-2)) hx hb dX11_fewest_80 (by decide) ?_
    exact W.iret (v := (-2)) hx hb hr (fun t ht h9 => ⟨⟨(-2), S_22, rfl, ⟨hTy, hFr⟩, by rw [ht]; exact hW.1, va_K.moved h9.alike hK, hW.2.1⟩, hW.2.2.F ht⟩) hW.2.2.2.2 dX11_fewest_82

set_option maxHeartbeats 4000000 in
set_option maxRecDepth 100000 in
theorem k_even (l : Launch) (dC : Nat → ClassId) (dI : Nat → Nat → Nat) (cy : Nat → ClassId) (L : List Nat) (kap : Nat → Nat) (pr : Pr) (S : Nat → va_E) (sz : Nat) (o : Nat) (ps : Int32) (kd : Int32) (hTy : Ty cy L kap pr S) (hT_o : TK L kap o 11) : Met l yX11_even (wT yX11_even cX11_even 6 (some .int)) ({ frames := 4, cells := 0, slots := 0, locals := 87 }) (pcN dC dI [.ref o, .int ps, .int kd] sz (va_pl L S) (cyT cy) NLs []) (va_Qi (fun r S' => Ty cy L kap pr S' ∧ Fr kap [1, 29] S S') (fun S' t => pB dC dI (AL L sz) (va_pl L S') (cyT cy) t) (AL L sz)) 0 0 (AL L sz) := by
  refine Met.ofW (cc := cX11_even) (maxL := 6) (ret := (some .int)) (by decide) rfl ?_
  intro p e s m args below meth c s₁ B hml hv
  obtain ⟨rfl, hsz, hP, hK, hD0, hN, -⟩ := hv
  have hx := B.exec
  have hb := B.bytes
  have hr := B.returns
  have hT : ∀ wd ∈ TB, wd.before [.ref o, .int ps, .int kd].toArray s = true := fun wd h => atoms_spec (ws := wT yX11_even cX11_even 6 (some .int)) B.pre wd (List.mem_cons_of_mem _ h)
  have hown : s.vm.findClass RX11 = some m.cls := findClass_of_methodNamed B.named
  have hlocks := B.notSynchronized
  subst hsz
  have hW : PW dC dI L (AL L s.heap.size) s.heap S s.heap [] := ⟨hP, pl_self hD0, va_S.rf⟩
  have hA0 : ∀ q, q ∈ L → AL L s.heap.size q := fun _ h => Or.inl h
  have hA : ∀ q, s.heap.size ≤ q → AL L s.heap.size q := fun _ h => Or.inr h
  have hFr : Fr kap [1, 29] S S := Fr.rf
  have hl := lv_entry ([.ref o, .int ps, .int kd]) (n := 6) (Nat.le_of_ble_eq_true rfl)
  rw [lg_entry_eq]
  generalize (lg_sl ([.ref o, .int ps, .int kd]) ++ List.replicate (6 - (lg_sl ([.ref o, .int ps, .int kd])).length) Slot.unset).toArray = ls at hl ⊢
  have hl : lv_has ls 6 [(0, .ref o), (1, .int ps), (2, .int kd)] := hl
  refine lv_aload_n hx hb dX11_even_0 rfl (lv_at hl 0 rfl) ?_
  refine lv_iload_n hx hb dX11_even_1 rfl (lv_at hl 2 rfl) ?_
  obtain ⟨x_1, x_2, x_3, x_4, x_5, x_6, x_7, x_8, x_9, x_10, x_11, x_12, x_13, hS_o, hT_x_1, hT_x_2, hT_x_3, hT_x_4, hT_x_5, hT_x_6, hT_x_7, hT_x_8, hT_x_9, hT_x_10, hT_x_11, hT_x_12⟩ := hTy.k11 hT_o
  refine vp_callSi (va_Run.run (va_runV (As := [.int kd]) (rest := []) ⟨hx, hb, hml, hown, hT⟩ (o_noKind l dC dI cy L kap pr S s.heap.size o kd hTy hT_o) (cwV 1 hT (gV w606 w608 ws24 w1 w609) rfl rfl rfl (by decide +kernel) ⟨(Nat.le_of_ble_eq_true rfl), (Nat.le_of_ble_eq_true rfl)⟩) ⟨pcN.blind, pl_recv hK hW hT_o.1 hS_o rfl, pcN.pre hW.1 hK hW.2.1 hN (fun q h => absurd h List.not_mem_nil)⟩ rfl rfl hl.1 rfl (lv_room (Nat.le_of_ble_eq_true rfl)) dX11_even_2 ⟨(Nat.le_of_ble_eq_true rfl), (Nat.le_of_ble_eq_true rfl)⟩)) (fun r_14 hr_14 => ?_)
  rcases hr_14 with hc_ | hc_
  · obtain rfl : r_14 = 1 := hc_
    refine lv_if_ne (tgt := 20) hx hb dX11_even_5 (by decide) (fun _ => ?_) (fun h => absurd h (by decide))
    refine lv_bipush (v := (-2)) hx hb dX11_even_20 (by decide) ?_
    exact W.iret (v := (-2)) hx hb hr (fun t ht h9 => ⟨⟨(-2), S, rfl, ⟨hTy, hFr⟩, by rw [ht]; exact hW.1, va_K.moved h9.alike hK, hW.2.1⟩, hW.2.2.F ht⟩) hW.2.2.2.2 dX11_even_22
  · obtain ⟨rfl, k_15, hb_k_15, rfl⟩ := hc_
    refine lv_if_ne (tgt := 20) hx hb dX11_even_5 (by decide) (fun h => absurd (by decide) h) (fun _ => ?_)
    refine lv_iload_n hx hb dX11_even_8 rfl (lv_at hl 1 rfl) ?_
    refine lv_aload_n hx hb dX11_even_9 rfl (lv_at hl 0 rfl) ?_
    refine pl_get (ci := 11) (v := .ref x_11) (C := RX11) (T := TX11) (N := 13) hx hb hT iX11 hown hK hW hT_o.1 hS_o rfl 10 (by decide) w363 rfl dX11_even_10 ?_
    obtain ⟨x_16, x_17, x_18, x_19, hS_x_11, hT_x_16, hT_x_17, hb_x_18, hb_x_19⟩ := hTy.k3 hT_x_11
    refine pl_get (ci := 3) (v := .int (nI x_18)) (C := RX3) (T := TX3) (N := 4) hx hb hT iX3 hown hK hW hT_x_11.1 hS_x_11 rfl 2 (by decide) w64 rfl dX11_even_13 ?_
    refine lv_iushr hx hb dX11_even_16 rfl ?_
    refine lv_topi (fun z_20 ez_20 => ?_)
    refine lv_if_eq (tgt := 23) hx hb dX11_even_17 (by decide) (fun c_17 => ?_) (fun c_17 => ?_)
    · refine lv_iload_n hx hb dX11_even_23 rfl (lv_at hl 1 rfl) ?_
      refine vp_callSi (va_Run.run (va_runS (As := [.int ps]) (rest := []) ⟨hx, hb, hml, hown, hT⟩ (s_bitCount l dC dI s.heap.size ps) (va_cwS 1 hT (gS w1040 w883 w21 w884) rfl rfl rfl (by decide +kernel) ⟨(Nat.le_of_ble_eq_true rfl), (Nat.le_of_ble_eq_true rfl)⟩) ⟨pcW.blind, pcW.pre (va_P0 _ _ _) (hK.sub (tys' := []) [] rfl) (va_D0 (fun _ => True))⟩ rfl rfl hl.1 rfl (lv_room (Nat.le_of_ble_eq_true rfl)) dX11_even_24 ⟨(Nat.le_of_ble_eq_true rfl), (Nat.le_of_ble_eq_true rfl)⟩)) (fun r_21 hr_21 => ?_)
      refine lv_iconst (v := 2) hx hb dX11_even_27 (by decide) ?_
      refine lv_icmp_ge (tgt := 34) hx hb dX11_even_28 (by decide) (fun c_28 => ?_) (fun c_28 => ?_)
      · refine lv_aload_n hx hb dX11_even_34 rfl (lv_at hl 0 rfl) ?_
        refine lv_iload_n hx hb dX11_even_35 rfl (lv_at hl 2 rfl) ?_
        refine lv_iconst (v := (-1)) hx hb dX11_even_36 (by decide) ?_
        refine pl_callv (va_runV (As := [.int (nI k_15), .int (-1)]) (rest := []) ⟨hx, hb, hml, hown, hT⟩ (o_gather l dC dI cy L kap pr S s.heap.size o (nI k_15) (-1) hTy hT_o) (cwV 2 hT (gV w669 w671 ws30 w1 w672) rfl rfl rfl (by decide +kernel) ⟨(Nat.le_of_ble_eq_true rfl), (Nat.le_of_ble_eq_true rfl)⟩) ⟨pcN.blind, pl_recv hK hW hT_o.1 hS_o rfl, pcN.pre hW.1 hK hW.2.1 hN (fun q h => absurd h List.not_mem_nil)⟩ rfl rfl hl.1 rfl (lv_room (Nat.le_of_ble_eq_true rfl)) dX11_even_37 ⟨(Nat.le_of_ble_eq_true rfl), (Nat.le_of_ble_eq_true rfl)⟩) hW hA0 hA (fun S_22 H locs hrel hW => ?_)
        obtain ⟨hTy, hF1⟩ := hrel
        have hFr := hFr.tr hF1 (by decide)
        have hS_o := hF1.at hT_o (by decide) hS_o
        have hS_x_11 := hF1.at hT_x_11 (by decide) hS_x_11
        refine lv_lconst (v := 0) hx hb dX11_even_40 (by decide) ?_
        refine lv_lstore_n (lv' := [(3, .long 0), (0, .ref o), (1, .int ps), (2, .int (nI k_15))]) hx hb dX11_even_41 rfl hl (by decide) rfl (fun ls hl => ?_)
        refine lv_iconst (v := 0) hx hb dX11_even_42 (by decide) ?_
        refine lv_istore (lv' := [(5, .int 0), (3, .long 0), (0, .ref o), (1, .int ps), (2, .int (nI k_15))]) hx hb dX11_even_43 hl (by decide) rfl (fun ls hl => ?_)
        have loop : ∀ (fuel : Nat) (i : Nat) (sm : Int64) (SS : Nat → va_E) (H : Heap) (locs : List Loc) (ls : Array Slot), 9 - i < fuel → (i ≤ 8) → Ty cy L kap pr SS → Fr kap [1, 29] S SS → Fr kap [1, 29] S_22 SS → PW dC dI L (AL L s.heap.size) s.heap SS H locs → lv_has ls 6 [(5, .int (nI i)), (3, .long sm), (0, .ref o), (1, .int ps), (2, .int (nI k_15))] → W p l e (headSpec (wT yX11_even cX11_even 6 (some .int)) { frames := 4, cells := 0, slots := 0, locals := 87 }).room s m [.ref o, .int ps, .int (nI k_15)].toArray below meth c H locs 0 0 (MQ below (va_Qi (fun r S' => Ty cy L kap pr S' ∧ Fr kap [1, 29] S S') (fun S' t => pB dC dI (AL L s.heap.size) (va_pl L S') (cyT cy) t) (AL L s.heap.size)) [.ref o, .int ps, .int (nI k_15)].toArray s 0 0 (AL L s.heap.size)) (F0 m 45 ls []) := by
          intro fuel
          induction fuel with
          | zero => intro i sm SS H locs ls h; exact absurd h (Nat.not_lt_zero _)
          | succ fu45 ih45 =>
            intro i sm S_23 H locs ls hm45 hb_i hTy hFr hFl45 hW hl
            have hS_o := hFl45.at hT_o (by decide) hS_o
            have hS_x_11 := hFl45.at hT_x_11 (by decide) hS_x_11
            refine lv_iload hx hb dX11_even_45 (lv_at hl 0 rfl) ?_
            refine lv_aload_n hx hb dX11_even_47 rfl (lv_at hl 2 rfl) ?_
            refine pl_get (ci := 11) (v := .ref x_11) (C := RX11) (T := TX11) (N := 13) hx hb hT iX11 hown hK hW hT_o.1 hS_o rfl 10 (by decide) w363 rfl dX11_even_48 ?_
            refine pl_get (ci := 3) (v := .int (nI x_18)) (C := RX3) (T := TX3) (N := 4) hx hb hT iX3 hown hK hW hT_x_11.1 hS_x_11 rfl 2 (by decide) w64 rfl dX11_even_51 ?_
            refine lv_icmp_ge (tgt := 85) hx hb dX11_even_54 (by decide) (fun c_54 => ?_) (fun c_54 => ?_)
            · have c_54 : x_18 ≤ i := (nI_leI (a := x_18) (b := i) (by omega) (by omega)).mp c_54
              refine lv_lload_n hx hb dX11_even_85 rfl (lv_at hl 1 rfl) ?_
              refine lv_lconst (v := 0) hx hb dX11_even_86 (by decide) ?_
              refine W.lcmp hx hb dX11_even_87 ?_
              refine lv_if_ne (tgt := 95) hx hb dX11_even_88 (by decide) (fun c_88 => ?_) (fun c_88 => ?_)
              · refine lv_iconst (v := 0) hx hb dX11_even_95 (by decide) ?_
                exact W.iret (v := 0) hx hb hr (fun t ht h9 => ⟨⟨0, S_23, rfl, ⟨hTy, hFr⟩, by rw [ht]; exact hW.1, va_K.moved h9.alike hK, hW.2.1⟩, hW.2.2.F ht⟩) hW.2.2.2.2 dX11_even_96
              · refine lv_iconst (v := 1) hx hb dX11_even_91 (by decide) ?_
                refine lv_goto (tgt := 96) hx hb dX11_even_92 (by decide) ?_
                exact W.iret (v := 1) hx hb hr (fun t ht h9 => ⟨⟨1, S_23, rfl, ⟨hTy, hFr⟩, by rw [ht]; exact hW.1, va_K.moved h9.alike hK, hW.2.1⟩, hW.2.2.F ht⟩) hW.2.2.2.2 dX11_even_96
            · have c_54 : ¬ (x_18 ≤ i) := fun hh9 => c_54 ((nI_leI (a := x_18) (b := i) (by omega) (by omega)).mpr hh9)
              refine lv_iload_n hx hb dX11_even_57 rfl (lv_at hl 3 rfl) ?_
              refine lv_iload hx hb dX11_even_58 (lv_at hl 0 rfl) ?_
              refine lv_iushr hx hb dX11_even_60 rfl ?_
              refine lv_topi (fun z_24 ez_24 => ?_)
              refine lv_iconst (v := 1) hx hb dX11_even_61 (by decide) ?_
              refine lv_iand hx hb dX11_even_62 ?_
              refine lv_topi (fun z_25 ez_25 => ?_)
              refine lv_iconst (v := 1) hx hb dX11_even_63 (by decide) ?_
              refine lv_icmp_ne (tgt := 79) hx hb dX11_even_64 (by decide) (fun c_64 => ?_) (fun c_64 => ?_)
              · refine lv_iinc (v := nI (i + 1)) (lv' := [(5, .int (nI (i + 1))), (3, .long sm), (0, .ref o), (1, .int ps), (2, .int (nI k_15))]) hx hb dX11_even_79 hl (k := 0) rfl (nI_add (i) 1) (by decide) rfl (fun ls hl => ?_)
                refine lv_goto (tgt := 45) hx hb dX11_even_82 (by decide) ?_
                exact ih45 (i + 1) sm _ _ _ ls (by omega) (by omega) hTy hFr hFl45 hW (lv_sub hl [0, 1, 2, 3, 4] rfl)
              · refine lv_lload_n hx hb dX11_even_67 rfl (lv_at hl 1 rfl) ?_
                refine lv_aload_n hx hb dX11_even_68 rfl (lv_at hl 2 rfl) ?_
                refine pl_get (ci := 11) (v := .ref x_4) (C := RX11) (T := TX11) (N := 13) hx hb hT iX11 hown hK hW hT_o.1 hS_o rfl 3 (by decide) w356 rfl dX11_even_69 ?_
                refine lv_iload hx hb dX11_even_72 (lv_at hl 0 rfl) ?_
                obtain ⟨x_26, x_27, hS_x_4, hT_x_26, hb_x_27⟩ := hTy.k1 hT_x_4
                refine vp_callSl (va_Run.run (va_runV (As := [.int (nI i)]) (rest := [.long sm]) ⟨hx, hb, hml, hown, hT⟩ (s_netOf l dC dI cy L kap pr S_23 H.size x_4 i hTy hT_x_4 (by omega)) (cwV 1 hT (gV w864 w739 w740 w8 w741) rfl rfl rfl (by decide +kernel) ⟨(Nat.le_of_ble_eq_true rfl), (Nat.le_of_ble_eq_true rfl)⟩) ⟨pcN.blind, pl_recv hK hW hT_x_4.1 hS_x_4 rfl, pcN.pre hW.1 hK hW.2.1 hN (fun q h => absurd h List.not_mem_nil)⟩ rfl rfl hl.1 rfl (lv_room (Nat.le_of_ble_eq_true rfl)) dX11_even_74 ⟨(Nat.le_of_ble_eq_true rfl), (Nat.le_of_ble_eq_true rfl)⟩)) (fun r_28 hr_28 => ?_)
                refine lv_ladd hx hb dX11_even_77 ?_
                refine lv_topl (fun z_29 ez_29 => ?_)
                refine lv_lstore_n (lv' := [(3, .long z_29), (5, .int (nI i)), (0, .ref o), (1, .int ps), (2, .int (nI k_15))]) hx hb dX11_even_78 rfl hl (by decide) rfl (fun ls hl => ?_)
                refine lv_iinc (v := nI (i + 1)) (lv' := [(5, .int (nI (i + 1))), (3, .long z_29), (0, .ref o), (1, .int ps), (2, .int (nI k_15))]) hx hb dX11_even_79 hl (k := 1) rfl (nI_add (i) 1) (by decide) rfl (fun ls hl => ?_)
                refine lv_goto (tgt := 45) hx hb dX11_even_82 (by decide) ?_
                exact ih45 (i + 1) z_29 _ _ _ ls (by omega) (by omega) hTy hFr hFl45 hW (lv_sub hl [0, 1, 2, 3, 4] rfl)
        exact loop ((9 - 0) + 1) 0 0 _ _ _ ls (Nat.lt_succ_self _) (by omega) hTy hFr Fr.rf hW (lv_sub hl [0, 1, 2, 3, 4] rfl)
      · refine lv_bipush (v := (-3)) hx hb dX11_even_31 (by decide) ?_
        exact W.iret (v := (-3)) hx hb hr (fun t ht h9 => ⟨⟨(-3), S, rfl, ⟨hTy, hFr⟩, by rw [ht]; exact hW.1, va_K.moved h9.alike hK, hW.2.1⟩, hW.2.2.F ht⟩) hW.2.2.2.2 dX11_even_33
    · refine lv_bipush (v := (-2)) hx hb dX11_even_20 (by decide) ?_
      exact W.iret (v := (-2)) hx hb hr (fun t ht h9 => ⟨⟨(-2), S, rfl, ⟨hTy, hFr⟩, by rw [ht]; exact hW.1, va_K.moved h9.alike hK, hW.2.1⟩, hW.2.2.F ht⟩) hW.2.2.2.2 dX11_even_22

set_option maxHeartbeats 4000000 in
set_option maxRecDepth 100000 in
theorem k_line (l : Launch) (dC : Nat → ClassId) (dI : Nat → Nat → Nat) (cy : Nat → ClassId) (L : List Nat) (kap : Nat → Nat) (pr : Pr) (S : Nat → va_E) (sz : Nat) (o : Nat) (tr : Int32) (ix : Int32) (hTy : Ty cy L kap pr S) (hT_o : TK L kap o 11) : Met l yX11_line (wT yX11_line cX11_line 3 (some .int)) ({ frames := 3, cells := 0, slots := 0, locals := 70 }) (pcN dC dI [.ref o, .int tr, .int ix] sz (va_pl L S) (cyT cy) NLs []) (va_Qi (fun r S' => Ty cy L kap pr S' ∧ Fr kap [4, 40, 41] S S') (fun S' t => pB dC dI (AL L sz) (va_pl L S') (cyT cy) t) (AL L sz)) 0 0 (AL L sz) := by
  refine Met.ofW (cc := cX11_line) (maxL := 3) (ret := (some .int)) (by decide) rfl ?_
  intro p e s m args below meth c s₁ B hml hv
  obtain ⟨rfl, hsz, hP, hK, hD0, hN, -⟩ := hv
  have hx := B.exec
  have hb := B.bytes
  have hr := B.returns
  have hT : ∀ wd ∈ TB, wd.before [.ref o, .int tr, .int ix].toArray s = true := fun wd h => atoms_spec (ws := wT yX11_line cX11_line 3 (some .int)) B.pre wd (List.mem_cons_of_mem _ h)
  have hown : s.vm.findClass RX11 = some m.cls := findClass_of_methodNamed B.named
  have hlocks := B.notSynchronized
  subst hsz
  have hW : PW dC dI L (AL L s.heap.size) s.heap S s.heap [] := ⟨hP, pl_self hD0, va_S.rf⟩
  have hA0 : ∀ q, q ∈ L → AL L s.heap.size q := fun _ h => Or.inl h
  have hA : ∀ q, s.heap.size ≤ q → AL L s.heap.size q := fun _ h => Or.inr h
  have hFr : Fr kap [4, 40, 41] S S := Fr.rf
  have hl := lv_entry ([.ref o, .int tr, .int ix]) (n := 3) (Nat.le_of_ble_eq_true rfl)
  rw [lg_entry_eq]
  generalize (lg_sl ([.ref o, .int tr, .int ix]) ++ List.replicate (3 - (lg_sl ([.ref o, .int tr, .int ix])).length) Slot.unset).toArray = ls at hl ⊢
  have hl : lv_has ls 3 [(0, .ref o), (1, .int tr), (2, .int ix)] := hl
  refine lv_aload_n hx hb dX11_line_0 rfl (lv_at hl 0 rfl) ?_
  refine lv_iload_n hx hb dX11_line_1 rfl (lv_at hl 1 rfl) ?_
  obtain ⟨x_1, x_2, x_3, x_4, x_5, x_6, x_7, x_8, x_9, x_10, x_11, x_12, x_13, hS_o, hT_x_1, hT_x_2, hT_x_3, hT_x_4, hT_x_5, hT_x_6, hT_x_7, hT_x_8, hT_x_9, hT_x_10, hT_x_11, hT_x_12⟩ := hTy.k11 hT_o
  refine vp_callSi (va_Run.run (va_runV (As := [.int tr]) (rest := []) ⟨hx, hb, hml, hown, hT⟩ (o_noTrade l dC dI cy L kap pr S s.heap.size o tr hTy hT_o) (cwV 1 hT (gV w639 w641 ws28 w1 w642) rfl rfl rfl (by decide +kernel) ⟨(Nat.le_of_ble_eq_true rfl), (Nat.le_of_ble_eq_true rfl)⟩) ⟨pcN.blind, pl_recv hK hW hT_o.1 hS_o rfl, pcN.pre hW.1 hK hW.2.1 hN (fun q h => absurd h List.not_mem_nil)⟩ rfl rfl hl.1 rfl (lv_room (Nat.le_of_ble_eq_true rfl)) dX11_line_2 ⟨(Nat.le_of_ble_eq_true rfl), (Nat.le_of_ble_eq_true rfl)⟩)) (fun r_14 hr_14 => ?_)
  rcases hr_14 with hc_ | hc_
  · obtain rfl : r_14 = 1 := hc_
    refine lv_if_eq (tgt := 11) hx hb dX11_line_5 (by decide) (fun h => absurd h (by decide)) (fun _ => ?_)
    refine lv_bipush (v := (-2)) hx hb dX11_line_8 (by decide) ?_
    exact W.iret (v := (-2)) hx hb hr (fun t ht h9 => ⟨⟨(-2), S, rfl, ⟨hTy, hFr⟩, by rw [ht]; exact hW.1, va_K.moved h9.alike hK, hW.2.1⟩, hW.2.2.F ht⟩) hW.2.2.2.2 dX11_line_10
  · obtain ⟨rfl, k_15, hb_k_15, rfl, htr⟩ := hc_
    refine lv_if_eq (tgt := 11) hx hb dX11_line_5 (by decide) (fun _ => ?_) (fun h => absurd (by decide) h)
    refine lv_iload_n hx hb dX11_line_11 rfl (lv_at hl 2 rfl) ?_
    refine lv_if_ge (tgt := 18) hx hb dX11_line_12 (by decide) (fun c_12 => ?_) (fun c_12 => ?_)
    · obtain ⟨j_16, hj_j_16, rfl⟩ := nI_of (nnlt c_12)
      refine lv_aload_n hx hb dX11_line_18 rfl (lv_at hl 0 rfl) ?_
      refine pl_get (ci := 11) (v := .ref x_10) (C := RX11) (T := TX11) (N := 13) hx hb hT iX11 hown hK hW hT_o.1 hS_o rfl 9 (by decide) w362 rfl dX11_line_19 ?_
      refine lv_aload_n hx hb dX11_line_22 rfl (lv_at hl 0 rfl) ?_
      refine pl_get (ci := 11) (v := .ref x_11) (C := RX11) (T := TX11) (N := 13) hx hb hT iX11 hown hK hW hT_o.1 hS_o rfl 10 (by decide) w363 rfl dX11_line_23 ?_
      refine lv_aload_n hx hb dX11_line_26 rfl (lv_at hl 0 rfl) ?_
      refine pl_get (ci := 11) (v := .ref x_12) (C := RX11) (T := TX11) (N := 13) hx hb hT iX11 hown hK hW hT_o.1 hS_o rfl 11 (by decide) w364 rfl dX11_line_27 ?_
      refine lv_iload_n hx hb dX11_line_30 rfl (lv_at hl 1 rfl) ?_
      obtain ⟨x_17, x_18, x_19, hS_x_10, hT_x_17, hb_x_18, hT_x_19⟩ := hTy.k4 hT_x_10
      refine pl_callv (va_runV (As := [.ref x_11, .ref x_12, .int (nI k_15)]) (rest := []) ⟨hx, hb, hml, hown, hT⟩ (s_write l dC dI cy L kap pr S s.heap.size x_10 x_11 x_12 k_15 hTy hT_x_10 hT_x_11 hT_x_12 (by omega)) (cwV 3 hT (gV w1045 w1046 w1047 w13 w1048) rfl rfl rfl (by decide +kernel) ⟨(Nat.le_of_ble_eq_true rfl), (Nat.le_of_ble_eq_true rfl)⟩) ⟨pcN.blind, pl_recv hK hW hT_x_10.1 hS_x_10 rfl, pcN.pre hW.1 hK hW.2.1 hN (fun q h => absurd h List.not_mem_nil)⟩ rfl rfl hl.1 rfl (lv_room (Nat.le_of_ble_eq_true rfl)) dX11_line_31 ⟨(Nat.le_of_ble_eq_true rfl), (Nat.le_of_ble_eq_true rfl)⟩) hW hA0 hA (fun S_20 H locs hrel hW => ?_)
      obtain ⟨hTy, hF1⟩ := hrel
      have hFr := hFr.tr hF1 (by decide)
      have hS_o := hF1.at hT_o (by decide) hS_o
      refine lv_iload_n hx hb dX11_line_34 rfl (lv_at hl 2 rfl) ?_
      refine lv_aload_n hx hb dX11_line_35 rfl (lv_at hl 0 rfl) ?_
      refine pl_get (ci := 11) (v := .ref x_10) (C := RX11) (T := TX11) (N := 13) hx hb hT iX11 hown hK hW hT_o.1 hS_o rfl 9 (by decide) w362 rfl dX11_line_36 ?_
      obtain ⟨x_21, x_22, x_23, hS_x_10, hT_x_21, hb_x_22, hT_x_23⟩ := hTy.k4 hT_x_10
      refine pl_get (ci := 4) (v := .int (nI x_22)) (C := RX4) (T := TX4) (N := 3) hx hb hT iX4 hown hK hW hT_x_10.1 hS_x_10 rfl 1 (by decide) w340 rfl dX11_line_39 ?_
      refine lv_icmp_ge (tgt := 57) hx hb dX11_line_42 (by decide) (fun c_42 => ?_) (fun c_42 => ?_)
      · have c_42 : x_22 ≤ j_16 := (nI_leI (a := x_22) (b := j_16) (by omega) (by omega)).mp c_42
        refine lv_iconst (v := (-1)) hx hb dX11_line_57 (by decide) ?_
        exact W.iret (v := (-1)) hx hb hr (fun t ht h9 => ⟨⟨(-1), S_20, rfl, ⟨hTy, hFr⟩, by rw [ht]; exact hW.1, va_K.moved h9.alike hK, hW.2.1⟩, hW.2.2.F ht⟩) hW.2.2.2.2 dX11_line_58
      · have c_42 : ¬ (x_22 ≤ j_16) := fun hh9 => c_42 ((nI_leI (a := x_22) (b := j_16) (by omega) (by omega)).mpr hh9)
        refine lv_aload_n hx hb dX11_line_45 rfl (lv_at hl 0 rfl) ?_
        refine pl_get (ci := 11) (v := .ref x_10) (C := RX11) (T := TX11) (N := 13) hx hb hT iX11 hown hK hW hT_o.1 hS_o rfl 9 (by decide) w362 rfl dX11_line_46 ?_
        refine pl_get (ci := 4) (v := .ref x_21) (C := RX4) (T := TX4) (N := 3) hx hb hT iX4 hown hK hW hT_x_10.1 hS_x_10 rfl 0 (by decide) w338 rfl dX11_line_49 ?_
        refine lv_iload_n hx hb dX11_line_52 rfl (lv_at hl 2 rfl) ?_
        obtain ⟨f_24, hS_x_21⟩ := hTy.k40 hT_x_21
        refine pl_bald hx hb hK hW hT_x_21.1 hS_x_21 (vp_in_nI (n := j_16) (N := 64) (by omega) (by omega)) dX11_line_53 ?_
        refine lv_topi (fun y_25 ey_25 => ?_)
        refine lv_goto (tgt := 58) hx hb dX11_line_54 (by decide) ?_
        exact W.iret (v := y_25) hx hb hr (fun t ht h9 => ⟨⟨y_25, S_20, rfl, ⟨hTy, hFr⟩, by rw [ht]; exact hW.1, va_K.moved h9.alike hK, hW.2.1⟩, hW.2.2.F ht⟩) hW.2.2.2.2 dX11_line_58
    · skip
      refine lv_bipush (v := (-3)) hx hb dX11_line_15 (by decide) ?_
      exact W.iret (v := (-3)) hx hb hr (fun t ht h9 => ⟨⟨(-3), S, rfl, ⟨hTy, hFr⟩, by rw [ht]; exact hW.1, va_K.moved h9.alike hK, hW.2.1⟩, hW.2.2.F ht⟩) hW.2.2.2.2 dX11_line_17

set_option maxHeartbeats 4000000 in
set_option maxRecDepth 100000 in
theorem k_count (l : Launch) (dC : Nat → ClassId) (dI : Nat → Nat → Nat) (cy : Nat → ClassId) (L : List Nat) (kap : Nat → Nat) (pr : Pr) (S : Nat → va_E) (sz : Nat) (o : Nat) (wh : Int32) (hTy : Ty cy L kap pr S) (hT_o : TK L kap o 11) : Met l yX11_count (wT yX11_count cX11_count 2 (some .int)) ({ frames := 1, cells := 0, slots := 0, locals := 22 }) (pcN dC dI [.ref o, .int wh] sz (va_pl L S) (cyT cy) NLs []) (va_Qi (fun r S' => Ty cy L kap pr S' ∧ Fr kap [] S S') (fun S' t => pB dC dI (AL L sz) (va_pl L S') (cyT cy) t) (AL L sz)) 0 0 (AL L sz) := by
  refine Met.ofW (cc := cX11_count) (maxL := 2) (ret := (some .int)) (by decide) rfl ?_
  intro p e s m args below meth c s₁ B hml hv
  obtain ⟨rfl, hsz, hP, hK, hD0, hN, -⟩ := hv
  have hx := B.exec
  have hb := B.bytes
  have hr := B.returns
  have hT : ∀ wd ∈ TB, wd.before [.ref o, .int wh].toArray s = true := fun wd h => atoms_spec (ws := wT yX11_count cX11_count 2 (some .int)) B.pre wd (List.mem_cons_of_mem _ h)
  have hown : s.vm.findClass RX11 = some m.cls := findClass_of_methodNamed B.named
  have hlocks := B.notSynchronized
  subst hsz
  have hW : PW dC dI L (AL L s.heap.size) s.heap S s.heap [] := ⟨hP, pl_self hD0, va_S.rf⟩
  have hA0 : ∀ q, q ∈ L → AL L s.heap.size q := fun _ h => Or.inl h
  have hA : ∀ q, s.heap.size ≤ q → AL L s.heap.size q := fun _ h => Or.inr h
  have hFr : Fr kap [] S S := Fr.rf
  have hl := lv_entry ([.ref o, .int wh]) (n := 2) (Nat.le_of_ble_eq_true rfl)
  rw [lg_entry_eq]
  generalize (lg_sl ([.ref o, .int wh]) ++ List.replicate (2 - (lg_sl ([.ref o, .int wh])).length) Slot.unset).toArray = ls at hl ⊢
  have hl : lv_has ls 2 [(0, .ref o), (1, .int wh)] := hl
  refine lv_iload_n hx hb dX11_count_0 rfl (lv_at hl 1 rfl) ?_
  by_cases hk_1_0 : wh = 0
  · subst hk_1_0
    refine lv_tableIn (off := 43) (tgt := 44) hx hb dX11_count_1 (by decide) (by decide) rfl (by decide) ?_
    refine lv_aload_n hx hb dX11_count_44 rfl (lv_at hl 0 rfl) ?_
    obtain ⟨x_1, x_2, x_3, x_4, x_5, x_6, x_7, x_8, x_9, x_10, x_11, x_12, x_13, hS_o, hT_x_1, hT_x_2, hT_x_3, hT_x_4, hT_x_5, hT_x_6, hT_x_7, hT_x_8, hT_x_9, hT_x_10, hT_x_11, hT_x_12⟩ := hTy.k11 hT_o
    refine pl_get (ci := 11) (v := .ref x_11) (C := RX11) (T := TX11) (N := 13) hx hb hT iX11 hown hK hW hT_o.1 hS_o rfl 10 (by decide) w363 rfl dX11_count_45 ?_
    obtain ⟨x_14, x_15, x_16, x_17, hS_x_11, hT_x_14, hT_x_15, hb_x_16, hb_x_17⟩ := hTy.k3 hT_x_11
    refine pl_get (ci := 3) (v := .int (nI x_16)) (C := RX3) (T := TX3) (N := 4) hx hb hT iX3 hown hK hW hT_x_11.1 hS_x_11 rfl 2 (by decide) w64 rfl dX11_count_48 ?_
    exact W.iret (v := nI x_16) hx hb hr (fun t ht h9 => ⟨⟨nI x_16, S, rfl, ⟨hTy, hFr⟩, by rw [ht]; exact hW.1, va_K.moved h9.alike hK, hW.2.1⟩, hW.2.2.F ht⟩) hW.2.2.2.2 dX11_count_51
  by_cases hk_1_1 : wh = 1
  · subst hk_1_1
    refine lv_tableIn (off := 51) (tgt := 52) hx hb dX11_count_1 (by decide) (by decide) rfl (by decide) ?_
    refine lv_aload_n hx hb dX11_count_52 rfl (lv_at hl 0 rfl) ?_
    obtain ⟨x_18, x_19, x_20, x_21, x_22, x_23, x_24, x_25, x_26, x_27, x_28, x_29, x_30, hS_o, hT_x_18, hT_x_19, hT_x_20, hT_x_21, hT_x_22, hT_x_23, hT_x_24, hT_x_25, hT_x_26, hT_x_27, hT_x_28, hT_x_29⟩ := hTy.k11 hT_o
    refine pl_get (ci := 11) (v := .ref x_28) (C := RX11) (T := TX11) (N := 13) hx hb hT iX11 hown hK hW hT_o.1 hS_o rfl 10 (by decide) w363 rfl dX11_count_53 ?_
    obtain ⟨x_31, x_32, x_33, x_34, hS_x_28, hT_x_31, hT_x_32, hb_x_33, hb_x_34⟩ := hTy.k3 hT_x_28
    refine pl_get (ci := 3) (v := .int (nI x_34)) (C := RX3) (T := TX3) (N := 4) hx hb hT iX3 hown hK hW hT_x_28.1 hS_x_28 rfl 3 (by decide) w67 rfl dX11_count_56 ?_
    exact W.iret (v := nI x_34) hx hb hr (fun t ht h9 => ⟨⟨nI x_34, S, rfl, ⟨hTy, hFr⟩, by rw [ht]; exact hW.1, va_K.moved h9.alike hK, hW.2.1⟩, hW.2.2.F ht⟩) hW.2.2.2.2 dX11_count_59
  by_cases hk_1_2 : wh = 2
  · subst hk_1_2
    refine lv_tableIn (off := 59) (tgt := 60) hx hb dX11_count_1 (by decide) (by decide) rfl (by decide) ?_
    refine lv_aload_n hx hb dX11_count_60 rfl (lv_at hl 0 rfl) ?_
    obtain ⟨x_35, x_36, x_37, x_38, x_39, x_40, x_41, x_42, x_43, x_44, x_45, x_46, x_47, hS_o, hT_x_35, hT_x_36, hT_x_37, hT_x_38, hT_x_39, hT_x_40, hT_x_41, hT_x_42, hT_x_43, hT_x_44, hT_x_45, hT_x_46⟩ := hTy.k11 hT_o
    refine pl_get (ci := 11) (v := .ref x_46) (C := RX11) (T := TX11) (N := 13) hx hb hT iX11 hown hK hW hT_o.1 hS_o rfl 11 (by decide) w364 rfl dX11_count_61 ?_
    obtain ⟨x_48, x_49, x_50, x_51, x_52, x_53, x_54, x_55, hS_x_46, hT_x_48, hT_x_49, hT_x_50, hT_x_51, hT_x_52, hT_x_53, hb_x_54⟩ := hTy.k0 hT_x_46
    refine pl_get (ci := 0) (v := .int (nI x_54)) (C := RX0) (T := TX0) (N := 8) hx hb hT iX0 hown hK hW hT_x_46.1 hS_x_46 rfl 6 (by decide) w114 rfl dX11_count_64 ?_
    exact W.iret (v := nI x_54) hx hb hr (fun t ht h9 => ⟨⟨nI x_54, S, rfl, ⟨hTy, hFr⟩, by rw [ht]; exact hW.1, va_K.moved h9.alike hK, hW.2.1⟩, hW.2.2.F ht⟩) hW.2.2.2.2 dX11_count_67
  by_cases hk_1_3 : wh = 3
  · subst hk_1_3
    refine lv_tableIn (off := 67) (tgt := 68) hx hb dX11_count_1 (by decide) (by decide) rfl (by decide) ?_
    refine lv_aload_n hx hb dX11_count_68 rfl (lv_at hl 0 rfl) ?_
    obtain ⟨x_56, x_57, x_58, x_59, x_60, x_61, x_62, x_63, x_64, x_65, x_66, x_67, x_68, hS_o, hT_x_56, hT_x_57, hT_x_58, hT_x_59, hT_x_60, hT_x_61, hT_x_62, hT_x_63, hT_x_64, hT_x_65, hT_x_66, hT_x_67⟩ := hTy.k11 hT_o
    refine pl_get (ci := 11) (v := .ref x_67) (C := RX11) (T := TX11) (N := 13) hx hb hT iX11 hown hK hW hT_o.1 hS_o rfl 11 (by decide) w364 rfl dX11_count_69 ?_
    obtain ⟨x_69, x_70, x_71, x_72, x_73, x_74, x_75, x_76, hS_x_67, hT_x_69, hT_x_70, hT_x_71, hT_x_72, hT_x_73, hT_x_74, hb_x_75⟩ := hTy.k0 hT_x_67
    refine vp_callSi (va_Run.run (va_runV (As := []) (rest := []) ⟨hx, hb, hml, hown, hT⟩ (s_keptTrades l dC dI cy L kap pr S s.heap.size x_67 hTy hT_x_67) (cwV 0 hT (gV w1067 w1068 w1069 w5 w1070) rfl rfl rfl (by decide +kernel) ⟨(Nat.le_of_ble_eq_true rfl), (Nat.le_of_ble_eq_true rfl)⟩) ⟨pcN.blind, pl_recv hK hW hT_x_67.1 hS_x_67 rfl, pcN.pre hW.1 hK hW.2.1 hN (fun q h => absurd h List.not_mem_nil)⟩ rfl rfl hl.1 rfl (lv_room (Nat.le_of_ble_eq_true rfl)) dX11_count_72 ⟨(Nat.le_of_ble_eq_true rfl), (Nat.le_of_ble_eq_true rfl)⟩)) (fun r_77 hr_77 => ?_)
    exact W.iret (v := r_77) hx hb hr (fun t ht h9 => ⟨⟨r_77, S, rfl, ⟨hTy, hFr⟩, by rw [ht]; exact hW.1, va_K.moved h9.alike hK, hW.2.1⟩, hW.2.2.F ht⟩) hW.2.2.2.2 dX11_count_75
  by_cases hk_1_4 : wh = 4
  · subst hk_1_4
    refine lv_tableIn (off := 75) (tgt := 76) hx hb dX11_count_1 (by decide) (by decide) rfl (by decide) ?_
    refine lv_aload_n hx hb dX11_count_76 rfl (lv_at hl 0 rfl) ?_
    obtain ⟨x_78, x_79, x_80, x_81, x_82, x_83, x_84, x_85, x_86, x_87, x_88, x_89, x_90, hS_o, hT_x_78, hT_x_79, hT_x_80, hT_x_81, hT_x_82, hT_x_83, hT_x_84, hT_x_85, hT_x_86, hT_x_87, hT_x_88, hT_x_89⟩ := hTy.k11 hT_o
    refine pl_get (ci := 11) (v := .ref x_89) (C := RX11) (T := TX11) (N := 13) hx hb hT iX11 hown hK hW hT_o.1 hS_o rfl 11 (by decide) w364 rfl dX11_count_77 ?_
    obtain ⟨x_91, x_92, x_93, x_94, x_95, x_96, x_97, x_98, hS_x_89, hT_x_91, hT_x_92, hT_x_93, hT_x_94, hT_x_95, hT_x_96, hb_x_97⟩ := hTy.k0 hT_x_89
    refine pl_get (ci := 0) (v := .int x_98) (C := RX0) (T := TX0) (N := 8) hx hb hT iX0 hown hK hW hT_x_89.1 hS_x_89 rfl 7 (by decide) w118 rfl dX11_count_80 ?_
    exact W.iret (v := x_98) hx hb hr (fun t ht h9 => ⟨⟨x_98, S, rfl, ⟨hTy, hFr⟩, by rw [ht]; exact hW.1, va_K.moved h9.alike hK, hW.2.1⟩, hW.2.2.F ht⟩) hW.2.2.2.2 dX11_count_83
  by_cases hk_1_5 : wh = 5
  · subst hk_1_5
    refine lv_tableIn (off := 83) (tgt := 84) hx hb dX11_count_1 (by decide) (by decide) rfl (by decide) ?_
    refine lv_aload_n hx hb dX11_count_84 rfl (lv_at hl 0 rfl) ?_
    obtain ⟨x_99, x_100, x_101, x_102, x_103, x_104, x_105, x_106, x_107, x_108, x_109, x_110, x_111, hS_o, hT_x_99, hT_x_100, hT_x_101, hT_x_102, hT_x_103, hT_x_104, hT_x_105, hT_x_106, hT_x_107, hT_x_108, hT_x_109, hT_x_110⟩ := hTy.k11 hT_o
    refine pl_get (ci := 11) (v := .ref x_101) (C := RX11) (T := TX11) (N := 13) hx hb hT iX11 hown hK hW hT_o.1 hS_o rfl 2 (by decide) w355 rfl dX11_count_85 ?_
    obtain ⟨x_112, x_113, hS_x_101, hT_x_112, hb_x_113⟩ := hTy.k5 hT_x_101
    refine pl_get (ci := 5) (v := .int (nI x_113)) (C := RX5) (T := TX5) (N := 2) hx hb hT iX5 hown hK hW hT_x_101.1 hS_x_101 rfl 1 (by decide) w185 rfl dX11_count_88 ?_
    exact W.iret (v := nI x_113) hx hb hr (fun t ht h9 => ⟨⟨nI x_113, S, rfl, ⟨hTy, hFr⟩, by rw [ht]; exact hW.1, va_K.moved h9.alike hK, hW.2.1⟩, hW.2.2.F ht⟩) hW.2.2.2.2 dX11_count_91
  by_cases hk_1_6 : wh = 6
  · subst hk_1_6
    refine lv_tableIn (off := 91) (tgt := 92) hx hb dX11_count_1 (by decide) (by decide) rfl (by decide) ?_
    refine lv_aload_n hx hb dX11_count_92 rfl (lv_at hl 0 rfl) ?_
    obtain ⟨x_114, x_115, x_116, x_117, x_118, x_119, x_120, x_121, x_122, x_123, x_124, x_125, x_126, hS_o, hT_x_114, hT_x_115, hT_x_116, hT_x_117, hT_x_118, hT_x_119, hT_x_120, hT_x_121, hT_x_122, hT_x_123, hT_x_124, hT_x_125⟩ := hTy.k11 hT_o
    refine pl_get (ci := 11) (v := .ref x_114) (C := RX11) (T := TX11) (N := 13) hx hb hT iX11 hown hK hW hT_o.1 hS_o rfl 0 (by decide) w353 rfl dX11_count_93 ?_
    obtain ⟨x_127, hS_x_114, hT_x_127, hb_q1⟩ := hTy.k10 hT_x_114
    have hb_q1 : pr.1 ≤ 900 := hb_q1
    have hS_x_114 : S x_114 = .inr (10, [.ref x_127, .int (nI (pr.1))]) := hS_x_114
    refine pl_get (ci := 10) (v := .int (nI (pr.1))) (C := RX10) (T := TX10) (N := 2) hx hb hT iX10 hown hK hW hT_x_114.1 hS_x_114 rfl 1 (by decide) w38 rfl dX11_count_96 ?_
    exact W.iret (v := nI (pr.1)) hx hb hr (fun t ht h9 => ⟨⟨nI (pr.1), S, rfl, ⟨hTy, hFr⟩, by rw [ht]; exact hW.1, va_K.moved h9.alike hK, hW.2.1⟩, hW.2.2.F ht⟩) hW.2.2.2.2 dX11_count_99
  refine lv_tableOut (tgt := 100) hx hb dX11_count_1 (swout_0_6 hk_1_0 hk_1_1 hk_1_2 hk_1_3 hk_1_4 hk_1_5 hk_1_6) (by decide) ?_
  refine lv_iconst (v := (-1)) hx hb dX11_count_100 (by decide) ?_
  exact W.iret (v := (-1)) hx hb hr (fun t ht h9 => ⟨⟨(-1), S, rfl, ⟨hTy, hFr⟩, by rw [ht]; exact hW.1, va_K.moved h9.alike hK, hW.2.1⟩, hW.2.2.F ht⟩) hW.2.2.2.2 dX11_count_101

