theorem w1084 : (.fieldLink RX12 20 "SwapPressModel" "acts" "[I" : Cond) ∈ TB := mTB (List.mem_of_getElem? (i := 1084) (by decide +kernel)) (by decide +kernel)
theorem w1099 : (.fieldLink RX12 37 "SwapPressModel" "flows" "[I" : Cond) ∈ TB := mTB (List.mem_of_getElem? (i := 1099) (by decide +kernel)) (by decide +kernel)
theorem w1104 : (.fieldLink RX12 49 "SwapPressModel" "its0" "[I" : Cond) ∈ TB := mTB (List.mem_of_getElem? (i := 1104) (by decide +kernel)) (by decide +kernel)
theorem w1280 : (.methodLink RX12 201 yX12_areTwo : Cond) ∈ TB := mTB (List.mem_of_getElem? (i := 1280) (by decide +kernel)) (by decide +kernel)
theorem w1282 : (.instanceMethod yX12_areTwo : Cond) ∈ TB := mTB (List.mem_of_getElem? (i := 1282) (by decide +kernel)) (by decide +kernel)
theorem w1283 : (.code yX12_areTwo cX12_areTwo 3 (some .boolean) : Cond) ∈ TB := mTB (List.mem_of_getElem? (i := 1283) (by decide +kernel)) (by decide +kernel)
theorem w1284 : (.methodLink RX12 198 yX12_isParty : Cond) ∈ TB := mTB (List.mem_of_getElem? (i := 1284) (by decide +kernel)) (by decide +kernel)
theorem w1286 : (.instanceMethod yX12_isParty : Cond) ∈ TB := mTB (List.mem_of_getElem? (i := 1286) (by decide +kernel)) (by decide +kernel)
theorem w1287 : (.code yX12_isParty cX12_isParty 2 (some .boolean) : Cond) ∈ TB := mTB (List.mem_of_getElem? (i := 1287) (by decide +kernel)) (by decide +kernel)
theorem w1288 : (.methodLink RX12 205 yX12_isKind : Cond) ∈ TB := mTB (List.mem_of_getElem? (i := 1288) (by decide +kernel)) (by decide +kernel)
theorem w1290 : (.instanceMethod yX12_isKind : Cond) ∈ TB := mTB (List.mem_of_getElem? (i := 1290) (by decide +kernel)) (by decide +kernel)
theorem w1291 : (.code yX12_isKind cX12_isKind 2 (some .boolean) : Cond) ∈ TB := mTB (List.mem_of_getElem? (i := 1291) (by decide +kernel)) (by decide +kernel)
theorem w1292 : (.constantLong RX12 208 999999 : Cond) ∈ TB := mTB (List.mem_of_getElem? (i := 1292) (by decide +kernel)) (by decide +kernel)
theorem w1293 : (.methodLink RX12 210 yX12_remembers : Cond) ∈ TB := mTB (List.mem_of_getElem? (i := 1293) (by decide +kernel)) (by decide +kernel)
theorem w1295 : (.instanceMethod yX12_remembers : Cond) ∈ TB := mTB (List.mem_of_getElem? (i := 1295) (by decide +kernel)) (by decide +kernel)
theorem w1296 : (.code yX12_remembers cX12_remembers 2 none : Cond) ∈ TB := mTB (List.mem_of_getElem? (i := 1296) (by decide +kernel)) (by decide +kernel)
theorem w1301 : (.methodLink RX12 213 yX12_isTrade : Cond) ∈ TB := mTB (List.mem_of_getElem? (i := 1301) (by decide +kernel)) (by decide +kernel)
theorem w1303 : (.instanceMethod yX12_isTrade : Cond) ∈ TB := mTB (List.mem_of_getElem? (i := 1303) (by decide +kernel)) (by decide +kernel)
theorem w1304 : (.code yX12_isTrade cX12_isTrade 2 (some .boolean) : Cond) ∈ TB := mTB (List.mem_of_getElem? (i := 1304) (by decide +kernel)) (by decide +kernel)
theorem w1305 : (.methodLink RX12 216 yX12_goes : Cond) ∈ TB := mTB (List.mem_of_getElem? (i := 1305) (by decide +kernel)) (by decide +kernel)
theorem w1307 : (.instanceMethod yX12_goes : Cond) ∈ TB := mTB (List.mem_of_getElem? (i := 1307) (by decide +kernel)) (by decide +kernel)
theorem w1308 : (.code yX12_goes cX12_goes 3 none : Cond) ∈ TB := mTB (List.mem_of_getElem? (i := 1308) (by decide +kernel)) (by decide +kernel)
theorem w1317 : (.constantLong RX12 219 3 : Cond) ∈ TB := mTB (List.mem_of_getElem? (i := 1317) (by decide +kernel)) (by decide +kernel)
theorem w1322 : (.constantLong RX12 221 99999999 : Cond) ∈ TB := mTB (List.mem_of_getElem? (i := 1322) (by decide +kernel)) (by decide +kernel)
theorem w1331 : (.constantLong RX12 232 4 : Cond) ∈ TB := mTB (List.mem_of_getElem? (i := 1331) (by decide +kernel)) (by decide +kernel)
theorem w1336 : (.methodLink RX12 234 yX12_laysFlows : Cond) ∈ TB := mTB (List.mem_of_getElem? (i := 1336) (by decide +kernel)) (by decide +kernel)
theorem w1338 : (.instanceMethod yX12_laysFlows : Cond) ∈ TB := mTB (List.mem_of_getElem? (i := 1338) (by decide +kernel)) (by decide +kernel)
theorem w1339 : (.code yX12_laysFlows cX12_laysFlows 4 none : Cond) ∈ TB := mTB (List.mem_of_getElem? (i := 1339) (by decide +kernel)) (by decide +kernel)
theorem w1340 : (.methodLink RX12 223 yX12_isFree : Cond) ∈ TB := mTB (List.mem_of_getElem? (i := 1340) (by decide +kernel)) (by decide +kernel)
theorem w1342 : (.instanceMethod yX12_isFree : Cond) ∈ TB := mTB (List.mem_of_getElem? (i := 1342) (by decide +kernel)) (by decide +kernel)
theorem w1343 : (.code yX12_isFree cX12_isFree 3 (some .boolean) : Cond) ∈ TB := mTB (List.mem_of_getElem? (i := 1343) (by decide +kernel)) (by decide +kernel)
theorem w1344 : (.methodLink RX12 226 yX12_isOf : Cond) ∈ TB := mTB (List.mem_of_getElem? (i := 1344) (by decide +kernel)) (by decide +kernel)
theorem w1346 : (.instanceMethod yX12_isOf : Cond) ∈ TB := mTB (List.mem_of_getElem? (i := 1346) (by decide +kernel)) (by decide +kernel)
theorem w1347 : (.code yX12_isOf cX12_isOf 3 (some .boolean) : Cond) ∈ TB := mTB (List.mem_of_getElem? (i := 1347) (by decide +kernel)) (by decide +kernel)
theorem w1348 : (.methodLink RX12 229 yX12_couple : Cond) ∈ TB := mTB (List.mem_of_getElem? (i := 1348) (by decide +kernel)) (by decide +kernel)
theorem w1349 : (.static yX12_couple : Cond) ∈ TB := mTB (List.mem_of_getElem? (i := 1349) (by decide +kernel)) (by decide +kernel)
theorem w1350 : (.code yX12_couple cX12_couple 2 (some .int) : Cond) ∈ TB := mTB (List.mem_of_getElem? (i := 1350) (by decide +kernel)) (by decide +kernel)
theorem w1355 : (.constant RX12 237 100000000 : Cond) ∈ TB := mTB (List.mem_of_getElem? (i := 1355) (by decide +kernel)) (by decide +kernel)
theorem w1356 : (.methodLink RX12 238 yX12_netBy : Cond) ∈ TB := mTB (List.mem_of_getElem? (i := 1356) (by decide +kernel)) (by decide +kernel)
theorem w1358 : (.instanceMethod yX12_netBy : Cond) ∈ TB := mTB (List.mem_of_getElem? (i := 1358) (by decide +kernel)) (by decide +kernel)
theorem w1359 : (.code yX12_netBy cX12_netBy 4 (some .int) : Cond) ∈ TB := mTB (List.mem_of_getElem? (i := 1359) (by decide +kernel)) (by decide +kernel)
theorem w1360 : (.methodLink RX12 241 yX12_amounts : Cond) ∈ TB := mTB (List.mem_of_getElem? (i := 1360) (by decide +kernel)) (by decide +kernel)
theorem w1362 : (.instanceMethod yX12_amounts : Cond) ∈ TB := mTB (List.mem_of_getElem? (i := 1362) (by decide +kernel)) (by decide +kernel)
theorem w1363 : (.code yX12_amounts cX12_amounts 6 (some .int) : Cond) ∈ TB := mTB (List.mem_of_getElem? (i := 1363) (by decide +kernel)) (by decide +kernel)
theorem w1368 : (.constantLong RX12 245 2 : Cond) ∈ TB := mTB (List.mem_of_getElem? (i := 1368) (by decide +kernel)) (by decide +kernel)
theorem w1369 : (.methodLink RX12 247 yJ6_bitCount_0f7a4 : Cond) ∈ TB := mTB (List.mem_of_getElem? (i := 1369) (by decide +kernel)) (by decide +kernel)
theorem w1374 : (.methodLink RX12 252 yX12_sumOfFlows : Cond) ∈ TB := mTB (List.mem_of_getElem? (i := 1374) (by decide +kernel)) (by decide +kernel)
theorem w1376 : (.instanceMethod yX12_sumOfFlows : Cond) ∈ TB := mTB (List.mem_of_getElem? (i := 1376) (by decide +kernel)) (by decide +kernel)
theorem w1377 : (.code yX12_sumOfFlows cX12_sumOfFlows 3 (some .int) : Cond) ∈ TB := mTB (List.mem_of_getElem? (i := 1377) (by decide +kernel)) (by decide +kernel)
theorem w1378 : (.methodLink RX12 255 yX12_positive : Cond) ∈ TB := mTB (List.mem_of_getElem? (i := 1378) (by decide +kernel)) (by decide +kernel)
theorem w1380 : (.instanceMethod yX12_positive : Cond) ∈ TB := mTB (List.mem_of_getElem? (i := 1380) (by decide +kernel)) (by decide +kernel)
theorem w1381 : (.code yX12_positive cX12_positive 3 (some .int) : Cond) ∈ TB := mTB (List.mem_of_getElem? (i := 1381) (by decide +kernel)) (by decide +kernel)
theorem w1386 : (.methodLink RX12 258 yX12_boundOf : Cond) ∈ TB := mTB (List.mem_of_getElem? (i := 1386) (by decide +kernel)) (by decide +kernel)
theorem w1388 : (.instanceMethod yX12_boundOf : Cond) ∈ TB := mTB (List.mem_of_getElem? (i := 1388) (by decide +kernel)) (by decide +kernel)
theorem w1389 : (.code yX12_boundOf cX12_boundOf 4 (some .int) : Cond) ∈ TB := mTB (List.mem_of_getElem? (i := 1389) (by decide +kernel)) (by decide +kernel)
theorem w1584 : (.methodLink RX12 357 yX12_keptMany : Cond) ∈ TB := mTB (List.mem_of_getElem? (i := 1584) (by decide +kernel)) (by decide +kernel)
theorem w1586 : (.instanceMethod yX12_keptMany : Cond) ∈ TB := mTB (List.mem_of_getElem? (i := 1586) (by decide +kernel)) (by decide +kernel)
theorem w1587 : (.code yX12_keptMany cX12_keptMany 3 (some .int) : Cond) ∈ TB := mTB (List.mem_of_getElem? (i := 1587) (by decide +kernel)) (by decide +kernel)
theorem ws72 : (.selects RX12 yX12_areTwo yX12_areTwo : Cond) ∈ TB := mSel (y := yX12_areTwo) (n := 32) (List.mem_of_getElem? (i := 72) (by decide +kernel)) (by decide +kernel)
theorem ws73 : (.selects RX12 yX12_isParty yX12_isParty : Cond) ∈ TB := mSel (y := yX12_isParty) (n := 32) (List.mem_of_getElem? (i := 73) (by decide +kernel)) (by decide +kernel)
theorem ws74 : (.selects RX12 yX12_isKind yX12_isKind : Cond) ∈ TB := mSel (y := yX12_isKind) (n := 32) (List.mem_of_getElem? (i := 74) (by decide +kernel)) (by decide +kernel)
theorem ws75 : (.selects RX12 yX12_remembers yX12_remembers : Cond) ∈ TB := mSel (y := yX12_remembers) (n := 32) (List.mem_of_getElem? (i := 75) (by decide +kernel)) (by decide +kernel)
theorem ws76 : (.selects RX12 yX12_isTrade yX12_isTrade : Cond) ∈ TB := mSel (y := yX12_isTrade) (n := 32) (List.mem_of_getElem? (i := 76) (by decide +kernel)) (by decide +kernel)
theorem ws77 : (.selects RX12 yX12_goes yX12_goes : Cond) ∈ TB := mSel (y := yX12_goes) (n := 32) (List.mem_of_getElem? (i := 77) (by decide +kernel)) (by decide +kernel)
theorem ws78 : (.selects RX12 yX12_laysFlows yX12_laysFlows : Cond) ∈ TB := mSel (y := yX12_laysFlows) (n := 32) (List.mem_of_getElem? (i := 78) (by decide +kernel)) (by decide +kernel)
theorem ws79 : (.selects RX12 yX12_isFree yX12_isFree : Cond) ∈ TB := mSel (y := yX12_isFree) (n := 32) (List.mem_of_getElem? (i := 79) (by decide +kernel)) (by decide +kernel)
theorem ws80 : (.selects RX12 yX12_isOf yX12_isOf : Cond) ∈ TB := mSel (y := yX12_isOf) (n := 32) (List.mem_of_getElem? (i := 80) (by decide +kernel)) (by decide +kernel)
theorem ws81 : (.selects RX12 yX12_netBy yX12_netBy : Cond) ∈ TB := mSel (y := yX12_netBy) (n := 32) (List.mem_of_getElem? (i := 81) (by decide +kernel)) (by decide +kernel)
theorem ws82 : (.selects RX12 yX12_amounts yX12_amounts : Cond) ∈ TB := mSel (y := yX12_amounts) (n := 32) (List.mem_of_getElem? (i := 82) (by decide +kernel)) (by decide +kernel)
theorem ws83 : (.selects RX12 yX12_sumOfFlows yX12_sumOfFlows : Cond) ∈ TB := mSel (y := yX12_sumOfFlows) (n := 32) (List.mem_of_getElem? (i := 83) (by decide +kernel)) (by decide +kernel)
theorem ws84 : (.selects RX12 yX12_positive yX12_positive : Cond) ∈ TB := mSel (y := yX12_positive) (n := 32) (List.mem_of_getElem? (i := 84) (by decide +kernel)) (by decide +kernel)
theorem ws85 : (.selects RX12 yX12_boundOf yX12_boundOf : Cond) ∈ TB := mSel (y := yX12_boundOf) (n := 32) (List.mem_of_getElem? (i := 85) (by decide +kernel)) (by decide +kernel)
theorem ws110 : (.selects RX12 yX12_keptMany yX12_keptMany : Cond) ∈ TB := mSel (y := yX12_keptMany) (n := 32) (List.mem_of_getElem? (i := 110) (by decide +kernel)) (by decide +kernel)
theorem dX12_amounts_0 : decode cX12_amounts 0 = .ok (.iconst 0, 1) := by decide +kernel
theorem dX12_amounts_1 : decode cX12_amounts 1 = .ok (.istore 4, 2) := by decide +kernel
theorem dX12_amounts_3 : decode cX12_amounts 3 = .ok (.iconst 0, 1) := by decide +kernel
theorem dX12_amounts_4 : decode cX12_amounts 4 = .ok (.istore 5, 2) := by decide +kernel
theorem dX12_amounts_6 : decode cX12_amounts 6 = .ok (.iload 5, 2) := by decide +kernel
theorem dX12_amounts_8 : decode cX12_amounts 8 = .ok (.aload_n 0, 1) := by decide +kernel
theorem dX12_amounts_9 : decode cX12_amounts 9 = .ok (.getfield 13, 3) := by decide +kernel
theorem dX12_amounts_12 : decode cX12_amounts 12 = .ok (.iconst 0, 1) := by decide +kernel
theorem dX12_amounts_13 : decode cX12_amounts 13 = .ok (.iaload, 1) := by decide +kernel
theorem dX12_amounts_14 : decode cX12_amounts 14 = .ok (.if_icmp .ge 47, 3) := by decide +kernel
theorem dX12_amounts_17 : decode cX12_amounts 17 = .ok (.iload 4, 2) := by decide +kernel
theorem dX12_amounts_19 : decode cX12_amounts 19 = .ok (.aload_n 0, 1) := by decide +kernel
theorem dX12_amounts_20 : decode cX12_amounts 20 = .ok (.iload 5, 2) := by decide +kernel
theorem dX12_amounts_22 : decode cX12_amounts 22 = .ok (.iconst 3, 1) := by decide +kernel
theorem dX12_amounts_23 : decode cX12_amounts 23 = .ok (.invokevirtual 174, 3) := by decide +kernel
theorem dX12_amounts_26 : decode cX12_amounts 26 = .ok (.iload_n 2, 1) := by decide +kernel
theorem dX12_amounts_27 : decode cX12_amounts 27 = .ok (.if_icmp .ne 24, 3) := by decide +kernel
theorem dX12_amounts_30 : decode cX12_amounts 30 = .ok (.aload_n 0, 1) := by decide +kernel
theorem dX12_amounts_31 : decode cX12_amounts 31 = .ok (.iload 5, 2) := by decide +kernel
theorem dX12_amounts_33 : decode cX12_amounts 33 = .ok (.iload_n 3, 1) := by decide +kernel
theorem dX12_amounts_34 : decode cX12_amounts 34 = .ok (.invokevirtual 174, 3) := by decide +kernel
theorem dX12_amounts_37 : decode cX12_amounts 37 = .ok (.iload_n 1, 1) := by decide +kernel
theorem dX12_amounts_38 : decode cX12_amounts 38 = .ok (.if_icmp .ne 13, 3) := by decide +kernel
theorem dX12_amounts_41 : decode cX12_amounts 41 = .ok (.aload_n 0, 1) := by decide +kernel
theorem dX12_amounts_42 : decode cX12_amounts 42 = .ok (.iload 5, 2) := by decide +kernel
theorem dX12_amounts_44 : decode cX12_amounts 44 = .ok (.iconst 2, 1) := by decide +kernel
theorem dX12_amounts_45 : decode cX12_amounts 45 = .ok (.invokevirtual 174, 3) := by decide +kernel
theorem dX12_amounts_48 : decode cX12_amounts 48 = .ok (.goto 4, 3) := by decide +kernel
theorem dX12_amounts_51 : decode cX12_amounts 51 = .ok (.iconst 0, 1) := by decide +kernel
theorem dX12_amounts_52 : decode cX12_amounts 52 = .ok (.iadd, 1) := by decide +kernel
theorem dX12_amounts_53 : decode cX12_amounts 53 = .ok (.istore 4, 2) := by decide +kernel
theorem dX12_amounts_55 : decode cX12_amounts 55 = .ok (.iinc 5 1, 3) := by decide +kernel
theorem dX12_amounts_58 : decode cX12_amounts 58 = .ok (.goto (-52), 3) := by decide +kernel
theorem dX12_amounts_61 : decode cX12_amounts 61 = .ok (.iload 4, 2) := by decide +kernel
theorem dX12_amounts_63 : decode cX12_amounts 63 = .ok (.ireturn, 1) := by decide +kernel
theorem dX12_areTwo_0 : decode cX12_areTwo 0 = .ok (.aload_n 0, 1) := by decide +kernel
theorem dX12_areTwo_1 : decode cX12_areTwo 1 = .ok (.iload_n 1, 1) := by decide +kernel
theorem dX12_areTwo_2 : decode cX12_areTwo 2 = .ok (.invokevirtual 198, 3) := by decide +kernel
theorem dX12_areTwo_5 : decode cX12_areTwo 5 = .ok (.ifCond .eq 20, 3) := by decide +kernel
theorem dX12_areTwo_8 : decode cX12_areTwo 8 = .ok (.aload_n 0, 1) := by decide +kernel
theorem dX12_areTwo_9 : decode cX12_areTwo 9 = .ok (.iload_n 2, 1) := by decide +kernel
theorem dX12_areTwo_10 : decode cX12_areTwo 10 = .ok (.invokevirtual 198, 3) := by decide +kernel
theorem dX12_areTwo_13 : decode cX12_areTwo 13 = .ok (.ifCond .eq 12, 3) := by decide +kernel
theorem dX12_areTwo_16 : decode cX12_areTwo 16 = .ok (.iload_n 1, 1) := by decide +kernel
theorem dX12_areTwo_17 : decode cX12_areTwo 17 = .ok (.iload_n 2, 1) := by decide +kernel
theorem dX12_areTwo_18 : decode cX12_areTwo 18 = .ok (.if_icmp .eq 7, 3) := by decide +kernel
theorem dX12_areTwo_21 : decode cX12_areTwo 21 = .ok (.iconst 1, 1) := by decide +kernel
theorem dX12_areTwo_22 : decode cX12_areTwo 22 = .ok (.goto 4, 3) := by decide +kernel
theorem dX12_areTwo_25 : decode cX12_areTwo 25 = .ok (.iconst 0, 1) := by decide +kernel
theorem dX12_areTwo_26 : decode cX12_areTwo 26 = .ok (.ireturn, 1) := by decide +kernel
theorem dX12_bound_0 : decode cX12_bound 0 = .ok (.aload_n 0, 1) := by decide +kernel
theorem dX12_bound_1 : decode cX12_bound 1 = .ok (.iconst 0, 1) := by decide +kernel
theorem dX12_bound_2 : decode cX12_bound 2 = .ok (.putfield 1, 3) := by decide +kernel
theorem dX12_bound_5 : decode cX12_bound 5 = .ok (.aload_n 0, 1) := by decide +kernel
theorem dX12_bound_6 : decode cX12_bound 6 = .ok (.iload_n 1, 1) := by decide +kernel
theorem dX12_bound_7 : decode cX12_bound 7 = .ok (.iload_n 2, 1) := by decide +kernel
theorem dX12_bound_8 : decode cX12_bound 8 = .ok (.invokevirtual 201, 3) := by decide +kernel
theorem dX12_bound_11 : decode cX12_bound 11 = .ok (.ifCond .eq 11, 3) := by decide +kernel
theorem dX12_bound_14 : decode cX12_bound 14 = .ok (.aload_n 0, 1) := by decide +kernel
theorem dX12_bound_15 : decode cX12_bound 15 = .ok (.iload_n 3, 1) := by decide +kernel
theorem dX12_bound_16 : decode cX12_bound 16 = .ok (.invokevirtual 205, 3) := by decide +kernel
theorem dX12_bound_19 : decode cX12_bound 19 = .ok (.ifCond .ne 6, 3) := by decide +kernel
theorem dX12_bound_22 : decode cX12_bound 22 = .ok (.bipush (-2), 2) := by decide +kernel
theorem dX12_bound_24 : decode cX12_bound 24 = .ok (.ireturn, 1) := by decide +kernel
theorem dX12_bound_25 : decode cX12_bound 25 = .ok (.aload_n 0, 1) := by decide +kernel
theorem dX12_bound_26 : decode cX12_bound 26 = .ok (.iload_n 3, 1) := by decide +kernel
theorem dX12_bound_27 : decode cX12_bound 27 = .ok (.iconst (-1), 1) := by decide +kernel
theorem dX12_bound_28 : decode cX12_bound 28 = .ok (.invokevirtual 234, 3) := by decide +kernel
theorem dX12_bound_31 : decode cX12_bound 31 = .ok (.aload_n 0, 1) := by decide +kernel
theorem dX12_bound_32 : decode cX12_bound 32 = .ok (.iload_n 1, 1) := by decide +kernel
theorem dX12_bound_33 : decode cX12_bound 33 = .ok (.iload_n 2, 1) := by decide +kernel
theorem dX12_bound_34 : decode cX12_bound 34 = .ok (.invokevirtual 258, 3) := by decide +kernel
theorem dX12_bound_37 : decode cX12_bound 37 = .ok (.ireturn, 1) := by decide +kernel
theorem dX12_boundOf_0 : decode cX12_boundOf 0 = .ok (.aload_n 0, 1) := by decide +kernel
theorem dX12_boundOf_1 : decode cX12_boundOf 1 = .ok (.getfield 37, 3) := by decide +kernel
theorem dX12_boundOf_4 : decode cX12_boundOf 4 = .ok (.iload_n 1, 1) := by decide +kernel
theorem dX12_boundOf_5 : decode cX12_boundOf 5 = .ok (.iload_n 2, 1) := by decide +kernel
theorem dX12_boundOf_6 : decode cX12_boundOf 6 = .ok (.invokestatic 229, 3) := by decide +kernel
theorem dX12_boundOf_9 : decode cX12_boundOf 9 = .ok (.iaload, 1) := by decide +kernel
theorem dX12_boundOf_10 : decode cX12_boundOf 10 = .ok (.istore_n 3, 1) := by decide +kernel
theorem dX12_boundOf_11 : decode cX12_boundOf 11 = .ok (.aload_n 0, 1) := by decide +kernel
theorem dX12_boundOf_12 : decode cX12_boundOf 12 = .ok (.getfield 13, 3) := by decide +kernel
theorem dX12_boundOf_15 : decode cX12_boundOf 15 = .ok (.iconst 1, 1) := by decide +kernel
theorem dX12_boundOf_16 : decode cX12_boundOf 16 = .ok (.iaload, 1) := by decide +kernel
theorem dX12_boundOf_17 : decode cX12_boundOf 17 = .ok (.ifCond .ne 7, 3) := by decide +kernel
theorem dX12_boundOf_20 : decode cX12_boundOf 20 = .ok (.iload_n 3, 1) := by decide +kernel
theorem dX12_boundOf_21 : decode cX12_boundOf 21 = .ok (.goto 42, 3) := by decide +kernel
theorem dX12_boundOf_24 : decode cX12_boundOf 24 = .ok (.aload_n 0, 1) := by decide +kernel
theorem dX12_boundOf_25 : decode cX12_boundOf 25 = .ok (.getfield 13, 3) := by decide +kernel
theorem dX12_boundOf_28 : decode cX12_boundOf 28 = .ok (.iconst 1, 1) := by decide +kernel
theorem dX12_boundOf_29 : decode cX12_boundOf 29 = .ok (.iaload, 1) := by decide +kernel
theorem dX12_boundOf_30 : decode cX12_boundOf 30 = .ok (.iconst 2, 1) := by decide +kernel
theorem dX12_boundOf_31 : decode cX12_boundOf 31 = .ok (.if_icmp .ne 20, 3) := by decide +kernel
theorem dX12_boundOf_34 : decode cX12_boundOf 34 = .ok (.aload_n 0, 1) := by decide +kernel
theorem dX12_boundOf_35 : decode cX12_boundOf 35 = .ok (.getfield 13, 3) := by decide +kernel
theorem dX12_boundOf_38 : decode cX12_boundOf 38 = .ok (.sipush 202, 3) := by decide +kernel
theorem dX12_boundOf_41 : decode cX12_boundOf 41 = .ok (.iload_n 1, 1) := by decide +kernel
theorem dX12_boundOf_42 : decode cX12_boundOf 42 = .ok (.iload_n 2, 1) := by decide +kernel
theorem dX12_boundOf_43 : decode cX12_boundOf 43 = .ok (.invokestatic 229, 3) := by decide +kernel
theorem dX12_boundOf_46 : decode cX12_boundOf 46 = .ok (.iadd, 1) := by decide +kernel
theorem dX12_boundOf_47 : decode cX12_boundOf 47 = .ok (.iaload, 1) := by decide +kernel
theorem dX12_boundOf_48 : decode cX12_boundOf 48 = .ok (.goto 15, 3) := by decide +kernel
theorem dX12_boundOf_51 : decode cX12_boundOf 51 = .ok (.iload_n 3, 1) := by decide +kernel
theorem dX12_boundOf_52 : decode cX12_boundOf 52 = .ok (.aload_n 0, 1) := by decide +kernel
theorem dX12_boundOf_53 : decode cX12_boundOf 53 = .ok (.getfield 37, 3) := by decide +kernel
theorem dX12_boundOf_56 : decode cX12_boundOf 56 = .ok (.iload_n 2, 1) := by decide +kernel
theorem dX12_boundOf_57 : decode cX12_boundOf 57 = .ok (.iload_n 1, 1) := by decide +kernel
theorem dX12_boundOf_58 : decode cX12_boundOf 58 = .ok (.invokestatic 229, 3) := by decide +kernel
theorem dX12_boundOf_61 : decode cX12_boundOf 61 = .ok (.iaload, 1) := by decide +kernel
theorem dX12_boundOf_62 : decode cX12_boundOf 62 = .ok (.iadd, 1) := by decide +kernel
theorem dX12_boundOf_63 : decode cX12_boundOf 63 = .ok (.ireturn, 1) := by decide +kernel
theorem dX12_cap_0 : decode cX12_cap 0 = .ok (.aload_n 0, 1) := by decide +kernel
theorem dX12_cap_1 : decode cX12_cap 1 = .ok (.iconst 0, 1) := by decide +kernel
theorem dX12_cap_2 : decode cX12_cap 2 = .ok (.putfield 1, 3) := by decide +kernel
theorem dX12_cap_5 : decode cX12_cap 5 = .ok (.aload_n 0, 1) := by decide +kernel
theorem dX12_cap_6 : decode cX12_cap 6 = .ok (.iload_n 1, 1) := by decide +kernel
theorem dX12_cap_7 : decode cX12_cap 7 = .ok (.iload_n 2, 1) := by decide +kernel
theorem dX12_cap_8 : decode cX12_cap 8 = .ok (.invokevirtual 201, 3) := by decide +kernel
theorem dX12_cap_11 : decode cX12_cap 11 = .ok (.ifCond .ne 6, 3) := by decide +kernel
theorem dX12_cap_14 : decode cX12_cap 14 = .ok (.bipush (-2), 2) := by decide +kernel
theorem dX12_cap_16 : decode cX12_cap 16 = .ok (.ireturn, 1) := by decide +kernel
theorem dX12_cap_17 : decode cX12_cap 17 = .ok (.iload_n 3, 1) := by decide +kernel
theorem dX12_cap_18 : decode cX12_cap 18 = .ok (.i2l, 1) := by decide +kernel
theorem dX12_cap_19 : decode cX12_cap 19 = .ok (.lconst 0, 1) := by decide +kernel
theorem dX12_cap_20 : decode cX12_cap 20 = .ok (.ldc2_w 221, 3) := by decide +kernel
theorem dX12_cap_23 : decode cX12_cap 23 = .ok (.invokestatic 103, 3) := by decide +kernel
theorem dX12_cap_26 : decode cX12_cap 26 = .ok (.ifCond .ne 6, 3) := by decide +kernel
theorem dX12_cap_29 : decode cX12_cap 29 = .ok (.bipush (-3), 2) := by decide +kernel
theorem dX12_cap_31 : decode cX12_cap 31 = .ok (.ireturn, 1) := by decide +kernel
theorem dX12_cap_32 : decode cX12_cap 32 = .ok (.aload_n 0, 1) := by decide +kernel
theorem dX12_cap_33 : decode cX12_cap 33 = .ok (.invokevirtual 210, 3) := by decide +kernel
theorem dX12_cap_36 : decode cX12_cap 36 = .ok (.aload_n 0, 1) := by decide +kernel
theorem dX12_cap_37 : decode cX12_cap 37 = .ok (.getfield 13, 3) := by decide +kernel
theorem dX12_cap_40 : decode cX12_cap 40 = .ok (.sipush 202, 3) := by decide +kernel
theorem dX12_cap_43 : decode cX12_cap 43 = .ok (.bipush 8, 2) := by decide +kernel
theorem dX12_cap_45 : decode cX12_cap 45 = .ok (.iload_n 1, 1) := by decide +kernel
theorem dX12_cap_46 : decode cX12_cap 46 = .ok (.imul, 1) := by decide +kernel
theorem dX12_cap_47 : decode cX12_cap 47 = .ok (.iadd, 1) := by decide +kernel
theorem dX12_cap_48 : decode cX12_cap 48 = .ok (.iload_n 2, 1) := by decide +kernel
theorem dX12_cap_49 : decode cX12_cap 49 = .ok (.iadd, 1) := by decide +kernel
theorem dX12_cap_50 : decode cX12_cap 50 = .ok (.iaload, 1) := by decide +kernel
theorem dX12_cap_51 : decode cX12_cap 51 = .ok (.istore 4, 2) := by decide +kernel
theorem dX12_cap_53 : decode cX12_cap 53 = .ok (.aload_n 0, 1) := by decide +kernel
theorem dX12_cap_54 : decode cX12_cap 54 = .ok (.getfield 13, 3) := by decide +kernel
theorem dX12_cap_57 : decode cX12_cap 57 = .ok (.sipush 202, 3) := by decide +kernel
theorem dX12_cap_60 : decode cX12_cap 60 = .ok (.bipush 8, 2) := by decide +kernel
theorem dX12_cap_62 : decode cX12_cap 62 = .ok (.iload_n 1, 1) := by decide +kernel
theorem dX12_cap_63 : decode cX12_cap 63 = .ok (.imul, 1) := by decide +kernel
theorem dX12_cap_64 : decode cX12_cap 64 = .ok (.iadd, 1) := by decide +kernel
theorem dX12_cap_65 : decode cX12_cap 65 = .ok (.iload_n 2, 1) := by decide +kernel
theorem dX12_cap_66 : decode cX12_cap 66 = .ok (.iadd, 1) := by decide +kernel
theorem dX12_cap_67 : decode cX12_cap 67 = .ok (.iload_n 3, 1) := by decide +kernel
theorem dX12_cap_68 : decode cX12_cap 68 = .ok (.iastore, 1) := by decide +kernel
theorem dX12_cap_69 : decode cX12_cap 69 = .ok (.iload 4, 2) := by decide +kernel
theorem dX12_cap_71 : decode cX12_cap 71 = .ok (.ireturn, 1) := by decide +kernel
theorem dX12_count_0 : decode cX12_count 0 = .ok (.aload_n 0, 1) := by decide +kernel
theorem dX12_count_1 : decode cX12_count 1 = .ok (.iconst 0, 1) := by decide +kernel
theorem dX12_count_2 : decode cX12_count 2 = .ok (.putfield 1, 3) := by decide +kernel
theorem dX12_count_5 : decode cX12_count 5 = .ok (.iload_n 1, 1) := by decide +kernel
theorem dX12_count_6 : decode cX12_count 6 = .ok (.tableswitch 81 0 6 #[42, 47, 52, 59, 64, 71, 76], 42) := by decide +kernel
theorem dX12_count_48 : decode cX12_count 48 = .ok (.aload_n 0, 1) := by decide +kernel
theorem dX12_count_49 : decode cX12_count 49 = .ok (.getfield 80, 3) := by decide +kernel
theorem dX12_count_52 : decode cX12_count 52 = .ok (.ireturn, 1) := by decide +kernel
theorem dX12_count_53 : decode cX12_count 53 = .ok (.aload_n 0, 1) := by decide +kernel
theorem dX12_count_54 : decode cX12_count 54 = .ok (.getfield 83, 3) := by decide +kernel
theorem dX12_count_57 : decode cX12_count 57 = .ok (.ireturn, 1) := by decide +kernel
theorem dX12_count_58 : decode cX12_count 58 = .ok (.aload_n 0, 1) := by decide +kernel
theorem dX12_count_59 : decode cX12_count 59 = .ok (.getfield 13, 3) := by decide +kernel
theorem dX12_count_62 : decode cX12_count 62 = .ok (.iconst 0, 1) := by decide +kernel
theorem dX12_count_63 : decode cX12_count 63 = .ok (.iaload, 1) := by decide +kernel
theorem dX12_count_64 : decode cX12_count 64 = .ok (.ireturn, 1) := by decide +kernel
theorem dX12_count_65 : decode cX12_count 65 = .ok (.aload_n 0, 1) := by decide +kernel
theorem dX12_count_66 : decode cX12_count 66 = .ok (.invokevirtual 357, 3) := by decide +kernel
theorem dX12_count_69 : decode cX12_count 69 = .ok (.ireturn, 1) := by decide +kernel
theorem dX12_count_70 : decode cX12_count 70 = .ok (.aload_n 0, 1) := by decide +kernel
theorem dX12_count_71 : decode cX12_count 71 = .ok (.getfield 13, 3) := by decide +kernel
theorem dX12_count_74 : decode cX12_count 74 = .ok (.iconst 1, 1) := by decide +kernel
theorem dX12_count_75 : decode cX12_count 75 = .ok (.iaload, 1) := by decide +kernel
theorem dX12_count_76 : decode cX12_count 76 = .ok (.ireturn, 1) := by decide +kernel
theorem dX12_count_77 : decode cX12_count 77 = .ok (.aload_n 0, 1) := by decide +kernel
theorem dX12_count_78 : decode cX12_count 78 = .ok (.getfield 195, 3) := by decide +kernel
theorem dX12_count_81 : decode cX12_count 81 = .ok (.ireturn, 1) := by decide +kernel
theorem dX12_count_82 : decode cX12_count 82 = .ok (.aload_n 0, 1) := by decide +kernel
theorem dX12_count_83 : decode cX12_count 83 = .ok (.getfield 87, 3) := by decide +kernel
theorem dX12_count_86 : decode cX12_count 86 = .ok (.ireturn, 1) := by decide +kernel
theorem dX12_count_87 : decode cX12_count 87 = .ok (.iconst (-1), 1) := by decide +kernel
theorem dX12_count_88 : decode cX12_count 88 = .ok (.ireturn, 1) := by decide +kernel
theorem dX12_couple_0 : decode cX12_couple 0 = .ok (.bipush 8, 2) := by decide +kernel
theorem dX12_couple_2 : decode cX12_couple 2 = .ok (.iload_n 0, 1) := by decide +kernel
theorem dX12_couple_3 : decode cX12_couple 3 = .ok (.imul, 1) := by decide +kernel
theorem dX12_couple_4 : decode cX12_couple 4 = .ok (.iload_n 1, 1) := by decide +kernel
theorem dX12_couple_5 : decode cX12_couple 5 = .ok (.iadd, 1) := by decide +kernel
theorem dX12_couple_6 : decode cX12_couple 6 = .ok (.ireturn, 1) := by decide +kernel
theorem dX12_drop_0 : decode cX12_drop 0 = .ok (.aload_n 0, 1) := by decide +kernel
theorem dX12_drop_1 : decode cX12_drop 1 = .ok (.iconst 0, 1) := by decide +kernel
theorem dX12_drop_2 : decode cX12_drop 2 = .ok (.putfield 1, 3) := by decide +kernel
theorem dX12_drop_5 : decode cX12_drop 5 = .ok (.aload_n 0, 1) := by decide +kernel
theorem dX12_drop_6 : decode cX12_drop 6 = .ok (.iload_n 1, 1) := by decide +kernel
theorem dX12_drop_7 : decode cX12_drop 7 = .ok (.invokevirtual 213, 3) := by decide +kernel
theorem dX12_drop_10 : decode cX12_drop 10 = .ok (.ifCond .ne 6, 3) := by decide +kernel
theorem dX12_drop_13 : decode cX12_drop 13 = .ok (.bipush (-2), 2) := by decide +kernel
theorem dX12_drop_15 : decode cX12_drop 15 = .ok (.ireturn, 1) := by decide +kernel
theorem dX12_drop_16 : decode cX12_drop 16 = .ok (.aload_n 0, 1) := by decide +kernel
theorem dX12_drop_17 : decode cX12_drop 17 = .ok (.invokevirtual 210, 3) := by decide +kernel
theorem dX12_drop_20 : decode cX12_drop 20 = .ok (.aload_n 0, 1) := by decide +kernel
theorem dX12_drop_21 : decode cX12_drop 21 = .ok (.iload_n 1, 1) := by decide +kernel
theorem dX12_drop_22 : decode cX12_drop 22 = .ok (.invokevirtual 216, 3) := by decide +kernel
theorem dX12_drop_25 : decode cX12_drop 25 = .ok (.aload_n 0, 1) := by decide +kernel
theorem dX12_drop_26 : decode cX12_drop 26 = .ok (.getfield 13, 3) := by decide +kernel
theorem dX12_drop_29 : decode cX12_drop 29 = .ok (.iconst 0, 1) := by decide +kernel
theorem dX12_drop_30 : decode cX12_drop 30 = .ok (.iaload, 1) := by decide +kernel
theorem dX12_drop_31 : decode cX12_drop 31 = .ok (.ireturn, 1) := by decide +kernel
theorem dX12_flow_0 : decode cX12_flow 0 = .ok (.aload_n 0, 1) := by decide +kernel
theorem dX12_flow_1 : decode cX12_flow 1 = .ok (.iconst 0, 1) := by decide +kernel
theorem dX12_flow_2 : decode cX12_flow 2 = .ok (.putfield 1, 3) := by decide +kernel
theorem dX12_flow_5 : decode cX12_flow 5 = .ok (.aload_n 0, 1) := by decide +kernel
theorem dX12_flow_6 : decode cX12_flow 6 = .ok (.iload_n 1, 1) := by decide +kernel
theorem dX12_flow_7 : decode cX12_flow 7 = .ok (.iload_n 2, 1) := by decide +kernel
theorem dX12_flow_8 : decode cX12_flow 8 = .ok (.invokevirtual 201, 3) := by decide +kernel
theorem dX12_flow_11 : decode cX12_flow 11 = .ok (.ifCond .eq 11, 3) := by decide +kernel
theorem dX12_flow_14 : decode cX12_flow 14 = .ok (.aload_n 0, 1) := by decide +kernel
theorem dX12_flow_15 : decode cX12_flow 15 = .ok (.iload_n 3, 1) := by decide +kernel
theorem dX12_flow_16 : decode cX12_flow 16 = .ok (.invokevirtual 205, 3) := by decide +kernel
theorem dX12_flow_19 : decode cX12_flow 19 = .ok (.ifCond .ne 6, 3) := by decide +kernel
theorem dX12_flow_22 : decode cX12_flow 22 = .ok (.bipush (-2), 2) := by decide +kernel
theorem dX12_flow_24 : decode cX12_flow 24 = .ok (.ireturn, 1) := by decide +kernel
theorem dX12_flow_25 : decode cX12_flow 25 = .ok (.aload_n 0, 1) := by decide +kernel
theorem dX12_flow_26 : decode cX12_flow 26 = .ok (.iload_n 3, 1) := by decide +kernel
theorem dX12_flow_27 : decode cX12_flow 27 = .ok (.iconst (-1), 1) := by decide +kernel
theorem dX12_flow_28 : decode cX12_flow 28 = .ok (.invokevirtual 234, 3) := by decide +kernel
theorem dX12_flow_31 : decode cX12_flow 31 = .ok (.aload_n 0, 1) := by decide +kernel
theorem dX12_flow_32 : decode cX12_flow 32 = .ok (.getfield 37, 3) := by decide +kernel
theorem dX12_flow_35 : decode cX12_flow 35 = .ok (.iload_n 1, 1) := by decide +kernel
theorem dX12_flow_36 : decode cX12_flow 36 = .ok (.iload_n 2, 1) := by decide +kernel
theorem dX12_flow_37 : decode cX12_flow 37 = .ok (.invokestatic 229, 3) := by decide +kernel
theorem dX12_flow_40 : decode cX12_flow 40 = .ok (.iaload, 1) := by decide +kernel
theorem dX12_flow_41 : decode cX12_flow 41 = .ok (.ireturn, 1) := by decide +kernel
theorem dX12_isFree_0 : decode cX12_isFree 0 = .ok (.aload_n 0, 1) := by decide +kernel
theorem dX12_isFree_1 : decode cX12_isFree 1 = .ok (.iload_n 1, 1) := by decide +kernel
theorem dX12_isFree_2 : decode cX12_isFree 2 = .ok (.iconst 3, 1) := by decide +kernel
theorem dX12_isFree_3 : decode cX12_isFree 3 = .ok (.invokevirtual 174, 3) := by decide +kernel
theorem dX12_isFree_6 : decode cX12_isFree 6 = .ok (.iload_n 2, 1) := by decide +kernel
theorem dX12_isFree_7 : decode cX12_isFree 7 = .ok (.if_icmp .ne 16, 3) := by decide +kernel
theorem dX12_isFree_10 : decode cX12_isFree 10 = .ok (.aload_n 0, 1) := by decide +kernel
theorem dX12_isFree_11 : decode cX12_isFree 11 = .ok (.iload_n 1, 1) := by decide +kernel
theorem dX12_isFree_12 : decode cX12_isFree 12 = .ok (.iconst 4, 1) := by decide +kernel
theorem dX12_isFree_13 : decode cX12_isFree 13 = .ok (.invokevirtual 174, 3) := by decide +kernel
theorem dX12_isFree_16 : decode cX12_isFree 16 = .ok (.ifCond .ne 7, 3) := by decide +kernel
theorem dX12_isFree_19 : decode cX12_isFree 19 = .ok (.iconst 1, 1) := by decide +kernel
theorem dX12_isFree_20 : decode cX12_isFree 20 = .ok (.goto 4, 3) := by decide +kernel
theorem dX12_isFree_23 : decode cX12_isFree 23 = .ok (.iconst 0, 1) := by decide +kernel
theorem dX12_isFree_24 : decode cX12_isFree 24 = .ok (.ireturn, 1) := by decide +kernel
theorem dX12_isKind_0 : decode cX12_isKind 0 = .ok (.iload_n 1, 1) := by decide +kernel
theorem dX12_isKind_1 : decode cX12_isKind 1 = .ok (.i2l, 1) := by decide +kernel
theorem dX12_isKind_2 : decode cX12_isKind 2 = .ok (.lconst 0, 1) := by decide +kernel
theorem dX12_isKind_3 : decode cX12_isKind 3 = .ok (.aload_n 0, 1) := by decide +kernel
theorem dX12_isKind_4 : decode cX12_isKind 4 = .ok (.getfield 83, 3) := by decide +kernel
theorem dX12_isKind_7 : decode cX12_isKind 7 = .ok (.iconst 1, 1) := by decide +kernel
theorem dX12_isKind_8 : decode cX12_isKind 8 = .ok (.isub, 1) := by decide +kernel
theorem dX12_isKind_9 : decode cX12_isKind 9 = .ok (.i2l, 1) := by decide +kernel
theorem dX12_isKind_10 : decode cX12_isKind 10 = .ok (.invokestatic 103, 3) := by decide +kernel
theorem dX12_isKind_13 : decode cX12_isKind 13 = .ok (.ireturn, 1) := by decide +kernel
theorem dX12_isOf_0 : decode cX12_isOf 0 = .ok (.aload_n 0, 1) := by decide +kernel
theorem dX12_isOf_1 : decode cX12_isOf 1 = .ok (.iload_n 1, 1) := by decide +kernel
theorem dX12_isOf_2 : decode cX12_isOf 2 = .ok (.iconst 0, 1) := by decide +kernel
theorem dX12_isOf_3 : decode cX12_isOf 3 = .ok (.invokevirtual 174, 3) := by decide +kernel
theorem dX12_isOf_6 : decode cX12_isOf 6 = .ok (.iload_n 2, 1) := by decide +kernel
theorem dX12_isOf_7 : decode cX12_isOf 7 = .ok (.if_icmp .eq 13, 3) := by decide +kernel
theorem dX12_isOf_10 : decode cX12_isOf 10 = .ok (.aload_n 0, 1) := by decide +kernel
theorem dX12_isOf_11 : decode cX12_isOf 11 = .ok (.iload_n 1, 1) := by decide +kernel
theorem dX12_isOf_12 : decode cX12_isOf 12 = .ok (.iconst 1, 1) := by decide +kernel
theorem dX12_isOf_13 : decode cX12_isOf 13 = .ok (.invokevirtual 174, 3) := by decide +kernel
theorem dX12_isOf_16 : decode cX12_isOf 16 = .ok (.iload_n 2, 1) := by decide +kernel
theorem dX12_isOf_17 : decode cX12_isOf 17 = .ok (.if_icmp .ne 7, 3) := by decide +kernel
theorem dX12_isOf_20 : decode cX12_isOf 20 = .ok (.iconst 1, 1) := by decide +kernel
theorem dX12_isOf_21 : decode cX12_isOf 21 = .ok (.goto 4, 3) := by decide +kernel
theorem dX12_isOf_24 : decode cX12_isOf 24 = .ok (.iconst 0, 1) := by decide +kernel
theorem dX12_isOf_25 : decode cX12_isOf 25 = .ok (.ireturn, 1) := by decide +kernel
theorem dX12_isParty_0 : decode cX12_isParty 0 = .ok (.iload_n 1, 1) := by decide +kernel
theorem dX12_isParty_1 : decode cX12_isParty 1 = .ok (.i2l, 1) := by decide +kernel
theorem dX12_isParty_2 : decode cX12_isParty 2 = .ok (.lconst 0, 1) := by decide +kernel
theorem dX12_isParty_3 : decode cX12_isParty 3 = .ok (.aload_n 0, 1) := by decide +kernel
theorem dX12_isParty_4 : decode cX12_isParty 4 = .ok (.getfield 80, 3) := by decide +kernel
theorem dX12_isParty_7 : decode cX12_isParty 7 = .ok (.iconst 1, 1) := by decide +kernel
theorem dX12_isParty_8 : decode cX12_isParty 8 = .ok (.isub, 1) := by decide +kernel
theorem dX12_isParty_9 : decode cX12_isParty 9 = .ok (.i2l, 1) := by decide +kernel
theorem dX12_isParty_10 : decode cX12_isParty 10 = .ok (.invokestatic 103, 3) := by decide +kernel
theorem dX12_isParty_13 : decode cX12_isParty 13 = .ok (.ireturn, 1) := by decide +kernel
theorem dX12_isTrade_0 : decode cX12_isTrade 0 = .ok (.iload_n 1, 1) := by decide +kernel
theorem dX12_isTrade_1 : decode cX12_isTrade 1 = .ok (.i2l, 1) := by decide +kernel
theorem dX12_isTrade_2 : decode cX12_isTrade 2 = .ok (.lconst 0, 1) := by decide +kernel
theorem dX12_isTrade_3 : decode cX12_isTrade 3 = .ok (.aload_n 0, 1) := by decide +kernel
theorem dX12_isTrade_4 : decode cX12_isTrade 4 = .ok (.getfield 13, 3) := by decide +kernel
theorem dX12_isTrade_7 : decode cX12_isTrade 7 = .ok (.iconst 0, 1) := by decide +kernel
theorem dX12_isTrade_8 : decode cX12_isTrade 8 = .ok (.iaload, 1) := by decide +kernel
theorem dX12_isTrade_9 : decode cX12_isTrade 9 = .ok (.iconst 1, 1) := by decide +kernel
theorem dX12_isTrade_10 : decode cX12_isTrade 10 = .ok (.isub, 1) := by decide +kernel
theorem dX12_isTrade_11 : decode cX12_isTrade 11 = .ok (.i2l, 1) := by decide +kernel
theorem dX12_isTrade_12 : decode cX12_isTrade 12 = .ok (.invokestatic 103, 3) := by decide +kernel
theorem dX12_isTrade_15 : decode cX12_isTrade 15 = .ok (.ireturn, 1) := by decide +kernel
theorem dX12_keep_0 : decode cX12_keep 0 = .ok (.aload_n 0, 1) := by decide +kernel
theorem dX12_keep_1 : decode cX12_keep 1 = .ok (.iconst 0, 1) := by decide +kernel
theorem dX12_keep_2 : decode cX12_keep 2 = .ok (.putfield 1, 3) := by decide +kernel
theorem dX12_keep_5 : decode cX12_keep 5 = .ok (.aload_n 0, 1) := by decide +kernel
theorem dX12_keep_6 : decode cX12_keep 6 = .ok (.iload_n 1, 1) := by decide +kernel
theorem dX12_keep_7 : decode cX12_keep 7 = .ok (.invokevirtual 213, 3) := by decide +kernel
theorem dX12_keep_10 : decode cX12_keep 10 = .ok (.ifCond .ne 6, 3) := by decide +kernel
theorem dX12_keep_13 : decode cX12_keep 13 = .ok (.bipush (-2), 2) := by decide +kernel
theorem dX12_keep_15 : decode cX12_keep 15 = .ok (.ireturn, 1) := by decide +kernel
theorem dX12_keep_16 : decode cX12_keep 16 = .ok (.aload_n 0, 1) := by decide +kernel
theorem dX12_keep_17 : decode cX12_keep 17 = .ok (.invokevirtual 210, 3) := by decide +kernel
theorem dX12_keep_20 : decode cX12_keep 20 = .ok (.aload_n 0, 1) := by decide +kernel
theorem dX12_keep_21 : decode cX12_keep 21 = .ok (.getfield 13, 3) := by decide +kernel
theorem dX12_keep_24 : decode cX12_keep 24 = .ok (.iconst 2, 1) := by decide +kernel
theorem dX12_keep_25 : decode cX12_keep 25 = .ok (.iconst 5, 1) := by decide +kernel
theorem dX12_keep_26 : decode cX12_keep 26 = .ok (.iload_n 1, 1) := by decide +kernel
theorem dX12_keep_27 : decode cX12_keep 27 = .ok (.imul, 1) := by decide +kernel
theorem dX12_keep_28 : decode cX12_keep 28 = .ok (.iadd, 1) := by decide +kernel
theorem dX12_keep_29 : decode cX12_keep 29 = .ok (.iconst 4, 1) := by decide +kernel
theorem dX12_keep_30 : decode cX12_keep 30 = .ok (.iadd, 1) := by decide +kernel
theorem dX12_keep_31 : decode cX12_keep 31 = .ok (.iconst 1, 1) := by decide +kernel
theorem dX12_keep_32 : decode cX12_keep 32 = .ok (.aload_n 0, 1) := by decide +kernel
theorem dX12_keep_33 : decode cX12_keep 33 = .ok (.iload_n 1, 1) := by decide +kernel
theorem dX12_keep_34 : decode cX12_keep 34 = .ok (.iconst 4, 1) := by decide +kernel
theorem dX12_keep_35 : decode cX12_keep 35 = .ok (.invokevirtual 174, 3) := by decide +kernel
theorem dX12_keep_38 : decode cX12_keep 38 = .ok (.isub, 1) := by decide +kernel
theorem dX12_keep_39 : decode cX12_keep 39 = .ok (.iastore, 1) := by decide +kernel
theorem dX12_keep_40 : decode cX12_keep 40 = .ok (.aload_n 0, 1) := by decide +kernel
theorem dX12_keep_41 : decode cX12_keep 41 = .ok (.iload_n 1, 1) := by decide +kernel
theorem dX12_keep_42 : decode cX12_keep 42 = .ok (.iconst 4, 1) := by decide +kernel
theorem dX12_keep_43 : decode cX12_keep 43 = .ok (.invokevirtual 174, 3) := by decide +kernel
theorem dX12_keep_46 : decode cX12_keep 46 = .ok (.ireturn, 1) := by decide +kernel
theorem dX12_keptMany_0 : decode cX12_keptMany 0 = .ok (.iconst 0, 1) := by decide +kernel
theorem dX12_keptMany_1 : decode cX12_keptMany 1 = .ok (.istore_n 1, 1) := by decide +kernel
theorem dX12_keptMany_2 : decode cX12_keptMany 2 = .ok (.iconst 0, 1) := by decide +kernel
theorem dX12_keptMany_3 : decode cX12_keptMany 3 = .ok (.istore_n 2, 1) := by decide +kernel
theorem dX12_keptMany_4 : decode cX12_keptMany 4 = .ok (.iload_n 2, 1) := by decide +kernel
theorem dX12_keptMany_5 : decode cX12_keptMany 5 = .ok (.aload_n 0, 1) := by decide +kernel
theorem dX12_keptMany_6 : decode cX12_keptMany 6 = .ok (.getfield 13, 3) := by decide +kernel
theorem dX12_keptMany_9 : decode cX12_keptMany 9 = .ok (.iconst 0, 1) := by decide +kernel
theorem dX12_keptMany_10 : decode cX12_keptMany 10 = .ok (.iaload, 1) := by decide +kernel
theorem dX12_keptMany_11 : decode cX12_keptMany 11 = .ok (.if_icmp .ge 18, 3) := by decide +kernel
theorem dX12_keptMany_14 : decode cX12_keptMany 14 = .ok (.iload_n 1, 1) := by decide +kernel
theorem dX12_keptMany_15 : decode cX12_keptMany 15 = .ok (.aload_n 0, 1) := by decide +kernel
theorem dX12_keptMany_16 : decode cX12_keptMany 16 = .ok (.iload_n 2, 1) := by decide +kernel
theorem dX12_keptMany_17 : decode cX12_keptMany 17 = .ok (.iconst 4, 1) := by decide +kernel
theorem dX12_keptMany_18 : decode cX12_keptMany 18 = .ok (.invokevirtual 174, 3) := by decide +kernel
theorem dX12_keptMany_21 : decode cX12_keptMany 21 = .ok (.iadd, 1) := by decide +kernel
theorem dX12_keptMany_22 : decode cX12_keptMany 22 = .ok (.istore_n 1, 1) := by decide +kernel
theorem dX12_keptMany_23 : decode cX12_keptMany 23 = .ok (.iinc 2 1, 3) := by decide +kernel
theorem dX12_keptMany_26 : decode cX12_keptMany 26 = .ok (.goto (-22), 3) := by decide +kernel
theorem dX12_keptMany_29 : decode cX12_keptMany 29 = .ok (.iload_n 1, 1) := by decide +kernel
theorem dX12_keptMany_30 : decode cX12_keptMany 30 = .ok (.ireturn, 1) := by decide +kernel
theorem dX12_laysFlows_0 : decode cX12_laysFlows 0 = .ok (.iconst 0, 1) := by decide +kernel
theorem dX12_laysFlows_1 : decode cX12_laysFlows 1 = .ok (.istore_n 3, 1) := by decide +kernel
theorem dX12_laysFlows_2 : decode cX12_laysFlows 2 = .ok (.iload_n 3, 1) := by decide +kernel
theorem dX12_laysFlows_3 : decode cX12_laysFlows 3 = .ok (.bipush 64, 2) := by decide +kernel
theorem dX12_laysFlows_5 : decode cX12_laysFlows 5 = .ok (.if_icmp .ge 16, 3) := by decide +kernel
theorem dX12_laysFlows_8 : decode cX12_laysFlows 8 = .ok (.aload_n 0, 1) := by decide +kernel
theorem dX12_laysFlows_9 : decode cX12_laysFlows 9 = .ok (.getfield 37, 3) := by decide +kernel
theorem dX12_laysFlows_12 : decode cX12_laysFlows 12 = .ok (.iload_n 3, 1) := by decide +kernel
theorem dX12_laysFlows_13 : decode cX12_laysFlows 13 = .ok (.iconst 0, 1) := by decide +kernel
theorem dX12_laysFlows_14 : decode cX12_laysFlows 14 = .ok (.iastore, 1) := by decide +kernel
theorem dX12_laysFlows_15 : decode cX12_laysFlows 15 = .ok (.iinc 3 1, 3) := by decide +kernel
theorem dX12_laysFlows_18 : decode cX12_laysFlows 18 = .ok (.goto (-16), 3) := by decide +kernel
theorem dX12_laysFlows_21 : decode cX12_laysFlows 21 = .ok (.iconst 0, 1) := by decide +kernel
theorem dX12_laysFlows_22 : decode cX12_laysFlows 22 = .ok (.istore_n 3, 1) := by decide +kernel
theorem dX12_laysFlows_23 : decode cX12_laysFlows 23 = .ok (.iload_n 3, 1) := by decide +kernel
theorem dX12_laysFlows_24 : decode cX12_laysFlows 24 = .ok (.aload_n 0, 1) := by decide +kernel
theorem dX12_laysFlows_25 : decode cX12_laysFlows 25 = .ok (.getfield 13, 3) := by decide +kernel
theorem dX12_laysFlows_28 : decode cX12_laysFlows 28 = .ok (.iconst 0, 1) := by decide +kernel
theorem dX12_laysFlows_29 : decode cX12_laysFlows 29 = .ok (.iaload, 1) := by decide +kernel
theorem dX12_laysFlows_30 : decode cX12_laysFlows 30 = .ok (.if_icmp .ge 56, 3) := by decide +kernel
theorem dX12_laysFlows_33 : decode cX12_laysFlows 33 = .ok (.aload_n 0, 1) := by decide +kernel
theorem dX12_laysFlows_34 : decode cX12_laysFlows 34 = .ok (.iload_n 3, 1) := by decide +kernel
theorem dX12_laysFlows_35 : decode cX12_laysFlows 35 = .ok (.iload_n 1, 1) := by decide +kernel
theorem dX12_laysFlows_36 : decode cX12_laysFlows 36 = .ok (.invokevirtual 223, 3) := by decide +kernel
theorem dX12_laysFlows_39 : decode cX12_laysFlows 39 = .ok (.ifCond .eq 41, 3) := by decide +kernel
theorem dX12_laysFlows_42 : decode cX12_laysFlows 42 = .ok (.aload_n 0, 1) := by decide +kernel
theorem dX12_laysFlows_43 : decode cX12_laysFlows 43 = .ok (.iload_n 3, 1) := by decide +kernel
theorem dX12_laysFlows_44 : decode cX12_laysFlows 44 = .ok (.iload_n 2, 1) := by decide +kernel
theorem dX12_laysFlows_45 : decode cX12_laysFlows 45 = .ok (.invokevirtual 226, 3) := by decide +kernel
theorem dX12_laysFlows_48 : decode cX12_laysFlows 48 = .ok (.ifCond .ne 32, 3) := by decide +kernel
theorem dX12_laysFlows_51 : decode cX12_laysFlows 51 = .ok (.aload_n 0, 1) := by decide +kernel
theorem dX12_laysFlows_52 : decode cX12_laysFlows 52 = .ok (.getfield 37, 3) := by decide +kernel
theorem dX12_laysFlows_55 : decode cX12_laysFlows 55 = .ok (.aload_n 0, 1) := by decide +kernel
theorem dX12_laysFlows_56 : decode cX12_laysFlows 56 = .ok (.iload_n 3, 1) := by decide +kernel
theorem dX12_laysFlows_57 : decode cX12_laysFlows 57 = .ok (.iconst 0, 1) := by decide +kernel
theorem dX12_laysFlows_58 : decode cX12_laysFlows 58 = .ok (.invokevirtual 174, 3) := by decide +kernel
theorem dX12_laysFlows_61 : decode cX12_laysFlows 61 = .ok (.aload_n 0, 1) := by decide +kernel
theorem dX12_laysFlows_62 : decode cX12_laysFlows 62 = .ok (.iload_n 3, 1) := by decide +kernel
theorem dX12_laysFlows_63 : decode cX12_laysFlows 63 = .ok (.iconst 1, 1) := by decide +kernel
theorem dX12_laysFlows_64 : decode cX12_laysFlows 64 = .ok (.invokevirtual 174, 3) := by decide +kernel
theorem dX12_laysFlows_67 : decode cX12_laysFlows 67 = .ok (.invokestatic 229, 3) := by decide +kernel
theorem dX12_laysFlows_70 : decode cX12_laysFlows 70 = .ok (.dup2, 1) := by decide +kernel
theorem dX12_laysFlows_71 : decode cX12_laysFlows 71 = .ok (.iaload, 1) := by decide +kernel
theorem dX12_laysFlows_72 : decode cX12_laysFlows 72 = .ok (.aload_n 0, 1) := by decide +kernel
theorem dX12_laysFlows_73 : decode cX12_laysFlows 73 = .ok (.iload_n 3, 1) := by decide +kernel
theorem dX12_laysFlows_74 : decode cX12_laysFlows 74 = .ok (.iconst 2, 1) := by decide +kernel
theorem dX12_laysFlows_75 : decode cX12_laysFlows 75 = .ok (.invokevirtual 174, 3) := by decide +kernel
theorem dX12_laysFlows_78 : decode cX12_laysFlows 78 = .ok (.iadd, 1) := by decide +kernel
theorem dX12_laysFlows_79 : decode cX12_laysFlows 79 = .ok (.iastore, 1) := by decide +kernel
theorem dX12_laysFlows_80 : decode cX12_laysFlows 80 = .ok (.iinc 3 1, 3) := by decide +kernel
theorem dX12_laysFlows_83 : decode cX12_laysFlows 83 = .ok (.goto (-60), 3) := by decide +kernel
theorem dX12_laysFlows_86 : decode cX12_laysFlows 86 = .ok (.return_, 1) := by decide +kernel
theorem dX12_mode_0 : decode cX12_mode 0 = .ok (.aload_n 0, 1) := by decide +kernel
theorem dX12_mode_1 : decode cX12_mode 1 = .ok (.iconst 0, 1) := by decide +kernel
theorem dX12_mode_2 : decode cX12_mode 2 = .ok (.putfield 1, 3) := by decide +kernel
theorem dX12_mode_5 : decode cX12_mode 5 = .ok (.iload_n 1, 1) := by decide +kernel
theorem dX12_mode_6 : decode cX12_mode 6 = .ok (.i2l, 1) := by decide +kernel
theorem dX12_mode_7 : decode cX12_mode 7 = .ok (.lconst 0, 1) := by decide +kernel
theorem dX12_mode_8 : decode cX12_mode 8 = .ok (.ldc2_w 219, 3) := by decide +kernel
theorem dX12_mode_11 : decode cX12_mode 11 = .ok (.invokestatic 103, 3) := by decide +kernel
theorem dX12_mode_14 : decode cX12_mode 14 = .ok (.ifCond .ne 6, 3) := by decide +kernel
theorem dX12_mode_17 : decode cX12_mode 17 = .ok (.bipush (-3), 2) := by decide +kernel
theorem dX12_mode_19 : decode cX12_mode 19 = .ok (.ireturn, 1) := by decide +kernel
theorem dX12_mode_20 : decode cX12_mode 20 = .ok (.aload_n 0, 1) := by decide +kernel
theorem dX12_mode_21 : decode cX12_mode 21 = .ok (.invokevirtual 210, 3) := by decide +kernel
theorem dX12_mode_24 : decode cX12_mode 24 = .ok (.aload_n 0, 1) := by decide +kernel
theorem dX12_mode_25 : decode cX12_mode 25 = .ok (.getfield 13, 3) := by decide +kernel
theorem dX12_mode_28 : decode cX12_mode 28 = .ok (.iconst 1, 1) := by decide +kernel
theorem dX12_mode_29 : decode cX12_mode 29 = .ok (.iaload, 1) := by decide +kernel
theorem dX12_mode_30 : decode cX12_mode 30 = .ok (.istore_n 2, 1) := by decide +kernel
theorem dX12_mode_31 : decode cX12_mode 31 = .ok (.aload_n 0, 1) := by decide +kernel
theorem dX12_mode_32 : decode cX12_mode 32 = .ok (.getfield 13, 3) := by decide +kernel
theorem dX12_mode_35 : decode cX12_mode 35 = .ok (.iconst 1, 1) := by decide +kernel
theorem dX12_mode_36 : decode cX12_mode 36 = .ok (.iload_n 1, 1) := by decide +kernel
theorem dX12_mode_37 : decode cX12_mode 37 = .ok (.iastore, 1) := by decide +kernel
theorem dX12_mode_38 : decode cX12_mode 38 = .ok (.iload_n 2, 1) := by decide +kernel
theorem dX12_mode_39 : decode cX12_mode 39 = .ok (.ireturn, 1) := by decide +kernel
theorem dX12_net_0 : decode cX12_net 0 = .ok (.aload_n 0, 1) := by decide +kernel
theorem dX12_net_1 : decode cX12_net 1 = .ok (.iconst 0, 1) := by decide +kernel
theorem dX12_net_2 : decode cX12_net 2 = .ok (.putfield 1, 3) := by decide +kernel
theorem dX12_net_5 : decode cX12_net 5 = .ok (.aload_n 0, 1) := by decide +kernel
theorem dX12_net_6 : decode cX12_net 6 = .ok (.iload_n 1, 1) := by decide +kernel
theorem dX12_net_7 : decode cX12_net 7 = .ok (.invokevirtual 198, 3) := by decide +kernel
theorem dX12_net_10 : decode cX12_net 10 = .ok (.ifCond .eq 11, 3) := by decide +kernel
theorem dX12_net_13 : decode cX12_net 13 = .ok (.aload_n 0, 1) := by decide +kernel
theorem dX12_net_14 : decode cX12_net 14 = .ok (.iload_n 2, 1) := by decide +kernel
theorem dX12_net_15 : decode cX12_net 15 = .ok (.invokevirtual 205, 3) := by decide +kernel
theorem dX12_net_18 : decode cX12_net 18 = .ok (.ifCond .ne 6, 3) := by decide +kernel
theorem dX12_net_21 : decode cX12_net 21 = .ok (.bipush (-2), 2) := by decide +kernel
theorem dX12_net_23 : decode cX12_net 23 = .ok (.ireturn, 1) := by decide +kernel
theorem dX12_net_24 : decode cX12_net 24 = .ok (.aload_n 0, 1) := by decide +kernel
theorem dX12_net_25 : decode cX12_net 25 = .ok (.iload_n 2, 1) := by decide +kernel
theorem dX12_net_26 : decode cX12_net 26 = .ok (.iconst (-1), 1) := by decide +kernel
theorem dX12_net_27 : decode cX12_net 27 = .ok (.invokevirtual 234, 3) := by decide +kernel
theorem dX12_net_30 : decode cX12_net 30 = .ok (.ldc 237, 2) := by decide +kernel
theorem dX12_net_32 : decode cX12_net 32 = .ok (.iload_n 3, 1) := by decide +kernel
theorem dX12_net_33 : decode cX12_net 33 = .ok (.ifCond .eq 11, 3) := by decide +kernel
theorem dX12_net_36 : decode cX12_net 36 = .ok (.aload_n 0, 1) := by decide +kernel
theorem dX12_net_37 : decode cX12_net 37 = .ok (.iload_n 1, 1) := by decide +kernel
theorem dX12_net_38 : decode cX12_net 38 = .ok (.invokevirtual 238, 3) := by decide +kernel
theorem dX12_net_41 : decode cX12_net 41 = .ok (.goto 18, 3) := by decide +kernel
theorem dX12_net_44 : decode cX12_net 44 = .ok (.aload_n 0, 1) := by decide +kernel
theorem dX12_net_45 : decode cX12_net 45 = .ok (.iload_n 1, 1) := by decide +kernel
theorem dX12_net_46 : decode cX12_net 46 = .ok (.iload_n 2, 1) := by decide +kernel
theorem dX12_net_47 : decode cX12_net 47 = .ok (.iconst 0, 1) := by decide +kernel
theorem dX12_net_48 : decode cX12_net 48 = .ok (.invokevirtual 241, 3) := by decide +kernel
theorem dX12_net_51 : decode cX12_net 51 = .ok (.aload_n 0, 1) := by decide +kernel
theorem dX12_net_52 : decode cX12_net 52 = .ok (.iload_n 1, 1) := by decide +kernel
theorem dX12_net_53 : decode cX12_net 53 = .ok (.iload_n 2, 1) := by decide +kernel
theorem dX12_net_54 : decode cX12_net 54 = .ok (.iconst 1, 1) := by decide +kernel
theorem dX12_net_55 : decode cX12_net 55 = .ok (.invokevirtual 241, 3) := by decide +kernel
theorem dX12_net_58 : decode cX12_net 58 = .ok (.isub, 1) := by decide +kernel
theorem dX12_net_59 : decode cX12_net 59 = .ok (.iadd, 1) := by decide +kernel
theorem dX12_net_60 : decode cX12_net 60 = .ok (.ireturn, 1) := by decide +kernel
theorem dX12_netBy_0 : decode cX12_netBy 0 = .ok (.iconst 0, 1) := by decide +kernel
theorem dX12_netBy_1 : decode cX12_netBy 1 = .ok (.istore_n 2, 1) := by decide +kernel
theorem dX12_netBy_2 : decode cX12_netBy 2 = .ok (.iconst 0, 1) := by decide +kernel
theorem dX12_netBy_3 : decode cX12_netBy 3 = .ok (.istore_n 3, 1) := by decide +kernel
theorem dX12_netBy_4 : decode cX12_netBy 4 = .ok (.iload_n 3, 1) := by decide +kernel
theorem dX12_netBy_5 : decode cX12_netBy 5 = .ok (.aload_n 0, 1) := by decide +kernel
theorem dX12_netBy_6 : decode cX12_netBy 6 = .ok (.getfield 80, 3) := by decide +kernel
theorem dX12_netBy_9 : decode cX12_netBy 9 = .ok (.if_icmp .ge 33, 3) := by decide +kernel
theorem dX12_netBy_12 : decode cX12_netBy 12 = .ok (.iload_n 2, 1) := by decide +kernel
theorem dX12_netBy_13 : decode cX12_netBy 13 = .ok (.aload_n 0, 1) := by decide +kernel
theorem dX12_netBy_14 : decode cX12_netBy 14 = .ok (.getfield 37, 3) := by decide +kernel
theorem dX12_netBy_17 : decode cX12_netBy 17 = .ok (.iload_n 1, 1) := by decide +kernel
theorem dX12_netBy_18 : decode cX12_netBy 18 = .ok (.iload_n 3, 1) := by decide +kernel
theorem dX12_netBy_19 : decode cX12_netBy 19 = .ok (.invokestatic 229, 3) := by decide +kernel
theorem dX12_netBy_22 : decode cX12_netBy 22 = .ok (.iaload, 1) := by decide +kernel
theorem dX12_netBy_23 : decode cX12_netBy 23 = .ok (.aload_n 0, 1) := by decide +kernel
theorem dX12_netBy_24 : decode cX12_netBy 24 = .ok (.getfield 37, 3) := by decide +kernel
theorem dX12_netBy_27 : decode cX12_netBy 27 = .ok (.iload_n 3, 1) := by decide +kernel
theorem dX12_netBy_28 : decode cX12_netBy 28 = .ok (.iload_n 1, 1) := by decide +kernel
theorem dX12_netBy_29 : decode cX12_netBy 29 = .ok (.invokestatic 229, 3) := by decide +kernel
theorem dX12_netBy_32 : decode cX12_netBy 32 = .ok (.iaload, 1) := by decide +kernel
theorem dX12_netBy_33 : decode cX12_netBy 33 = .ok (.isub, 1) := by decide +kernel
theorem dX12_netBy_34 : decode cX12_netBy 34 = .ok (.iadd, 1) := by decide +kernel
theorem dX12_netBy_35 : decode cX12_netBy 35 = .ok (.istore_n 2, 1) := by decide +kernel
theorem dX12_netBy_36 : decode cX12_netBy 36 = .ok (.iinc 3 1, 3) := by decide +kernel
theorem dX12_netBy_39 : decode cX12_netBy 39 = .ok (.goto (-35), 3) := by decide +kernel
theorem dX12_netBy_42 : decode cX12_netBy 42 = .ok (.iload_n 2, 1) := by decide +kernel
theorem dX12_netBy_43 : decode cX12_netBy 43 = .ok (.ireturn, 1) := by decide +kernel
theorem dX12_positive_0 : decode cX12_positive 0 = .ok (.iconst 0, 1) := by decide +kernel
theorem dX12_positive_1 : decode cX12_positive 1 = .ok (.istore_n 1, 1) := by decide +kernel
theorem dX12_positive_2 : decode cX12_positive 2 = .ok (.iconst 0, 1) := by decide +kernel
theorem dX12_positive_3 : decode cX12_positive 3 = .ok (.istore_n 2, 1) := by decide +kernel
theorem dX12_positive_4 : decode cX12_positive 4 = .ok (.iload_n 2, 1) := by decide +kernel
theorem dX12_positive_5 : decode cX12_positive 5 = .ok (.bipush 64, 2) := by decide +kernel
theorem dX12_positive_7 : decode cX12_positive 7 = .ok (.if_icmp .ge 26, 3) := by decide +kernel
theorem dX12_positive_10 : decode cX12_positive 10 = .ok (.iload_n 1, 1) := by decide +kernel
theorem dX12_positive_11 : decode cX12_positive 11 = .ok (.aload_n 0, 1) := by decide +kernel
theorem dX12_positive_12 : decode cX12_positive 12 = .ok (.getfield 37, 3) := by decide +kernel
theorem dX12_positive_15 : decode cX12_positive 15 = .ok (.iload_n 2, 1) := by decide +kernel
theorem dX12_positive_16 : decode cX12_positive 16 = .ok (.iaload, 1) := by decide +kernel
theorem dX12_positive_17 : decode cX12_positive 17 = .ok (.ifCond .le 7, 3) := by decide +kernel
theorem dX12_positive_20 : decode cX12_positive 20 = .ok (.iconst 1, 1) := by decide +kernel
theorem dX12_positive_21 : decode cX12_positive 21 = .ok (.goto 4, 3) := by decide +kernel
theorem dX12_positive_24 : decode cX12_positive 24 = .ok (.iconst 0, 1) := by decide +kernel
theorem dX12_positive_25 : decode cX12_positive 25 = .ok (.iadd, 1) := by decide +kernel
theorem dX12_positive_26 : decode cX12_positive 26 = .ok (.istore_n 1, 1) := by decide +kernel
theorem dX12_positive_27 : decode cX12_positive 27 = .ok (.iinc 2 1, 3) := by decide +kernel
theorem dX12_positive_30 : decode cX12_positive 30 = .ok (.goto (-26), 3) := by decide +kernel
theorem dX12_positive_33 : decode cX12_positive 33 = .ok (.iload_n 1, 1) := by decide +kernel
theorem dX12_positive_34 : decode cX12_positive 34 = .ok (.ireturn, 1) := by decide +kernel
theorem dX12_remembers_0 : decode cX12_remembers 0 = .ok (.aload_n 0, 1) := by decide +kernel
theorem dX12_remembers_1 : decode cX12_remembers 1 = .ok (.getfield 195, 3) := by decide +kernel
theorem dX12_remembers_4 : decode cX12_remembers 4 = .ok (.bipush 10, 2) := by decide +kernel
theorem dX12_remembers_6 : decode cX12_remembers 6 = .ok (.if_icmp .ne 44, 3) := by decide +kernel
theorem dX12_remembers_9 : decode cX12_remembers 9 = .ok (.iconst 0, 1) := by decide +kernel
theorem dX12_remembers_10 : decode cX12_remembers 10 = .ok (.istore_n 1, 1) := by decide +kernel
theorem dX12_remembers_11 : decode cX12_remembers 11 = .ok (.iload_n 1, 1) := by decide +kernel
theorem dX12_remembers_12 : decode cX12_remembers 12 = .ok (.sipush 2394, 3) := by decide +kernel
theorem dX12_remembers_15 : decode cX12_remembers 15 = .ok (.if_icmp .ge 25, 3) := by decide +kernel
theorem dX12_remembers_18 : decode cX12_remembers 18 = .ok (.aload_n 0, 1) := by decide +kernel
theorem dX12_remembers_19 : decode cX12_remembers 19 = .ok (.getfield 20, 3) := by decide +kernel
theorem dX12_remembers_22 : decode cX12_remembers 22 = .ok (.iload_n 1, 1) := by decide +kernel
theorem dX12_remembers_23 : decode cX12_remembers 23 = .ok (.aload_n 0, 1) := by decide +kernel
theorem dX12_remembers_24 : decode cX12_remembers 24 = .ok (.getfield 20, 3) := by decide +kernel
theorem dX12_remembers_27 : decode cX12_remembers 27 = .ok (.iload_n 1, 1) := by decide +kernel
theorem dX12_remembers_28 : decode cX12_remembers 28 = .ok (.sipush 266, 3) := by decide +kernel
theorem dX12_remembers_31 : decode cX12_remembers 31 = .ok (.iadd, 1) := by decide +kernel
theorem dX12_remembers_32 : decode cX12_remembers 32 = .ok (.iaload, 1) := by decide +kernel
theorem dX12_remembers_33 : decode cX12_remembers 33 = .ok (.iastore, 1) := by decide +kernel
theorem dX12_remembers_34 : decode cX12_remembers 34 = .ok (.iinc 1 1, 3) := by decide +kernel
theorem dX12_remembers_37 : decode cX12_remembers 37 = .ok (.goto (-26), 3) := by decide +kernel
theorem dX12_remembers_40 : decode cX12_remembers 40 = .ok (.aload_n 0, 1) := by decide +kernel
theorem dX12_remembers_41 : decode cX12_remembers 41 = .ok (.dup, 1) := by decide +kernel
theorem dX12_remembers_42 : decode cX12_remembers 42 = .ok (.getfield 195, 3) := by decide +kernel
theorem dX12_remembers_45 : decode cX12_remembers 45 = .ok (.iconst 1, 1) := by decide +kernel
theorem dX12_remembers_46 : decode cX12_remembers 46 = .ok (.isub, 1) := by decide +kernel
theorem dX12_remembers_47 : decode cX12_remembers 47 = .ok (.putfield 195, 3) := by decide +kernel
theorem dX12_remembers_50 : decode cX12_remembers 50 = .ok (.iconst 0, 1) := by decide +kernel
theorem dX12_remembers_51 : decode cX12_remembers 51 = .ok (.istore_n 1, 1) := by decide +kernel
theorem dX12_remembers_52 : decode cX12_remembers 52 = .ok (.iload_n 1, 1) := by decide +kernel
theorem dX12_remembers_53 : decode cX12_remembers 53 = .ok (.sipush 266, 3) := by decide +kernel
theorem dX12_remembers_56 : decode cX12_remembers 56 = .ok (.if_icmp .ge 30, 3) := by decide +kernel
theorem dX12_remembers_59 : decode cX12_remembers 59 = .ok (.aload_n 0, 1) := by decide +kernel
theorem dX12_remembers_60 : decode cX12_remembers 60 = .ok (.getfield 20, 3) := by decide +kernel
theorem dX12_remembers_63 : decode cX12_remembers 63 = .ok (.sipush 266, 3) := by decide +kernel
theorem dX12_remembers_66 : decode cX12_remembers 66 = .ok (.aload_n 0, 1) := by decide +kernel
theorem dX12_remembers_67 : decode cX12_remembers 67 = .ok (.getfield 195, 3) := by decide +kernel
theorem dX12_remembers_70 : decode cX12_remembers 70 = .ok (.imul, 1) := by decide +kernel
theorem dX12_remembers_71 : decode cX12_remembers 71 = .ok (.iload_n 1, 1) := by decide +kernel
theorem dX12_remembers_72 : decode cX12_remembers 72 = .ok (.iadd, 1) := by decide +kernel
theorem dX12_remembers_73 : decode cX12_remembers 73 = .ok (.aload_n 0, 1) := by decide +kernel
theorem dX12_remembers_74 : decode cX12_remembers 74 = .ok (.getfield 13, 3) := by decide +kernel
theorem dX12_remembers_77 : decode cX12_remembers 77 = .ok (.iload_n 1, 1) := by decide +kernel
theorem dX12_remembers_78 : decode cX12_remembers 78 = .ok (.iaload, 1) := by decide +kernel
theorem dX12_remembers_79 : decode cX12_remembers 79 = .ok (.iastore, 1) := by decide +kernel
theorem dX12_remembers_80 : decode cX12_remembers 80 = .ok (.iinc 1 1, 3) := by decide +kernel
theorem dX12_remembers_83 : decode cX12_remembers 83 = .ok (.goto (-31), 3) := by decide +kernel
theorem dX12_remembers_86 : decode cX12_remembers 86 = .ok (.aload_n 0, 1) := by decide +kernel
theorem dX12_remembers_87 : decode cX12_remembers 87 = .ok (.dup, 1) := by decide +kernel
theorem dX12_remembers_88 : decode cX12_remembers 88 = .ok (.getfield 195, 3) := by decide +kernel
theorem dX12_remembers_91 : decode cX12_remembers 91 = .ok (.iconst 1, 1) := by decide +kernel
theorem dX12_remembers_92 : decode cX12_remembers 92 = .ok (.iadd, 1) := by decide +kernel
theorem dX12_remembers_93 : decode cX12_remembers 93 = .ok (.putfield 195, 3) := by decide +kernel
theorem dX12_remembers_96 : decode cX12_remembers 96 = .ok (.return_, 1) := by decide +kernel
theorem dX12_side_0 : decode cX12_side 0 = .ok (.aload_n 0, 1) := by decide +kernel
theorem dX12_side_1 : decode cX12_side 1 = .ok (.iconst 0, 1) := by decide +kernel
theorem dX12_side_2 : decode cX12_side 2 = .ok (.putfield 1, 3) := by decide +kernel
theorem dX12_side_5 : decode cX12_side 5 = .ok (.aload_n 0, 1) := by decide +kernel
theorem dX12_side_6 : decode cX12_side 6 = .ok (.iload_n 1, 1) := by decide +kernel
theorem dX12_side_7 : decode cX12_side 7 = .ok (.invokevirtual 198, 3) := by decide +kernel
theorem dX12_side_10 : decode cX12_side 10 = .ok (.ifCond .eq 23, 3) := by decide +kernel
theorem dX12_side_13 : decode cX12_side 13 = .ok (.aload_n 0, 1) := by decide +kernel
theorem dX12_side_14 : decode cX12_side 14 = .ok (.iload_n 2, 1) := by decide +kernel
theorem dX12_side_15 : decode cX12_side 15 = .ok (.invokevirtual 205, 3) := by decide +kernel
theorem dX12_side_18 : decode cX12_side 18 = .ok (.ifCond .eq 15, 3) := by decide +kernel
theorem dX12_side_21 : decode cX12_side 21 = .ok (.iload_n 3, 1) := by decide +kernel
theorem dX12_side_22 : decode cX12_side 22 = .ok (.i2l, 1) := by decide +kernel
theorem dX12_side_23 : decode cX12_side 23 = .ok (.lconst 0, 1) := by decide +kernel
theorem dX12_side_24 : decode cX12_side 24 = .ok (.ldc2_w 245, 3) := by decide +kernel
theorem dX12_side_27 : decode cX12_side 27 = .ok (.invokestatic 103, 3) := by decide +kernel
theorem dX12_side_30 : decode cX12_side 30 = .ok (.ifCond .ne 6, 3) := by decide +kernel
theorem dX12_side_33 : decode cX12_side 33 = .ok (.bipush (-2), 2) := by decide +kernel
theorem dX12_side_35 : decode cX12_side 35 = .ok (.ireturn, 1) := by decide +kernel
theorem dX12_side_36 : decode cX12_side 36 = .ok (.iload_n 3, 1) := by decide +kernel
theorem dX12_side_37 : decode cX12_side 37 = .ok (.iconst 2, 1) := by decide +kernel
theorem dX12_side_38 : decode cX12_side 38 = .ok (.if_icmp .ge 11, 3) := by decide +kernel
theorem dX12_side_41 : decode cX12_side 41 = .ok (.aload_n 0, 1) := by decide +kernel
theorem dX12_side_42 : decode cX12_side 42 = .ok (.iload_n 1, 1) := by decide +kernel
theorem dX12_side_43 : decode cX12_side 43 = .ok (.iload_n 2, 1) := by decide +kernel
theorem dX12_side_44 : decode cX12_side 44 = .ok (.iload_n 3, 1) := by decide +kernel
theorem dX12_side_45 : decode cX12_side 45 = .ok (.invokevirtual 241, 3) := by decide +kernel
theorem dX12_side_48 : decode cX12_side 48 = .ok (.ireturn, 1) := by decide +kernel
theorem dX12_side_49 : decode cX12_side 49 = .ok (.iconst 0, 1) := by decide +kernel
theorem dX12_side_50 : decode cX12_side 50 = .ok (.istore 4, 2) := by decide +kernel
theorem dX12_side_52 : decode cX12_side 52 = .ok (.iconst 0, 1) := by decide +kernel
theorem dX12_side_53 : decode cX12_side 53 = .ok (.istore 5, 2) := by decide +kernel
theorem dX12_side_55 : decode cX12_side 55 = .ok (.iload 5, 2) := by decide +kernel
theorem dX12_side_57 : decode cX12_side 57 = .ok (.aload_n 0, 1) := by decide +kernel
theorem dX12_side_58 : decode cX12_side 58 = .ok (.getfield 13, 3) := by decide +kernel
theorem dX12_side_61 : decode cX12_side 61 = .ok (.iconst 0, 1) := by decide +kernel
theorem dX12_side_62 : decode cX12_side 62 = .ok (.iaload, 1) := by decide +kernel
theorem dX12_side_63 : decode cX12_side 63 = .ok (.if_icmp .ge 54, 3) := by decide +kernel
theorem dX12_side_66 : decode cX12_side 66 = .ok (.aload_n 0, 1) := by decide +kernel
theorem dX12_side_67 : decode cX12_side 67 = .ok (.iload 5, 2) := by decide +kernel
theorem dX12_side_69 : decode cX12_side 69 = .ok (.iconst 3, 1) := by decide +kernel
theorem dX12_side_70 : decode cX12_side 70 = .ok (.invokevirtual 174, 3) := by decide +kernel
theorem dX12_side_73 : decode cX12_side 73 = .ok (.iload_n 2, 1) := by decide +kernel
theorem dX12_side_74 : decode cX12_side 74 = .ok (.if_icmp .ne 37, 3) := by decide +kernel
theorem dX12_side_77 : decode cX12_side 77 = .ok (.aload_n 0, 1) := by decide +kernel
theorem dX12_side_78 : decode cX12_side 78 = .ok (.iload 5, 2) := by decide +kernel
theorem dX12_side_80 : decode cX12_side 80 = .ok (.iload_n 1, 1) := by decide +kernel
theorem dX12_side_81 : decode cX12_side 81 = .ok (.invokevirtual 226, 3) := by decide +kernel
theorem dX12_side_84 : decode cX12_side 84 = .ok (.ifCond .eq 27, 3) := by decide +kernel
theorem dX12_side_87 : decode cX12_side 87 = .ok (.iload 4, 2) := by decide +kernel
theorem dX12_side_89 : decode cX12_side 89 = .ok (.iconst 1, 1) := by decide +kernel
theorem dX12_side_90 : decode cX12_side 90 = .ok (.aload_n 0, 1) := by decide +kernel
theorem dX12_side_91 : decode cX12_side 91 = .ok (.iload 5, 2) := by decide +kernel
theorem dX12_side_93 : decode cX12_side 93 = .ok (.iconst 0, 1) := by decide +kernel
theorem dX12_side_94 : decode cX12_side 94 = .ok (.invokevirtual 174, 3) := by decide +kernel
theorem dX12_side_97 : decode cX12_side 97 = .ok (.aload_n 0, 1) := by decide +kernel
theorem dX12_side_98 : decode cX12_side 98 = .ok (.iload 5, 2) := by decide +kernel
theorem dX12_side_100 : decode cX12_side 100 = .ok (.iconst 1, 1) := by decide +kernel
theorem dX12_side_101 : decode cX12_side 101 = .ok (.invokevirtual 174, 3) := by decide +kernel
theorem dX12_side_104 : decode cX12_side 104 = .ok (.iadd, 1) := by decide +kernel
theorem dX12_side_105 : decode cX12_side 105 = .ok (.iload_n 1, 1) := by decide +kernel
theorem dX12_side_106 : decode cX12_side 106 = .ok (.isub, 1) := by decide +kernel
theorem dX12_side_107 : decode cX12_side 107 = .ok (.ishl, 1) := by decide +kernel
theorem dX12_side_108 : decode cX12_side 108 = .ok (.ior, 1) := by decide +kernel
theorem dX12_side_109 : decode cX12_side 109 = .ok (.istore 4, 2) := by decide +kernel
theorem dX12_side_111 : decode cX12_side 111 = .ok (.iinc 5 1, 3) := by decide +kernel
theorem dX12_side_114 : decode cX12_side 114 = .ok (.goto (-59), 3) := by decide +kernel
theorem dX12_side_117 : decode cX12_side 117 = .ok (.iload 4, 2) := by decide +kernel
theorem dX12_side_119 : decode cX12_side 119 = .ok (.invokestatic 247, 3) := by decide +kernel
theorem dX12_side_122 : decode cX12_side 122 = .ok (.ireturn, 1) := by decide +kernel
theorem dX12_sumOf_0 : decode cX12_sumOf 0 = .ok (.iconst 0, 1) := by decide +kernel
theorem dX12_sumOf_1 : decode cX12_sumOf 1 = .ok (.istore_n 1, 1) := by decide +kernel
theorem dX12_sumOf_2 : decode cX12_sumOf 2 = .ok (.iconst 0, 1) := by decide +kernel
theorem dX12_sumOf_3 : decode cX12_sumOf 3 = .ok (.istore_n 2, 1) := by decide +kernel
theorem dX12_sumOf_4 : decode cX12_sumOf 4 = .ok (.iload_n 2, 1) := by decide +kernel
theorem dX12_sumOf_5 : decode cX12_sumOf 5 = .ok (.bipush 64, 2) := by decide +kernel
theorem dX12_sumOf_7 : decode cX12_sumOf 7 = .ok (.if_icmp .ge 18, 3) := by decide +kernel
theorem dX12_sumOf_10 : decode cX12_sumOf 10 = .ok (.iload_n 1, 1) := by decide +kernel
theorem dX12_sumOf_11 : decode cX12_sumOf 11 = .ok (.aload_n 0, 1) := by decide +kernel
theorem dX12_sumOf_12 : decode cX12_sumOf 12 = .ok (.getfield 49, 3) := by decide +kernel
theorem dX12_sumOf_15 : decode cX12_sumOf 15 = .ok (.iload_n 2, 1) := by decide +kernel
theorem dX12_sumOf_16 : decode cX12_sumOf 16 = .ok (.iaload, 1) := by decide +kernel
theorem dX12_sumOf_17 : decode cX12_sumOf 17 = .ok (.iadd, 1) := by decide +kernel
theorem dX12_sumOf_18 : decode cX12_sumOf 18 = .ok (.istore_n 1, 1) := by decide +kernel
theorem dX12_sumOf_19 : decode cX12_sumOf 19 = .ok (.iinc 2 1, 3) := by decide +kernel
theorem dX12_sumOf_22 : decode cX12_sumOf 22 = .ok (.goto (-18), 3) := by decide +kernel
theorem dX12_sumOf_25 : decode cX12_sumOf 25 = .ok (.iload_n 1, 1) := by decide +kernel
theorem dX12_sumOf_26 : decode cX12_sumOf 26 = .ok (.ireturn, 1) := by decide +kernel
theorem dX12_sumOfFlows_0 : decode cX12_sumOfFlows 0 = .ok (.iconst 0, 1) := by decide +kernel
theorem dX12_sumOfFlows_1 : decode cX12_sumOfFlows 1 = .ok (.istore_n 1, 1) := by decide +kernel
theorem dX12_sumOfFlows_2 : decode cX12_sumOfFlows 2 = .ok (.iconst 0, 1) := by decide +kernel
theorem dX12_sumOfFlows_3 : decode cX12_sumOfFlows 3 = .ok (.istore_n 2, 1) := by decide +kernel
theorem dX12_sumOfFlows_4 : decode cX12_sumOfFlows 4 = .ok (.iload_n 2, 1) := by decide +kernel
theorem dX12_sumOfFlows_5 : decode cX12_sumOfFlows 5 = .ok (.bipush 64, 2) := by decide +kernel
theorem dX12_sumOfFlows_7 : decode cX12_sumOfFlows 7 = .ok (.if_icmp .ge 18, 3) := by decide +kernel
theorem dX12_sumOfFlows_10 : decode cX12_sumOfFlows 10 = .ok (.iload_n 1, 1) := by decide +kernel
theorem dX12_sumOfFlows_11 : decode cX12_sumOfFlows 11 = .ok (.aload_n 0, 1) := by decide +kernel
theorem dX12_sumOfFlows_12 : decode cX12_sumOfFlows 12 = .ok (.getfield 37, 3) := by decide +kernel
theorem dX12_sumOfFlows_15 : decode cX12_sumOfFlows 15 = .ok (.iload_n 2, 1) := by decide +kernel
theorem dX12_sumOfFlows_16 : decode cX12_sumOfFlows 16 = .ok (.iaload, 1) := by decide +kernel
theorem dX12_sumOfFlows_17 : decode cX12_sumOfFlows 17 = .ok (.iadd, 1) := by decide +kernel
theorem dX12_sumOfFlows_18 : decode cX12_sumOfFlows 18 = .ok (.istore_n 1, 1) := by decide +kernel
theorem dX12_sumOfFlows_19 : decode cX12_sumOfFlows 19 = .ok (.iinc 2 1, 3) := by decide +kernel
theorem dX12_sumOfFlows_22 : decode cX12_sumOfFlows 22 = .ok (.goto (-18), 3) := by decide +kernel
theorem dX12_sumOfFlows_25 : decode cX12_sumOfFlows 25 = .ok (.iload_n 1, 1) := by decide +kernel
theorem dX12_sumOfFlows_26 : decode cX12_sumOfFlows 26 = .ok (.ireturn, 1) := by decide +kernel
theorem dX12_throughBy_0 : decode cX12_throughBy 0 = .ok (.iconst 0, 1) := by decide +kernel
theorem dX12_throughBy_1 : decode cX12_throughBy 1 = .ok (.istore_n 2, 1) := by decide +kernel
theorem dX12_throughBy_2 : decode cX12_throughBy 2 = .ok (.iconst 0, 1) := by decide +kernel
theorem dX12_throughBy_3 : decode cX12_throughBy 3 = .ok (.istore_n 3, 1) := by decide +kernel
theorem dX12_throughBy_4 : decode cX12_throughBy 4 = .ok (.iconst 0, 1) := by decide +kernel
theorem dX12_throughBy_5 : decode cX12_throughBy 5 = .ok (.istore 4, 2) := by decide +kernel
theorem dX12_throughBy_7 : decode cX12_throughBy 7 = .ok (.iload 4, 2) := by decide +kernel
theorem dX12_throughBy_9 : decode cX12_throughBy 9 = .ok (.bipush 8, 2) := by decide +kernel
theorem dX12_throughBy_11 : decode cX12_throughBy 11 = .ok (.if_icmp .ge 31, 3) := by decide +kernel
theorem dX12_throughBy_14 : decode cX12_throughBy 14 = .ok (.iload_n 2, 1) := by decide +kernel
theorem dX12_throughBy_15 : decode cX12_throughBy 15 = .ok (.aload_n 0, 1) := by decide +kernel
theorem dX12_throughBy_16 : decode cX12_throughBy 16 = .ok (.iload_n 1, 1) := by decide +kernel
theorem dX12_throughBy_17 : decode cX12_throughBy 17 = .ok (.iload 4, 2) := by decide +kernel
theorem dX12_throughBy_19 : decode cX12_throughBy 19 = .ok (.invokestatic 229, 3) := by decide +kernel
theorem dX12_throughBy_22 : decode cX12_throughBy 22 = .ok (.iaload, 1) := by decide +kernel
theorem dX12_throughBy_23 : decode cX12_throughBy 23 = .ok (.iadd, 1) := by decide +kernel
theorem dX12_throughBy_24 : decode cX12_throughBy 24 = .ok (.istore_n 2, 1) := by decide +kernel
theorem dX12_throughBy_25 : decode cX12_throughBy 25 = .ok (.iload_n 3, 1) := by decide +kernel
theorem dX12_throughBy_26 : decode cX12_throughBy 26 = .ok (.aload_n 0, 1) := by decide +kernel
theorem dX12_throughBy_27 : decode cX12_throughBy 27 = .ok (.iload 4, 2) := by decide +kernel
theorem dX12_throughBy_29 : decode cX12_throughBy 29 = .ok (.iload_n 1, 1) := by decide +kernel
theorem dX12_throughBy_30 : decode cX12_throughBy 30 = .ok (.invokestatic 229, 3) := by decide +kernel
theorem dX12_throughBy_33 : decode cX12_throughBy 33 = .ok (.iaload, 1) := by decide +kernel
theorem dX12_throughBy_34 : decode cX12_throughBy 34 = .ok (.iadd, 1) := by decide +kernel
theorem dX12_throughBy_35 : decode cX12_throughBy 35 = .ok (.istore_n 3, 1) := by decide +kernel
theorem dX12_throughBy_36 : decode cX12_throughBy 36 = .ok (.iinc 4 1, 3) := by decide +kernel
theorem dX12_throughBy_39 : decode cX12_throughBy 39 = .ok (.goto (-32), 3) := by decide +kernel
theorem dX12_throughBy_42 : decode cX12_throughBy 42 = .ok (.iload_n 2, 1) := by decide +kernel
theorem dX12_throughBy_43 : decode cX12_throughBy 43 = .ok (.iload_n 3, 1) := by decide +kernel
theorem dX12_throughBy_44 : decode cX12_throughBy 44 = .ok (.if_icmp .ge 7, 3) := by decide +kernel
theorem dX12_throughBy_47 : decode cX12_throughBy 47 = .ok (.iload_n 2, 1) := by decide +kernel
theorem dX12_throughBy_48 : decode cX12_throughBy 48 = .ok (.goto 4, 3) := by decide +kernel
theorem dX12_throughBy_51 : decode cX12_throughBy 51 = .ok (.iload_n 3, 1) := by decide +kernel
theorem dX12_throughBy_52 : decode cX12_throughBy 52 = .ok (.ireturn, 1) := by decide +kernel
theorem dX12_total_0 : decode cX12_total 0 = .ok (.aload_n 0, 1) := by decide +kernel
theorem dX12_total_1 : decode cX12_total 1 = .ok (.iconst 0, 1) := by decide +kernel
theorem dX12_total_2 : decode cX12_total 2 = .ok (.putfield 1, 3) := by decide +kernel
theorem dX12_total_5 : decode cX12_total 5 = .ok (.aload_n 0, 1) := by decide +kernel
theorem dX12_total_6 : decode cX12_total 6 = .ok (.iload_n 1, 1) := by decide +kernel
theorem dX12_total_7 : decode cX12_total 7 = .ok (.invokevirtual 205, 3) := by decide +kernel
theorem dX12_total_10 : decode cX12_total 10 = .ok (.ifCond .eq 15, 3) := by decide +kernel
theorem dX12_total_13 : decode cX12_total 13 = .ok (.iload_n 2, 1) := by decide +kernel
theorem dX12_total_14 : decode cX12_total 14 = .ok (.i2l, 1) := by decide +kernel
theorem dX12_total_15 : decode cX12_total 15 = .ok (.lconst 0, 1) := by decide +kernel
theorem dX12_total_16 : decode cX12_total 16 = .ok (.ldc2_w 219, 3) := by decide +kernel
theorem dX12_total_19 : decode cX12_total 19 = .ok (.invokestatic 103, 3) := by decide +kernel
theorem dX12_total_22 : decode cX12_total 22 = .ok (.ifCond .ne 6, 3) := by decide +kernel
theorem dX12_total_25 : decode cX12_total 25 = .ok (.bipush (-2), 2) := by decide +kernel
theorem dX12_total_27 : decode cX12_total 27 = .ok (.ireturn, 1) := by decide +kernel
theorem dX12_total_28 : decode cX12_total 28 = .ok (.aload_n 0, 1) := by decide +kernel
theorem dX12_total_29 : decode cX12_total 29 = .ok (.iload_n 1, 1) := by decide +kernel
theorem dX12_total_30 : decode cX12_total 30 = .ok (.iconst (-1), 1) := by decide +kernel
theorem dX12_total_31 : decode cX12_total 31 = .ok (.invokevirtual 234, 3) := by decide +kernel
theorem dX12_total_34 : decode cX12_total 34 = .ok (.iconst 0, 1) := by decide +kernel
theorem dX12_total_35 : decode cX12_total 35 = .ok (.istore_n 3, 1) := by decide +kernel
theorem dX12_total_36 : decode cX12_total 36 = .ok (.iload_n 2, 1) := by decide +kernel
theorem dX12_total_37 : decode cX12_total 37 = .ok (.ifCond .ne 8, 3) := by decide +kernel
theorem dX12_total_40 : decode cX12_total 40 = .ok (.aload_n 0, 1) := by decide +kernel
theorem dX12_total_41 : decode cX12_total 41 = .ok (.invokevirtual 252, 3) := by decide +kernel
theorem dX12_total_44 : decode cX12_total 44 = .ok (.istore_n 3, 1) := by decide +kernel
theorem dX12_total_45 : decode cX12_total 45 = .ok (.iload_n 2, 1) := by decide +kernel
theorem dX12_total_46 : decode cX12_total 46 = .ok (.iconst 2, 1) := by decide +kernel
theorem dX12_total_47 : decode cX12_total 47 = .ok (.if_icmp .ne 59, 3) := by decide +kernel
theorem dX12_total_50 : decode cX12_total 50 = .ok (.iconst 0, 1) := by decide +kernel
theorem dX12_total_51 : decode cX12_total 51 = .ok (.istore 4, 2) := by decide +kernel
theorem dX12_total_53 : decode cX12_total 53 = .ok (.iload 4, 2) := by decide +kernel
theorem dX12_total_55 : decode cX12_total 55 = .ok (.aload_n 0, 1) := by decide +kernel
theorem dX12_total_56 : decode cX12_total 56 = .ok (.getfield 13, 3) := by decide +kernel
theorem dX12_total_59 : decode cX12_total 59 = .ok (.iconst 0, 1) := by decide +kernel
theorem dX12_total_60 : decode cX12_total 60 = .ok (.iaload, 1) := by decide +kernel
theorem dX12_total_61 : decode cX12_total 61 = .ok (.if_icmp .ge 45, 3) := by decide +kernel
theorem dX12_total_64 : decode cX12_total 64 = .ok (.iload_n 3, 1) := by decide +kernel
theorem dX12_total_65 : decode cX12_total 65 = .ok (.aload_n 0, 1) := by decide +kernel
theorem dX12_total_66 : decode cX12_total 66 = .ok (.iload 4, 2) := by decide +kernel
theorem dX12_total_68 : decode cX12_total 68 = .ok (.iconst 3, 1) := by decide +kernel
theorem dX12_total_69 : decode cX12_total 69 = .ok (.invokevirtual 174, 3) := by decide +kernel
theorem dX12_total_72 : decode cX12_total 72 = .ok (.iload_n 1, 1) := by decide +kernel
theorem dX12_total_73 : decode cX12_total 73 = .ok (.if_icmp .ne 24, 3) := by decide +kernel
theorem dX12_total_76 : decode cX12_total 76 = .ok (.aload_n 0, 1) := by decide +kernel
theorem dX12_total_77 : decode cX12_total 77 = .ok (.iload 4, 2) := by decide +kernel
theorem dX12_total_79 : decode cX12_total 79 = .ok (.iconst 4, 1) := by decide +kernel
theorem dX12_total_80 : decode cX12_total 80 = .ok (.invokevirtual 174, 3) := by decide +kernel
theorem dX12_total_83 : decode cX12_total 83 = .ok (.iconst 1, 1) := by decide +kernel
theorem dX12_total_84 : decode cX12_total 84 = .ok (.if_icmp .ne 13, 3) := by decide +kernel
theorem dX12_total_87 : decode cX12_total 87 = .ok (.aload_n 0, 1) := by decide +kernel
theorem dX12_total_88 : decode cX12_total 88 = .ok (.iload 4, 2) := by decide +kernel
theorem dX12_total_90 : decode cX12_total 90 = .ok (.iconst 2, 1) := by decide +kernel
theorem dX12_total_91 : decode cX12_total 91 = .ok (.invokevirtual 174, 3) := by decide +kernel
theorem dX12_total_94 : decode cX12_total 94 = .ok (.goto 4, 3) := by decide +kernel
theorem dX12_total_97 : decode cX12_total 97 = .ok (.iconst 0, 1) := by decide +kernel
theorem dX12_total_98 : decode cX12_total 98 = .ok (.iadd, 1) := by decide +kernel
theorem dX12_total_99 : decode cX12_total 99 = .ok (.istore_n 3, 1) := by decide +kernel
theorem dX12_total_100 : decode cX12_total 100 = .ok (.iinc 4 1, 3) := by decide +kernel
theorem dX12_total_103 : decode cX12_total 103 = .ok (.goto (-50), 3) := by decide +kernel
theorem dX12_total_106 : decode cX12_total 106 = .ok (.iload_n 2, 1) := by decide +kernel
theorem dX12_total_107 : decode cX12_total 107 = .ok (.iconst 3, 1) := by decide +kernel
theorem dX12_total_108 : decode cX12_total 108 = .ok (.if_icmp .ne 43, 3) := by decide +kernel
theorem dX12_total_111 : decode cX12_total 111 = .ok (.iconst 0, 1) := by decide +kernel
theorem dX12_total_112 : decode cX12_total 112 = .ok (.istore 4, 2) := by decide +kernel
theorem dX12_total_114 : decode cX12_total 114 = .ok (.iload 4, 2) := by decide +kernel
theorem dX12_total_116 : decode cX12_total 116 = .ok (.aload_n 0, 1) := by decide +kernel
theorem dX12_total_117 : decode cX12_total 117 = .ok (.getfield 80, 3) := by decide +kernel
theorem dX12_total_120 : decode cX12_total 120 = .ok (.if_icmp .ge 31, 3) := by decide +kernel
theorem dX12_total_123 : decode cX12_total 123 = .ok (.iload_n 3, 1) := by decide +kernel
theorem dX12_total_124 : decode cX12_total 124 = .ok (.aload_n 0, 1) := by decide +kernel
theorem dX12_total_125 : decode cX12_total 125 = .ok (.iload 4, 2) := by decide +kernel
theorem dX12_total_127 : decode cX12_total 127 = .ok (.invokevirtual 238, 3) := by decide +kernel
theorem dX12_total_130 : decode cX12_total 130 = .ok (.ifCond .le 12, 3) := by decide +kernel
theorem dX12_total_133 : decode cX12_total 133 = .ok (.aload_n 0, 1) := by decide +kernel
theorem dX12_total_134 : decode cX12_total 134 = .ok (.iload 4, 2) := by decide +kernel
theorem dX12_total_136 : decode cX12_total 136 = .ok (.invokevirtual 238, 3) := by decide +kernel
theorem dX12_total_139 : decode cX12_total 139 = .ok (.goto 4, 3) := by decide +kernel
theorem dX12_total_142 : decode cX12_total 142 = .ok (.iconst 0, 1) := by decide +kernel
theorem dX12_total_143 : decode cX12_total 143 = .ok (.iadd, 1) := by decide +kernel
theorem dX12_total_144 : decode cX12_total 144 = .ok (.istore_n 3, 1) := by decide +kernel
theorem dX12_total_145 : decode cX12_total 145 = .ok (.iinc 4 1, 3) := by decide +kernel
theorem dX12_total_148 : decode cX12_total 148 = .ok (.goto (-34), 3) := by decide +kernel
theorem dX12_total_151 : decode cX12_total 151 = .ok (.iload_n 2, 1) := by decide +kernel
theorem dX12_total_152 : decode cX12_total 152 = .ok (.iconst 1, 1) := by decide +kernel
theorem dX12_total_153 : decode cX12_total 153 = .ok (.if_icmp .ne 10, 3) := by decide +kernel
theorem dX12_total_156 : decode cX12_total 156 = .ok (.aload_n 0, 1) := by decide +kernel
theorem dX12_total_157 : decode cX12_total 157 = .ok (.invokevirtual 255, 3) := by decide +kernel
theorem dX12_total_160 : decode cX12_total 160 = .ok (.goto 4, 3) := by decide +kernel
theorem dX12_total_163 : decode cX12_total 163 = .ok (.iload_n 3, 1) := by decide +kernel
theorem dX12_total_164 : decode cX12_total 164 = .ok (.ireturn, 1) := by decide +kernel
theorem dX12_trade_0 : decode cX12_trade 0 = .ok (.aload_n 0, 1) := by decide +kernel
theorem dX12_trade_1 : decode cX12_trade 1 = .ok (.iconst 0, 1) := by decide +kernel
theorem dX12_trade_2 : decode cX12_trade 2 = .ok (.putfield 1, 3) := by decide +kernel
theorem dX12_trade_5 : decode cX12_trade 5 = .ok (.aload_n 0, 1) := by decide +kernel
theorem dX12_trade_6 : decode cX12_trade 6 = .ok (.iload_n 1, 1) := by decide +kernel
theorem dX12_trade_7 : decode cX12_trade 7 = .ok (.iload_n 2, 1) := by decide +kernel
theorem dX12_trade_8 : decode cX12_trade 8 = .ok (.invokevirtual 201, 3) := by decide +kernel
theorem dX12_trade_11 : decode cX12_trade 11 = .ok (.ifCond .eq 12, 3) := by decide +kernel
theorem dX12_trade_14 : decode cX12_trade 14 = .ok (.aload_n 0, 1) := by decide +kernel
theorem dX12_trade_15 : decode cX12_trade 15 = .ok (.iload 4, 2) := by decide +kernel
theorem dX12_trade_17 : decode cX12_trade 17 = .ok (.invokevirtual 205, 3) := by decide +kernel
theorem dX12_trade_20 : decode cX12_trade 20 = .ok (.ifCond .ne 6, 3) := by decide +kernel
theorem dX12_trade_23 : decode cX12_trade 23 = .ok (.bipush (-2), 2) := by decide +kernel
theorem dX12_trade_25 : decode cX12_trade 25 = .ok (.ireturn, 1) := by decide +kernel
theorem dX12_trade_26 : decode cX12_trade 26 = .ok (.iload_n 3, 1) := by decide +kernel
theorem dX12_trade_27 : decode cX12_trade 27 = .ok (.i2l, 1) := by decide +kernel
theorem dX12_trade_28 : decode cX12_trade 28 = .ok (.lconst 1, 1) := by decide +kernel
theorem dX12_trade_29 : decode cX12_trade 29 = .ok (.ldc2_w 208, 3) := by decide +kernel
theorem dX12_trade_32 : decode cX12_trade 32 = .ok (.invokestatic 103, 3) := by decide +kernel
theorem dX12_trade_35 : decode cX12_trade 35 = .ok (.ifCond .ne 6, 3) := by decide +kernel
theorem dX12_trade_38 : decode cX12_trade 38 = .ok (.bipush (-3), 2) := by decide +kernel
theorem dX12_trade_40 : decode cX12_trade 40 = .ok (.ireturn, 1) := by decide +kernel
theorem dX12_trade_41 : decode cX12_trade 41 = .ok (.aload_n 0, 1) := by decide +kernel
theorem dX12_trade_42 : decode cX12_trade 42 = .ok (.getfield 13, 3) := by decide +kernel
theorem dX12_trade_45 : decode cX12_trade 45 = .ok (.iconst 0, 1) := by decide +kernel
theorem dX12_trade_46 : decode cX12_trade 46 = .ok (.iaload, 1) := by decide +kernel
theorem dX12_trade_47 : decode cX12_trade 47 = .ok (.bipush 40, 2) := by decide +kernel
theorem dX12_trade_49 : decode cX12_trade 49 = .ok (.if_icmp .ne 6, 3) := by decide +kernel
theorem dX12_trade_52 : decode cX12_trade 52 = .ok (.bipush (-4), 2) := by decide +kernel
theorem dX12_trade_54 : decode cX12_trade 54 = .ok (.ireturn, 1) := by decide +kernel
theorem dX12_trade_55 : decode cX12_trade 55 = .ok (.aload_n 0, 1) := by decide +kernel
theorem dX12_trade_56 : decode cX12_trade 56 = .ok (.invokevirtual 210, 3) := by decide +kernel
theorem dX12_trade_59 : decode cX12_trade 59 = .ok (.aload_n 0, 1) := by decide +kernel
theorem dX12_trade_60 : decode cX12_trade 60 = .ok (.iload_n 1, 1) := by decide +kernel
theorem dX12_trade_61 : decode cX12_trade 61 = .ok (.iload_n 2, 1) := by decide +kernel
theorem dX12_trade_62 : decode cX12_trade 62 = .ok (.iload_n 3, 1) := by decide +kernel
theorem dX12_trade_63 : decode cX12_trade 63 = .ok (.iload 4, 2) := by decide +kernel
theorem dX12_trade_65 : decode cX12_trade 65 = .ok (.invokevirtual 188, 3) := by decide +kernel
theorem dX12_trade_68 : decode cX12_trade 68 = .ok (.aload_n 0, 1) := by decide +kernel
theorem dX12_trade_69 : decode cX12_trade 69 = .ok (.getfield 13, 3) := by decide +kernel
theorem dX12_trade_72 : decode cX12_trade 72 = .ok (.iconst 0, 1) := by decide +kernel
theorem dX12_trade_73 : decode cX12_trade 73 = .ok (.iaload, 1) := by decide +kernel
theorem dX12_trade_74 : decode cX12_trade 74 = .ok (.iconst 1, 1) := by decide +kernel
theorem dX12_trade_75 : decode cX12_trade 75 = .ok (.isub, 1) := by decide +kernel
theorem dX12_trade_76 : decode cX12_trade 76 = .ok (.ireturn, 1) := by decide +kernel
theorem dX12_tradeOf_0 : decode cX12_tradeOf 0 = .ok (.aload_n 0, 1) := by decide +kernel
theorem dX12_tradeOf_1 : decode cX12_tradeOf 1 = .ok (.iconst 0, 1) := by decide +kernel
theorem dX12_tradeOf_2 : decode cX12_tradeOf 2 = .ok (.putfield 1, 3) := by decide +kernel
theorem dX12_tradeOf_5 : decode cX12_tradeOf 5 = .ok (.aload_n 0, 1) := by decide +kernel
theorem dX12_tradeOf_6 : decode cX12_tradeOf 6 = .ok (.iload_n 1, 1) := by decide +kernel
theorem dX12_tradeOf_7 : decode cX12_tradeOf 7 = .ok (.invokevirtual 213, 3) := by decide +kernel
theorem dX12_tradeOf_10 : decode cX12_tradeOf 10 = .ok (.ifCond .eq 24, 3) := by decide +kernel
theorem dX12_tradeOf_13 : decode cX12_tradeOf 13 = .ok (.iload_n 2, 1) := by decide +kernel
theorem dX12_tradeOf_14 : decode cX12_tradeOf 14 = .ok (.i2l, 1) := by decide +kernel
theorem dX12_tradeOf_15 : decode cX12_tradeOf 15 = .ok (.lconst 0, 1) := by decide +kernel
theorem dX12_tradeOf_16 : decode cX12_tradeOf 16 = .ok (.ldc2_w 232, 3) := by decide +kernel
theorem dX12_tradeOf_19 : decode cX12_tradeOf 19 = .ok (.invokestatic 103, 3) := by decide +kernel
theorem dX12_tradeOf_22 : decode cX12_tradeOf 22 = .ok (.ifCond .eq 12, 3) := by decide +kernel
theorem dX12_tradeOf_25 : decode cX12_tradeOf 25 = .ok (.aload_n 0, 1) := by decide +kernel
theorem dX12_tradeOf_26 : decode cX12_tradeOf 26 = .ok (.iload_n 1, 1) := by decide +kernel
theorem dX12_tradeOf_27 : decode cX12_tradeOf 27 = .ok (.iload_n 2, 1) := by decide +kernel
theorem dX12_tradeOf_28 : decode cX12_tradeOf 28 = .ok (.invokevirtual 174, 3) := by decide +kernel
theorem dX12_tradeOf_31 : decode cX12_tradeOf 31 = .ok (.goto 5, 3) := by decide +kernel
theorem dX12_tradeOf_34 : decode cX12_tradeOf 34 = .ok (.bipush (-2), 2) := by decide +kernel
theorem dX12_tradeOf_36 : decode cX12_tradeOf 36 = .ok (.ireturn, 1) := by decide +kernel
theorem dX12_undo_0 : decode cX12_undo 0 = .ok (.aload_n 0, 1) := by decide +kernel
theorem dX12_undo_1 : decode cX12_undo 1 = .ok (.iconst 0, 1) := by decide +kernel
theorem dX12_undo_2 : decode cX12_undo 2 = .ok (.putfield 1, 3) := by decide +kernel
theorem dX12_undo_5 : decode cX12_undo 5 = .ok (.aload_n 0, 1) := by decide +kernel
theorem dX12_undo_6 : decode cX12_undo 6 = .ok (.getfield 195, 3) := by decide +kernel
theorem dX12_undo_9 : decode cX12_undo 9 = .ok (.ifCond .ne 6, 3) := by decide +kernel
theorem dX12_undo_12 : decode cX12_undo 12 = .ok (.bipush (-5), 2) := by decide +kernel
theorem dX12_undo_14 : decode cX12_undo 14 = .ok (.ireturn, 1) := by decide +kernel
theorem dX12_undo_15 : decode cX12_undo 15 = .ok (.aload_n 0, 1) := by decide +kernel
theorem dX12_undo_16 : decode cX12_undo 16 = .ok (.dup, 1) := by decide +kernel
theorem dX12_undo_17 : decode cX12_undo 17 = .ok (.getfield 195, 3) := by decide +kernel
theorem dX12_undo_20 : decode cX12_undo 20 = .ok (.iconst 1, 1) := by decide +kernel
theorem dX12_undo_21 : decode cX12_undo 21 = .ok (.isub, 1) := by decide +kernel
theorem dX12_undo_22 : decode cX12_undo 22 = .ok (.putfield 195, 3) := by decide +kernel
theorem dX12_undo_25 : decode cX12_undo 25 = .ok (.iconst 0, 1) := by decide +kernel
theorem dX12_undo_26 : decode cX12_undo 26 = .ok (.istore_n 1, 1) := by decide +kernel
theorem dX12_undo_27 : decode cX12_undo 27 = .ok (.iload_n 1, 1) := by decide +kernel
theorem dX12_undo_28 : decode cX12_undo 28 = .ok (.sipush 266, 3) := by decide +kernel
theorem dX12_undo_31 : decode cX12_undo 31 = .ok (.if_icmp .ge 30, 3) := by decide +kernel
theorem dX12_undo_34 : decode cX12_undo 34 = .ok (.aload_n 0, 1) := by decide +kernel
theorem dX12_undo_35 : decode cX12_undo 35 = .ok (.getfield 13, 3) := by decide +kernel
theorem dX12_undo_38 : decode cX12_undo 38 = .ok (.iload_n 1, 1) := by decide +kernel
theorem dX12_undo_39 : decode cX12_undo 39 = .ok (.aload_n 0, 1) := by decide +kernel
theorem dX12_undo_40 : decode cX12_undo 40 = .ok (.getfield 20, 3) := by decide +kernel
theorem dX12_undo_43 : decode cX12_undo 43 = .ok (.sipush 266, 3) := by decide +kernel
theorem dX12_undo_46 : decode cX12_undo 46 = .ok (.aload_n 0, 1) := by decide +kernel
theorem dX12_undo_47 : decode cX12_undo 47 = .ok (.getfield 195, 3) := by decide +kernel
theorem dX12_undo_50 : decode cX12_undo 50 = .ok (.imul, 1) := by decide +kernel
theorem dX12_undo_51 : decode cX12_undo 51 = .ok (.iload_n 1, 1) := by decide +kernel
theorem dX12_undo_52 : decode cX12_undo 52 = .ok (.iadd, 1) := by decide +kernel
theorem dX12_undo_53 : decode cX12_undo 53 = .ok (.iaload, 1) := by decide +kernel
theorem dX12_undo_54 : decode cX12_undo 54 = .ok (.iastore, 1) := by decide +kernel
theorem dX12_undo_55 : decode cX12_undo 55 = .ok (.iinc 1 1, 3) := by decide +kernel
theorem dX12_undo_58 : decode cX12_undo 58 = .ok (.goto (-31), 3) := by decide +kernel
theorem dX12_undo_61 : decode cX12_undo 61 = .ok (.aload_n 0, 1) := by decide +kernel
theorem dX12_undo_62 : decode cX12_undo 62 = .ok (.getfield 195, 3) := by decide +kernel
theorem dX12_undo_65 : decode cX12_undo 65 = .ok (.ireturn, 1) := by decide +kernel
def fre (f : Nat → Int32) (kd : Int32) (t : Nat) : Prop := f (2 + 5 * t + 3) = kd ∧ f (2 + 5 * t + 4) = 0
set_option maxHeartbeats 4000000 in
set_option maxRecDepth 100000 in
theorem m_isParty (l : Launch) (dC : Nat → ClassId) (dI : Nat → Nat → Nat) (cy : Nat → ClassId) (L : List Nat) (kap : Nat → Nat) (pr : Pr) (S : Nat → va_E) (sz : Nat) (o : Nat) (pa : Int32) (hTy : Ty cy L kap pr S) (hT_o : TK L kap o 12) : Met l yX12_isParty (wT yX12_isParty cX12_isParty 2 (some .boolean)) ({ frames := 1, cells := 0, slots := 0, locals := 25 }) (pcN dC dI [.ref o, .int pa] sz (va_pl L S) (cyT cy) NLs []) (vp_Si (fun r => r = 0 ∨ (r = 1 ∧ ∃ k, k < 8 ∧ pa = nI k))) 0 0 (fun _ => False) := by
  refine Met.ofW (cc := cX12_isParty) (maxL := 2) (ret := (some .boolean)) (by decide) rfl ?_
  intro p e s m args below meth c s₁ B hml hv
  obtain ⟨rfl, hsz, hP, hK, hD0, hN, -⟩ := hv
  have hx := B.exec
  have hb := B.bytes
  have hr := B.returns
  have hT : ∀ wd ∈ TB, wd.before [.ref o, .int pa].toArray s = true := fun wd h => atoms_spec (ws := wT yX12_isParty cX12_isParty 2 (some .boolean)) B.pre wd (List.mem_cons_of_mem _ h)
  have hown : s.vm.findClass RX12 = some m.cls := findClass_of_methodNamed B.named
  have hlocks := B.notSynchronized
  subst hsz
  have hW : PW dC dI L (AL L s.heap.size) s.heap S s.heap [] := ⟨hP, pl_self hD0, va_S.rf⟩
  have hFr : Fr kap [] S S := Fr.rf
  have hl := lv_entry ([.ref o, .int pa]) (n := 2) (Nat.le_of_ble_eq_true rfl)
  rw [lg_entry_eq]
  generalize (lg_sl ([.ref o, .int pa]) ++ List.replicate (2 - (lg_sl ([.ref o, .int pa])).length) Slot.unset).toArray = ls at hl ⊢
  have hl : lv_has ls 2 [(0, .ref o), (1, .int pa)] := hl
  refine lv_iload_n hx hb dX12_isParty_0 rfl (lv_at hl 1 rfl) ?_
  refine lv_i2l hx hb dX12_isParty_1 rfl ?_
  refine lv_topl (fun z_1 ez_1 => ?_)
  refine lv_lconst (v := 0) hx hb dX12_isParty_2 (by decide) ?_
  refine lv_aload_n hx hb dX12_isParty_3 rfl (lv_at hl 0 rfl) ?_
  obtain ⟨x_2, x_3, x_4, x_5, x_6, x_7, x_8, x_9, x_10, x_11, x_12, x_13, x_14, x_15, x_16, x_17, x_18, x_19, x_20, x_21, x_22, x_23, x_24, x_25, x_26, x_27, x_28, x_29, x_30, x_31, x_32, hS_o, hT_x_2, hT_x_3, hT_x_4, hT_x_5, hT_x_6, hb_x_7, hb_x_8, hb_x_9, hT_x_11, hb_q2, hb_x_12, hb_x_13, hT_x_18, hT_x_19, hb_x_20, hT_x_21, hT_x_22, hT_x_23, hT_x_24, hT_x_25, hT_x_26, hT_x_27, hT_x_28, hT_x_29, hT_x_30, hT_x_31, hb_x_32⟩ := hTy.k12 hT_o
  have hb_q2 : pr.2 ≤ 900 := hb_q2
  have hS_o : S o = .inr (12, [.ref x_2, .ref x_3, .ref x_4, .ref x_5, .ref x_6, .int (nI x_7), .int (nI x_8), .int (nI x_9), .int x_10, .ref x_11, .int (nI (pr.2)), .int (nI x_12), .int (nI x_13), .int x_14, .int x_15, .int x_16, .int x_17, .ref x_18, .ref x_19, .int (nI x_20), .ref x_21, .ref x_22, .ref x_23, .ref x_24, .ref x_25, .ref x_26, .ref x_27, .ref x_28, .ref x_29, .ref x_30, .ref x_31, .int (nI x_32)]) := hS_o
  refine pl_get (ci := 12) (v := .int (nI x_7)) (C := RX12) (T := TX12) (N := 32) hx hb hT iX12 hown hK hW hT_o.1 hS_o rfl 5 (by decide) w1087 rfl dX12_isParty_4 ?_
  refine lv_iconst (v := 1) hx hb dX12_isParty_7 (by decide) ?_
  refine lv_isub hx hb dX12_isParty_8 ?_
  refine lv_topi (fun z_33 ez_33 => ?_)
  obtain rfl : z_33 = pd (x_7) := ez_33
  refine lv_i2l hx hb dX12_isParty_9 rfl ?_
  refine lv_topl (fun z_34 ez_34 => ?_)
  refine vp_callSi (va_Run.run (va_runS (As := [.long z_1, .long 0, .long z_34]) (rest := []) ⟨hx, hb, hml, hown, hT⟩ (m_isIn l dC dI s.heap.size z_1 0 z_34) (va_cwS 3 hT (gS w1187 w1188 w14 w1189) rfl rfl rfl (by decide +kernel) ⟨(Nat.le_of_ble_eq_true rfl), (Nat.le_of_ble_eq_true rfl)⟩) ⟨pcW.blind, pcW.pre (va_P0 _ _ _) (hK.sub (tys' := []) [] rfl) (va_D0 (fun _ => True))⟩ rfl rfl hl.1 rfl (lv_room (Nat.le_of_ble_eq_true rfl)) dX12_isParty_10 ⟨(Nat.le_of_ble_eq_true rfl), (Nat.le_of_ble_eq_true rfl)⟩)) (fun r_35 hr_35 => ?_)
  rcases isInc hr_35 with hc_ | hc_
  · obtain ⟨rfl, hin_⟩ := hc_
    obtain ⟨k_36, hb_k_36, rfl⟩ := inP ez_1 ez_34 hin_ (by omega)
    exact W.zret (ty := .boolean) (v := 1) hx hb hr (by decide) (fun t ht h9 => ⟨1, rfl, Or.inr ⟨rfl, _, by omega, rfl⟩, ht⟩) (fun q h => by cases h) dX12_isParty_13
  · obtain ⟨rfl, hin_⟩ := hc_
    exact W.zret (ty := .boolean) (v := 0) hx hb hr (by decide) (fun t ht h9 => ⟨0, rfl, Or.inl rfl, ht⟩) (fun q h => by cases h) dX12_isParty_13

set_option maxHeartbeats 4000000 in
set_option maxRecDepth 100000 in
theorem m_isKind (l : Launch) (dC : Nat → ClassId) (dI : Nat → Nat → Nat) (cy : Nat → ClassId) (L : List Nat) (kap : Nat → Nat) (pr : Pr) (S : Nat → va_E) (sz : Nat) (o : Nat) (pa : Int32) (hTy : Ty cy L kap pr S) (hT_o : TK L kap o 12) : Met l yX12_isKind (wT yX12_isKind cX12_isKind 2 (some .boolean)) ({ frames := 1, cells := 0, slots := 0, locals := 25 }) (pcN dC dI [.ref o, .int pa] sz (va_pl L S) (cyT cy) NLs []) (vp_Si (fun r => r = 0 ∨ (r = 1 ∧ ∃ k, k < 4 ∧ pa = nI k))) 0 0 (fun _ => False) := by
  refine Met.ofW (cc := cX12_isKind) (maxL := 2) (ret := (some .boolean)) (by decide) rfl ?_
  intro p e s m args below meth c s₁ B hml hv
  obtain ⟨rfl, hsz, hP, hK, hD0, hN, -⟩ := hv
  have hx := B.exec
  have hb := B.bytes
  have hr := B.returns
  have hT : ∀ wd ∈ TB, wd.before [.ref o, .int pa].toArray s = true := fun wd h => atoms_spec (ws := wT yX12_isKind cX12_isKind 2 (some .boolean)) B.pre wd (List.mem_cons_of_mem _ h)
  have hown : s.vm.findClass RX12 = some m.cls := findClass_of_methodNamed B.named
  have hlocks := B.notSynchronized
  subst hsz
  have hW : PW dC dI L (AL L s.heap.size) s.heap S s.heap [] := ⟨hP, pl_self hD0, va_S.rf⟩
  have hFr : Fr kap [] S S := Fr.rf
  have hl := lv_entry ([.ref o, .int pa]) (n := 2) (Nat.le_of_ble_eq_true rfl)
  rw [lg_entry_eq]
  generalize (lg_sl ([.ref o, .int pa]) ++ List.replicate (2 - (lg_sl ([.ref o, .int pa])).length) Slot.unset).toArray = ls at hl ⊢
  have hl : lv_has ls 2 [(0, .ref o), (1, .int pa)] := hl
  refine lv_iload_n hx hb dX12_isKind_0 rfl (lv_at hl 1 rfl) ?_
  refine lv_i2l hx hb dX12_isKind_1 rfl ?_
  refine lv_topl (fun z_1 ez_1 => ?_)
  refine lv_lconst (v := 0) hx hb dX12_isKind_2 (by decide) ?_
  refine lv_aload_n hx hb dX12_isKind_3 rfl (lv_at hl 0 rfl) ?_
  obtain ⟨x_2, x_3, x_4, x_5, x_6, x_7, x_8, x_9, x_10, x_11, x_12, x_13, x_14, x_15, x_16, x_17, x_18, x_19, x_20, x_21, x_22, x_23, x_24, x_25, x_26, x_27, x_28, x_29, x_30, x_31, x_32, hS_o, hT_x_2, hT_x_3, hT_x_4, hT_x_5, hT_x_6, hb_x_7, hb_x_8, hb_x_9, hT_x_11, hb_q2, hb_x_12, hb_x_13, hT_x_18, hT_x_19, hb_x_20, hT_x_21, hT_x_22, hT_x_23, hT_x_24, hT_x_25, hT_x_26, hT_x_27, hT_x_28, hT_x_29, hT_x_30, hT_x_31, hb_x_32⟩ := hTy.k12 hT_o
  have hb_q2 : pr.2 ≤ 900 := hb_q2
  have hS_o : S o = .inr (12, [.ref x_2, .ref x_3, .ref x_4, .ref x_5, .ref x_6, .int (nI x_7), .int (nI x_8), .int (nI x_9), .int x_10, .ref x_11, .int (nI (pr.2)), .int (nI x_12), .int (nI x_13), .int x_14, .int x_15, .int x_16, .int x_17, .ref x_18, .ref x_19, .int (nI x_20), .ref x_21, .ref x_22, .ref x_23, .ref x_24, .ref x_25, .ref x_26, .ref x_27, .ref x_28, .ref x_29, .ref x_30, .ref x_31, .int (nI x_32)]) := hS_o
  refine pl_get (ci := 12) (v := .int (nI x_8)) (C := RX12) (T := TX12) (N := 32) hx hb hT iX12 hown hK hW hT_o.1 hS_o rfl 6 (by decide) w1088 rfl dX12_isKind_4 ?_
  refine lv_iconst (v := 1) hx hb dX12_isKind_7 (by decide) ?_
  refine lv_isub hx hb dX12_isKind_8 ?_
  refine lv_topi (fun z_33 ez_33 => ?_)
  obtain rfl : z_33 = pd (x_8) := ez_33
  refine lv_i2l hx hb dX12_isKind_9 rfl ?_
  refine lv_topl (fun z_34 ez_34 => ?_)
  refine vp_callSi (va_Run.run (va_runS (As := [.long z_1, .long 0, .long z_34]) (rest := []) ⟨hx, hb, hml, hown, hT⟩ (m_isIn l dC dI s.heap.size z_1 0 z_34) (va_cwS 3 hT (gS w1187 w1188 w14 w1189) rfl rfl rfl (by decide +kernel) ⟨(Nat.le_of_ble_eq_true rfl), (Nat.le_of_ble_eq_true rfl)⟩) ⟨pcW.blind, pcW.pre (va_P0 _ _ _) (hK.sub (tys' := []) [] rfl) (va_D0 (fun _ => True))⟩ rfl rfl hl.1 rfl (lv_room (Nat.le_of_ble_eq_true rfl)) dX12_isKind_10 ⟨(Nat.le_of_ble_eq_true rfl), (Nat.le_of_ble_eq_true rfl)⟩)) (fun r_35 hr_35 => ?_)
  rcases isInc hr_35 with hc_ | hc_
  · obtain ⟨rfl, hin_⟩ := hc_
    obtain ⟨k_36, hb_k_36, rfl⟩ := inP ez_1 ez_34 hin_ (by omega)
    exact W.zret (ty := .boolean) (v := 1) hx hb hr (by decide) (fun t ht h9 => ⟨1, rfl, Or.inr ⟨rfl, _, by omega, rfl⟩, ht⟩) (fun q h => by cases h) dX12_isKind_13
  · obtain ⟨rfl, hin_⟩ := hc_
    exact W.zret (ty := .boolean) (v := 0) hx hb hr (by decide) (fun t ht h9 => ⟨0, rfl, Or.inl rfl, ht⟩) (fun q h => by cases h) dX12_isKind_13

set_option maxHeartbeats 4000000 in
set_option maxRecDepth 100000 in
theorem m_isTrade (l : Launch) (dC : Nat → ClassId) (dI : Nat → Nat → Nat) (cy : Nat → ClassId) (L : List Nat) (kap : Nat → Nat) (pr : Pr) (S : Nat → va_E) (sz : Nat) (o : Nat) (pa : Int32) (hTy : Ty cy L kap pr S) (hT_o : TK L kap o 12) : Met l yX12_isTrade (wT yX12_isTrade cX12_isTrade 2 (some .boolean)) ({ frames := 1, cells := 0, slots := 0, locals := 25 }) (pcN dC dI [.ref o, .int pa] sz (va_pl L S) (cyT cy) NLs []) (vp_Si (fun r => r = 0 ∨ (r = 1 ∧ ∃ k n, k < n ∧ n ≤ 40 ∧ pa = nI k ∧ mny S o n))) 0 0 (fun _ => False) := by
  refine Met.ofW (cc := cX12_isTrade) (maxL := 2) (ret := (some .boolean)) (by decide) rfl ?_
  intro p e s m args below meth c s₁ B hml hv
  obtain ⟨rfl, hsz, hP, hK, hD0, hN, -⟩ := hv
  have hx := B.exec
  have hb := B.bytes
  have hr := B.returns
  have hT : ∀ wd ∈ TB, wd.before [.ref o, .int pa].toArray s = true := fun wd h => atoms_spec (ws := wT yX12_isTrade cX12_isTrade 2 (some .boolean)) B.pre wd (List.mem_cons_of_mem _ h)
  have hown : s.vm.findClass RX12 = some m.cls := findClass_of_methodNamed B.named
  have hlocks := B.notSynchronized
  subst hsz
  have hW : PW dC dI L (AL L s.heap.size) s.heap S s.heap [] := ⟨hP, pl_self hD0, va_S.rf⟩
  have hFr : Fr kap [] S S := Fr.rf
  have hl := lv_entry ([.ref o, .int pa]) (n := 2) (Nat.le_of_ble_eq_true rfl)
  rw [lg_entry_eq]
  generalize (lg_sl ([.ref o, .int pa]) ++ List.replicate (2 - (lg_sl ([.ref o, .int pa])).length) Slot.unset).toArray = ls at hl ⊢
  have hl : lv_has ls 2 [(0, .ref o), (1, .int pa)] := hl
  refine lv_iload_n hx hb dX12_isTrade_0 rfl (lv_at hl 1 rfl) ?_
  refine lv_i2l hx hb dX12_isTrade_1 rfl ?_
  refine lv_topl (fun z_1 ez_1 => ?_)
  refine lv_lconst (v := 0) hx hb dX12_isTrade_2 (by decide) ?_
  refine lv_aload_n hx hb dX12_isTrade_3 rfl (lv_at hl 0 rfl) ?_
  obtain ⟨x_2, x_3, x_4, x_5, x_6, x_7, x_8, x_9, x_10, x_11, x_12, x_13, x_14, x_15, x_16, x_17, x_18, x_19, x_20, x_21, x_22, x_23, x_24, x_25, x_26, x_27, x_28, x_29, x_30, x_31, x_32, hS_o, hT_x_2, hT_x_3, hT_x_4, hT_x_5, hT_x_6, hb_x_7, hb_x_8, hb_x_9, hT_x_11, hb_q2, hb_x_12, hb_x_13, hT_x_18, hT_x_19, hb_x_20, hT_x_21, hT_x_22, hT_x_23, hT_x_24, hT_x_25, hT_x_26, hT_x_27, hT_x_28, hT_x_29, hT_x_30, hT_x_31, hb_x_32⟩ := hTy.k12 hT_o
  have hb_q2 : pr.2 ≤ 900 := hb_q2
  have hS_o : S o = .inr (12, [.ref x_2, .ref x_3, .ref x_4, .ref x_5, .ref x_6, .int (nI x_7), .int (nI x_8), .int (nI x_9), .int x_10, .ref x_11, .int (nI (pr.2)), .int (nI x_12), .int (nI x_13), .int x_14, .int x_15, .int x_16, .int x_17, .ref x_18, .ref x_19, .int (nI x_20), .ref x_21, .ref x_22, .ref x_23, .ref x_24, .ref x_25, .ref x_26, .ref x_27, .ref x_28, .ref x_29, .ref x_30, .ref x_31, .int (nI x_32)]) := hS_o
  refine pl_get (ci := 12) (v := .ref x_2) (C := RX12) (T := TX12) (N := 32) hx hb hT iX12 hown hK hW hT_o.1 hS_o rfl 0 (by decide) w1082 rfl dX12_isTrade_4 ?_
  refine lv_iconst (v := 0) hx hb dX12_isTrade_7 (by decide) ?_
  obtain ⟨f_33, hS_x_2, hi_f_33⟩ := hTy.k50 hT_x_2
  refine pl_iald hx hb hK hW hT_x_2.1 hS_x_2 (vp_in_nI (n := 0) (N := 266) (by omega) (by omega)) dX12_isTrade_8 ?_
  refine lv_topi (fun y_34 ey_34 => ?_)
  have hv_y_34 : okS (0) y_34 := by rw [ey_34]; show okS _ (f_33 (nI (0)).toNatClampNeg); rw [nI_clamp (by omega)]; exact hi_f_33 (0) (by omega)
  obtain ⟨k_35, hb_k_35, hq_k_35⟩ := hv_y_34.1 rfl
  obtain rfl : y_34 = nI k_35 := hq_k_35
  refine lv_iconst (v := 1) hx hb dX12_isTrade_9 (by decide) ?_
  refine lv_isub hx hb dX12_isTrade_10 ?_
  refine lv_topi (fun z_36 ez_36 => ?_)
  obtain rfl : z_36 = pd (k_35) := ez_36
  refine lv_i2l hx hb dX12_isTrade_11 rfl ?_
  refine lv_topl (fun z_37 ez_37 => ?_)
  refine vp_callSi (va_Run.run (va_runS (As := [.long z_1, .long 0, .long z_37]) (rest := []) ⟨hx, hb, hml, hown, hT⟩ (m_isIn l dC dI s.heap.size z_1 0 z_37) (va_cwS 3 hT (gS w1187 w1188 w14 w1189) rfl rfl rfl (by decide +kernel) ⟨(Nat.le_of_ble_eq_true rfl), (Nat.le_of_ble_eq_true rfl)⟩) ⟨pcW.blind, pcW.pre (va_P0 _ _ _) (hK.sub (tys' := []) [] rfl) (va_D0 (fun _ => True))⟩ rfl rfl hl.1 rfl (lv_room (Nat.le_of_ble_eq_true rfl)) dX12_isTrade_12 ⟨(Nat.le_of_ble_eq_true rfl), (Nat.le_of_ble_eq_true rfl)⟩)) (fun r_38 hr_38 => ?_)
  rcases isInc hr_38 with hc_ | hc_
  · obtain ⟨rfl, hin_⟩ := hc_
    obtain ⟨k_39, hb_k_39, rfl⟩ := inP ez_1 ez_37 hin_ (by omega)
    exact W.zret (ty := .boolean) (v := 1) hx hb hr (by decide) (fun t ht h9 => ⟨1, rfl, Or.inr ⟨rfl, _, k_35, by omega, by omega, rfl, mnyi hS_o rfl hS_x_2 ey_34.symm⟩, ht⟩) (fun q h => by cases h) dX12_isTrade_15
  · obtain ⟨rfl, hin_⟩ := hc_
    exact W.zret (ty := .boolean) (v := 0) hx hb hr (by decide) (fun t ht h9 => ⟨0, rfl, Or.inl rfl, ht⟩) (fun q h => by cases h) dX12_isTrade_15

set_option maxHeartbeats 4000000 in
set_option maxRecDepth 100000 in
theorem m_areTwo (l : Launch) (dC : Nat → ClassId) (dI : Nat → Nat → Nat) (cy : Nat → ClassId) (L : List Nat) (kap : Nat → Nat) (pr : Pr) (S : Nat → va_E) (sz : Nat) (o : Nat) (pa : Int32) (pb : Int32) (hTy : Ty cy L kap pr S) (hT_o : TK L kap o 12) : Met l yX12_areTwo (wT yX12_areTwo cX12_areTwo 3 (some .boolean)) ({ frames := 2, cells := 0, slots := 0, locals := 46 }) (pcN dC dI [.ref o, .int pa, .int pb] sz (va_pl L S) (cyT cy) NLs []) (vp_Si (fun r => r = 0 ∨ (r = 1 ∧ ∃ k q, k < 8 ∧ q < 8 ∧ pa = nI k ∧ pb = nI q ∧ k ≠ q))) 0 0 (fun _ => False) := by
  refine Met.ofW (cc := cX12_areTwo) (maxL := 3) (ret := (some .boolean)) (by decide) rfl ?_
  intro p e s m args below meth c s₁ B hml hv
  obtain ⟨rfl, hsz, hP, hK, hD0, hN, -⟩ := hv
  have hx := B.exec
  have hb := B.bytes
  have hr := B.returns
  have hT : ∀ wd ∈ TB, wd.before [.ref o, .int pa, .int pb].toArray s = true := fun wd h => atoms_spec (ws := wT yX12_areTwo cX12_areTwo 3 (some .boolean)) B.pre wd (List.mem_cons_of_mem _ h)
  have hown : s.vm.findClass RX12 = some m.cls := findClass_of_methodNamed B.named
  have hlocks := B.notSynchronized
  subst hsz
  have hW : PW dC dI L (AL L s.heap.size) s.heap S s.heap [] := ⟨hP, pl_self hD0, va_S.rf⟩
  have hFr : Fr kap [] S S := Fr.rf
  have hl := lv_entry ([.ref o, .int pa, .int pb]) (n := 3) (Nat.le_of_ble_eq_true rfl)
  rw [lg_entry_eq]
  generalize (lg_sl ([.ref o, .int pa, .int pb]) ++ List.replicate (3 - (lg_sl ([.ref o, .int pa, .int pb])).length) Slot.unset).toArray = ls at hl ⊢
  have hl : lv_has ls 3 [(0, .ref o), (1, .int pa), (2, .int pb)] := hl
  refine lv_aload_n hx hb dX12_areTwo_0 rfl (lv_at hl 0 rfl) ?_
  refine lv_iload_n hx hb dX12_areTwo_1 rfl (lv_at hl 1 rfl) ?_
  obtain ⟨x_1, x_2, x_3, x_4, x_5, x_6, x_7, x_8, x_9, x_10, x_11, x_12, x_13, x_14, x_15, x_16, x_17, x_18, x_19, x_20, x_21, x_22, x_23, x_24, x_25, x_26, x_27, x_28, x_29, x_30, x_31, hS_o, hT_x_1, hT_x_2, hT_x_3, hT_x_4, hT_x_5, hb_x_6, hb_x_7, hb_x_8, hT_x_10, hb_q2, hb_x_11, hb_x_12, hT_x_17, hT_x_18, hb_x_19, hT_x_20, hT_x_21, hT_x_22, hT_x_23, hT_x_24, hT_x_25, hT_x_26, hT_x_27, hT_x_28, hT_x_29, hT_x_30, hb_x_31⟩ := hTy.k12 hT_o
  have hb_q2 : pr.2 ≤ 900 := hb_q2
  have hS_o : S o = .inr (12, [.ref x_1, .ref x_2, .ref x_3, .ref x_4, .ref x_5, .int (nI x_6), .int (nI x_7), .int (nI x_8), .int x_9, .ref x_10, .int (nI (pr.2)), .int (nI x_11), .int (nI x_12), .int x_13, .int x_14, .int x_15, .int x_16, .ref x_17, .ref x_18, .int (nI x_19), .ref x_20, .ref x_21, .ref x_22, .ref x_23, .ref x_24, .ref x_25, .ref x_26, .ref x_27, .ref x_28, .ref x_29, .ref x_30, .int (nI x_31)]) := hS_o
  refine vp_callSi (va_Run.run (va_runV (As := [.int pa]) (rest := []) ⟨hx, hb, hml, hown, hT⟩ (m_isParty l dC dI cy L kap pr S s.heap.size o pa hTy hT_o) (cwV 1 hT (gV w1284 w1286 ws73 w14 w1287) rfl rfl rfl (by decide +kernel) ⟨(Nat.le_of_ble_eq_true rfl), (Nat.le_of_ble_eq_true rfl)⟩) ⟨pcN.blind, pl_recv hK hW hT_o.1 hS_o rfl, pcN.pre hW.1 hK hW.2.1 hN (fun q h => absurd h List.not_mem_nil)⟩ rfl rfl hl.1 rfl (lv_room (Nat.le_of_ble_eq_true rfl)) dX12_areTwo_2 ⟨(Nat.le_of_ble_eq_true rfl), (Nat.le_of_ble_eq_true rfl)⟩)) (fun r_32 hr_32 => ?_)
  rcases hr_32 with hc_ | hc_
  · obtain rfl : r_32 = 0 := hc_
    refine lv_if_eq (tgt := 25) hx hb dX12_areTwo_5 (by decide) (fun _ => ?_) (fun h => absurd (by decide) h)
    refine lv_iconst (v := 0) hx hb dX12_areTwo_25 (by decide) ?_
    exact W.zret (ty := .boolean) (v := 0) hx hb hr (by decide) (fun t ht h9 => ⟨0, rfl, Or.inl rfl, ht⟩) (fun q h => by cases h) dX12_areTwo_26
  · obtain ⟨rfl, k_33, hb_k_33, rfl⟩ := hc_
    refine lv_if_eq (tgt := 25) hx hb dX12_areTwo_5 (by decide) (fun h => absurd h (by decide)) (fun _ => ?_)
    refine lv_aload_n hx hb dX12_areTwo_8 rfl (lv_at hl 0 rfl) ?_
    refine lv_iload_n hx hb dX12_areTwo_9 rfl (lv_at hl 2 rfl) ?_
    refine vp_callSi (va_Run.run (va_runV (As := [.int pb]) (rest := []) ⟨hx, hb, hml, hown, hT⟩ (m_isParty l dC dI cy L kap pr S s.heap.size o pb hTy hT_o) (cwV 1 hT (gV w1284 w1286 ws73 w14 w1287) rfl rfl rfl (by decide +kernel) ⟨(Nat.le_of_ble_eq_true rfl), (Nat.le_of_ble_eq_true rfl)⟩) ⟨pcN.blind, pl_recv hK hW hT_o.1 hS_o rfl, pcN.pre hW.1 hK hW.2.1 hN (fun q h => absurd h List.not_mem_nil)⟩ rfl rfl hl.1 rfl (lv_room (Nat.le_of_ble_eq_true rfl)) dX12_areTwo_10 ⟨(Nat.le_of_ble_eq_true rfl), (Nat.le_of_ble_eq_true rfl)⟩)) (fun r_34 hr_34 => ?_)
    rcases hr_34 with hc_ | hc_
    · obtain rfl : r_34 = 0 := hc_
      refine lv_if_eq (tgt := 25) hx hb dX12_areTwo_13 (by decide) (fun _ => ?_) (fun h => absurd (by decide) h)
      refine lv_iconst (v := 0) hx hb dX12_areTwo_25 (by decide) ?_
      exact W.zret (ty := .boolean) (v := 0) hx hb hr (by decide) (fun t ht h9 => ⟨0, rfl, Or.inl rfl, ht⟩) (fun q h => by cases h) dX12_areTwo_26
    · obtain ⟨rfl, k_35, hb_k_35, rfl⟩ := hc_
      refine lv_if_eq (tgt := 25) hx hb dX12_areTwo_13 (by decide) (fun h => absurd h (by decide)) (fun _ => ?_)
      refine lv_iload_n hx hb dX12_areTwo_16 rfl (lv_at hl 1 rfl) ?_
      refine lv_iload_n hx hb dX12_areTwo_17 rfl (lv_at hl 2 rfl) ?_
      refine lv_icmp_eq (tgt := 25) hx hb dX12_areTwo_18 (by decide) (fun c_18 => ?_) (fun c_18 => ?_)
      · have c_18 : k_33 = k_35 := (nI_eq (a := k_33) (b := k_35) (by omega) (by omega)).mp c_18
        refine lv_iconst (v := 0) hx hb dX12_areTwo_25 (by decide) ?_
        exact W.zret (ty := .boolean) (v := 0) hx hb hr (by decide) (fun t ht h9 => ⟨0, rfl, Or.inl rfl, ht⟩) (fun q h => by cases h) dX12_areTwo_26
      · have c_18 : ¬ (k_33 = k_35) := fun hh9 => c_18 ((nI_eq (a := k_33) (b := k_35) (by omega) (by omega)).mpr hh9)
        refine lv_iconst (v := 1) hx hb dX12_areTwo_21 (by decide) ?_
        refine lv_goto (tgt := 26) hx hb dX12_areTwo_22 (by decide) ?_
        exact W.zret (ty := .boolean) (v := 1) hx hb hr (by decide) (fun t ht h9 => ⟨1, rfl, Or.inr ⟨rfl, k_33, k_35, by omega, by omega, rfl, rfl, by omega⟩, ht⟩) (fun q h => by cases h) dX12_areTwo_26

set_option maxHeartbeats 4000000 in
set_option maxRecDepth 100000 in
theorem m_remembers (l : Launch) (dC : Nat → ClassId) (dI : Nat → Nat → Nat) (cy : Nat → ClassId) (L : List Nat) (kap : Nat → Nat) (pr : Pr) (S : Nat → va_E) (sz : Nat) (o : Nat) (hTy : Ty cy L kap pr S) (hT_o : TK L kap o 12) (hdg : dg (fld S o 0)) (hda : DGA (fld S o 2)) : Met l yX12_remembers (wT yX12_remembers cX12_remembers 2 none) ({ frames := 0, cells := 0, slots := 0, locals := 0 }) (pcN dC dI [.ref o] sz (va_pl L S) (cyT cy) NLs []) (va_Qv (fun S' => Ty cy L kap pr S' ∧ Fr kap [12, 52] S S' ∧ (rf (S' o) 0 = rf (S o) 0 ∧ DGA (fld S' o 2))) (fun S' t => pB dC dI (AL L sz) (va_pl L S') (cyT cy) t) (AL L sz)) 0 0 (AL L sz) := by
  refine Met.ofW (cc := cX12_remembers) (maxL := 2) (ret := none) (by decide) rfl ?_
  intro p e s m args below meth c s₁ B hml hv
  obtain ⟨rfl, hsz, hP, hK, hD0, hN, -⟩ := hv
  have hx := B.exec
  have hb := B.bytes
  have hr := B.returns
  have hT : ∀ wd ∈ TB, wd.before [.ref o].toArray s = true := fun wd h => atoms_spec (ws := wT yX12_remembers cX12_remembers 2 none) B.pre wd (List.mem_cons_of_mem _ h)
  have hown : s.vm.findClass RX12 = some m.cls := findClass_of_methodNamed B.named
  have hlocks := B.notSynchronized
  subst hsz
  have hW : PW dC dI L (AL L s.heap.size) s.heap S s.heap [] := ⟨hP, pl_self hD0, va_S.rf⟩
  have hA0 : ∀ q, q ∈ L → AL L s.heap.size q := fun _ h => Or.inl h
  have hA : ∀ q, s.heap.size ≤ q → AL L s.heap.size q := fun _ h => Or.inr h
  have hFr : Fr kap [12, 52] S S := Fr.rf
  have hl := lv_entry ([.ref o]) (n := 2) (Nat.le_of_ble_eq_true rfl)
  rw [lg_entry_eq]
  generalize (lg_sl ([.ref o]) ++ List.replicate (2 - (lg_sl ([.ref o])).length) Slot.unset).toArray = ls at hl ⊢
  have hl : lv_has ls 2 [(0, .ref o)] := hl
  obtain ⟨x_1, x_2, x_3, x_4, x_5, x_6, x_7, x_8, x_9, x_10, x_11, x_12, x_13, x_14, x_15, x_16, x_17, x_18, x_19, x_20, x_21, x_22, x_23, x_24, x_25, x_26, x_27, x_28, x_29, x_30, x_31, hS_o, hT_x_1, hT_x_2, hT_x_3, hT_x_4, hT_x_5, hb_x_6, hb_x_7, hb_x_8, hT_x_10, hb_q2, hb_x_11, hb_x_12, hT_x_17, hT_x_18, hb_x_19, hT_x_20, hT_x_21, hT_x_22, hT_x_23, hT_x_24, hT_x_25, hT_x_26, hT_x_27, hT_x_28, hT_x_29, hT_x_30, hb_x_31⟩ := hTy.k12 hT_o
  have hb_q2 : pr.2 ≤ 900 := hb_q2
  have hS_o : S o = .inr (12, [.ref x_1, .ref x_2, .ref x_3, .ref x_4, .ref x_5, .int (nI x_6), .int (nI x_7), .int (nI x_8), .int x_9, .ref x_10, .int (nI (pr.2)), .int (nI x_11), .int (nI x_12), .int x_13, .int x_14, .int x_15, .int x_16, .ref x_17, .ref x_18, .int (nI x_19), .ref x_20, .ref x_21, .ref x_22, .ref x_23, .ref x_24, .ref x_25, .ref x_26, .ref x_27, .ref x_28, .ref x_29, .ref x_30, .int (nI x_31)]) := hS_o
  have hS_o0 := hS_o
  obtain ⟨f_32, hS_x_1, hi_f_32⟩ := hTy.k50 hT_x_1
  have hdg_ : dg f_32 := by have q := hdg; rw [fld_i hS_o rfl hS_x_1] at q; exact q
  obtain ⟨f_33, hS_x_3, hi_f_33⟩ := hTy.k52 hT_x_3
  have hda_ : DGA f_33 := by have q := hda; rw [fld_i hS_o rfl hS_x_3] at q; exact q
  refine lv_aload_n hx hb dX12_remembers_0 rfl (lv_at hl 0 rfl) ?_
  refine pl_get (ci := 12) (v := .int (nI x_8)) (C := RX12) (T := TX12) (N := 32) hx hb hT iX12 hown hK hW hT_o.1 hS_o rfl 7 (by decide) w1089 rfl dX12_remembers_1 ?_
  refine lv_bipush (v := 10) hx hb dX12_remembers_4 (by decide) ?_
  refine lv_icmp_ne (tgt := 50) hx hb dX12_remembers_6 (by decide) (fun c_6 => ?_) (fun c_6 => ?_)
  · have c_6 : ¬ (x_8 = 10) := fun hh9 => c_6 ((nI_eq (a := x_8) (b := 10) (by omega) (by omega)).mpr hh9)
    refine lv_iconst (v := 0) hx hb dX12_remembers_50 (by decide) ?_
    refine lv_istore_n (lv' := [(1, .int 0), (0, .ref o)]) hx hb dX12_remembers_51 rfl hl (by decide) rfl (fun ls hl => ?_)
    have loop : ∀ (fuel : Nat) (i2 : Nat) (gw : Nat → Int32) (SS : Nat → va_E) (H : Heap) (locs : List Loc) (ls : Array Slot), 267 - i2 < fuel → (i2 ≤ 266) → (SS x_3 = .inl (cy 0, 2660, .inl gw)) → ((∀ j, j < i2 → gw (266 * x_8 + j) = f_32 j) ∧ ∀ j, j < 266 * x_8 ∨ 266 * x_8 + 266 ≤ j → gw j = f_33 j) → Ty cy L kap pr SS → Fr kap [12, 52] S SS → Fr kap [52] S SS → PW dC dI L (AL L s.heap.size) s.heap SS H locs → lv_has ls 2 [(1, .int (nI i2)), (0, .ref o)] → W p l e (headSpec (wT yX12_remembers cX12_remembers 2 none) { frames := 0, cells := 0, slots := 0, locals := 0 }).room s m [.ref o].toArray below meth c H locs 0 0 (MQ below (va_Qv (fun S' => Ty cy L kap pr S' ∧ Fr kap [12, 52] S S' ∧ (rf (S' o) 0 = rf (S o) 0 ∧ DGA (fld S' o 2))) (fun S' t => pB dC dI (AL L s.heap.size) (va_pl L S') (cyT cy) t) (AL L s.heap.size)) [.ref o].toArray s 0 0 (AL L s.heap.size)) (F0 m 52 ls []) := by
      intro fuel
      induction fuel with
      | zero => intro i2 gw SS H locs ls h; exact absurd h (Nat.not_lt_zero _)
      | succ fu52 ih52 =>
        intro i2 gw S_34 H locs ls hm52 hb_i2 hWs hcq hTy hFr hFl52 hW hl
        have hS_o := hFl52.at hT_o (by decide) hS_o
        have hS_x_1 := hFl52.at hT_x_1 (by decide) hS_x_1
        have hi_gw := k52i hTy hT_x_3 hWs
        refine lv_iload_n hx hb dX12_remembers_52 rfl (lv_at hl 0 rfl) ?_
        refine lv_sipush (v := 266) hx hb dX12_remembers_53 (by decide) ?_
        refine lv_icmp_ge (tgt := 86) hx hb dX12_remembers_56 (by decide) (fun c_56 => ?_) (fun c_56 => ?_)
        · have c_56 : 266 ≤ i2 := (nI_leI (a := 266) (b := i2) (by omega) (by omega)).mp c_56
          have hi66 : i2 = 266 := by omega
          have hda_ : DGA gw := DGA_put (am := x_8) hda_ hdg_ rfl (by rw [hi66] at hcq; exact hcq)
          refine lv_aload_n hx hb dX12_remembers_86 rfl (lv_at hl 1 rfl) ?_
          refine lv_dup hx hb dX12_remembers_87 rfl ?_
          refine pl_get (ci := 12) (v := .int (nI x_8)) (C := RX12) (T := TX12) (N := 32) hx hb hT iX12 hown hK hW hT_o.1 hS_o rfl 7 (by decide) w1089 rfl dX12_remembers_88 ?_
          refine lv_iconst (v := 1) hx hb dX12_remembers_91 (by decide) ?_
          refine lv_iadd hx hb dX12_remembers_92 ?_
          refine lv_topi (fun z_35 ez_35 => ?_)
          obtain rfl : z_35 = nI (x_8 + 1) := ez_35.trans (nI_add (x_8) (1))
          refine pl_put (ci := 12) (v := .int (nI (x_8 + 1))) (ty := .int) (C := RX12) (T := TX12) (N := 32) (fs' := [.ref x_1, .ref x_2, .ref x_3, .ref x_4, .ref x_5, .int (nI x_6), .int (nI x_7), .int (nI (x_8 + 1)), .int x_9, .ref x_10, .int (nI (pr.2)), .int (nI x_11), .int (nI x_12), .int x_13, .int x_14, .int x_15, .int x_16, .ref x_17, .ref x_18, .int (nI x_19), .ref x_20, .ref x_21, .ref x_22, .ref x_23, .ref x_24, .ref x_25, .ref x_26, .ref x_27, .ref x_28, .ref x_29, .ref x_30, .int (nI x_31)]) hx hb hT iX12 tyX12 tyX12_ok nmX12 hown hK hW hT_o.1 hS_o rfl 7 (by decide) w1089 rfl (by decide +kernel) rfl rfl (Nat.le_of_ble_eq_true rfl) rfl dX12_remembers_93 (fun H locs S_36 e1 hW => ?_)
          have hTy := hTy.u12 e1 hT_o ⟨x_1, x_2, x_3, x_4, x_5, x_6, x_7, x_8 + 1, x_9, x_10, x_11, x_12, x_13, x_14, x_15, x_16, x_17, x_18, x_19, x_20, x_21, x_22, x_23, x_24, x_25, x_26, x_27, x_28, x_29, x_30, x_31, rfl, hT_x_1, hT_x_2, hT_x_3, hT_x_4, hT_x_5, (by omega), (by omega), (by omega), hT_x_10, (by show pr.2 ≤ 900; omega), (by omega), (by omega), hT_x_17, hT_x_18, (by omega), hT_x_20, hT_x_21, hT_x_22, hT_x_23, hT_x_24, hT_x_25, hT_x_26, hT_x_27, hT_x_28, hT_x_29, hT_x_30, (by omega)⟩
          have hS_x_1 := un e1 hT_x_1 hT_o (by decide) hS_x_1
          have hWs := un e1 hT_x_3 hT_o (by decide) hWs
          have hws := (show wrs (.inr (12, [.ref x_1, .ref x_2, .ref x_3, .ref x_4, .ref x_5, .int (nI x_6), .int (nI x_7), .int (nI (x_8 + 1)), .int x_9, .ref x_10, .int (nI (pr.2)), .int (nI x_11), .int (nI x_12), .int x_13, .int x_14, .int x_15, .int x_16, .ref x_17, .ref x_18, .int (nI x_19), .ref x_20, .ref x_21, .ref x_22, .ref x_23, .ref x_24, .ref x_25, .ref x_26, .ref x_27, .ref x_28, .ref x_29, .ref x_30, .int (nI x_31)])) = wrs (S_34 o) from by rw [hS_o]; rfl)
          have hFr := ufs hFr e1 hT_o (by decide) hws
          have hS_o := us e1
          exact W.vret hx hb hr (fun t ht h9 => ⟨⟨S_36, rfl, ⟨hTy, hFr, ⟨(rf_i hS_o rfl).trans (rf_i hS_o0 rfl).symm, (by rw [fld_i hS_o rfl hWs]; exact hda_)⟩⟩, by rw [ht]; exact hW.1, va_K.moved h9.alike hK, hW.2.1⟩, hW.2.2.F ht⟩) hW.2.2.2.2 dX12_remembers_96
        · have c_56 : ¬ (266 ≤ i2) := fun hh9 => c_56 ((nI_leI (a := 266) (b := i2) (by omega) (by omega)).mpr hh9)
          refine lv_aload_n hx hb dX12_remembers_59 rfl (lv_at hl 1 rfl) ?_
          refine pl_get (ci := 12) (v := .ref x_3) (C := RX12) (T := TX12) (N := 32) hx hb hT iX12 hown hK hW hT_o.1 hS_o rfl 2 (by decide) w1084 rfl dX12_remembers_60 ?_
          refine lv_sipush (v := 266) hx hb dX12_remembers_63 (by decide) ?_
          refine lv_aload_n hx hb dX12_remembers_66 rfl (lv_at hl 1 rfl) ?_
          refine pl_get (ci := 12) (v := .int (nI x_8)) (C := RX12) (T := TX12) (N := 32) hx hb hT iX12 hown hK hW hT_o.1 hS_o rfl 7 (by decide) w1089 rfl dX12_remembers_67 ?_
          refine lv_imul hx hb dX12_remembers_70 ?_
          refine lv_topi (fun z_37 ez_37 => ?_)
          obtain rfl : z_37 = nI (266 * x_8) := ez_37.trans (pk_mul (266) (x_8))
          refine lv_iload_n hx hb dX12_remembers_71 rfl (lv_at hl 0 rfl) ?_
          refine lv_iadd hx hb dX12_remembers_72 ?_
          refine lv_topi (fun z_38 ez_38 => ?_)
          obtain rfl : z_38 = nI ((266 * x_8) + i2) := ez_38.trans (nI_add (266 * x_8) (i2))
          refine lv_aload_n hx hb dX12_remembers_73 rfl (lv_at hl 1 rfl) ?_
          refine pl_get (ci := 12) (v := .ref x_1) (C := RX12) (T := TX12) (N := 32) hx hb hT iX12 hown hK hW hT_o.1 hS_o rfl 0 (by decide) w1082 rfl dX12_remembers_74 ?_
          refine lv_iload_n hx hb dX12_remembers_77 rfl (lv_at hl 0 rfl) ?_
          refine pl_iald hx hb hK hW hT_x_1.1 hS_x_1 (vp_in_nI (n := i2) (N := 266) (by omega) (by omega)) dX12_remembers_78 ?_
          refine lv_topi (fun y_39 ey_39 => ?_)
          have hv_y_39 : okS (i2) y_39 := by rw [ey_39]; show okS _ (f_32 (nI (i2)).toNatClampNeg); rw [nI_clamp (by omega)]; exact hi_f_32 (i2) (by omega)
          refine pl_iast hx hb hK hW hT_x_3.1 hWs (vp_in_nI (n := (266 * x_8) + i2) (N := 2660) (by omega) (by omega)) dX12_remembers_79 (fun H locs f_41 S_40 ef_f_41 e1 hW => ?_)
          have hi_f_41 := okS2_up (i := (266 * x_8) + i2) (by omega) hi_gw ef_f_41 (by rw [Nat.mul_add_mod, Nat.mod_eq_of_lt (by omega)]; exact hv_y_39)
          have hTy := hTy.u52 e1 hT_x_3 ⟨f_41, rfl, hi_f_41⟩
          have hS_o := un e1 hT_o hT_x_3 (by decide) hS_o
          have hS_x_1 := un e1 hT_x_1 hT_x_3 (by decide) hS_x_1
          have hFr := uf hFr e1 hT_x_3 (by decide) (by decide)
          have hFl52 := uf hFl52 e1 hT_x_3 (by decide) (by decide)
          have hWs := us e1
          have hcq1 := cpb_up hcq ef_f_41 (by omega) ey_39 (by omega) (by omega)
          refine lv_iinc (v := nI (i2 + 1)) (lv' := [(1, .int (nI (i2 + 1))), (0, .ref o)]) hx hb dX12_remembers_80 hl (k := 0) rfl (nI_add (i2) 1) (by decide) rfl (fun ls hl => ?_)
          refine lv_goto (tgt := 52) hx hb dX12_remembers_83 (by decide) ?_
          exact ih52 (i2 + 1) f_41 _ _ _ ls (by omega) (by omega) hWs hcq1 hTy hFr hFl52 hW (lv_sub hl [0, 1] rfl)
    exact loop ((267 - 0) + 1) 0 f_33 _ _ _ ls (Nat.lt_succ_self _) (by omega) hS_x_3 ⟨fun j h => absurd h (Nat.not_lt_zero _), fun _ _ => rfl⟩ hTy hFr Fr.rf hW (lv_sub hl [0, 1] rfl)
  · have c_6 : x_8 = 10 := (nI_eq (a := x_8) (b := 10) (by omega) (by omega)).mp c_6
    refine lv_iconst (v := 0) hx hb dX12_remembers_9 (by decide) ?_
    refine lv_istore_n (lv' := [(1, .int 0), (0, .ref o)]) hx hb dX12_remembers_10 rfl hl (by decide) rfl (fun ls hl => ?_)
    have loop : ∀ (fuel : Nat) (i : Nat) (gv : Nat → Int32) (SS : Nat → va_E) (H : Heap) (locs : List Loc) (ls : Array Slot), 2395 - i < fuel → (i ≤ 2394) → (SS x_3 = .inl (cy 0, 2660, .inl gv)) → ((∀ j, j < i → gv j = f_33 (j + 266)) ∧ ∀ j, i ≤ j → gv j = f_33 j) → Ty cy L kap pr SS → Fr kap [12, 52] S SS → Fr kap [52] S SS → PW dC dI L (AL L s.heap.size) s.heap SS H locs → lv_has ls 2 [(1, .int (nI i)), (0, .ref o)] → W p l e (headSpec (wT yX12_remembers cX12_remembers 2 none) { frames := 0, cells := 0, slots := 0, locals := 0 }).room s m [.ref o].toArray below meth c H locs 0 0 (MQ below (va_Qv (fun S' => Ty cy L kap pr S' ∧ Fr kap [12, 52] S S' ∧ (rf (S' o) 0 = rf (S o) 0 ∧ DGA (fld S' o 2))) (fun S' t => pB dC dI (AL L s.heap.size) (va_pl L S') (cyT cy) t) (AL L s.heap.size)) [.ref o].toArray s 0 0 (AL L s.heap.size)) (F0 m 11 ls []) := by
      intro fuel
      induction fuel with
      | zero => intro i gv SS H locs ls h; exact absurd h (Nat.not_lt_zero _)
      | succ fu11 ih11 =>
        intro i gv S_42 H locs ls hm11 hb_i hVs hcp hTy hFr hFl11 hW hl
        have hS_o := hFl11.at hT_o (by decide) hS_o
        have hS_x_1 := hFl11.at hT_x_1 (by decide) hS_x_1
        have hi_gv := k52i hTy hT_x_3 hVs
        refine lv_iload_n hx hb dX12_remembers_11 rfl (lv_at hl 0 rfl) ?_
        refine lv_sipush (v := 2394) hx hb dX12_remembers_12 (by decide) ?_
        refine lv_icmp_ge (tgt := 40) hx hb dX12_remembers_15 (by decide) (fun c_15 => ?_) (fun c_15 => ?_)
        · have c_15 : 2394 ≤ i := (nI_leI (a := 2394) (b := i) (by omega) (by omega)).mp c_15
          have hi94 : i = 2394 := by omega
          have hda_ : DGA gv := DGA_sh hda_ (by rw [hi94] at hcp; exact hcp)
          refine lv_aload_n hx hb dX12_remembers_40 rfl (lv_at hl 1 rfl) ?_
          refine lv_dup hx hb dX12_remembers_41 rfl ?_
          refine pl_get (ci := 12) (v := .int (nI x_8)) (C := RX12) (T := TX12) (N := 32) hx hb hT iX12 hown hK hW hT_o.1 hS_o rfl 7 (by decide) w1089 rfl dX12_remembers_42 ?_
          refine lv_iconst (v := 1) hx hb dX12_remembers_45 (by decide) ?_
          refine lv_isub hx hb dX12_remembers_46 ?_
          refine lv_topi (fun z_43 ez_43 => ?_)
          obtain rfl : z_43 = nI (x_8 - 1) := ez_43.trans (pk_sub (a := x_8) (b := 1) (by omega))
          refine pl_put (ci := 12) (v := .int (nI (x_8 - 1))) (ty := .int) (C := RX12) (T := TX12) (N := 32) (fs' := [.ref x_1, .ref x_2, .ref x_3, .ref x_4, .ref x_5, .int (nI x_6), .int (nI x_7), .int (nI (x_8 - 1)), .int x_9, .ref x_10, .int (nI (pr.2)), .int (nI x_11), .int (nI x_12), .int x_13, .int x_14, .int x_15, .int x_16, .ref x_17, .ref x_18, .int (nI x_19), .ref x_20, .ref x_21, .ref x_22, .ref x_23, .ref x_24, .ref x_25, .ref x_26, .ref x_27, .ref x_28, .ref x_29, .ref x_30, .int (nI x_31)]) hx hb hT iX12 tyX12 tyX12_ok nmX12 hown hK hW hT_o.1 hS_o rfl 7 (by decide) w1089 rfl (by decide +kernel) rfl rfl (Nat.le_of_ble_eq_true rfl) rfl dX12_remembers_47 (fun H locs S_44 e1 hW => ?_)
          have hTy := hTy.u12 e1 hT_o ⟨x_1, x_2, x_3, x_4, x_5, x_6, x_7, x_8 - 1, x_9, x_10, x_11, x_12, x_13, x_14, x_15, x_16, x_17, x_18, x_19, x_20, x_21, x_22, x_23, x_24, x_25, x_26, x_27, x_28, x_29, x_30, x_31, rfl, hT_x_1, hT_x_2, hT_x_3, hT_x_4, hT_x_5, (by omega), (by omega), (by omega), hT_x_10, (by show pr.2 ≤ 900; omega), (by omega), (by omega), hT_x_17, hT_x_18, (by omega), hT_x_20, hT_x_21, hT_x_22, hT_x_23, hT_x_24, hT_x_25, hT_x_26, hT_x_27, hT_x_28, hT_x_29, hT_x_30, (by omega)⟩
          have hS_x_1 := un e1 hT_x_1 hT_o (by decide) hS_x_1
          have hVs := un e1 hT_x_3 hT_o (by decide) hVs
          have hws := (show wrs (.inr (12, [.ref x_1, .ref x_2, .ref x_3, .ref x_4, .ref x_5, .int (nI x_6), .int (nI x_7), .int (nI (x_8 - 1)), .int x_9, .ref x_10, .int (nI (pr.2)), .int (nI x_11), .int (nI x_12), .int x_13, .int x_14, .int x_15, .int x_16, .ref x_17, .ref x_18, .int (nI x_19), .ref x_20, .ref x_21, .ref x_22, .ref x_23, .ref x_24, .ref x_25, .ref x_26, .ref x_27, .ref x_28, .ref x_29, .ref x_30, .int (nI x_31)])) = wrs (S_42 o) from by rw [hS_o]; rfl)
          have hFr := ufs hFr e1 hT_o (by decide) hws
          have hS_o := us e1
          refine lv_iconst (v := 0) hx hb dX12_remembers_50 (by decide) ?_
          refine lv_istore_n (lv' := [(1, .int 0), (0, .ref o)]) hx hb dX12_remembers_51 rfl hl (by decide) rfl (fun ls hl => ?_)
          have loop : ∀ (fuel : Nat) (i2 : Nat) (gw : Nat → Int32) (SS : Nat → va_E) (H : Heap) (locs : List Loc) (ls : Array Slot), 267 - i2 < fuel → (i2 ≤ 266) → (SS x_3 = .inl (cy 0, 2660, .inl gw)) → ((∀ j, j < i2 → gw (266 * (x_8 - 1) + j) = f_32 j) ∧ ∀ j, j < 266 * (x_8 - 1) ∨ 266 * (x_8 - 1) + 266 ≤ j → gw j = gv j) → Ty cy L kap pr SS → Fr kap [12, 52] S SS → Fr kap [52] S_44 SS → PW dC dI L (AL L s.heap.size) s.heap SS H locs → lv_has ls 2 [(1, .int (nI i2)), (0, .ref o)] → W p l e (headSpec (wT yX12_remembers cX12_remembers 2 none) { frames := 0, cells := 0, slots := 0, locals := 0 }).room s m [.ref o].toArray below meth c H locs 0 0 (MQ below (va_Qv (fun S' => Ty cy L kap pr S' ∧ Fr kap [12, 52] S S' ∧ (rf (S' o) 0 = rf (S o) 0 ∧ DGA (fld S' o 2))) (fun S' t => pB dC dI (AL L s.heap.size) (va_pl L S') (cyT cy) t) (AL L s.heap.size)) [.ref o].toArray s 0 0 (AL L s.heap.size)) (F0 m 52 ls []) := by
            intro fuel
            induction fuel with
            | zero => intro i2 gw SS H locs ls h; exact absurd h (Nat.not_lt_zero _)
            | succ fu52 ih52 =>
              intro i2 gw S_45 H locs ls hm52 hb_i2 hWs hcq hTy hFr hFl52 hW hl
              have hS_o := hFl52.at hT_o (by decide) hS_o
              have hS_x_1 := hFl52.at hT_x_1 (by decide) hS_x_1
              have hi_gw := k52i hTy hT_x_3 hWs
              refine lv_iload_n hx hb dX12_remembers_52 rfl (lv_at hl 0 rfl) ?_
              refine lv_sipush (v := 266) hx hb dX12_remembers_53 (by decide) ?_
              refine lv_icmp_ge (tgt := 86) hx hb dX12_remembers_56 (by decide) (fun c_56 => ?_) (fun c_56 => ?_)
              · have c_56 : 266 ≤ i2 := (nI_leI (a := 266) (b := i2) (by omega) (by omega)).mp c_56
                have hi66 : i2 = 266 := by omega
                have hda_ : DGA gw := DGA_put (am := x_8 - 1) hda_ hdg_ rfl (by rw [hi66] at hcq; exact hcq)
                refine lv_aload_n hx hb dX12_remembers_86 rfl (lv_at hl 1 rfl) ?_
                refine lv_dup hx hb dX12_remembers_87 rfl ?_
                refine pl_get (ci := 12) (v := .int (nI (x_8 - 1))) (C := RX12) (T := TX12) (N := 32) hx hb hT iX12 hown hK hW hT_o.1 hS_o rfl 7 (by decide) w1089 rfl dX12_remembers_88 ?_
                refine lv_iconst (v := 1) hx hb dX12_remembers_91 (by decide) ?_
                refine lv_iadd hx hb dX12_remembers_92 ?_
                refine lv_topi (fun z_46 ez_46 => ?_)
                obtain rfl : z_46 = nI ((x_8 - 1) + 1) := ez_46.trans (nI_add (x_8 - 1) (1))
                refine pl_put (ci := 12) (v := .int (nI ((x_8 - 1) + 1))) (ty := .int) (C := RX12) (T := TX12) (N := 32) (fs' := [.ref x_1, .ref x_2, .ref x_3, .ref x_4, .ref x_5, .int (nI x_6), .int (nI x_7), .int (nI ((x_8 - 1) + 1)), .int x_9, .ref x_10, .int (nI (pr.2)), .int (nI x_11), .int (nI x_12), .int x_13, .int x_14, .int x_15, .int x_16, .ref x_17, .ref x_18, .int (nI x_19), .ref x_20, .ref x_21, .ref x_22, .ref x_23, .ref x_24, .ref x_25, .ref x_26, .ref x_27, .ref x_28, .ref x_29, .ref x_30, .int (nI x_31)]) hx hb hT iX12 tyX12 tyX12_ok nmX12 hown hK hW hT_o.1 hS_o rfl 7 (by decide) w1089 rfl (by decide +kernel) rfl rfl (Nat.le_of_ble_eq_true rfl) rfl dX12_remembers_93 (fun H locs S_47 e1 hW => ?_)
                have hTy := hTy.u12 e1 hT_o ⟨x_1, x_2, x_3, x_4, x_5, x_6, x_7, (x_8 - 1) + 1, x_9, x_10, x_11, x_12, x_13, x_14, x_15, x_16, x_17, x_18, x_19, x_20, x_21, x_22, x_23, x_24, x_25, x_26, x_27, x_28, x_29, x_30, x_31, rfl, hT_x_1, hT_x_2, hT_x_3, hT_x_4, hT_x_5, (by omega), (by omega), (by omega), hT_x_10, (by show pr.2 ≤ 900; omega), (by omega), (by omega), hT_x_17, hT_x_18, (by omega), hT_x_20, hT_x_21, hT_x_22, hT_x_23, hT_x_24, hT_x_25, hT_x_26, hT_x_27, hT_x_28, hT_x_29, hT_x_30, (by omega)⟩
                have hS_x_1 := un e1 hT_x_1 hT_o (by decide) hS_x_1
                have hWs := un e1 hT_x_3 hT_o (by decide) hWs
                have hws := (show wrs (.inr (12, [.ref x_1, .ref x_2, .ref x_3, .ref x_4, .ref x_5, .int (nI x_6), .int (nI x_7), .int (nI ((x_8 - 1) + 1)), .int x_9, .ref x_10, .int (nI (pr.2)), .int (nI x_11), .int (nI x_12), .int x_13, .int x_14, .int x_15, .int x_16, .ref x_17, .ref x_18, .int (nI x_19), .ref x_20, .ref x_21, .ref x_22, .ref x_23, .ref x_24, .ref x_25, .ref x_26, .ref x_27, .ref x_28, .ref x_29, .ref x_30, .int (nI x_31)])) = wrs (S_45 o) from by rw [hS_o]; rfl)
                have hFr := ufs hFr e1 hT_o (by decide) hws
                have hS_o := us e1
                exact W.vret hx hb hr (fun t ht h9 => ⟨⟨S_47, rfl, ⟨hTy, hFr, ⟨(rf_i hS_o rfl).trans (rf_i hS_o0 rfl).symm, (by rw [fld_i hS_o rfl hWs]; exact hda_)⟩⟩, by rw [ht]; exact hW.1, va_K.moved h9.alike hK, hW.2.1⟩, hW.2.2.F ht⟩) hW.2.2.2.2 dX12_remembers_96
              · have c_56 : ¬ (266 ≤ i2) := fun hh9 => c_56 ((nI_leI (a := 266) (b := i2) (by omega) (by omega)).mpr hh9)
                refine lv_aload_n hx hb dX12_remembers_59 rfl (lv_at hl 1 rfl) ?_
                refine pl_get (ci := 12) (v := .ref x_3) (C := RX12) (T := TX12) (N := 32) hx hb hT iX12 hown hK hW hT_o.1 hS_o rfl 2 (by decide) w1084 rfl dX12_remembers_60 ?_
                refine lv_sipush (v := 266) hx hb dX12_remembers_63 (by decide) ?_
                refine lv_aload_n hx hb dX12_remembers_66 rfl (lv_at hl 1 rfl) ?_
                refine pl_get (ci := 12) (v := .int (nI (x_8 - 1))) (C := RX12) (T := TX12) (N := 32) hx hb hT iX12 hown hK hW hT_o.1 hS_o rfl 7 (by decide) w1089 rfl dX12_remembers_67 ?_
                refine lv_imul hx hb dX12_remembers_70 ?_
                refine lv_topi (fun z_48 ez_48 => ?_)
                obtain rfl : z_48 = nI (266 * (x_8 - 1)) := ez_48.trans (pk_mul (266) (x_8 - 1))
                refine lv_iload_n hx hb dX12_remembers_71 rfl (lv_at hl 0 rfl) ?_
                refine lv_iadd hx hb dX12_remembers_72 ?_
                refine lv_topi (fun z_49 ez_49 => ?_)
                obtain rfl : z_49 = nI ((266 * (x_8 - 1)) + i2) := ez_49.trans (nI_add (266 * (x_8 - 1)) (i2))
                refine lv_aload_n hx hb dX12_remembers_73 rfl (lv_at hl 1 rfl) ?_
                refine pl_get (ci := 12) (v := .ref x_1) (C := RX12) (T := TX12) (N := 32) hx hb hT iX12 hown hK hW hT_o.1 hS_o rfl 0 (by decide) w1082 rfl dX12_remembers_74 ?_
                refine lv_iload_n hx hb dX12_remembers_77 rfl (lv_at hl 0 rfl) ?_
                refine pl_iald hx hb hK hW hT_x_1.1 hS_x_1 (vp_in_nI (n := i2) (N := 266) (by omega) (by omega)) dX12_remembers_78 ?_
                refine lv_topi (fun y_50 ey_50 => ?_)
                have hv_y_50 : okS (i2) y_50 := by rw [ey_50]; show okS _ (f_32 (nI (i2)).toNatClampNeg); rw [nI_clamp (by omega)]; exact hi_f_32 (i2) (by omega)
                refine pl_iast hx hb hK hW hT_x_3.1 hWs (vp_in_nI (n := (266 * (x_8 - 1)) + i2) (N := 2660) (by omega) (by omega)) dX12_remembers_79 (fun H locs f_52 S_51 ef_f_52 e1 hW => ?_)
                have hi_f_52 := okS2_up (i := (266 * (x_8 - 1)) + i2) (by omega) hi_gw ef_f_52 (by rw [Nat.mul_add_mod, Nat.mod_eq_of_lt (by omega)]; exact hv_y_50)
                have hTy := hTy.u52 e1 hT_x_3 ⟨f_52, rfl, hi_f_52⟩
                have hS_o := un e1 hT_o hT_x_3 (by decide) hS_o
                have hS_x_1 := un e1 hT_x_1 hT_x_3 (by decide) hS_x_1
                have hFr := uf hFr e1 hT_x_3 (by decide) (by decide)
                have hFl52 := uf hFl52 e1 hT_x_3 (by decide) (by decide)
                have hWs := us e1
                have hcq1 := cpb_up hcq ef_f_52 (by omega) ey_50 (by omega) (by omega)
                refine lv_iinc (v := nI (i2 + 1)) (lv' := [(1, .int (nI (i2 + 1))), (0, .ref o)]) hx hb dX12_remembers_80 hl (k := 0) rfl (nI_add (i2) 1) (by decide) rfl (fun ls hl => ?_)
                refine lv_goto (tgt := 52) hx hb dX12_remembers_83 (by decide) ?_
                exact ih52 (i2 + 1) f_52 _ _ _ ls (by omega) (by omega) hWs hcq1 hTy hFr hFl52 hW (lv_sub hl [0, 1] rfl)
          exact loop ((267 - 0) + 1) 0 gv _ _ _ ls (Nat.lt_succ_self _) (by omega) hVs ⟨fun j h => absurd h (Nat.not_lt_zero _), fun _ _ => rfl⟩ hTy hFr Fr.rf hW (lv_sub hl [0, 1] rfl)
        · have c_15 : ¬ (2394 ≤ i) := fun hh9 => c_15 ((nI_leI (a := 2394) (b := i) (by omega) (by omega)).mpr hh9)
          refine lv_aload_n hx hb dX12_remembers_18 rfl (lv_at hl 1 rfl) ?_
          refine pl_get (ci := 12) (v := .ref x_3) (C := RX12) (T := TX12) (N := 32) hx hb hT iX12 hown hK hW hT_o.1 hS_o rfl 2 (by decide) w1084 rfl dX12_remembers_19 ?_
          refine lv_iload_n hx hb dX12_remembers_22 rfl (lv_at hl 0 rfl) ?_
          refine lv_aload_n hx hb dX12_remembers_23 rfl (lv_at hl 1 rfl) ?_
          refine pl_get (ci := 12) (v := .ref x_3) (C := RX12) (T := TX12) (N := 32) hx hb hT iX12 hown hK hW hT_o.1 hS_o rfl 2 (by decide) w1084 rfl dX12_remembers_24 ?_
          refine lv_iload_n hx hb dX12_remembers_27 rfl (lv_at hl 0 rfl) ?_
          refine lv_sipush (v := 266) hx hb dX12_remembers_28 (by decide) ?_
          refine lv_iadd hx hb dX12_remembers_31 ?_
          refine lv_topi (fun z_53 ez_53 => ?_)
          obtain rfl : z_53 = nI (i + 266) := ez_53.trans (nI_add (i) (266))
          refine pl_iald hx hb hK hW hT_x_3.1 hVs (vp_in_nI (n := i + 266) (N := 2660) (by omega) (by omega)) dX12_remembers_32 ?_
          refine lv_topi (fun y_54 ey_54 => ?_)
          have hv_y_54 : okS ((i + 266) % 266) y_54 := by rw [ey_54]; show okS _ (gv (nI (i + 266)).toNatClampNeg); rw [nI_clamp (by omega)]; exact hi_gv (i + 266) (by omega)
          refine pl_iast hx hb hK hW hT_x_3.1 hVs (vp_in_nI (n := i) (N := 2660) (by omega) (by omega)) dX12_remembers_33 (fun H locs f_56 S_55 ef_f_56 e1 hW => ?_)
          have hi_f_56 := okS2_up (i := i) (by omega) hi_gv ef_f_56 (by have q := hv_y_54; rw [Nat.add_mod_right] at q; exact q)
          have hTy := hTy.u52 e1 hT_x_3 ⟨f_56, rfl, hi_f_56⟩
          have hS_o := un e1 hT_o hT_x_3 (by decide) hS_o
          have hS_x_1 := un e1 hT_x_1 hT_x_3 (by decide) hS_x_1
          have hFr := uf hFr e1 hT_x_3 (by decide) (by decide)
          have hFl11 := uf hFl11 e1 hT_x_3 (by decide) (by decide)
          have hVs := us e1
          have hcp1 := csh_up hcp ef_f_56 (by omega) ey_54 (by omega)
          refine lv_iinc (v := nI (i + 1)) (lv' := [(1, .int (nI (i + 1))), (0, .ref o)]) hx hb dX12_remembers_34 hl (k := 0) rfl (nI_add (i) 1) (by decide) rfl (fun ls hl => ?_)
          refine lv_goto (tgt := 11) hx hb dX12_remembers_37 (by decide) ?_
          exact ih11 (i + 1) f_56 _ _ _ ls (by omega) (by omega) hVs hcp1 hTy hFr hFl11 hW (lv_sub hl [0, 1] rfl)
    exact loop ((2395 - 0) + 1) 0 f_33 _ _ _ ls (Nat.lt_succ_self _) (by omega) hS_x_3 ⟨fun j h => absurd h (Nat.not_lt_zero _), fun _ _ => rfl⟩ hTy hFr Fr.rf hW (lv_sub hl [0, 1] rfl)

set_option maxHeartbeats 4000000 in
set_option maxRecDepth 100000 in
theorem m_trade (l : Launch) (dC : Nat → ClassId) (dI : Nat → Nat → Nat) (cy : Nat → ClassId) (L : List Nat) (kap : Nat → Nat) (pr : Pr) (S : Nat → va_E) (sz : Nat) (o : Nat) (fr : Int32) (to : Int32) (am : Int32) (kd : Int32) (hTy : Ty cy L kap pr S) (hT_o : TK L kap o 12) (hdi : dg (fld S o 0) ∧ DGA (fld S o 2)) : Met l yX12_trade (wT yX12_trade cX12_trade 5 (some .int)) ({ frames := 3, cells := 0, slots := 0, locals := 68 }) (pcN dC dI [.ref o, .int fr, .int to, .int am, .int kd] sz (va_pl L S) (cyT cy) NLs []) (va_Qi (fun r S' => Ty cy L kap pr S' ∧ Fr kap [12, 50, 52] S S' ∧ (dg (fld S' o 0) ∧ DGA (fld S' o 2))) (fun S' t => pB dC dI (AL L sz) (va_pl L S') (cyT cy) t) (AL L sz)) 0 0 (AL L sz) := by
  refine Met.ofW (cc := cX12_trade) (maxL := 5) (ret := (some .int)) (by decide) rfl ?_
  intro p e s m args below meth c s₁ B hml hv
  obtain ⟨rfl, hsz, hP, hK, hD0, hN, -⟩ := hv
  have hx := B.exec
  have hb := B.bytes
  have hr := B.returns
  have hT : ∀ wd ∈ TB, wd.before [.ref o, .int fr, .int to, .int am, .int kd].toArray s = true := fun wd h => atoms_spec (ws := wT yX12_trade cX12_trade 5 (some .int)) B.pre wd (List.mem_cons_of_mem _ h)
  have hown : s.vm.findClass RX12 = some m.cls := findClass_of_methodNamed B.named
  have hlocks := B.notSynchronized
  subst hsz
  have hW : PW dC dI L (AL L s.heap.size) s.heap S s.heap [] := ⟨hP, pl_self hD0, va_S.rf⟩
  have hA0 : ∀ q, q ∈ L → AL L s.heap.size q := fun _ h => Or.inl h
  have hA : ∀ q, s.heap.size ≤ q → AL L s.heap.size q := fun _ h => Or.inr h
  have hFr : Fr kap [12, 50, 52] S S := Fr.rf
  have hl := lv_entry ([.ref o, .int fr, .int to, .int am, .int kd]) (n := 5) (Nat.le_of_ble_eq_true rfl)
  rw [lg_entry_eq]
  generalize (lg_sl ([.ref o, .int fr, .int to, .int am, .int kd]) ++ List.replicate (5 - (lg_sl ([.ref o, .int fr, .int to, .int am, .int kd])).length) Slot.unset).toArray = ls at hl ⊢
  have hl : lv_has ls 5 [(0, .ref o), (1, .int fr), (2, .int to), (3, .int am), (4, .int kd)] := hl
  obtain ⟨x_1, x_2, x_3, x_4, x_5, x_6, x_7, x_8, x_9, x_10, x_11, x_12, x_13, x_14, x_15, x_16, x_17, x_18, x_19, x_20, x_21, x_22, x_23, x_24, x_25, x_26, x_27, x_28, x_29, x_30, x_31, hS_o, hT_x_1, hT_x_2, hT_x_3, hT_x_4, hT_x_5, hb_x_6, hb_x_7, hb_x_8, hT_x_10, hb_q2, hb_x_11, hb_x_12, hT_x_17, hT_x_18, hb_x_19, hT_x_20, hT_x_21, hT_x_22, hT_x_23, hT_x_24, hT_x_25, hT_x_26, hT_x_27, hT_x_28, hT_x_29, hT_x_30, hb_x_31⟩ := hTy.k12 hT_o
  have hb_q2 : pr.2 ≤ 900 := hb_q2
  have hS_o : S o = .inr (12, [.ref x_1, .ref x_2, .ref x_3, .ref x_4, .ref x_5, .int (nI x_6), .int (nI x_7), .int (nI x_8), .int x_9, .ref x_10, .int (nI (pr.2)), .int (nI x_11), .int (nI x_12), .int x_13, .int x_14, .int x_15, .int x_16, .ref x_17, .ref x_18, .int (nI x_19), .ref x_20, .ref x_21, .ref x_22, .ref x_23, .ref x_24, .ref x_25, .ref x_26, .ref x_27, .ref x_28, .ref x_29, .ref x_30, .int (nI x_31)]) := hS_o
  obtain ⟨f_32, hS_x_1, hi_f_32⟩ := hTy.k50 hT_x_1
  have hdg_ : dg f_32 := by have q := hdi.1; rw [fld_i hS_o rfl hS_x_1] at q; exact q
  obtain ⟨f_33, hS_x_3, hi_f_33⟩ := hTy.k52 hT_x_3
  have hda_ : DGA f_33 := by have q := hdi.2; rw [fld_i hS_o rfl hS_x_3] at q; exact q
  refine lv_aload_n hx hb dX12_trade_0 rfl (lv_at hl 0 rfl) ?_
  refine lv_iconst (v := 0) hx hb dX12_trade_1 (by decide) ?_
  refine pl_put (ci := 12) (v := .int 0) (ty := .int) (C := RX12) (T := TX12) (N := 32) (fs' := [.ref x_1, .ref x_2, .ref x_3, .ref x_4, .ref x_5, .int (nI x_6), .int (nI x_7), .int (nI x_8), .int 0, .ref x_10, .int (nI (pr.2)), .int (nI x_11), .int (nI x_12), .int x_13, .int x_14, .int x_15, .int x_16, .ref x_17, .ref x_18, .int (nI x_19), .ref x_20, .ref x_21, .ref x_22, .ref x_23, .ref x_24, .ref x_25, .ref x_26, .ref x_27, .ref x_28, .ref x_29, .ref x_30, .int (nI x_31)]) hx hb hT iX12 tyX12 tyX12_ok nmX12 hown hK hW hT_o.1 hS_o rfl 8 (by decide) w1090 rfl (by decide +kernel) rfl rfl (Nat.le_of_ble_eq_true rfl) rfl dX12_trade_2 (fun H locs S_34 e1 hW => ?_)
  have hTy := hTy.u12 e1 hT_o ⟨x_1, x_2, x_3, x_4, x_5, x_6, x_7, x_8, 0, x_10, x_11, x_12, x_13, x_14, x_15, x_16, x_17, x_18, x_19, x_20, x_21, x_22, x_23, x_24, x_25, x_26, x_27, x_28, x_29, x_30, x_31, rfl, hT_x_1, hT_x_2, hT_x_3, hT_x_4, hT_x_5, (by omega), (by omega), (by omega), hT_x_10, (by show pr.2 ≤ 900; omega), (by omega), (by omega), hT_x_17, hT_x_18, (by omega), hT_x_20, hT_x_21, hT_x_22, hT_x_23, hT_x_24, hT_x_25, hT_x_26, hT_x_27, hT_x_28, hT_x_29, hT_x_30, (by omega)⟩
  have hS_x_1 := un e1 hT_x_1 hT_o (by decide) hS_x_1
  have hS_x_3 := un e1 hT_x_3 hT_o (by decide) hS_x_3
  have hws := (show wrs (.inr (12, [.ref x_1, .ref x_2, .ref x_3, .ref x_4, .ref x_5, .int (nI x_6), .int (nI x_7), .int (nI x_8), .int 0, .ref x_10, .int (nI (pr.2)), .int (nI x_11), .int (nI x_12), .int x_13, .int x_14, .int x_15, .int x_16, .ref x_17, .ref x_18, .int (nI x_19), .ref x_20, .ref x_21, .ref x_22, .ref x_23, .ref x_24, .ref x_25, .ref x_26, .ref x_27, .ref x_28, .ref x_29, .ref x_30, .int (nI x_31)])) = wrs (S o) from by rw [hS_o]; rfl)
  have hFr := ufs hFr e1 hT_o (by decide) hws
  have hS_o := us e1
  refine lv_aload_n hx hb dX12_trade_5 rfl (lv_at hl 0 rfl) ?_
  refine lv_iload_n hx hb dX12_trade_6 rfl (lv_at hl 1 rfl) ?_
  refine lv_iload_n hx hb dX12_trade_7 rfl (lv_at hl 2 rfl) ?_
  refine vp_callSi (va_Run.run (va_runV (As := [.int fr, .int to]) (rest := []) ⟨hx, hb, hml, hown, hT⟩ (m_areTwo l dC dI cy L kap pr S_34 H.size o fr to hTy hT_o) (cwV 2 hT (gV w1280 w1282 ws72 w14 w1283) rfl rfl rfl (by decide +kernel) ⟨(Nat.le_of_ble_eq_true rfl), (Nat.le_of_ble_eq_true rfl)⟩) ⟨pcN.blind, pl_recv hK hW hT_o.1 hS_o rfl, pcN.pre hW.1 hK hW.2.1 hN (fun q h => absurd h List.not_mem_nil)⟩ rfl rfl hl.1 rfl (lv_room (Nat.le_of_ble_eq_true rfl)) dX12_trade_8 ⟨(Nat.le_of_ble_eq_true rfl), (Nat.le_of_ble_eq_true rfl)⟩)) (fun r_35 hr_35 => ?_)
  rcases hr_35 with hc_ | hc_
  · obtain rfl : r_35 = 0 := hc_
    refine lv_if_eq (tgt := 23) hx hb dX12_trade_11 (by decide) (fun _ => ?_) (fun h => absurd (by decide) h)
    refine lv_bipush (v := (-2)) hx hb dX12_trade_23 (by decide) ?_
    exact W.iret (v := (-2)) hx hb hr (fun t ht h9 => ⟨⟨(-2), S_34, rfl, ⟨hTy, hFr, ⟨(by rw [fld_i hS_o rfl hS_x_1]; exact hdg_), (by rw [fld_i hS_o rfl hS_x_3]; exact hda_)⟩⟩, by rw [ht]; exact hW.1, va_K.moved h9.alike hK, hW.2.1⟩, hW.2.2.F ht⟩) hW.2.2.2.2 dX12_trade_25
  · obtain ⟨rfl, k_36, k_37, hb_k_36, hb_k_37, rfl, rfl, hab2⟩ := hc_
    refine lv_if_eq (tgt := 23) hx hb dX12_trade_11 (by decide) (fun h => absurd h (by decide)) (fun _ => ?_)
    refine lv_aload_n hx hb dX12_trade_14 rfl (lv_at hl 0 rfl) ?_
    refine lv_iload hx hb dX12_trade_15 (lv_at hl 4 rfl) ?_
    refine vp_callSi (va_Run.run (va_runV (As := [.int kd]) (rest := []) ⟨hx, hb, hml, hown, hT⟩ (m_isKind l dC dI cy L kap pr S_34 H.size o kd hTy hT_o) (cwV 1 hT (gV w1288 w1290 ws74 w14 w1291) rfl rfl rfl (by decide +kernel) ⟨(Nat.le_of_ble_eq_true rfl), (Nat.le_of_ble_eq_true rfl)⟩) ⟨pcN.blind, pl_recv hK hW hT_o.1 hS_o rfl, pcN.pre hW.1 hK hW.2.1 hN (fun q h => absurd h List.not_mem_nil)⟩ rfl rfl hl.1 rfl (lv_room (Nat.le_of_ble_eq_true rfl)) dX12_trade_17 ⟨(Nat.le_of_ble_eq_true rfl), (Nat.le_of_ble_eq_true rfl)⟩)) (fun r_38 hr_38 => ?_)
    rcases hr_38 with hc_ | hc_
    · obtain rfl : r_38 = 0 := hc_
      refine lv_if_ne (tgt := 26) hx hb dX12_trade_20 (by decide) (fun h => absurd (by decide) h) (fun _ => ?_)
      refine lv_bipush (v := (-2)) hx hb dX12_trade_23 (by decide) ?_
      exact W.iret (v := (-2)) hx hb hr (fun t ht h9 => ⟨⟨(-2), S_34, rfl, ⟨hTy, hFr, ⟨(by rw [fld_i hS_o rfl hS_x_1]; exact hdg_), (by rw [fld_i hS_o rfl hS_x_3]; exact hda_)⟩⟩, by rw [ht]; exact hW.1, va_K.moved h9.alike hK, hW.2.1⟩, hW.2.2.F ht⟩) hW.2.2.2.2 dX12_trade_25
    · obtain ⟨rfl, k_39, hb_k_39, rfl⟩ := hc_
      refine lv_if_ne (tgt := 26) hx hb dX12_trade_20 (by decide) (fun _ => ?_) (fun h => absurd h (by decide))
      refine lv_iload_n hx hb dX12_trade_26 rfl (lv_at hl 3 rfl) ?_
      refine lv_i2l hx hb dX12_trade_27 rfl ?_
      refine lv_topl (fun z_40 ez_40 => ?_)
      refine lv_lconst (v := 1) hx hb dX12_trade_28 (by decide) ?_
      refine lv_ldc2 (v := 999999) hx hb hown (hT _ w1292) dX12_trade_29 ?_
      refine vp_callSi (va_Run.run (va_runS (As := [.long z_40, .long 1, .long 999999]) (rest := []) ⟨hx, hb, hml, hown, hT⟩ (m_isIn l dC dI H.size z_40 1 999999) (va_cwS 3 hT (gS w1187 w1188 w14 w1189) rfl rfl rfl (by decide +kernel) ⟨(Nat.le_of_ble_eq_true rfl), (Nat.le_of_ble_eq_true rfl)⟩) ⟨pcW.blind, pcW.pre (va_P0 _ _ _) (hK.sub (tys' := []) [] rfl) (va_D0 (fun _ => True))⟩ rfl rfl hl.1 rfl (lv_room (Nat.le_of_ble_eq_true rfl)) dX12_trade_32 ⟨(Nat.le_of_ble_eq_true rfl), (Nat.le_of_ble_eq_true rfl)⟩)) (fun r_41 hr_41 => ?_)
      rcases isInc hr_41 with hc_ | hc_
      · obtain ⟨rfl, hin_⟩ := hc_
        refine lv_if_ne (tgt := 41) hx hb dX12_trade_35 (by decide) (fun _ => ?_) (fun h => absurd h (by decide))
        refine lv_aload_n hx hb dX12_trade_41 rfl (lv_at hl 0 rfl) ?_
        refine pl_get (ci := 12) (v := .ref x_1) (C := RX12) (T := TX12) (N := 32) hx hb hT iX12 hown hK hW hT_o.1 hS_o rfl 0 (by decide) w1082 rfl dX12_trade_42 ?_
        refine lv_iconst (v := 0) hx hb dX12_trade_45 (by decide) ?_
        refine pl_iald hx hb hK hW hT_x_1.1 hS_x_1 (vp_in_nI (n := 0) (N := 266) (by omega) (by omega)) dX12_trade_46 ?_
        refine lv_topi (fun y_42 ey_42 => ?_)
        have hv_y_42 : okS (0) y_42 := by rw [ey_42]; show okS _ (f_32 (nI (0)).toNatClampNeg); rw [nI_clamp (by omega)]; exact hi_f_32 (0) (by omega)
        obtain ⟨k_43, hb_k_43, hq_k_43⟩ := hv_y_42.1 rfl
        obtain rfl : y_42 = nI k_43 := hq_k_43
        refine lv_bipush (v := 40) hx hb dX12_trade_47 (by decide) ?_
        refine lv_icmp_ne (tgt := 55) hx hb dX12_trade_49 (by decide) (fun c_49 => ?_) (fun c_49 => ?_)
        · have c_49 : ¬ (k_43 = 40) := fun hh9 => c_49 ((nI_eq (a := k_43) (b := 40) (by omega) (by omega)).mpr hh9)
          refine lv_aload_n hx hb dX12_trade_55 rfl (lv_at hl 0 rfl) ?_
          refine pl_callv (va_runV (As := []) (rest := []) ⟨hx, hb, hml, hown, hT⟩ (m_remembers l dC dI cy L kap pr S_34 H.size o hTy hT_o (by rw [fld_i hS_o rfl hS_x_1]; exact hdg_) (by rw [fld_i hS_o rfl hS_x_3]; exact hda_)) (cwV 0 hT (gV w1293 w1295 ws75 w14 w1296) rfl rfl rfl (by decide +kernel) ⟨(Nat.le_of_ble_eq_true rfl), (Nat.le_of_ble_eq_true rfl)⟩) ⟨pcN.blind, pl_recv hK hW hT_o.1 hS_o rfl, pcN.pre hW.1 hK hW.2.1 hN (fun q h => absurd h List.not_mem_nil)⟩ rfl rfl hl.1 rfl (lv_room (Nat.le_of_ble_eq_true rfl)) dX12_trade_56 ⟨(Nat.le_of_ble_eq_true rfl), (Nat.le_of_ble_eq_true rfl)⟩) hW hA0 hA (fun S_44 H locs hrel hW => ?_)
          obtain ⟨hTy, hF1, hx1⟩ := hrel
          have hFr := hFr.tr hF1 (by decide)
          have hS_x_1 := hF1.at hT_x_1 (by decide) hS_x_1
          obtain ⟨h0k_, hda_⟩ := hx1
          have h0r_ := h0k_.trans (rf_i hS_o rfl)
          obtain ⟨x_45, x_46, x_47, x_48, x_49, x_50, x_51, x_52, x_53, x_54, x_55, x_56, x_57, x_58, x_59, x_60, x_61, x_62, x_63, x_64, x_65, x_66, x_67, x_68, x_69, x_70, x_71, x_72, x_73, x_74, x_75, hS_o, hT_x_45, hT_x_46, hT_x_47, hT_x_48, hT_x_49, hb_x_50, hb_x_51, hb_x_52, hT_x_54, hb_q2, hb_x_55, hb_x_56, hT_x_61, hT_x_62, hb_x_63, hT_x_64, hT_x_65, hT_x_66, hT_x_67, hT_x_68, hT_x_69, hT_x_70, hT_x_71, hT_x_72, hT_x_73, hT_x_74, hb_x_75⟩ := hTy.k12 hT_o
          have hb_q2 : pr.2 ≤ 900 := hb_q2
          have hS_o : S_44 o = .inr (12, [.ref x_45, .ref x_46, .ref x_47, .ref x_48, .ref x_49, .int (nI x_50), .int (nI x_51), .int (nI x_52), .int x_53, .ref x_54, .int (nI (pr.2)), .int (nI x_55), .int (nI x_56), .int x_57, .int x_58, .int x_59, .int x_60, .ref x_61, .ref x_62, .int (nI x_63), .ref x_64, .ref x_65, .ref x_66, .ref x_67, .ref x_68, .ref x_69, .ref x_70, .ref x_71, .ref x_72, .ref x_73, .ref x_74, .int (nI x_75)]) := hS_o
          have e0_ : x_1 = x_45 := h0r_.symm.trans (rf_i hS_o rfl)
          subst e0_
          obtain ⟨f_76, hS_x_47, hi_f_76⟩ := hTy.k52 hT_x_47
          have hda_ : DGA f_76 := by have q := hda_; rw [fld_i hS_o rfl hS_x_47] at q; exact q
          refine lv_aload_n hx hb dX12_trade_59 rfl (lv_at hl 0 rfl) ?_
          refine lv_iload_n hx hb dX12_trade_60 rfl (lv_at hl 1 rfl) ?_
          refine lv_iload_n hx hb dX12_trade_61 rfl (lv_at hl 2 rfl) ?_
          refine lv_iload_n hx hb dX12_trade_62 rfl (lv_at hl 3 rfl) ?_
          refine lv_iload hx hb dX12_trade_63 (lv_at hl 4 rfl) ?_
          refine pl_callv (va_runV (As := [.int (nI k_36), .int (nI k_37), .int am, .int (nI k_39)]) (rest := []) ⟨hx, hb, hml, hown, hT⟩ (m_adds l dC dI cy L kap pr S_44 H.size o k_36 k_37 am k_39 hTy hT_o (by omega) (by omega) (by omega) k_43 (mnyi hS_o rfl hS_x_1 ey_42.symm) (by omega) (by rw [fld_i hS_o rfl hS_x_1]; exact hdg_) hab2) (cwV 4 hT (gV w1268 w1270 ws71 w14 w1271) rfl rfl rfl (by decide +kernel) ⟨(Nat.le_of_ble_eq_true rfl), (Nat.le_of_ble_eq_true rfl)⟩) ⟨pcN.blind, pl_recv hK hW hT_o.1 hS_o rfl, pcN.pre hW.1 hK hW.2.1 hN (fun q h => absurd h List.not_mem_nil)⟩ rfl rfl hl.1 rfl (lv_room (Nat.le_of_ble_eq_true rfl)) dX12_trade_65 ⟨(Nat.le_of_ble_eq_true rfl), (Nat.le_of_ble_eq_true rfl)⟩) hW hA0 hA (fun S_77 H locs hrel hW => ?_)
          obtain ⟨hTy, hF1, hx1⟩ := hrel
          have hFr := hFr.tr hF1 (by decide)
          have hS_o := hF1.at hT_o (by decide) hS_o
          have hS_x_47 := hF1.at hT_x_47 (by decide) hS_x_47
          obtain ⟨f_78, hS_x_1, hi_f_78⟩ := hTy.k50 hT_x_1
          have h0_ : f_78 0 = nI (k_43 + 1) := mnye hx1.1 hS_o rfl hS_x_1
          have hdg_ : dg f_78 := by have q := hx1.2; rw [fld_i hS_o rfl hS_x_1] at q; exact q
          refine lv_aload_n hx hb dX12_trade_68 rfl (lv_at hl 0 rfl) ?_
          refine pl_get (ci := 12) (v := .ref x_1) (C := RX12) (T := TX12) (N := 32) hx hb hT iX12 hown hK hW hT_o.1 hS_o rfl 0 (by decide) w1082 rfl dX12_trade_69 ?_
          refine lv_iconst (v := 0) hx hb dX12_trade_72 (by decide) ?_
          refine pl_iald hx hb hK hW hT_x_1.1 hS_x_1 (vp_in_nI (n := 0) (N := 266) (by omega) (by omega)) dX12_trade_73 ?_
          refine lv_topi (fun y_79 ey_79 => ?_)
          obtain rfl : y_79 = nI (k_43 + 1) := ey_79.trans h0_
          refine lv_iconst (v := 1) hx hb dX12_trade_74 (by decide) ?_
          refine lv_isub hx hb dX12_trade_75 ?_
          refine lv_topi (fun z_80 ez_80 => ?_)
          obtain rfl : z_80 = pd (k_43 + 1) := ez_80
          exact W.iret (v := pd (k_43 + 1)) hx hb hr (fun t ht h9 => ⟨⟨pd (k_43 + 1), S_77, rfl, ⟨hTy, hFr, ⟨(by rw [fld_i hS_o rfl hS_x_1]; exact hdg_), (by rw [fld_i hS_o rfl hS_x_47]; exact hda_)⟩⟩, by rw [ht]; exact hW.1, va_K.moved h9.alike hK, hW.2.1⟩, hW.2.2.F ht⟩) hW.2.2.2.2 dX12_trade_76
        · have c_49 : k_43 = 40 := (nI_eq (a := k_43) (b := 40) (by omega) (by omega)).mp c_49
          refine lv_bipush (v := (-4)) hx hb dX12_trade_52 (by decide) ?_
          exact W.iret (v := (-4)) hx hb hr (fun t ht h9 => ⟨⟨(-4), S_34, rfl, ⟨hTy, hFr, ⟨(by rw [fld_i hS_o rfl hS_x_1]; exact hdg_), (by rw [fld_i hS_o rfl hS_x_3]; exact hda_)⟩⟩, by rw [ht]; exact hW.1, va_K.moved h9.alike hK, hW.2.1⟩, hW.2.2.F ht⟩) hW.2.2.2.2 dX12_trade_54
      · obtain ⟨rfl, hin_⟩ := hc_
        refine lv_if_ne (tgt := 41) hx hb dX12_trade_35 (by decide) (fun h => absurd (by decide) h) (fun _ => ?_)
        refine lv_bipush (v := (-3)) hx hb dX12_trade_38 (by decide) ?_
        exact W.iret (v := (-3)) hx hb hr (fun t ht h9 => ⟨⟨(-3), S_34, rfl, ⟨hTy, hFr, ⟨(by rw [fld_i hS_o rfl hS_x_1]; exact hdg_), (by rw [fld_i hS_o rfl hS_x_3]; exact hda_)⟩⟩, by rw [ht]; exact hW.1, va_K.moved h9.alike hK, hW.2.1⟩, hW.2.2.F ht⟩) hW.2.2.2.2 dX12_trade_40

set_option maxHeartbeats 4000000 in
set_option maxRecDepth 100000 in
theorem m_drop (l : Launch) (dC : Nat → ClassId) (dI : Nat → Nat → Nat) (cy : Nat → ClassId) (L : List Nat) (kap : Nat → Nat) (pr : Pr) (S : Nat → va_E) (sz : Nat) (o : Nat) (tr : Int32) (hTy : Ty cy L kap pr S) (hT_o : TK L kap o 12) (hdi : dg (fld S o 0) ∧ DGA (fld S o 2)) : Met l yX12_drop (wT yX12_drop cX12_drop 2 (some .int)) ({ frames := 2, cells := 0, slots := 0, locals := 46 }) (pcN dC dI [.ref o, .int tr] sz (va_pl L S) (cyT cy) NLs []) (va_Qi (fun r S' => Ty cy L kap pr S' ∧ Fr kap [12, 50, 52] S S' ∧ (dg (fld S' o 0) ∧ DGA (fld S' o 2))) (fun S' t => pB dC dI (AL L sz) (va_pl L S') (cyT cy) t) (AL L sz)) 0 0 (AL L sz) := by
  refine Met.ofW (cc := cX12_drop) (maxL := 2) (ret := (some .int)) (by decide) rfl ?_
  intro p e s m args below meth c s₁ B hml hv
  obtain ⟨rfl, hsz, hP, hK, hD0, hN, -⟩ := hv
  have hx := B.exec
  have hb := B.bytes
  have hr := B.returns
  have hT : ∀ wd ∈ TB, wd.before [.ref o, .int tr].toArray s = true := fun wd h => atoms_spec (ws := wT yX12_drop cX12_drop 2 (some .int)) B.pre wd (List.mem_cons_of_mem _ h)
  have hown : s.vm.findClass RX12 = some m.cls := findClass_of_methodNamed B.named
  have hlocks := B.notSynchronized
  subst hsz
  have hW : PW dC dI L (AL L s.heap.size) s.heap S s.heap [] := ⟨hP, pl_self hD0, va_S.rf⟩
  have hA0 : ∀ q, q ∈ L → AL L s.heap.size q := fun _ h => Or.inl h
  have hA : ∀ q, s.heap.size ≤ q → AL L s.heap.size q := fun _ h => Or.inr h
  have hFr : Fr kap [12, 50, 52] S S := Fr.rf
  have hl := lv_entry ([.ref o, .int tr]) (n := 2) (Nat.le_of_ble_eq_true rfl)
  rw [lg_entry_eq]
  generalize (lg_sl ([.ref o, .int tr]) ++ List.replicate (2 - (lg_sl ([.ref o, .int tr])).length) Slot.unset).toArray = ls at hl ⊢
  have hl : lv_has ls 2 [(0, .ref o), (1, .int tr)] := hl
  obtain ⟨x_1, x_2, x_3, x_4, x_5, x_6, x_7, x_8, x_9, x_10, x_11, x_12, x_13, x_14, x_15, x_16, x_17, x_18, x_19, x_20, x_21, x_22, x_23, x_24, x_25, x_26, x_27, x_28, x_29, x_30, x_31, hS_o, hT_x_1, hT_x_2, hT_x_3, hT_x_4, hT_x_5, hb_x_6, hb_x_7, hb_x_8, hT_x_10, hb_q2, hb_x_11, hb_x_12, hT_x_17, hT_x_18, hb_x_19, hT_x_20, hT_x_21, hT_x_22, hT_x_23, hT_x_24, hT_x_25, hT_x_26, hT_x_27, hT_x_28, hT_x_29, hT_x_30, hb_x_31⟩ := hTy.k12 hT_o
  have hb_q2 : pr.2 ≤ 900 := hb_q2
  have hS_o : S o = .inr (12, [.ref x_1, .ref x_2, .ref x_3, .ref x_4, .ref x_5, .int (nI x_6), .int (nI x_7), .int (nI x_8), .int x_9, .ref x_10, .int (nI (pr.2)), .int (nI x_11), .int (nI x_12), .int x_13, .int x_14, .int x_15, .int x_16, .ref x_17, .ref x_18, .int (nI x_19), .ref x_20, .ref x_21, .ref x_22, .ref x_23, .ref x_24, .ref x_25, .ref x_26, .ref x_27, .ref x_28, .ref x_29, .ref x_30, .int (nI x_31)]) := hS_o
  obtain ⟨f_32, hS_x_1, hi_f_32⟩ := hTy.k50 hT_x_1
  have hdg_ : dg f_32 := by have q := hdi.1; rw [fld_i hS_o rfl hS_x_1] at q; exact q
  obtain ⟨f_33, hS_x_3, hi_f_33⟩ := hTy.k52 hT_x_3
  have hda_ : DGA f_33 := by have q := hdi.2; rw [fld_i hS_o rfl hS_x_3] at q; exact q
  refine lv_aload_n hx hb dX12_drop_0 rfl (lv_at hl 0 rfl) ?_
  refine lv_iconst (v := 0) hx hb dX12_drop_1 (by decide) ?_
  refine pl_put (ci := 12) (v := .int 0) (ty := .int) (C := RX12) (T := TX12) (N := 32) (fs' := [.ref x_1, .ref x_2, .ref x_3, .ref x_4, .ref x_5, .int (nI x_6), .int (nI x_7), .int (nI x_8), .int 0, .ref x_10, .int (nI (pr.2)), .int (nI x_11), .int (nI x_12), .int x_13, .int x_14, .int x_15, .int x_16, .ref x_17, .ref x_18, .int (nI x_19), .ref x_20, .ref x_21, .ref x_22, .ref x_23, .ref x_24, .ref x_25, .ref x_26, .ref x_27, .ref x_28, .ref x_29, .ref x_30, .int (nI x_31)]) hx hb hT iX12 tyX12 tyX12_ok nmX12 hown hK hW hT_o.1 hS_o rfl 8 (by decide) w1090 rfl (by decide +kernel) rfl rfl (Nat.le_of_ble_eq_true rfl) rfl dX12_drop_2 (fun H locs S_34 e1 hW => ?_)
  have hTy := hTy.u12 e1 hT_o ⟨x_1, x_2, x_3, x_4, x_5, x_6, x_7, x_8, 0, x_10, x_11, x_12, x_13, x_14, x_15, x_16, x_17, x_18, x_19, x_20, x_21, x_22, x_23, x_24, x_25, x_26, x_27, x_28, x_29, x_30, x_31, rfl, hT_x_1, hT_x_2, hT_x_3, hT_x_4, hT_x_5, (by omega), (by omega), (by omega), hT_x_10, (by show pr.2 ≤ 900; omega), (by omega), (by omega), hT_x_17, hT_x_18, (by omega), hT_x_20, hT_x_21, hT_x_22, hT_x_23, hT_x_24, hT_x_25, hT_x_26, hT_x_27, hT_x_28, hT_x_29, hT_x_30, (by omega)⟩
  have hS_x_1 := un e1 hT_x_1 hT_o (by decide) hS_x_1
  have hS_x_3 := un e1 hT_x_3 hT_o (by decide) hS_x_3
  have hws := (show wrs (.inr (12, [.ref x_1, .ref x_2, .ref x_3, .ref x_4, .ref x_5, .int (nI x_6), .int (nI x_7), .int (nI x_8), .int 0, .ref x_10, .int (nI (pr.2)), .int (nI x_11), .int (nI x_12), .int x_13, .int x_14, .int x_15, .int x_16, .ref x_17, .ref x_18, .int (nI x_19), .ref x_20, .ref x_21, .ref x_22, .ref x_23, .ref x_24, .ref x_25, .ref x_26, .ref x_27, .ref x_28, .ref x_29, .ref x_30, .int (nI x_31)])) = wrs (S o) from by rw [hS_o]; rfl)
  have hFr := ufs hFr e1 hT_o (by decide) hws
  have hS_o := us e1
  refine lv_aload_n hx hb dX12_drop_5 rfl (lv_at hl 0 rfl) ?_
  refine lv_iload_n hx hb dX12_drop_6 rfl (lv_at hl 1 rfl) ?_
  refine vp_callSi (va_Run.run (va_runV (As := [.int tr]) (rest := []) ⟨hx, hb, hml, hown, hT⟩ (m_isTrade l dC dI cy L kap pr S_34 H.size o tr hTy hT_o) (cwV 1 hT (gV w1301 w1303 ws76 w14 w1304) rfl rfl rfl (by decide +kernel) ⟨(Nat.le_of_ble_eq_true rfl), (Nat.le_of_ble_eq_true rfl)⟩) ⟨pcN.blind, pl_recv hK hW hT_o.1 hS_o rfl, pcN.pre hW.1 hK hW.2.1 hN (fun q h => absurd h List.not_mem_nil)⟩ rfl rfl hl.1 rfl (lv_room (Nat.le_of_ble_eq_true rfl)) dX12_drop_7 ⟨(Nat.le_of_ble_eq_true rfl), (Nat.le_of_ble_eq_true rfl)⟩)) (fun r_35 hr_35 => ?_)
  rcases hr_35 with hc_ | hc_
  · obtain rfl : r_35 = 0 := hc_
    refine lv_if_ne (tgt := 16) hx hb dX12_drop_10 (by decide) (fun h => absurd (by decide) h) (fun _ => ?_)
    refine lv_bipush (v := (-2)) hx hb dX12_drop_13 (by decide) ?_
    exact W.iret (v := (-2)) hx hb hr (fun t ht h9 => ⟨⟨(-2), S_34, rfl, ⟨hTy, hFr, ⟨(by rw [fld_i hS_o rfl hS_x_1]; exact hdg_), (by rw [fld_i hS_o rfl hS_x_3]; exact hda_)⟩⟩, by rw [ht]; exact hW.1, va_K.moved h9.alike hK, hW.2.1⟩, hW.2.2.F ht⟩) hW.2.2.2.2 dX12_drop_15
  · obtain ⟨rfl, k_36, n_37, hb_k_36, hb_n_37, rfl, hmn_⟩ := hc_
    have h0_ : f_32 0 = nI n_37 := mnye hmn_ hS_o rfl hS_x_1
    refine lv_if_ne (tgt := 16) hx hb dX12_drop_10 (by decide) (fun _ => ?_) (fun h => absurd h (by decide))
    refine lv_aload_n hx hb dX12_drop_16 rfl (lv_at hl 0 rfl) ?_
    refine pl_callv (va_runV (As := []) (rest := []) ⟨hx, hb, hml, hown, hT⟩ (m_remembers l dC dI cy L kap pr S_34 H.size o hTy hT_o (by rw [fld_i hS_o rfl hS_x_1]; exact hdg_) (by rw [fld_i hS_o rfl hS_x_3]; exact hda_)) (cwV 0 hT (gV w1293 w1295 ws75 w14 w1296) rfl rfl rfl (by decide +kernel) ⟨(Nat.le_of_ble_eq_true rfl), (Nat.le_of_ble_eq_true rfl)⟩) ⟨pcN.blind, pl_recv hK hW hT_o.1 hS_o rfl, pcN.pre hW.1 hK hW.2.1 hN (fun q h => absurd h List.not_mem_nil)⟩ rfl rfl hl.1 rfl (lv_room (Nat.le_of_ble_eq_true rfl)) dX12_drop_17 ⟨(Nat.le_of_ble_eq_true rfl), (Nat.le_of_ble_eq_true rfl)⟩) hW hA0 hA (fun S_38 H locs hrel hW => ?_)
    obtain ⟨hTy, hF1, hx1⟩ := hrel
    have hFr := hFr.tr hF1 (by decide)
    have hS_x_1 := hF1.at hT_x_1 (by decide) hS_x_1
    obtain ⟨h0k_, hda_⟩ := hx1
    have h0r_ := h0k_.trans (rf_i hS_o rfl)
    obtain ⟨x_39, x_40, x_41, x_42, x_43, x_44, x_45, x_46, x_47, x_48, x_49, x_50, x_51, x_52, x_53, x_54, x_55, x_56, x_57, x_58, x_59, x_60, x_61, x_62, x_63, x_64, x_65, x_66, x_67, x_68, x_69, hS_o, hT_x_39, hT_x_40, hT_x_41, hT_x_42, hT_x_43, hb_x_44, hb_x_45, hb_x_46, hT_x_48, hb_q2, hb_x_49, hb_x_50, hT_x_55, hT_x_56, hb_x_57, hT_x_58, hT_x_59, hT_x_60, hT_x_61, hT_x_62, hT_x_63, hT_x_64, hT_x_65, hT_x_66, hT_x_67, hT_x_68, hb_x_69⟩ := hTy.k12 hT_o
    have hb_q2 : pr.2 ≤ 900 := hb_q2
    have hS_o : S_38 o = .inr (12, [.ref x_39, .ref x_40, .ref x_41, .ref x_42, .ref x_43, .int (nI x_44), .int (nI x_45), .int (nI x_46), .int x_47, .ref x_48, .int (nI (pr.2)), .int (nI x_49), .int (nI x_50), .int x_51, .int x_52, .int x_53, .int x_54, .ref x_55, .ref x_56, .int (nI x_57), .ref x_58, .ref x_59, .ref x_60, .ref x_61, .ref x_62, .ref x_63, .ref x_64, .ref x_65, .ref x_66, .ref x_67, .ref x_68, .int (nI x_69)]) := hS_o
    have e0_ : x_1 = x_39 := h0r_.symm.trans (rf_i hS_o rfl)
    subst e0_
    obtain ⟨f_70, hS_x_41, hi_f_70⟩ := hTy.k52 hT_x_41
    have hda_ : DGA f_70 := by have q := hda_; rw [fld_i hS_o rfl hS_x_41] at q; exact q
    refine lv_aload_n hx hb dX12_drop_20 rfl (lv_at hl 0 rfl) ?_
    refine lv_iload_n hx hb dX12_drop_21 rfl (lv_at hl 1 rfl) ?_
    refine pl_callv (va_runV (As := [.int (nI k_36)]) (rest := []) ⟨hx, hb, hml, hown, hT⟩ (m_goes l dC dI cy L kap pr S_38 H.size o k_36 hTy hT_o (by omega) n_37 (mnyi hS_o rfl hS_x_1 h0_) (by omega) (by omega) (by rw [fld_i hS_o rfl hS_x_1]; exact hdg_)) (cwV 1 hT (gV w1305 w1307 ws77 w14 w1308) rfl rfl rfl (by decide +kernel) ⟨(Nat.le_of_ble_eq_true rfl), (Nat.le_of_ble_eq_true rfl)⟩) ⟨pcN.blind, pl_recv hK hW hT_o.1 hS_o rfl, pcN.pre hW.1 hK hW.2.1 hN (fun q h => absurd h List.not_mem_nil)⟩ rfl rfl hl.1 rfl (lv_room (Nat.le_of_ble_eq_true rfl)) dX12_drop_22 ⟨(Nat.le_of_ble_eq_true rfl), (Nat.le_of_ble_eq_true rfl)⟩) hW hA0 hA (fun S_71 H locs hrel hW => ?_)
    obtain ⟨hTy, hF1, hx1⟩ := hrel
    have hFr := hFr.tr hF1 (by decide)
    have hS_o := hF1.at hT_o (by decide) hS_o
    have hS_x_41 := hF1.at hT_x_41 (by decide) hS_x_41
    have hgo_ := hx1.2.1
    obtain ⟨f_72, hS_x_1, hi_f_72⟩ := hTy.k50 hT_x_1
    have h0_ : f_72 0 = nI (n_37 - 1) := mnye hx1.1 hS_o rfl hS_x_1
    have hdg_ : dg f_72 := by have q := hx1.2.2; rw [fld_i hS_o rfl hS_x_1] at q; exact q
    refine lv_aload_n hx hb dX12_drop_25 rfl (lv_at hl 0 rfl) ?_
    refine pl_get (ci := 12) (v := .ref x_1) (C := RX12) (T := TX12) (N := 32) hx hb hT iX12 hown hK hW hT_o.1 hS_o rfl 0 (by decide) w1082 rfl dX12_drop_26 ?_
    refine lv_iconst (v := 0) hx hb dX12_drop_29 (by decide) ?_
    refine pl_iald hx hb hK hW hT_x_1.1 hS_x_1 (vp_in_nI (n := 0) (N := 266) (by omega) (by omega)) dX12_drop_30 ?_
    refine lv_topi (fun y_73 ey_73 => ?_)
    obtain rfl : y_73 = nI (n_37 - 1) := ey_73.trans h0_
    exact W.iret (v := nI (n_37 - 1)) hx hb hr (fun t ht h9 => ⟨⟨nI (n_37 - 1), S_71, rfl, ⟨hTy, hFr, ⟨(by rw [fld_i hS_o rfl hS_x_1]; exact hdg_), (by rw [fld_i hS_o rfl hS_x_41]; exact hda_)⟩⟩, by rw [ht]; exact hW.1, va_K.moved h9.alike hK, hW.2.1⟩, hW.2.2.F ht⟩) hW.2.2.2.2 dX12_drop_31

set_option maxHeartbeats 4000000 in
set_option maxRecDepth 100000 in
theorem m_keep (l : Launch) (dC : Nat → ClassId) (dI : Nat → Nat → Nat) (cy : Nat → ClassId) (L : List Nat) (kap : Nat → Nat) (pr : Pr) (S : Nat → va_E) (sz : Nat) (o : Nat) (tr : Int32) (hTy : Ty cy L kap pr S) (hT_o : TK L kap o 12) (hdi : dg (fld S o 0) ∧ DGA (fld S o 2)) : Met l yX12_keep (wT yX12_keep cX12_keep 2 (some .int)) ({ frames := 2, cells := 0, slots := 0, locals := 46 }) (pcN dC dI [.ref o, .int tr] sz (va_pl L S) (cyT cy) NLs []) (va_Qi (fun r S' => Ty cy L kap pr S' ∧ Fr kap [12, 50, 52] S S' ∧ (dg (fld S' o 0) ∧ DGA (fld S' o 2))) (fun S' t => pB dC dI (AL L sz) (va_pl L S') (cyT cy) t) (AL L sz)) 0 0 (AL L sz) := by
  refine Met.ofW (cc := cX12_keep) (maxL := 2) (ret := (some .int)) (by decide) rfl ?_
  intro p e s m args below meth c s₁ B hml hv
  obtain ⟨rfl, hsz, hP, hK, hD0, hN, -⟩ := hv
  have hx := B.exec
  have hb := B.bytes
  have hr := B.returns
  have hT : ∀ wd ∈ TB, wd.before [.ref o, .int tr].toArray s = true := fun wd h => atoms_spec (ws := wT yX12_keep cX12_keep 2 (some .int)) B.pre wd (List.mem_cons_of_mem _ h)
  have hown : s.vm.findClass RX12 = some m.cls := findClass_of_methodNamed B.named
  have hlocks := B.notSynchronized
  subst hsz
  have hW : PW dC dI L (AL L s.heap.size) s.heap S s.heap [] := ⟨hP, pl_self hD0, va_S.rf⟩
  have hA0 : ∀ q, q ∈ L → AL L s.heap.size q := fun _ h => Or.inl h
  have hA : ∀ q, s.heap.size ≤ q → AL L s.heap.size q := fun _ h => Or.inr h
  have hFr : Fr kap [12, 50, 52] S S := Fr.rf
  have hl := lv_entry ([.ref o, .int tr]) (n := 2) (Nat.le_of_ble_eq_true rfl)
  rw [lg_entry_eq]
  generalize (lg_sl ([.ref o, .int tr]) ++ List.replicate (2 - (lg_sl ([.ref o, .int tr])).length) Slot.unset).toArray = ls at hl ⊢
  have hl : lv_has ls 2 [(0, .ref o), (1, .int tr)] := hl
  obtain ⟨x_1, x_2, x_3, x_4, x_5, x_6, x_7, x_8, x_9, x_10, x_11, x_12, x_13, x_14, x_15, x_16, x_17, x_18, x_19, x_20, x_21, x_22, x_23, x_24, x_25, x_26, x_27, x_28, x_29, x_30, x_31, hS_o, hT_x_1, hT_x_2, hT_x_3, hT_x_4, hT_x_5, hb_x_6, hb_x_7, hb_x_8, hT_x_10, hb_q2, hb_x_11, hb_x_12, hT_x_17, hT_x_18, hb_x_19, hT_x_20, hT_x_21, hT_x_22, hT_x_23, hT_x_24, hT_x_25, hT_x_26, hT_x_27, hT_x_28, hT_x_29, hT_x_30, hb_x_31⟩ := hTy.k12 hT_o
  have hb_q2 : pr.2 ≤ 900 := hb_q2
  have hS_o : S o = .inr (12, [.ref x_1, .ref x_2, .ref x_3, .ref x_4, .ref x_5, .int (nI x_6), .int (nI x_7), .int (nI x_8), .int x_9, .ref x_10, .int (nI (pr.2)), .int (nI x_11), .int (nI x_12), .int x_13, .int x_14, .int x_15, .int x_16, .ref x_17, .ref x_18, .int (nI x_19), .ref x_20, .ref x_21, .ref x_22, .ref x_23, .ref x_24, .ref x_25, .ref x_26, .ref x_27, .ref x_28, .ref x_29, .ref x_30, .int (nI x_31)]) := hS_o
  obtain ⟨f_32, hS_x_1, hi_f_32⟩ := hTy.k50 hT_x_1
  have hdg_ : dg f_32 := by have q := hdi.1; rw [fld_i hS_o rfl hS_x_1] at q; exact q
  obtain ⟨f_33, hS_x_3, hi_f_33⟩ := hTy.k52 hT_x_3
  have hda_ : DGA f_33 := by have q := hdi.2; rw [fld_i hS_o rfl hS_x_3] at q; exact q
  refine lv_aload_n hx hb dX12_keep_0 rfl (lv_at hl 0 rfl) ?_
  refine lv_iconst (v := 0) hx hb dX12_keep_1 (by decide) ?_
  refine pl_put (ci := 12) (v := .int 0) (ty := .int) (C := RX12) (T := TX12) (N := 32) (fs' := [.ref x_1, .ref x_2, .ref x_3, .ref x_4, .ref x_5, .int (nI x_6), .int (nI x_7), .int (nI x_8), .int 0, .ref x_10, .int (nI (pr.2)), .int (nI x_11), .int (nI x_12), .int x_13, .int x_14, .int x_15, .int x_16, .ref x_17, .ref x_18, .int (nI x_19), .ref x_20, .ref x_21, .ref x_22, .ref x_23, .ref x_24, .ref x_25, .ref x_26, .ref x_27, .ref x_28, .ref x_29, .ref x_30, .int (nI x_31)]) hx hb hT iX12 tyX12 tyX12_ok nmX12 hown hK hW hT_o.1 hS_o rfl 8 (by decide) w1090 rfl (by decide +kernel) rfl rfl (Nat.le_of_ble_eq_true rfl) rfl dX12_keep_2 (fun H locs S_34 e1 hW => ?_)
  have hTy := hTy.u12 e1 hT_o ⟨x_1, x_2, x_3, x_4, x_5, x_6, x_7, x_8, 0, x_10, x_11, x_12, x_13, x_14, x_15, x_16, x_17, x_18, x_19, x_20, x_21, x_22, x_23, x_24, x_25, x_26, x_27, x_28, x_29, x_30, x_31, rfl, hT_x_1, hT_x_2, hT_x_3, hT_x_4, hT_x_5, (by omega), (by omega), (by omega), hT_x_10, (by show pr.2 ≤ 900; omega), (by omega), (by omega), hT_x_17, hT_x_18, (by omega), hT_x_20, hT_x_21, hT_x_22, hT_x_23, hT_x_24, hT_x_25, hT_x_26, hT_x_27, hT_x_28, hT_x_29, hT_x_30, (by omega)⟩
  have hS_x_1 := un e1 hT_x_1 hT_o (by decide) hS_x_1
  have hS_x_3 := un e1 hT_x_3 hT_o (by decide) hS_x_3
  have hws := (show wrs (.inr (12, [.ref x_1, .ref x_2, .ref x_3, .ref x_4, .ref x_5, .int (nI x_6), .int (nI x_7), .int (nI x_8), .int 0, .ref x_10, .int (nI (pr.2)), .int (nI x_11), .int (nI x_12), .int x_13, .int x_14, .int x_15, .int x_16, .ref x_17, .ref x_18, .int (nI x_19), .ref x_20, .ref x_21, .ref x_22, .ref x_23, .ref x_24, .ref x_25, .ref x_26, .ref x_27, .ref x_28, .ref x_29, .ref x_30, .int (nI x_31)])) = wrs (S o) from by rw [hS_o]; rfl)
  have hFr := ufs hFr e1 hT_o (by decide) hws
  have hS_o := us e1
  refine lv_aload_n hx hb dX12_keep_5 rfl (lv_at hl 0 rfl) ?_
  refine lv_iload_n hx hb dX12_keep_6 rfl (lv_at hl 1 rfl) ?_
  refine vp_callSi (va_Run.run (va_runV (As := [.int tr]) (rest := []) ⟨hx, hb, hml, hown, hT⟩ (m_isTrade l dC dI cy L kap pr S_34 H.size o tr hTy hT_o) (cwV 1 hT (gV w1301 w1303 ws76 w14 w1304) rfl rfl rfl (by decide +kernel) ⟨(Nat.le_of_ble_eq_true rfl), (Nat.le_of_ble_eq_true rfl)⟩) ⟨pcN.blind, pl_recv hK hW hT_o.1 hS_o rfl, pcN.pre hW.1 hK hW.2.1 hN (fun q h => absurd h List.not_mem_nil)⟩ rfl rfl hl.1 rfl (lv_room (Nat.le_of_ble_eq_true rfl)) dX12_keep_7 ⟨(Nat.le_of_ble_eq_true rfl), (Nat.le_of_ble_eq_true rfl)⟩)) (fun r_35 hr_35 => ?_)
  rcases hr_35 with hc_ | hc_
  · obtain rfl : r_35 = 0 := hc_
    refine lv_if_ne (tgt := 16) hx hb dX12_keep_10 (by decide) (fun h => absurd (by decide) h) (fun _ => ?_)
    refine lv_bipush (v := (-2)) hx hb dX12_keep_13 (by decide) ?_
    exact W.iret (v := (-2)) hx hb hr (fun t ht h9 => ⟨⟨(-2), S_34, rfl, ⟨hTy, hFr, ⟨(by rw [fld_i hS_o rfl hS_x_1]; exact hdg_), (by rw [fld_i hS_o rfl hS_x_3]; exact hda_)⟩⟩, by rw [ht]; exact hW.1, va_K.moved h9.alike hK, hW.2.1⟩, hW.2.2.F ht⟩) hW.2.2.2.2 dX12_keep_15
  · obtain ⟨rfl, k_36, n_37, hb_k_36, hb_n_37, rfl, hmn_⟩ := hc_
    have h0_ : f_32 0 = nI n_37 := mnye hmn_ hS_o rfl hS_x_1
    refine lv_if_ne (tgt := 16) hx hb dX12_keep_10 (by decide) (fun _ => ?_) (fun h => absurd h (by decide))
    refine lv_aload_n hx hb dX12_keep_16 rfl (lv_at hl 0 rfl) ?_
    refine pl_callv (va_runV (As := []) (rest := []) ⟨hx, hb, hml, hown, hT⟩ (m_remembers l dC dI cy L kap pr S_34 H.size o hTy hT_o (by rw [fld_i hS_o rfl hS_x_1]; exact hdg_) (by rw [fld_i hS_o rfl hS_x_3]; exact hda_)) (cwV 0 hT (gV w1293 w1295 ws75 w14 w1296) rfl rfl rfl (by decide +kernel) ⟨(Nat.le_of_ble_eq_true rfl), (Nat.le_of_ble_eq_true rfl)⟩) ⟨pcN.blind, pl_recv hK hW hT_o.1 hS_o rfl, pcN.pre hW.1 hK hW.2.1 hN (fun q h => absurd h List.not_mem_nil)⟩ rfl rfl hl.1 rfl (lv_room (Nat.le_of_ble_eq_true rfl)) dX12_keep_17 ⟨(Nat.le_of_ble_eq_true rfl), (Nat.le_of_ble_eq_true rfl)⟩) hW hA0 hA (fun S_38 H locs hrel hW => ?_)
    obtain ⟨hTy, hF1, hx1⟩ := hrel
    have hFr := hFr.tr hF1 (by decide)
    have hS_x_1 := hF1.at hT_x_1 (by decide) hS_x_1
    obtain ⟨h0k_, hda_⟩ := hx1
    have h0r_ := h0k_.trans (rf_i hS_o rfl)
    obtain ⟨x_39, x_40, x_41, x_42, x_43, x_44, x_45, x_46, x_47, x_48, x_49, x_50, x_51, x_52, x_53, x_54, x_55, x_56, x_57, x_58, x_59, x_60, x_61, x_62, x_63, x_64, x_65, x_66, x_67, x_68, x_69, hS_o, hT_x_39, hT_x_40, hT_x_41, hT_x_42, hT_x_43, hb_x_44, hb_x_45, hb_x_46, hT_x_48, hb_q2, hb_x_49, hb_x_50, hT_x_55, hT_x_56, hb_x_57, hT_x_58, hT_x_59, hT_x_60, hT_x_61, hT_x_62, hT_x_63, hT_x_64, hT_x_65, hT_x_66, hT_x_67, hT_x_68, hb_x_69⟩ := hTy.k12 hT_o
    have hb_q2 : pr.2 ≤ 900 := hb_q2
    have hS_o : S_38 o = .inr (12, [.ref x_39, .ref x_40, .ref x_41, .ref x_42, .ref x_43, .int (nI x_44), .int (nI x_45), .int (nI x_46), .int x_47, .ref x_48, .int (nI (pr.2)), .int (nI x_49), .int (nI x_50), .int x_51, .int x_52, .int x_53, .int x_54, .ref x_55, .ref x_56, .int (nI x_57), .ref x_58, .ref x_59, .ref x_60, .ref x_61, .ref x_62, .ref x_63, .ref x_64, .ref x_65, .ref x_66, .ref x_67, .ref x_68, .int (nI x_69)]) := hS_o
    have e0_ : x_1 = x_39 := h0r_.symm.trans (rf_i hS_o rfl)
    subst e0_
    obtain ⟨f_70, hS_x_41, hi_f_70⟩ := hTy.k52 hT_x_41
    have hda_ : DGA f_70 := by have q := hda_; rw [fld_i hS_o rfl hS_x_41] at q; exact q
    refine lv_aload_n hx hb dX12_keep_20 rfl (lv_at hl 0 rfl) ?_
    refine pl_get (ci := 12) (v := .ref x_1) (C := RX12) (T := TX12) (N := 32) hx hb hT iX12 hown hK hW hT_o.1 hS_o rfl 0 (by decide) w1082 rfl dX12_keep_21 ?_
    refine lv_iconst (v := 2) hx hb dX12_keep_24 (by decide) ?_
    refine lv_iconst (v := 5) hx hb dX12_keep_25 (by decide) ?_
    refine lv_iload_n hx hb dX12_keep_26 rfl (lv_at hl 1 rfl) ?_
    refine lv_imul hx hb dX12_keep_27 ?_
    refine lv_topi (fun z_71 ez_71 => ?_)
    obtain rfl : z_71 = nI (5 * k_36) := ez_71.trans (pk_mul (5) (k_36))
    refine lv_iadd hx hb dX12_keep_28 ?_
    refine lv_topi (fun z_72 ez_72 => ?_)
    obtain rfl : z_72 = nI (2 + (5 * k_36)) := ez_72.trans (nI_add (2) (5 * k_36))
    refine lv_iconst (v := 4) hx hb dX12_keep_29 (by decide) ?_
    refine lv_iadd hx hb dX12_keep_30 ?_
    refine lv_topi (fun z_73 ez_73 => ?_)
    obtain rfl : z_73 = nI ((2 + (5 * k_36)) + 4) := ez_73.trans (nI_add (2 + (5 * k_36)) (4))
    refine lv_iconst (v := 1) hx hb dX12_keep_31 (by decide) ?_
    refine lv_aload_n hx hb dX12_keep_32 rfl (lv_at hl 0 rfl) ?_
    refine lv_iload_n hx hb dX12_keep_33 rfl (lv_at hl 1 rfl) ?_
    refine lv_iconst (v := 4) hx hb dX12_keep_34 (by decide) ?_
    refine vp_callSi (va_Run.run (va_runV (As := [.int (nI k_36), .int 4]) (rest := [.int 1, .int (nI ((2 + (5 * k_36)) + 4)), .ref x_1]) ⟨hx, hb, hml, hown, hT⟩ (m_tradeAt l dC dI cy L kap pr S_38 H.size o k_36 4 hTy hT_o (by omega) (by omega)) (cwV 2 hT (gV w1247 w1249 ws66 w14 w1250) rfl rfl rfl (by decide +kernel) ⟨(Nat.le_of_ble_eq_true rfl), (Nat.le_of_ble_eq_true rfl)⟩) ⟨pcN.blind, pl_recv hK hW hT_o.1 hS_o rfl, pcN.pre hW.1 hK hW.2.1 hN (fun q h => absurd h List.not_mem_nil)⟩ rfl rfl hl.1 rfl (lv_room (Nat.le_of_ble_eq_true rfl)) dX12_keep_35 ⟨(Nat.le_of_ble_eq_true rfl), (Nat.le_of_ble_eq_true rfl)⟩)) (fun r_74 hr_74 => ?_)
    refine lv_isub hx hb dX12_keep_38 ?_
    refine lv_topi (fun z_75 ez_75 => ?_)
    refine pl_iast hx hb hK hW hT_x_1.1 hS_x_1 (vp_in_nI (n := (2 + (5 * k_36)) + 4) (N := 266) (by omega) (by omega)) dX12_keep_39 (fun H locs f_77 S_76 ef_f_77 e1 hW => ?_)
    have hi_f_77 := okS_up (i := (2 + (5 * k_36)) + 4) (by omega) hi_f_32 ef_f_77 (okS_any (by omega))
    have hTy := hTy.u50 e1 hT_x_1 ⟨f_77, rfl, hi_f_77⟩
    have hS_o := un e1 hT_o hT_x_1 (by decide) hS_o
    have hS_x_41 := un e1 hT_x_41 hT_x_1 (by decide) hS_x_41
    have hFr := uf hFr e1 hT_x_1 (by decide) (by decide)
    have hS_x_1 := us e1
    have h0_ : f_77 0 = nI n_37 := up0 (i := (2 + (5 * k_36)) + 4) (by omega) (by omega) h0_ ef_f_77
    have hdg_ := dg_up (i := (2 + (5 * k_36)) + 4) hdg_ ef_f_77 (by omega) (by omega)
    refine lv_aload_n hx hb dX12_keep_40 rfl (lv_at hl 0 rfl) ?_
    refine lv_iload_n hx hb dX12_keep_41 rfl (lv_at hl 1 rfl) ?_
    refine lv_iconst (v := 4) hx hb dX12_keep_42 (by decide) ?_
    refine vp_callSi (va_Run.run (va_runV (As := [.int (nI k_36), .int 4]) (rest := []) ⟨hx, hb, hml, hown, hT⟩ (m_tradeAt l dC dI cy L kap pr S_76 H.size o k_36 4 hTy hT_o (by omega) (by omega)) (cwV 2 hT (gV w1247 w1249 ws66 w14 w1250) rfl rfl rfl (by decide +kernel) ⟨(Nat.le_of_ble_eq_true rfl), (Nat.le_of_ble_eq_true rfl)⟩) ⟨pcN.blind, pl_recv hK hW hT_o.1 hS_o rfl, pcN.pre hW.1 hK hW.2.1 hN (fun q h => absurd h List.not_mem_nil)⟩ rfl rfl hl.1 rfl (lv_room (Nat.le_of_ble_eq_true rfl)) dX12_keep_43 ⟨(Nat.le_of_ble_eq_true rfl), (Nat.le_of_ble_eq_true rfl)⟩)) (fun r_78 hr_78 => ?_)
    exact W.iret (v := r_78) hx hb hr (fun t ht h9 => ⟨⟨r_78, S_76, rfl, ⟨hTy, hFr, ⟨(by rw [fld_i hS_o rfl hS_x_1]; exact hdg_), (by rw [fld_i hS_o rfl hS_x_41]; exact hda_)⟩⟩, by rw [ht]; exact hW.1, va_K.moved h9.alike hK, hW.2.1⟩, hW.2.2.F ht⟩) hW.2.2.2.2 dX12_keep_46

set_option maxHeartbeats 4000000 in
set_option maxRecDepth 100000 in
theorem m_mode (l : Launch) (dC : Nat → ClassId) (dI : Nat → Nat → Nat) (cy : Nat → ClassId) (L : List Nat) (kap : Nat → Nat) (pr : Pr) (S : Nat → va_E) (sz : Nat) (o : Nat) (md : Int32) (hTy : Ty cy L kap pr S) (hT_o : TK L kap o 12) (hdi : dg (fld S o 0) ∧ DGA (fld S o 2)) : Met l yX12_mode (wT yX12_mode cX12_mode 3 (some .int)) ({ frames := 1, cells := 0, slots := 0, locals := 25 }) (pcN dC dI [.ref o, .int md] sz (va_pl L S) (cyT cy) NLs []) (va_Qi (fun r S' => Ty cy L kap pr S' ∧ Fr kap [12, 50, 52] S S' ∧ (dg (fld S' o 0) ∧ DGA (fld S' o 2))) (fun S' t => pB dC dI (AL L sz) (va_pl L S') (cyT cy) t) (AL L sz)) 0 0 (AL L sz) := by
  refine Met.ofW (cc := cX12_mode) (maxL := 3) (ret := (some .int)) (by decide) rfl ?_
  intro p e s m args below meth c s₁ B hml hv
  obtain ⟨rfl, hsz, hP, hK, hD0, hN, -⟩ := hv
  have hx := B.exec
  have hb := B.bytes
  have hr := B.returns
  have hT : ∀ wd ∈ TB, wd.before [.ref o, .int md].toArray s = true := fun wd h => atoms_spec (ws := wT yX12_mode cX12_mode 3 (some .int)) B.pre wd (List.mem_cons_of_mem _ h)
  have hown : s.vm.findClass RX12 = some m.cls := findClass_of_methodNamed B.named
  have hlocks := B.notSynchronized
  subst hsz
  have hW : PW dC dI L (AL L s.heap.size) s.heap S s.heap [] := ⟨hP, pl_self hD0, va_S.rf⟩
  have hA0 : ∀ q, q ∈ L → AL L s.heap.size q := fun _ h => Or.inl h
  have hA : ∀ q, s.heap.size ≤ q → AL L s.heap.size q := fun _ h => Or.inr h
  have hFr : Fr kap [12, 50, 52] S S := Fr.rf
  have hl := lv_entry ([.ref o, .int md]) (n := 3) (Nat.le_of_ble_eq_true rfl)
  rw [lg_entry_eq]
  generalize (lg_sl ([.ref o, .int md]) ++ List.replicate (3 - (lg_sl ([.ref o, .int md])).length) Slot.unset).toArray = ls at hl ⊢
  have hl : lv_has ls 3 [(0, .ref o), (1, .int md)] := hl
  obtain ⟨x_1, x_2, x_3, x_4, x_5, x_6, x_7, x_8, x_9, x_10, x_11, x_12, x_13, x_14, x_15, x_16, x_17, x_18, x_19, x_20, x_21, x_22, x_23, x_24, x_25, x_26, x_27, x_28, x_29, x_30, x_31, hS_o, hT_x_1, hT_x_2, hT_x_3, hT_x_4, hT_x_5, hb_x_6, hb_x_7, hb_x_8, hT_x_10, hb_q2, hb_x_11, hb_x_12, hT_x_17, hT_x_18, hb_x_19, hT_x_20, hT_x_21, hT_x_22, hT_x_23, hT_x_24, hT_x_25, hT_x_26, hT_x_27, hT_x_28, hT_x_29, hT_x_30, hb_x_31⟩ := hTy.k12 hT_o
  have hb_q2 : pr.2 ≤ 900 := hb_q2
  have hS_o : S o = .inr (12, [.ref x_1, .ref x_2, .ref x_3, .ref x_4, .ref x_5, .int (nI x_6), .int (nI x_7), .int (nI x_8), .int x_9, .ref x_10, .int (nI (pr.2)), .int (nI x_11), .int (nI x_12), .int x_13, .int x_14, .int x_15, .int x_16, .ref x_17, .ref x_18, .int (nI x_19), .ref x_20, .ref x_21, .ref x_22, .ref x_23, .ref x_24, .ref x_25, .ref x_26, .ref x_27, .ref x_28, .ref x_29, .ref x_30, .int (nI x_31)]) := hS_o
  obtain ⟨f_32, hS_x_1, hi_f_32⟩ := hTy.k50 hT_x_1
  have hdg_ : dg f_32 := by have q := hdi.1; rw [fld_i hS_o rfl hS_x_1] at q; exact q
  obtain ⟨f_33, hS_x_3, hi_f_33⟩ := hTy.k52 hT_x_3
  have hda_ : DGA f_33 := by have q := hdi.2; rw [fld_i hS_o rfl hS_x_3] at q; exact q
  refine lv_aload_n hx hb dX12_mode_0 rfl (lv_at hl 0 rfl) ?_
  refine lv_iconst (v := 0) hx hb dX12_mode_1 (by decide) ?_
  refine pl_put (ci := 12) (v := .int 0) (ty := .int) (C := RX12) (T := TX12) (N := 32) (fs' := [.ref x_1, .ref x_2, .ref x_3, .ref x_4, .ref x_5, .int (nI x_6), .int (nI x_7), .int (nI x_8), .int 0, .ref x_10, .int (nI (pr.2)), .int (nI x_11), .int (nI x_12), .int x_13, .int x_14, .int x_15, .int x_16, .ref x_17, .ref x_18, .int (nI x_19), .ref x_20, .ref x_21, .ref x_22, .ref x_23, .ref x_24, .ref x_25, .ref x_26, .ref x_27, .ref x_28, .ref x_29, .ref x_30, .int (nI x_31)]) hx hb hT iX12 tyX12 tyX12_ok nmX12 hown hK hW hT_o.1 hS_o rfl 8 (by decide) w1090 rfl (by decide +kernel) rfl rfl (Nat.le_of_ble_eq_true rfl) rfl dX12_mode_2 (fun H locs S_34 e1 hW => ?_)
  have hTy := hTy.u12 e1 hT_o ⟨x_1, x_2, x_3, x_4, x_5, x_6, x_7, x_8, 0, x_10, x_11, x_12, x_13, x_14, x_15, x_16, x_17, x_18, x_19, x_20, x_21, x_22, x_23, x_24, x_25, x_26, x_27, x_28, x_29, x_30, x_31, rfl, hT_x_1, hT_x_2, hT_x_3, hT_x_4, hT_x_5, (by omega), (by omega), (by omega), hT_x_10, (by show pr.2 ≤ 900; omega), (by omega), (by omega), hT_x_17, hT_x_18, (by omega), hT_x_20, hT_x_21, hT_x_22, hT_x_23, hT_x_24, hT_x_25, hT_x_26, hT_x_27, hT_x_28, hT_x_29, hT_x_30, (by omega)⟩
  have hS_x_1 := un e1 hT_x_1 hT_o (by decide) hS_x_1
  have hS_x_3 := un e1 hT_x_3 hT_o (by decide) hS_x_3
  have hws := (show wrs (.inr (12, [.ref x_1, .ref x_2, .ref x_3, .ref x_4, .ref x_5, .int (nI x_6), .int (nI x_7), .int (nI x_8), .int 0, .ref x_10, .int (nI (pr.2)), .int (nI x_11), .int (nI x_12), .int x_13, .int x_14, .int x_15, .int x_16, .ref x_17, .ref x_18, .int (nI x_19), .ref x_20, .ref x_21, .ref x_22, .ref x_23, .ref x_24, .ref x_25, .ref x_26, .ref x_27, .ref x_28, .ref x_29, .ref x_30, .int (nI x_31)])) = wrs (S o) from by rw [hS_o]; rfl)
  have hFr := ufs hFr e1 hT_o (by decide) hws
  have hS_o := us e1
  refine lv_iload_n hx hb dX12_mode_5 rfl (lv_at hl 1 rfl) ?_
  refine lv_i2l hx hb dX12_mode_6 rfl ?_
  refine lv_topl (fun z_35 ez_35 => ?_)
  refine lv_lconst (v := 0) hx hb dX12_mode_7 (by decide) ?_
  refine lv_ldc2 (v := 3) hx hb hown (hT _ w1317) dX12_mode_8 ?_
  refine vp_callSi (va_Run.run (va_runS (As := [.long z_35, .long 0, .long 3]) (rest := []) ⟨hx, hb, hml, hown, hT⟩ (m_isIn l dC dI H.size z_35 0 3) (va_cwS 3 hT (gS w1187 w1188 w14 w1189) rfl rfl rfl (by decide +kernel) ⟨(Nat.le_of_ble_eq_true rfl), (Nat.le_of_ble_eq_true rfl)⟩) ⟨pcW.blind, pcW.pre (va_P0 _ _ _) (hK.sub (tys' := []) [] rfl) (va_D0 (fun _ => True))⟩ rfl rfl hl.1 rfl (lv_room (Nat.le_of_ble_eq_true rfl)) dX12_mode_11 ⟨(Nat.le_of_ble_eq_true rfl), (Nat.le_of_ble_eq_true rfl)⟩)) (fun r_36 hr_36 => ?_)
  rcases isInc hr_36 with hc_ | hc_
  · obtain ⟨rfl, hin_⟩ := hc_
    obtain ⟨k_37, hb_k_37, rfl⟩ := inK (H := 3) ez_35 hin_ (by decide) (by decide)
    refine lv_if_ne (tgt := 20) hx hb dX12_mode_14 (by decide) (fun _ => ?_) (fun h => absurd h (by decide))
    refine lv_aload_n hx hb dX12_mode_20 rfl (lv_at hl 0 rfl) ?_
    refine pl_callv (va_runV (As := []) (rest := []) ⟨hx, hb, hml, hown, hT⟩ (m_remembers l dC dI cy L kap pr S_34 H.size o hTy hT_o (by rw [fld_i hS_o rfl hS_x_1]; exact hdg_) (by rw [fld_i hS_o rfl hS_x_3]; exact hda_)) (cwV 0 hT (gV w1293 w1295 ws75 w14 w1296) rfl rfl rfl (by decide +kernel) ⟨(Nat.le_of_ble_eq_true rfl), (Nat.le_of_ble_eq_true rfl)⟩) ⟨pcN.blind, pl_recv hK hW hT_o.1 hS_o rfl, pcN.pre hW.1 hK hW.2.1 hN (fun q h => absurd h List.not_mem_nil)⟩ rfl rfl hl.1 rfl (lv_room (Nat.le_of_ble_eq_true rfl)) dX12_mode_21 ⟨(Nat.le_of_ble_eq_true rfl), (Nat.le_of_ble_eq_true rfl)⟩) hW hA0 hA (fun S_38 H locs hrel hW => ?_)
    obtain ⟨hTy, hF1, hx1⟩ := hrel
    have hFr := hFr.tr hF1 (by decide)
    have hS_x_1 := hF1.at hT_x_1 (by decide) hS_x_1
    obtain ⟨h0k_, hda_⟩ := hx1
    have h0r_ := h0k_.trans (rf_i hS_o rfl)
    obtain ⟨x_39, x_40, x_41, x_42, x_43, x_44, x_45, x_46, x_47, x_48, x_49, x_50, x_51, x_52, x_53, x_54, x_55, x_56, x_57, x_58, x_59, x_60, x_61, x_62, x_63, x_64, x_65, x_66, x_67, x_68, x_69, hS_o, hT_x_39, hT_x_40, hT_x_41, hT_x_42, hT_x_43, hb_x_44, hb_x_45, hb_x_46, hT_x_48, hb_q2, hb_x_49, hb_x_50, hT_x_55, hT_x_56, hb_x_57, hT_x_58, hT_x_59, hT_x_60, hT_x_61, hT_x_62, hT_x_63, hT_x_64, hT_x_65, hT_x_66, hT_x_67, hT_x_68, hb_x_69⟩ := hTy.k12 hT_o
    have hb_q2 : pr.2 ≤ 900 := hb_q2
    have hS_o : S_38 o = .inr (12, [.ref x_39, .ref x_40, .ref x_41, .ref x_42, .ref x_43, .int (nI x_44), .int (nI x_45), .int (nI x_46), .int x_47, .ref x_48, .int (nI (pr.2)), .int (nI x_49), .int (nI x_50), .int x_51, .int x_52, .int x_53, .int x_54, .ref x_55, .ref x_56, .int (nI x_57), .ref x_58, .ref x_59, .ref x_60, .ref x_61, .ref x_62, .ref x_63, .ref x_64, .ref x_65, .ref x_66, .ref x_67, .ref x_68, .int (nI x_69)]) := hS_o
    have e0_ : x_1 = x_39 := h0r_.symm.trans (rf_i hS_o rfl)
    subst e0_
    obtain ⟨f_70, hS_x_41, hi_f_70⟩ := hTy.k52 hT_x_41
    have hda_ : DGA f_70 := by have q := hda_; rw [fld_i hS_o rfl hS_x_41] at q; exact q
    refine lv_aload_n hx hb dX12_mode_24 rfl (lv_at hl 0 rfl) ?_
    refine pl_get (ci := 12) (v := .ref x_1) (C := RX12) (T := TX12) (N := 32) hx hb hT iX12 hown hK hW hT_o.1 hS_o rfl 0 (by decide) w1082 rfl dX12_mode_25 ?_
    refine lv_iconst (v := 1) hx hb dX12_mode_28 (by decide) ?_
    refine pl_iald hx hb hK hW hT_x_1.1 hS_x_1 (vp_in_nI (n := 1) (N := 266) (by omega) (by omega)) dX12_mode_29 ?_
    refine lv_topi (fun y_71 ey_71 => ?_)
    have hv_y_71 : okS (1) y_71 := by rw [ey_71]; show okS _ (f_32 (nI (1)).toNatClampNeg); rw [nI_clamp (by omega)]; exact hi_f_32 (1) (by omega)
    refine lv_istore_n (lv' := [(2, .int y_71), (0, .ref o), (1, .int (nI k_37))]) hx hb dX12_mode_30 rfl hl (by decide) rfl (fun ls hl => ?_)
    refine lv_aload_n hx hb dX12_mode_31 rfl (lv_at hl 1 rfl) ?_
    refine pl_get (ci := 12) (v := .ref x_1) (C := RX12) (T := TX12) (N := 32) hx hb hT iX12 hown hK hW hT_o.1 hS_o rfl 0 (by decide) w1082 rfl dX12_mode_32 ?_
    refine lv_iconst (v := 1) hx hb dX12_mode_35 (by decide) ?_
    refine lv_iload_n hx hb dX12_mode_36 rfl (lv_at hl 2 rfl) ?_
    refine pl_iast hx hb hK hW hT_x_1.1 hS_x_1 (vp_in_nI (n := 1) (N := 266) (by omega) (by omega)) dX12_mode_37 (fun H locs f_73 S_72 ef_f_73 e1 hW => ?_)
    have hok_ : okS 1 (nI (k_37)) := (okS_n (by omega) (by omega) (by omega))
    have hi_f_73 := okS_up (i := 1) (by omega) hi_f_32 ef_f_73 hok_
    have hTy := hTy.u50 e1 hT_x_1 ⟨f_73, rfl, hi_f_73⟩
    have hS_o := un e1 hT_o hT_x_1 (by decide) hS_o
    have hS_x_41 := un e1 hT_x_41 hT_x_1 (by decide) hS_x_41
    have hFr := uf hFr e1 hT_x_1 (by decide) (by decide)
    have hS_x_1 := us e1
    have hdg_ := dg_up (i := 1) hdg_ ef_f_73 (by omega) (by omega)
    refine lv_iload_n hx hb dX12_mode_38 rfl (lv_at hl 0 rfl) ?_
    exact W.iret (v := y_71) hx hb hr (fun t ht h9 => ⟨⟨y_71, S_72, rfl, ⟨hTy, hFr, ⟨(by rw [fld_i hS_o rfl hS_x_1]; exact hdg_), (by rw [fld_i hS_o rfl hS_x_41]; exact hda_)⟩⟩, by rw [ht]; exact hW.1, va_K.moved h9.alike hK, hW.2.1⟩, hW.2.2.F ht⟩) hW.2.2.2.2 dX12_mode_39
  · obtain ⟨rfl, hin_⟩ := hc_
    refine lv_if_ne (tgt := 20) hx hb dX12_mode_14 (by decide) (fun h => absurd (by decide) h) (fun _ => ?_)
    refine lv_bipush (v := (-3)) hx hb dX12_mode_17 (by decide) ?_
    exact W.iret (v := (-3)) hx hb hr (fun t ht h9 => ⟨⟨(-3), S_34, rfl, ⟨hTy, hFr, ⟨(by rw [fld_i hS_o rfl hS_x_1]; exact hdg_), (by rw [fld_i hS_o rfl hS_x_3]; exact hda_)⟩⟩, by rw [ht]; exact hW.1, va_K.moved h9.alike hK, hW.2.1⟩, hW.2.2.F ht⟩) hW.2.2.2.2 dX12_mode_19

set_option maxHeartbeats 4000000 in
set_option maxRecDepth 100000 in
theorem m_cap (l : Launch) (dC : Nat → ClassId) (dI : Nat → Nat → Nat) (cy : Nat → ClassId) (L : List Nat) (kap : Nat → Nat) (pr : Pr) (S : Nat → va_E) (sz : Nat) (o : Nat) (ca : Int32) (cb : Int32) (cn : Int32) (hTy : Ty cy L kap pr S) (hT_o : TK L kap o 12) (hdi : dg (fld S o 0) ∧ DGA (fld S o 2)) : Met l yX12_cap (wT yX12_cap cX12_cap 5 (some .int)) ({ frames := 3, cells := 0, slots := 0, locals := 68 }) (pcN dC dI [.ref o, .int ca, .int cb, .int cn] sz (va_pl L S) (cyT cy) NLs []) (va_Qi (fun r S' => Ty cy L kap pr S' ∧ Fr kap [12, 50, 52] S S' ∧ (dg (fld S' o 0) ∧ DGA (fld S' o 2))) (fun S' t => pB dC dI (AL L sz) (va_pl L S') (cyT cy) t) (AL L sz)) 0 0 (AL L sz) := by
  refine Met.ofW (cc := cX12_cap) (maxL := 5) (ret := (some .int)) (by decide) rfl ?_
  intro p e s m args below meth c s₁ B hml hv
  obtain ⟨rfl, hsz, hP, hK, hD0, hN, -⟩ := hv
  have hx := B.exec
  have hb := B.bytes
  have hr := B.returns
  have hT : ∀ wd ∈ TB, wd.before [.ref o, .int ca, .int cb, .int cn].toArray s = true := fun wd h => atoms_spec (ws := wT yX12_cap cX12_cap 5 (some .int)) B.pre wd (List.mem_cons_of_mem _ h)
  have hown : s.vm.findClass RX12 = some m.cls := findClass_of_methodNamed B.named
  have hlocks := B.notSynchronized
  subst hsz
  have hW : PW dC dI L (AL L s.heap.size) s.heap S s.heap [] := ⟨hP, pl_self hD0, va_S.rf⟩
  have hA0 : ∀ q, q ∈ L → AL L s.heap.size q := fun _ h => Or.inl h
  have hA : ∀ q, s.heap.size ≤ q → AL L s.heap.size q := fun _ h => Or.inr h
  have hFr : Fr kap [12, 50, 52] S S := Fr.rf
  have hl := lv_entry ([.ref o, .int ca, .int cb, .int cn]) (n := 5) (Nat.le_of_ble_eq_true rfl)
  rw [lg_entry_eq]
  generalize (lg_sl ([.ref o, .int ca, .int cb, .int cn]) ++ List.replicate (5 - (lg_sl ([.ref o, .int ca, .int cb, .int cn])).length) Slot.unset).toArray = ls at hl ⊢
  have hl : lv_has ls 5 [(0, .ref o), (1, .int ca), (2, .int cb), (3, .int cn)] := hl
  obtain ⟨x_1, x_2, x_3, x_4, x_5, x_6, x_7, x_8, x_9, x_10, x_11, x_12, x_13, x_14, x_15, x_16, x_17, x_18, x_19, x_20, x_21, x_22, x_23, x_24, x_25, x_26, x_27, x_28, x_29, x_30, x_31, hS_o, hT_x_1, hT_x_2, hT_x_3, hT_x_4, hT_x_5, hb_x_6, hb_x_7, hb_x_8, hT_x_10, hb_q2, hb_x_11, hb_x_12, hT_x_17, hT_x_18, hb_x_19, hT_x_20, hT_x_21, hT_x_22, hT_x_23, hT_x_24, hT_x_25, hT_x_26, hT_x_27, hT_x_28, hT_x_29, hT_x_30, hb_x_31⟩ := hTy.k12 hT_o
  have hb_q2 : pr.2 ≤ 900 := hb_q2
  have hS_o : S o = .inr (12, [.ref x_1, .ref x_2, .ref x_3, .ref x_4, .ref x_5, .int (nI x_6), .int (nI x_7), .int (nI x_8), .int x_9, .ref x_10, .int (nI (pr.2)), .int (nI x_11), .int (nI x_12), .int x_13, .int x_14, .int x_15, .int x_16, .ref x_17, .ref x_18, .int (nI x_19), .ref x_20, .ref x_21, .ref x_22, .ref x_23, .ref x_24, .ref x_25, .ref x_26, .ref x_27, .ref x_28, .ref x_29, .ref x_30, .int (nI x_31)]) := hS_o
  obtain ⟨f_32, hS_x_1, hi_f_32⟩ := hTy.k50 hT_x_1
  have hdg_ : dg f_32 := by have q := hdi.1; rw [fld_i hS_o rfl hS_x_1] at q; exact q
  obtain ⟨f_33, hS_x_3, hi_f_33⟩ := hTy.k52 hT_x_3
  have hda_ : DGA f_33 := by have q := hdi.2; rw [fld_i hS_o rfl hS_x_3] at q; exact q
  refine lv_aload_n hx hb dX12_cap_0 rfl (lv_at hl 0 rfl) ?_
  refine lv_iconst (v := 0) hx hb dX12_cap_1 (by decide) ?_
  refine pl_put (ci := 12) (v := .int 0) (ty := .int) (C := RX12) (T := TX12) (N := 32) (fs' := [.ref x_1, .ref x_2, .ref x_3, .ref x_4, .ref x_5, .int (nI x_6), .int (nI x_7), .int (nI x_8), .int 0, .ref x_10, .int (nI (pr.2)), .int (nI x_11), .int (nI x_12), .int x_13, .int x_14, .int x_15, .int x_16, .ref x_17, .ref x_18, .int (nI x_19), .ref x_20, .ref x_21, .ref x_22, .ref x_23, .ref x_24, .ref x_25, .ref x_26, .ref x_27, .ref x_28, .ref x_29, .ref x_30, .int (nI x_31)]) hx hb hT iX12 tyX12 tyX12_ok nmX12 hown hK hW hT_o.1 hS_o rfl 8 (by decide) w1090 rfl (by decide +kernel) rfl rfl (Nat.le_of_ble_eq_true rfl) rfl dX12_cap_2 (fun H locs S_34 e1 hW => ?_)
  have hTy := hTy.u12 e1 hT_o ⟨x_1, x_2, x_3, x_4, x_5, x_6, x_7, x_8, 0, x_10, x_11, x_12, x_13, x_14, x_15, x_16, x_17, x_18, x_19, x_20, x_21, x_22, x_23, x_24, x_25, x_26, x_27, x_28, x_29, x_30, x_31, rfl, hT_x_1, hT_x_2, hT_x_3, hT_x_4, hT_x_5, (by omega), (by omega), (by omega), hT_x_10, (by show pr.2 ≤ 900; omega), (by omega), (by omega), hT_x_17, hT_x_18, (by omega), hT_x_20, hT_x_21, hT_x_22, hT_x_23, hT_x_24, hT_x_25, hT_x_26, hT_x_27, hT_x_28, hT_x_29, hT_x_30, (by omega)⟩
  have hS_x_1 := un e1 hT_x_1 hT_o (by decide) hS_x_1
  have hS_x_3 := un e1 hT_x_3 hT_o (by decide) hS_x_3
  have hws := (show wrs (.inr (12, [.ref x_1, .ref x_2, .ref x_3, .ref x_4, .ref x_5, .int (nI x_6), .int (nI x_7), .int (nI x_8), .int 0, .ref x_10, .int (nI (pr.2)), .int (nI x_11), .int (nI x_12), .int x_13, .int x_14, .int x_15, .int x_16, .ref x_17, .ref x_18, .int (nI x_19), .ref x_20, .ref x_21, .ref x_22, .ref x_23, .ref x_24, .ref x_25, .ref x_26, .ref x_27, .ref x_28, .ref x_29, .ref x_30, .int (nI x_31)])) = wrs (S o) from by rw [hS_o]; rfl)
  have hFr := ufs hFr e1 hT_o (by decide) hws
  have hS_o := us e1
  refine lv_aload_n hx hb dX12_cap_5 rfl (lv_at hl 0 rfl) ?_
  refine lv_iload_n hx hb dX12_cap_6 rfl (lv_at hl 1 rfl) ?_
  refine lv_iload_n hx hb dX12_cap_7 rfl (lv_at hl 2 rfl) ?_
  refine vp_callSi (va_Run.run (va_runV (As := [.int ca, .int cb]) (rest := []) ⟨hx, hb, hml, hown, hT⟩ (m_areTwo l dC dI cy L kap pr S_34 H.size o ca cb hTy hT_o) (cwV 2 hT (gV w1280 w1282 ws72 w14 w1283) rfl rfl rfl (by decide +kernel) ⟨(Nat.le_of_ble_eq_true rfl), (Nat.le_of_ble_eq_true rfl)⟩) ⟨pcN.blind, pl_recv hK hW hT_o.1 hS_o rfl, pcN.pre hW.1 hK hW.2.1 hN (fun q h => absurd h List.not_mem_nil)⟩ rfl rfl hl.1 rfl (lv_room (Nat.le_of_ble_eq_true rfl)) dX12_cap_8 ⟨(Nat.le_of_ble_eq_true rfl), (Nat.le_of_ble_eq_true rfl)⟩)) (fun r_35 hr_35 => ?_)
  rcases hr_35 with hc_ | hc_
  · obtain rfl : r_35 = 0 := hc_
    refine lv_if_ne (tgt := 17) hx hb dX12_cap_11 (by decide) (fun h => absurd (by decide) h) (fun _ => ?_)
    refine lv_bipush (v := (-2)) hx hb dX12_cap_14 (by decide) ?_
    exact W.iret (v := (-2)) hx hb hr (fun t ht h9 => ⟨⟨(-2), S_34, rfl, ⟨hTy, hFr, ⟨(by rw [fld_i hS_o rfl hS_x_1]; exact hdg_), (by rw [fld_i hS_o rfl hS_x_3]; exact hda_)⟩⟩, by rw [ht]; exact hW.1, va_K.moved h9.alike hK, hW.2.1⟩, hW.2.2.F ht⟩) hW.2.2.2.2 dX12_cap_16
  · obtain ⟨rfl, k_36, k_37, hb_k_36, hb_k_37, rfl, rfl, hab2⟩ := hc_
    refine lv_if_ne (tgt := 17) hx hb dX12_cap_11 (by decide) (fun _ => ?_) (fun h => absurd h (by decide))
    refine lv_iload_n hx hb dX12_cap_17 rfl (lv_at hl 3 rfl) ?_
    refine lv_i2l hx hb dX12_cap_18 rfl ?_
    refine lv_topl (fun z_38 ez_38 => ?_)
    refine lv_lconst (v := 0) hx hb dX12_cap_19 (by decide) ?_
    refine lv_ldc2 (v := 99999999) hx hb hown (hT _ w1322) dX12_cap_20 ?_
    refine vp_callSi (va_Run.run (va_runS (As := [.long z_38, .long 0, .long 99999999]) (rest := []) ⟨hx, hb, hml, hown, hT⟩ (m_isIn l dC dI H.size z_38 0 99999999) (va_cwS 3 hT (gS w1187 w1188 w14 w1189) rfl rfl rfl (by decide +kernel) ⟨(Nat.le_of_ble_eq_true rfl), (Nat.le_of_ble_eq_true rfl)⟩) ⟨pcW.blind, pcW.pre (va_P0 _ _ _) (hK.sub (tys' := []) [] rfl) (va_D0 (fun _ => True))⟩ rfl rfl hl.1 rfl (lv_room (Nat.le_of_ble_eq_true rfl)) dX12_cap_23 ⟨(Nat.le_of_ble_eq_true rfl), (Nat.le_of_ble_eq_true rfl)⟩)) (fun r_39 hr_39 => ?_)
    rcases isInc hr_39 with hc_ | hc_
    · obtain ⟨rfl, hin_⟩ := hc_
      obtain ⟨k_40, hb_k_40, rfl⟩ := inK (H := 99999999) ez_38 hin_ (by decide) (by decide)
      refine lv_if_ne (tgt := 32) hx hb dX12_cap_26 (by decide) (fun _ => ?_) (fun h => absurd h (by decide))
      refine lv_aload_n hx hb dX12_cap_32 rfl (lv_at hl 0 rfl) ?_
      refine pl_callv (va_runV (As := []) (rest := []) ⟨hx, hb, hml, hown, hT⟩ (m_remembers l dC dI cy L kap pr S_34 H.size o hTy hT_o (by rw [fld_i hS_o rfl hS_x_1]; exact hdg_) (by rw [fld_i hS_o rfl hS_x_3]; exact hda_)) (cwV 0 hT (gV w1293 w1295 ws75 w14 w1296) rfl rfl rfl (by decide +kernel) ⟨(Nat.le_of_ble_eq_true rfl), (Nat.le_of_ble_eq_true rfl)⟩) ⟨pcN.blind, pl_recv hK hW hT_o.1 hS_o rfl, pcN.pre hW.1 hK hW.2.1 hN (fun q h => absurd h List.not_mem_nil)⟩ rfl rfl hl.1 rfl (lv_room (Nat.le_of_ble_eq_true rfl)) dX12_cap_33 ⟨(Nat.le_of_ble_eq_true rfl), (Nat.le_of_ble_eq_true rfl)⟩) hW hA0 hA (fun S_41 H locs hrel hW => ?_)
      obtain ⟨hTy, hF1, hx1⟩ := hrel
      have hFr := hFr.tr hF1 (by decide)
      have hS_x_1 := hF1.at hT_x_1 (by decide) hS_x_1
      obtain ⟨h0k_, hda_⟩ := hx1
      have h0r_ := h0k_.trans (rf_i hS_o rfl)
      obtain ⟨x_42, x_43, x_44, x_45, x_46, x_47, x_48, x_49, x_50, x_51, x_52, x_53, x_54, x_55, x_56, x_57, x_58, x_59, x_60, x_61, x_62, x_63, x_64, x_65, x_66, x_67, x_68, x_69, x_70, x_71, x_72, hS_o, hT_x_42, hT_x_43, hT_x_44, hT_x_45, hT_x_46, hb_x_47, hb_x_48, hb_x_49, hT_x_51, hb_q2, hb_x_52, hb_x_53, hT_x_58, hT_x_59, hb_x_60, hT_x_61, hT_x_62, hT_x_63, hT_x_64, hT_x_65, hT_x_66, hT_x_67, hT_x_68, hT_x_69, hT_x_70, hT_x_71, hb_x_72⟩ := hTy.k12 hT_o
      have hb_q2 : pr.2 ≤ 900 := hb_q2
      have hS_o : S_41 o = .inr (12, [.ref x_42, .ref x_43, .ref x_44, .ref x_45, .ref x_46, .int (nI x_47), .int (nI x_48), .int (nI x_49), .int x_50, .ref x_51, .int (nI (pr.2)), .int (nI x_52), .int (nI x_53), .int x_54, .int x_55, .int x_56, .int x_57, .ref x_58, .ref x_59, .int (nI x_60), .ref x_61, .ref x_62, .ref x_63, .ref x_64, .ref x_65, .ref x_66, .ref x_67, .ref x_68, .ref x_69, .ref x_70, .ref x_71, .int (nI x_72)]) := hS_o
      have e0_ : x_1 = x_42 := h0r_.symm.trans (rf_i hS_o rfl)
      subst e0_
      obtain ⟨f_73, hS_x_44, hi_f_73⟩ := hTy.k52 hT_x_44
      have hda_ : DGA f_73 := by have q := hda_; rw [fld_i hS_o rfl hS_x_44] at q; exact q
      refine lv_aload_n hx hb dX12_cap_36 rfl (lv_at hl 0 rfl) ?_
      refine pl_get (ci := 12) (v := .ref x_1) (C := RX12) (T := TX12) (N := 32) hx hb hT iX12 hown hK hW hT_o.1 hS_o rfl 0 (by decide) w1082 rfl dX12_cap_37 ?_
      refine lv_sipush (v := 202) hx hb dX12_cap_40 (by decide) ?_
      refine lv_bipush (v := 8) hx hb dX12_cap_43 (by decide) ?_
      refine lv_iload_n hx hb dX12_cap_45 rfl (lv_at hl 1 rfl) ?_
      refine lv_imul hx hb dX12_cap_46 ?_
      refine lv_topi (fun z_74 ez_74 => ?_)
      obtain rfl : z_74 = nI (8 * k_36) := ez_74.trans (pk_mul (8) (k_36))
      refine lv_iadd hx hb dX12_cap_47 ?_
      refine lv_topi (fun z_75 ez_75 => ?_)
      obtain rfl : z_75 = nI (202 + (8 * k_36)) := ez_75.trans (nI_add (202) (8 * k_36))
      refine lv_iload_n hx hb dX12_cap_48 rfl (lv_at hl 2 rfl) ?_
      refine lv_iadd hx hb dX12_cap_49 ?_
      refine lv_topi (fun z_76 ez_76 => ?_)
      obtain rfl : z_76 = nI ((202 + (8 * k_36)) + k_37) := ez_76.trans (nI_add (202 + (8 * k_36)) (k_37))
      refine pl_iald hx hb hK hW hT_x_1.1 hS_x_1 (vp_in_nI (n := (202 + (8 * k_36)) + k_37) (N := 266) (by omega) (by omega)) dX12_cap_50 ?_
      refine lv_topi (fun y_77 ey_77 => ?_)
      have hv_y_77 : okS ((202 + (8 * k_36)) + k_37) y_77 := by rw [ey_77]; show okS _ (f_32 (nI ((202 + (8 * k_36)) + k_37)).toNatClampNeg); rw [nI_clamp (by omega)]; exact hi_f_32 ((202 + (8 * k_36)) + k_37) (by omega)
      refine lv_istore (lv' := [(4, .int y_77), (0, .ref o), (1, .int (nI k_36)), (2, .int (nI k_37)), (3, .int (nI k_40))]) hx hb dX12_cap_51 hl (by decide) rfl (fun ls hl => ?_)
      refine lv_aload_n hx hb dX12_cap_53 rfl (lv_at hl 1 rfl) ?_
      refine pl_get (ci := 12) (v := .ref x_1) (C := RX12) (T := TX12) (N := 32) hx hb hT iX12 hown hK hW hT_o.1 hS_o rfl 0 (by decide) w1082 rfl dX12_cap_54 ?_
      refine lv_sipush (v := 202) hx hb dX12_cap_57 (by decide) ?_
      refine lv_bipush (v := 8) hx hb dX12_cap_60 (by decide) ?_
      refine lv_iload_n hx hb dX12_cap_62 rfl (lv_at hl 2 rfl) ?_
      refine lv_imul hx hb dX12_cap_63 ?_
      refine lv_topi (fun z_78 ez_78 => ?_)
      obtain rfl : z_78 = nI (8 * k_36) := ez_78.trans (pk_mul (8) (k_36))
      refine lv_iadd hx hb dX12_cap_64 ?_
      refine lv_topi (fun z_79 ez_79 => ?_)
      obtain rfl : z_79 = nI (202 + (8 * k_36)) := ez_79.trans (nI_add (202) (8 * k_36))
      refine lv_iload_n hx hb dX12_cap_65 rfl (lv_at hl 3 rfl) ?_
      refine lv_iadd hx hb dX12_cap_66 ?_
      refine lv_topi (fun z_80 ez_80 => ?_)
      obtain rfl : z_80 = nI ((202 + (8 * k_36)) + k_37) := ez_80.trans (nI_add (202 + (8 * k_36)) (k_37))
      refine lv_iload_n hx hb dX12_cap_67 rfl (lv_at hl 4 rfl) ?_
      refine pl_iast hx hb hK hW hT_x_1.1 hS_x_1 (vp_in_nI (n := (202 + (8 * k_36)) + k_37) (N := 266) (by omega) (by omega)) dX12_cap_68 (fun H locs f_82 S_81 ef_f_82 e1 hW => ?_)
      have hok_ : okS ((202 + (8 * k_36)) + k_37) (nI (k_40)) := (okS_n (by omega) (by omega) (by omega))
      have hi_f_82 := okS_up (i := (202 + (8 * k_36)) + k_37) (by omega) hi_f_32 ef_f_82 hok_
      have hTy := hTy.u50 e1 hT_x_1 ⟨f_82, rfl, hi_f_82⟩
      have hS_o := un e1 hT_o hT_x_1 (by decide) hS_o
      have hS_x_44 := un e1 hT_x_44 hT_x_1 (by decide) hS_x_44
      have hFr := uf hFr e1 hT_x_1 (by decide) (by decide)
      have hS_x_1 := us e1
      have hdg_ := dg_up (i := (202 + (8 * k_36)) + k_37) hdg_ ef_f_82 (by omega) (by omega)
      refine lv_iload hx hb dX12_cap_69 (lv_at hl 0 rfl) ?_
      exact W.iret (v := y_77) hx hb hr (fun t ht h9 => ⟨⟨y_77, S_81, rfl, ⟨hTy, hFr, ⟨(by rw [fld_i hS_o rfl hS_x_1]; exact hdg_), (by rw [fld_i hS_o rfl hS_x_44]; exact hda_)⟩⟩, by rw [ht]; exact hW.1, va_K.moved h9.alike hK, hW.2.1⟩, hW.2.2.F ht⟩) hW.2.2.2.2 dX12_cap_71
    · obtain ⟨rfl, hin_⟩ := hc_
      refine lv_if_ne (tgt := 32) hx hb dX12_cap_26 (by decide) (fun h => absurd (by decide) h) (fun _ => ?_)
      refine lv_bipush (v := (-3)) hx hb dX12_cap_29 (by decide) ?_
      exact W.iret (v := (-3)) hx hb hr (fun t ht h9 => ⟨⟨(-3), S_34, rfl, ⟨hTy, hFr, ⟨(by rw [fld_i hS_o rfl hS_x_1]; exact hdg_), (by rw [fld_i hS_o rfl hS_x_3]; exact hda_)⟩⟩, by rw [ht]; exact hW.1, va_K.moved h9.alike hK, hW.2.1⟩, hW.2.2.F ht⟩) hW.2.2.2.2 dX12_cap_31

set_option maxHeartbeats 4000000 in
set_option maxRecDepth 100000 in
theorem m_undo (l : Launch) (dC : Nat → ClassId) (dI : Nat → Nat → Nat) (cy : Nat → ClassId) (L : List Nat) (kap : Nat → Nat) (pr : Pr) (S : Nat → va_E) (sz : Nat) (o : Nat) (hTy : Ty cy L kap pr S) (hT_o : TK L kap o 12) (hdi : dg (fld S o 0) ∧ DGA (fld S o 2)) : Met l yX12_undo (wT yX12_undo cX12_undo 2 (some .int)) ({ frames := 0, cells := 0, slots := 0, locals := 0 }) (pcN dC dI [.ref o] sz (va_pl L S) (cyT cy) NLs []) (va_Qi (fun r S' => Ty cy L kap pr S' ∧ Fr kap [12, 50] S S' ∧ (dg (fld S' o 0) ∧ DGA (fld S' o 2))) (fun S' t => pB dC dI (AL L sz) (va_pl L S') (cyT cy) t) (AL L sz)) 0 0 (AL L sz) := by
  refine Met.ofW (cc := cX12_undo) (maxL := 2) (ret := (some .int)) (by decide) rfl ?_
  intro p e s m args below meth c s₁ B hml hv
  obtain ⟨rfl, hsz, hP, hK, hD0, hN, -⟩ := hv
  have hx := B.exec
  have hb := B.bytes
  have hr := B.returns
  have hT : ∀ wd ∈ TB, wd.before [.ref o].toArray s = true := fun wd h => atoms_spec (ws := wT yX12_undo cX12_undo 2 (some .int)) B.pre wd (List.mem_cons_of_mem _ h)
  have hown : s.vm.findClass RX12 = some m.cls := findClass_of_methodNamed B.named
  have hlocks := B.notSynchronized
  subst hsz
  have hW : PW dC dI L (AL L s.heap.size) s.heap S s.heap [] := ⟨hP, pl_self hD0, va_S.rf⟩
  have hA0 : ∀ q, q ∈ L → AL L s.heap.size q := fun _ h => Or.inl h
  have hA : ∀ q, s.heap.size ≤ q → AL L s.heap.size q := fun _ h => Or.inr h
  have hFr : Fr kap [12, 50] S S := Fr.rf
  have hl := lv_entry ([.ref o]) (n := 2) (Nat.le_of_ble_eq_true rfl)
  rw [lg_entry_eq]
  generalize (lg_sl ([.ref o]) ++ List.replicate (2 - (lg_sl ([.ref o])).length) Slot.unset).toArray = ls at hl ⊢
  have hl : lv_has ls 2 [(0, .ref o)] := hl
  obtain ⟨x_1, x_2, x_3, x_4, x_5, x_6, x_7, x_8, x_9, x_10, x_11, x_12, x_13, x_14, x_15, x_16, x_17, x_18, x_19, x_20, x_21, x_22, x_23, x_24, x_25, x_26, x_27, x_28, x_29, x_30, x_31, hS_o, hT_x_1, hT_x_2, hT_x_3, hT_x_4, hT_x_5, hb_x_6, hb_x_7, hb_x_8, hT_x_10, hb_q2, hb_x_11, hb_x_12, hT_x_17, hT_x_18, hb_x_19, hT_x_20, hT_x_21, hT_x_22, hT_x_23, hT_x_24, hT_x_25, hT_x_26, hT_x_27, hT_x_28, hT_x_29, hT_x_30, hb_x_31⟩ := hTy.k12 hT_o
  have hb_q2 : pr.2 ≤ 900 := hb_q2
  have hS_o : S o = .inr (12, [.ref x_1, .ref x_2, .ref x_3, .ref x_4, .ref x_5, .int (nI x_6), .int (nI x_7), .int (nI x_8), .int x_9, .ref x_10, .int (nI (pr.2)), .int (nI x_11), .int (nI x_12), .int x_13, .int x_14, .int x_15, .int x_16, .ref x_17, .ref x_18, .int (nI x_19), .ref x_20, .ref x_21, .ref x_22, .ref x_23, .ref x_24, .ref x_25, .ref x_26, .ref x_27, .ref x_28, .ref x_29, .ref x_30, .int (nI x_31)]) := hS_o
  obtain ⟨f_32, hS_x_1, hi_f_32⟩ := hTy.k50 hT_x_1
  have hdg_ : dg f_32 := by have q := hdi.1; rw [fld_i hS_o rfl hS_x_1] at q; exact q
  obtain ⟨f_33, hS_x_3, hi_f_33⟩ := hTy.k52 hT_x_3
  have hda_ : DGA f_33 := by have q := hdi.2; rw [fld_i hS_o rfl hS_x_3] at q; exact q
  refine lv_aload_n hx hb dX12_undo_0 rfl (lv_at hl 0 rfl) ?_
  refine lv_iconst (v := 0) hx hb dX12_undo_1 (by decide) ?_
  refine pl_put (ci := 12) (v := .int 0) (ty := .int) (C := RX12) (T := TX12) (N := 32) (fs' := [.ref x_1, .ref x_2, .ref x_3, .ref x_4, .ref x_5, .int (nI x_6), .int (nI x_7), .int (nI x_8), .int 0, .ref x_10, .int (nI (pr.2)), .int (nI x_11), .int (nI x_12), .int x_13, .int x_14, .int x_15, .int x_16, .ref x_17, .ref x_18, .int (nI x_19), .ref x_20, .ref x_21, .ref x_22, .ref x_23, .ref x_24, .ref x_25, .ref x_26, .ref x_27, .ref x_28, .ref x_29, .ref x_30, .int (nI x_31)]) hx hb hT iX12 tyX12 tyX12_ok nmX12 hown hK hW hT_o.1 hS_o rfl 8 (by decide) w1090 rfl (by decide +kernel) rfl rfl (Nat.le_of_ble_eq_true rfl) rfl dX12_undo_2 (fun H locs S_34 e1 hW => ?_)
  have hTy := hTy.u12 e1 hT_o ⟨x_1, x_2, x_3, x_4, x_5, x_6, x_7, x_8, 0, x_10, x_11, x_12, x_13, x_14, x_15, x_16, x_17, x_18, x_19, x_20, x_21, x_22, x_23, x_24, x_25, x_26, x_27, x_28, x_29, x_30, x_31, rfl, hT_x_1, hT_x_2, hT_x_3, hT_x_4, hT_x_5, (by omega), (by omega), (by omega), hT_x_10, (by show pr.2 ≤ 900; omega), (by omega), (by omega), hT_x_17, hT_x_18, (by omega), hT_x_20, hT_x_21, hT_x_22, hT_x_23, hT_x_24, hT_x_25, hT_x_26, hT_x_27, hT_x_28, hT_x_29, hT_x_30, (by omega)⟩
  have hS_x_1 := un e1 hT_x_1 hT_o (by decide) hS_x_1
  have hS_x_3 := un e1 hT_x_3 hT_o (by decide) hS_x_3
  have hws := (show wrs (.inr (12, [.ref x_1, .ref x_2, .ref x_3, .ref x_4, .ref x_5, .int (nI x_6), .int (nI x_7), .int (nI x_8), .int 0, .ref x_10, .int (nI (pr.2)), .int (nI x_11), .int (nI x_12), .int x_13, .int x_14, .int x_15, .int x_16, .ref x_17, .ref x_18, .int (nI x_19), .ref x_20, .ref x_21, .ref x_22, .ref x_23, .ref x_24, .ref x_25, .ref x_26, .ref x_27, .ref x_28, .ref x_29, .ref x_30, .int (nI x_31)])) = wrs (S o) from by rw [hS_o]; rfl)
  have hFr := ufs hFr e1 hT_o (by decide) hws
  have hS_o := us e1
  refine lv_aload_n hx hb dX12_undo_5 rfl (lv_at hl 0 rfl) ?_
  refine pl_get (ci := 12) (v := .int (nI x_8)) (C := RX12) (T := TX12) (N := 32) hx hb hT iX12 hown hK hW hT_o.1 hS_o rfl 7 (by decide) w1089 rfl dX12_undo_6 ?_
  refine lv_if_ne (tgt := 15) hx hb dX12_undo_9 (by decide) (fun c_9 => ?_) (fun c_9 => ?_)
  · have c_9 : ¬ (x_8 = 0) := fun hh9 => c_9 ((nI_eq (a := x_8) (b := 0) (by omega) (by omega)).mpr hh9)
    refine lv_aload_n hx hb dX12_undo_15 rfl (lv_at hl 0 rfl) ?_
    refine lv_dup hx hb dX12_undo_16 rfl ?_
    refine pl_get (ci := 12) (v := .int (nI x_8)) (C := RX12) (T := TX12) (N := 32) hx hb hT iX12 hown hK hW hT_o.1 hS_o rfl 7 (by decide) w1089 rfl dX12_undo_17 ?_
    refine lv_iconst (v := 1) hx hb dX12_undo_20 (by decide) ?_
    refine lv_isub hx hb dX12_undo_21 ?_
    refine lv_topi (fun z_35 ez_35 => ?_)
    obtain rfl : z_35 = nI (x_8 - 1) := ez_35.trans (pk_sub (a := x_8) (b := 1) (by omega))
    refine pl_put (ci := 12) (v := .int (nI (x_8 - 1))) (ty := .int) (C := RX12) (T := TX12) (N := 32) (fs' := [.ref x_1, .ref x_2, .ref x_3, .ref x_4, .ref x_5, .int (nI x_6), .int (nI x_7), .int (nI (x_8 - 1)), .int 0, .ref x_10, .int (nI (pr.2)), .int (nI x_11), .int (nI x_12), .int x_13, .int x_14, .int x_15, .int x_16, .ref x_17, .ref x_18, .int (nI x_19), .ref x_20, .ref x_21, .ref x_22, .ref x_23, .ref x_24, .ref x_25, .ref x_26, .ref x_27, .ref x_28, .ref x_29, .ref x_30, .int (nI x_31)]) hx hb hT iX12 tyX12 tyX12_ok nmX12 hown hK hW hT_o.1 hS_o rfl 7 (by decide) w1089 rfl (by decide +kernel) rfl rfl (Nat.le_of_ble_eq_true rfl) rfl dX12_undo_22 (fun H locs S_36 e1 hW => ?_)
    have hTy := hTy.u12 e1 hT_o ⟨x_1, x_2, x_3, x_4, x_5, x_6, x_7, x_8 - 1, 0, x_10, x_11, x_12, x_13, x_14, x_15, x_16, x_17, x_18, x_19, x_20, x_21, x_22, x_23, x_24, x_25, x_26, x_27, x_28, x_29, x_30, x_31, rfl, hT_x_1, hT_x_2, hT_x_3, hT_x_4, hT_x_5, (by omega), (by omega), (by omega), hT_x_10, (by show pr.2 ≤ 900; omega), (by omega), (by omega), hT_x_17, hT_x_18, (by omega), hT_x_20, hT_x_21, hT_x_22, hT_x_23, hT_x_24, hT_x_25, hT_x_26, hT_x_27, hT_x_28, hT_x_29, hT_x_30, (by omega)⟩
    have hS_x_1 := un e1 hT_x_1 hT_o (by decide) hS_x_1
    have hS_x_3 := un e1 hT_x_3 hT_o (by decide) hS_x_3
    have hws := (show wrs (.inr (12, [.ref x_1, .ref x_2, .ref x_3, .ref x_4, .ref x_5, .int (nI x_6), .int (nI x_7), .int (nI (x_8 - 1)), .int 0, .ref x_10, .int (nI (pr.2)), .int (nI x_11), .int (nI x_12), .int x_13, .int x_14, .int x_15, .int x_16, .ref x_17, .ref x_18, .int (nI x_19), .ref x_20, .ref x_21, .ref x_22, .ref x_23, .ref x_24, .ref x_25, .ref x_26, .ref x_27, .ref x_28, .ref x_29, .ref x_30, .int (nI x_31)])) = wrs (S_34 o) from by rw [hS_o]; rfl)
    have hFr := ufs hFr e1 hT_o (by decide) hws
    have hS_o := us e1
    refine lv_iconst (v := 0) hx hb dX12_undo_25 (by decide) ?_
    refine lv_istore_n (lv' := [(1, .int 0), (0, .ref o)]) hx hb dX12_undo_26 rfl hl (by decide) rfl (fun ls hl => ?_)
    have loop : ∀ (fuel : Nat) (i : Nat) (gr : Nat → Int32) (SS : Nat → va_E) (H : Heap) (locs : List Loc) (ls : Array Slot), 267 - i < fuel → (i ≤ 266) → (SS x_1 = .inl (cy 0, 266, .inl gr)) → (∀ j, j < i → gr j = f_33 (266 * (x_8 - 1) + j)) → Ty cy L kap pr SS → Fr kap [12, 50] S SS → Fr kap [50] S_36 SS → PW dC dI L (AL L s.heap.size) s.heap SS H locs → lv_has ls 2 [(1, .int (nI i)), (0, .ref o)] → W p l e (headSpec (wT yX12_undo cX12_undo 2 (some .int)) { frames := 0, cells := 0, slots := 0, locals := 0 }).room s m [.ref o].toArray below meth c H locs 0 0 (MQ below (va_Qi (fun r S' => Ty cy L kap pr S' ∧ Fr kap [12, 50] S S' ∧ (dg (fld S' o 0) ∧ DGA (fld S' o 2))) (fun S' t => pB dC dI (AL L s.heap.size) (va_pl L S') (cyT cy) t) (AL L s.heap.size)) [.ref o].toArray s 0 0 (AL L s.heap.size)) (F0 m 27 ls []) := by
      intro fuel
      induction fuel with
      | zero => intro i gr SS H locs ls h; exact absurd h (Nat.not_lt_zero _)
      | succ fu27 ih27 =>
        intro i gr S_37 H locs ls hm27 hb_i hRs hcr hTy hFr hFl27 hW hl
        have hS_o := hFl27.at hT_o (by decide) hS_o
        have hS_x_3 := hFl27.at hT_x_3 (by decide) hS_x_3
        have hi_gr := k50i hTy hT_x_1 hRs
        refine lv_iload_n hx hb dX12_undo_27 rfl (lv_at hl 0 rfl) ?_
        refine lv_sipush (v := 266) hx hb dX12_undo_28 (by decide) ?_
        refine lv_icmp_ge (tgt := 61) hx hb dX12_undo_31 (by decide) (fun c_31 => ?_) (fun c_31 => ?_)
        · have c_31 : 266 ≤ i := (nI_leI (a := 266) (b := i) (by omega) (by omega)).mp c_31
          have hdg_ : dg gr := dg_c (hda_ (x_8 - 1) (by omega)) (fun j hj => hcr j (by omega))
          refine lv_aload_n hx hb dX12_undo_61 rfl (lv_at hl 1 rfl) ?_
          refine pl_get (ci := 12) (v := .int (nI (x_8 - 1))) (C := RX12) (T := TX12) (N := 32) hx hb hT iX12 hown hK hW hT_o.1 hS_o rfl 7 (by decide) w1089 rfl dX12_undo_62 ?_
          exact W.iret (v := nI (x_8 - 1)) hx hb hr (fun t ht h9 => ⟨⟨nI (x_8 - 1), S_37, rfl, ⟨hTy, hFr, ⟨(by rw [fld_i hS_o rfl hRs]; exact hdg_), (by rw [fld_i hS_o rfl hS_x_3]; exact hda_)⟩⟩, by rw [ht]; exact hW.1, va_K.moved h9.alike hK, hW.2.1⟩, hW.2.2.F ht⟩) hW.2.2.2.2 dX12_undo_65
        · have c_31 : ¬ (266 ≤ i) := fun hh9 => c_31 ((nI_leI (a := 266) (b := i) (by omega) (by omega)).mpr hh9)
          refine lv_aload_n hx hb dX12_undo_34 rfl (lv_at hl 1 rfl) ?_
          refine pl_get (ci := 12) (v := .ref x_1) (C := RX12) (T := TX12) (N := 32) hx hb hT iX12 hown hK hW hT_o.1 hS_o rfl 0 (by decide) w1082 rfl dX12_undo_35 ?_
          refine lv_iload_n hx hb dX12_undo_38 rfl (lv_at hl 0 rfl) ?_
          refine lv_aload_n hx hb dX12_undo_39 rfl (lv_at hl 1 rfl) ?_
          refine pl_get (ci := 12) (v := .ref x_3) (C := RX12) (T := TX12) (N := 32) hx hb hT iX12 hown hK hW hT_o.1 hS_o rfl 2 (by decide) w1084 rfl dX12_undo_40 ?_
          refine lv_sipush (v := 266) hx hb dX12_undo_43 (by decide) ?_
          refine lv_aload_n hx hb dX12_undo_46 rfl (lv_at hl 1 rfl) ?_
          refine pl_get (ci := 12) (v := .int (nI (x_8 - 1))) (C := RX12) (T := TX12) (N := 32) hx hb hT iX12 hown hK hW hT_o.1 hS_o rfl 7 (by decide) w1089 rfl dX12_undo_47 ?_
          refine lv_imul hx hb dX12_undo_50 ?_
          refine lv_topi (fun z_38 ez_38 => ?_)
          obtain rfl : z_38 = nI (266 * (x_8 - 1)) := ez_38.trans (pk_mul (266) (x_8 - 1))
          refine lv_iload_n hx hb dX12_undo_51 rfl (lv_at hl 0 rfl) ?_
          refine lv_iadd hx hb dX12_undo_52 ?_
          refine lv_topi (fun z_39 ez_39 => ?_)
          obtain rfl : z_39 = nI ((266 * (x_8 - 1)) + i) := ez_39.trans (nI_add (266 * (x_8 - 1)) (i))
          refine pl_iald hx hb hK hW hT_x_3.1 hS_x_3 (vp_in_nI (n := (266 * (x_8 - 1)) + i) (N := 2660) (by omega) (by omega)) dX12_undo_53 ?_
          refine lv_topi (fun y_40 ey_40 => ?_)
          have hv_y_40 : okS (((266 * (x_8 - 1)) + i) % 266) y_40 := by rw [ey_40]; show okS _ (f_33 (nI ((266 * (x_8 - 1)) + i)).toNatClampNeg); rw [nI_clamp (by omega)]; exact hi_f_33 ((266 * (x_8 - 1)) + i) (by omega)
          refine pl_iast hx hb hK hW hT_x_1.1 hRs (vp_in_nI (n := i) (N := 266) (by omega) (by omega)) dX12_undo_54 (fun H locs f_42 S_41 ef_f_42 e1 hW => ?_)
          have hi_f_42 := okS_up (i := i) (by omega) hi_gr ef_f_42 (by have q := hv_y_40; rw [Nat.mul_add_mod, Nat.mod_eq_of_lt (by omega)] at q; exact q)
          have hTy := hTy.u50 e1 hT_x_1 ⟨f_42, rfl, hi_f_42⟩
          have hS_o := un e1 hT_o hT_x_1 (by decide) hS_o
          have hS_x_3 := un e1 hT_x_3 hT_x_1 (by decide) hS_x_3
          have hFr := uf hFr e1 hT_x_1 (by decide) (by decide)
          have hFl27 := uf hFl27 e1 hT_x_1 (by decide) (by decide)
          have hRs := us e1
          have hcr1 := cpy_up (P := fun j x => x = f_33 (266 * (x_8 - 1) + j)) ef_f_42 (by omega) hcr (by show _ = _; rw [ey_40, nI_clamp (by omega)])
          refine lv_iinc (v := nI (i + 1)) (lv' := [(1, .int (nI (i + 1))), (0, .ref o)]) hx hb dX12_undo_55 hl (k := 0) rfl (nI_add (i) 1) (by decide) rfl (fun ls hl => ?_)
          refine lv_goto (tgt := 27) hx hb dX12_undo_58 (by decide) ?_
          exact ih27 (i + 1) f_42 _ _ _ ls (by omega) (by omega) hRs hcr1 hTy hFr hFl27 hW (lv_sub hl [0, 1] rfl)
    exact loop ((267 - 0) + 1) 0 f_32 _ _ _ ls (Nat.lt_succ_self _) (by omega) hS_x_1 (fun j h => absurd h (Nat.not_lt_zero _)) hTy hFr Fr.rf hW (lv_sub hl [0, 1] rfl)
  · have c_9 : x_8 = 0 := (nI_eq (a := x_8) (b := 0) (by omega) (by omega)).mp c_9
    refine lv_bipush (v := (-5)) hx hb dX12_undo_12 (by decide) ?_
    exact W.iret (v := (-5)) hx hb hr (fun t ht h9 => ⟨⟨(-5), S_34, rfl, ⟨hTy, hFr, ⟨(by rw [fld_i hS_o rfl hS_x_1]; exact hdg_), (by rw [fld_i hS_o rfl hS_x_3]; exact hda_)⟩⟩, by rw [ht]; exact hW.1, va_K.moved h9.alike hK, hW.2.1⟩, hW.2.2.F ht⟩) hW.2.2.2.2 dX12_undo_14

set_option maxHeartbeats 4000000 in
set_option maxRecDepth 100000 in
theorem m_isFree (l : Launch) (dC : Nat → ClassId) (dI : Nat → Nat → Nat) (cy : Nat → ClassId) (L : List Nat) (kap : Nat → Nat) (pr : Pr) (S : Nat → va_E) (sz : Nat) (o : Nat) (t : Nat) (kd : Int32) (hTy : Ty cy L kap pr S) (hT_o : TK L kap o 12) (hb_t : t < 40) : Met l yX12_isFree (wT yX12_isFree cX12_isFree 3 (some .boolean)) ({ frames := 1, cells := 0, slots := 0, locals := 22 }) (pcN dC dI [.ref o, .int (nI t), .int kd] sz (va_pl L S) (cyT cy) NLs []) (vp_Si (fun r => (r = 1 ∧ fre (af (S (rf (S o) 0))) kd t) ∨ (r = 0 ∧ ¬ fre (af (S (rf (S o) 0))) kd t))) 0 0 (fun _ => False) := by
  refine Met.ofW (cc := cX12_isFree) (maxL := 3) (ret := (some .boolean)) (by decide) rfl ?_
  intro p e s m args below meth c s₁ B hml hv
  obtain ⟨rfl, hsz, hP, hK, hD0, hN, -⟩ := hv
  have hx := B.exec
  have hb := B.bytes
  have hr := B.returns
  have hT : ∀ wd ∈ TB, wd.before [.ref o, .int (nI t), .int kd].toArray s = true := fun wd h => atoms_spec (ws := wT yX12_isFree cX12_isFree 3 (some .boolean)) B.pre wd (List.mem_cons_of_mem _ h)
  have hown : s.vm.findClass RX12 = some m.cls := findClass_of_methodNamed B.named
  have hlocks := B.notSynchronized
  subst hsz
  have hW : PW dC dI L (AL L s.heap.size) s.heap S s.heap [] := ⟨hP, pl_self hD0, va_S.rf⟩
  have hFr : Fr kap [] S S := Fr.rf
  have hl := lv_entry ([.ref o, .int (nI t), .int kd]) (n := 3) (Nat.le_of_ble_eq_true rfl)
  rw [lg_entry_eq]
  generalize (lg_sl ([.ref o, .int (nI t), .int kd]) ++ List.replicate (3 - (lg_sl ([.ref o, .int (nI t), .int kd])).length) Slot.unset).toArray = ls at hl ⊢
  have hl : lv_has ls 3 [(0, .ref o), (1, .int (nI t)), (2, .int kd)] := hl
  refine lv_aload_n hx hb dX12_isFree_0 rfl (lv_at hl 0 rfl) ?_
  refine lv_iload_n hx hb dX12_isFree_1 rfl (lv_at hl 1 rfl) ?_
  refine lv_iconst (v := 3) hx hb dX12_isFree_2 (by decide) ?_
  obtain ⟨x_1, x_2, x_3, x_4, x_5, x_6, x_7, x_8, x_9, x_10, x_11, x_12, x_13, x_14, x_15, x_16, x_17, x_18, x_19, x_20, x_21, x_22, x_23, x_24, x_25, x_26, x_27, x_28, x_29, x_30, x_31, hS_o, hT_x_1, hT_x_2, hT_x_3, hT_x_4, hT_x_5, hb_x_6, hb_x_7, hb_x_8, hT_x_10, hb_q2, hb_x_11, hb_x_12, hT_x_17, hT_x_18, hb_x_19, hT_x_20, hT_x_21, hT_x_22, hT_x_23, hT_x_24, hT_x_25, hT_x_26, hT_x_27, hT_x_28, hT_x_29, hT_x_30, hb_x_31⟩ := hTy.k12 hT_o
  have hb_q2 : pr.2 ≤ 900 := hb_q2
  have hS_o : S o = .inr (12, [.ref x_1, .ref x_2, .ref x_3, .ref x_4, .ref x_5, .int (nI x_6), .int (nI x_7), .int (nI x_8), .int x_9, .ref x_10, .int (nI (pr.2)), .int (nI x_11), .int (nI x_12), .int x_13, .int x_14, .int x_15, .int x_16, .ref x_17, .ref x_18, .int (nI x_19), .ref x_20, .ref x_21, .ref x_22, .ref x_23, .ref x_24, .ref x_25, .ref x_26, .ref x_27, .ref x_28, .ref x_29, .ref x_30, .int (nI x_31)]) := hS_o
  refine vp_callSi (va_Run.run (va_runV (As := [.int (nI t), .int 3]) (rest := []) ⟨hx, hb, hml, hown, hT⟩ (m_tradeAt l dC dI cy L kap pr S s.heap.size o t 3 hTy hT_o (by omega) (by omega)) (cwV 2 hT (gV w1247 w1249 ws66 w14 w1250) rfl rfl rfl (by decide +kernel) ⟨(Nat.le_of_ble_eq_true rfl), (Nat.le_of_ble_eq_true rfl)⟩) ⟨pcN.blind, pl_recv hK hW hT_o.1 hS_o rfl, pcN.pre hW.1 hK hW.2.1 hN (fun q h => absurd h List.not_mem_nil)⟩ rfl rfl hl.1 rfl (lv_room (Nat.le_of_ble_eq_true rfl)) dX12_isFree_3 ⟨(Nat.le_of_ble_eq_true rfl), (Nat.le_of_ble_eq_true rfl)⟩)) (fun r_32 hr_32 => ?_)
  obtain ⟨k_33, hb_k_33, rfl⟩ := hr_32.1.2.2 (by omega) (by omega) (by omega)
  refine lv_iload_n hx hb dX12_isFree_6 rfl (lv_at hl 2 rfl) ?_
  refine lv_icmp_ne (tgt := 23) hx hb dX12_isFree_7 (by decide) (fun c_7 => ?_) (fun c_7 => ?_)
  · refine lv_iconst (v := 0) hx hb dX12_isFree_23 (by decide) ?_
    exact W.zret (ty := .boolean) (v := 0) hx hb hr (by decide) (fun t ht h9 => ⟨0, rfl, Or.inr ⟨rfl, fun q => c_7 (hr_32.2.trans q.1)⟩, ht⟩) (fun q h => by cases h) dX12_isFree_24
  · refine lv_aload_n hx hb dX12_isFree_10 rfl (lv_at hl 0 rfl) ?_
    refine lv_iload_n hx hb dX12_isFree_11 rfl (lv_at hl 1 rfl) ?_
    refine lv_iconst (v := 4) hx hb dX12_isFree_12 (by decide) ?_
    refine vp_callSi (va_Run.run (va_runV (As := [.int (nI t), .int 4]) (rest := []) ⟨hx, hb, hml, hown, hT⟩ (m_tradeAt l dC dI cy L kap pr S s.heap.size o t 4 hTy hT_o (by omega) (by omega)) (cwV 2 hT (gV w1247 w1249 ws66 w14 w1250) rfl rfl rfl (by decide +kernel) ⟨(Nat.le_of_ble_eq_true rfl), (Nat.le_of_ble_eq_true rfl)⟩) ⟨pcN.blind, pl_recv hK hW hT_o.1 hS_o rfl, pcN.pre hW.1 hK hW.2.1 hN (fun q h => absurd h List.not_mem_nil)⟩ rfl rfl hl.1 rfl (lv_room (Nat.le_of_ble_eq_true rfl)) dX12_isFree_13 ⟨(Nat.le_of_ble_eq_true rfl), (Nat.le_of_ble_eq_true rfl)⟩)) (fun r_34 hr_34 => ?_)
    refine lv_if_ne (tgt := 23) hx hb dX12_isFree_16 (by decide) (fun c_16 => ?_) (fun c_16 => ?_)
    · refine lv_iconst (v := 0) hx hb dX12_isFree_23 (by decide) ?_
      exact W.zret (ty := .boolean) (v := 0) hx hb hr (by decide) (fun t ht h9 => ⟨0, rfl, Or.inr ⟨rfl, fun q => c_16 (hr_34.2.trans q.2)⟩, ht⟩) (fun q h => by cases h) dX12_isFree_24
    · refine lv_iconst (v := 1) hx hb dX12_isFree_19 (by decide) ?_
      refine lv_goto (tgt := 24) hx hb dX12_isFree_20 (by decide) ?_
      exact W.zret (ty := .boolean) (v := 1) hx hb hr (by decide) (fun t ht h9 => ⟨1, rfl, Or.inl ⟨rfl, hr_32.2.symm.trans c_7, hr_34.2.symm.trans c_16⟩, ht⟩) (fun q h => by cases h) dX12_isFree_24

set_option maxHeartbeats 4000000 in
set_option maxRecDepth 100000 in
theorem m_isOf (l : Launch) (dC : Nat → ClassId) (dI : Nat → Nat → Nat) (cy : Nat → ClassId) (L : List Nat) (kap : Nat → Nat) (pr : Pr) (S : Nat → va_E) (sz : Nat) (o : Nat) (t : Nat) (pa : Int32) (hTy : Ty cy L kap pr S) (hT_o : TK L kap o 12) (hb_t : t < 40) : Met l yX12_isOf (wT yX12_isOf cX12_isOf 3 (some .boolean)) ({ frames := 1, cells := 0, slots := 0, locals := 22 }) (pcN dC dI [.ref o, .int (nI t), .int pa] sz (va_pl L S) (cyT cy) NLs []) (vp_Si (fun r => r = 0 ∨ r = 1)) 0 0 (fun _ => False) := by
  refine Met.ofW (cc := cX12_isOf) (maxL := 3) (ret := (some .boolean)) (by decide) rfl ?_
  intro p e s m args below meth c s₁ B hml hv
  obtain ⟨rfl, hsz, hP, hK, hD0, hN, -⟩ := hv
  have hx := B.exec
  have hb := B.bytes
  have hr := B.returns
  have hT : ∀ wd ∈ TB, wd.before [.ref o, .int (nI t), .int pa].toArray s = true := fun wd h => atoms_spec (ws := wT yX12_isOf cX12_isOf 3 (some .boolean)) B.pre wd (List.mem_cons_of_mem _ h)
  have hown : s.vm.findClass RX12 = some m.cls := findClass_of_methodNamed B.named
  have hlocks := B.notSynchronized
  subst hsz
  have hW : PW dC dI L (AL L s.heap.size) s.heap S s.heap [] := ⟨hP, pl_self hD0, va_S.rf⟩
  have hFr : Fr kap [] S S := Fr.rf
  have hl := lv_entry ([.ref o, .int (nI t), .int pa]) (n := 3) (Nat.le_of_ble_eq_true rfl)
  rw [lg_entry_eq]
  generalize (lg_sl ([.ref o, .int (nI t), .int pa]) ++ List.replicate (3 - (lg_sl ([.ref o, .int (nI t), .int pa])).length) Slot.unset).toArray = ls at hl ⊢
  have hl : lv_has ls 3 [(0, .ref o), (1, .int (nI t)), (2, .int pa)] := hl
  refine lv_aload_n hx hb dX12_isOf_0 rfl (lv_at hl 0 rfl) ?_
  refine lv_iload_n hx hb dX12_isOf_1 rfl (lv_at hl 1 rfl) ?_
  refine lv_iconst (v := 0) hx hb dX12_isOf_2 (by decide) ?_
  obtain ⟨x_1, x_2, x_3, x_4, x_5, x_6, x_7, x_8, x_9, x_10, x_11, x_12, x_13, x_14, x_15, x_16, x_17, x_18, x_19, x_20, x_21, x_22, x_23, x_24, x_25, x_26, x_27, x_28, x_29, x_30, x_31, hS_o, hT_x_1, hT_x_2, hT_x_3, hT_x_4, hT_x_5, hb_x_6, hb_x_7, hb_x_8, hT_x_10, hb_q2, hb_x_11, hb_x_12, hT_x_17, hT_x_18, hb_x_19, hT_x_20, hT_x_21, hT_x_22, hT_x_23, hT_x_24, hT_x_25, hT_x_26, hT_x_27, hT_x_28, hT_x_29, hT_x_30, hb_x_31⟩ := hTy.k12 hT_o
  have hb_q2 : pr.2 ≤ 900 := hb_q2
  have hS_o : S o = .inr (12, [.ref x_1, .ref x_2, .ref x_3, .ref x_4, .ref x_5, .int (nI x_6), .int (nI x_7), .int (nI x_8), .int x_9, .ref x_10, .int (nI (pr.2)), .int (nI x_11), .int (nI x_12), .int x_13, .int x_14, .int x_15, .int x_16, .ref x_17, .ref x_18, .int (nI x_19), .ref x_20, .ref x_21, .ref x_22, .ref x_23, .ref x_24, .ref x_25, .ref x_26, .ref x_27, .ref x_28, .ref x_29, .ref x_30, .int (nI x_31)]) := hS_o
  refine vp_callSi (va_Run.run (va_runV (As := [.int (nI t), .int 0]) (rest := []) ⟨hx, hb, hml, hown, hT⟩ (m_tradeAt l dC dI cy L kap pr S s.heap.size o t 0 hTy hT_o (by omega) (by omega)) (cwV 2 hT (gV w1247 w1249 ws66 w14 w1250) rfl rfl rfl (by decide +kernel) ⟨(Nat.le_of_ble_eq_true rfl), (Nat.le_of_ble_eq_true rfl)⟩) ⟨pcN.blind, pl_recv hK hW hT_o.1 hS_o rfl, pcN.pre hW.1 hK hW.2.1 hN (fun q h => absurd h List.not_mem_nil)⟩ rfl rfl hl.1 rfl (lv_room (Nat.le_of_ble_eq_true rfl)) dX12_isOf_3 ⟨(Nat.le_of_ble_eq_true rfl), (Nat.le_of_ble_eq_true rfl)⟩)) (fun r_32 hr_32 => ?_)
  obtain ⟨k_33, hb_k_33, rfl⟩ := hr_32.1.2.1 (by omega) (by omega) (by omega)
  refine lv_iload_n hx hb dX12_isOf_6 rfl (lv_at hl 2 rfl) ?_
  refine lv_icmp_eq (tgt := 20) hx hb dX12_isOf_7 (by decide) (fun c_7 => ?_) (fun c_7 => ?_)
  · refine lv_iconst (v := 1) hx hb dX12_isOf_20 (by decide) ?_
    refine lv_goto (tgt := 25) hx hb dX12_isOf_21 (by decide) ?_
    exact W.zret (ty := .boolean) (v := 1) hx hb hr (by decide) (fun t ht h9 => ⟨1, rfl, Or.inr rfl, ht⟩) (fun q h => by cases h) dX12_isOf_25
  · refine lv_aload_n hx hb dX12_isOf_10 rfl (lv_at hl 0 rfl) ?_
    refine lv_iload_n hx hb dX12_isOf_11 rfl (lv_at hl 1 rfl) ?_
    refine lv_iconst (v := 1) hx hb dX12_isOf_12 (by decide) ?_
    refine vp_callSi (va_Run.run (va_runV (As := [.int (nI t), .int 1]) (rest := []) ⟨hx, hb, hml, hown, hT⟩ (m_tradeAt l dC dI cy L kap pr S s.heap.size o t 1 hTy hT_o (by omega) (by omega)) (cwV 2 hT (gV w1247 w1249 ws66 w14 w1250) rfl rfl rfl (by decide +kernel) ⟨(Nat.le_of_ble_eq_true rfl), (Nat.le_of_ble_eq_true rfl)⟩) ⟨pcN.blind, pl_recv hK hW hT_o.1 hS_o rfl, pcN.pre hW.1 hK hW.2.1 hN (fun q h => absurd h List.not_mem_nil)⟩ rfl rfl hl.1 rfl (lv_room (Nat.le_of_ble_eq_true rfl)) dX12_isOf_13 ⟨(Nat.le_of_ble_eq_true rfl), (Nat.le_of_ble_eq_true rfl)⟩)) (fun r_34 hr_34 => ?_)
    obtain ⟨k_35, hb_k_35, rfl⟩ := hr_34.1.2.1 (by omega) (by omega) (by omega)
    refine lv_iload_n hx hb dX12_isOf_16 rfl (lv_at hl 2 rfl) ?_
    refine lv_icmp_ne (tgt := 24) hx hb dX12_isOf_17 (by decide) (fun c_17 => ?_) (fun c_17 => ?_)
    · refine lv_iconst (v := 0) hx hb dX12_isOf_24 (by decide) ?_
      exact W.zret (ty := .boolean) (v := 0) hx hb hr (by decide) (fun t ht h9 => ⟨0, rfl, Or.inl rfl, ht⟩) (fun q h => by cases h) dX12_isOf_25
    · refine lv_iconst (v := 1) hx hb dX12_isOf_20 (by decide) ?_
      refine lv_goto (tgt := 25) hx hb dX12_isOf_21 (by decide) ?_
      exact W.zret (ty := .boolean) (v := 1) hx hb hr (by decide) (fun t ht h9 => ⟨1, rfl, Or.inr rfl, ht⟩) (fun q h => by cases h) dX12_isOf_25

set_option maxHeartbeats 4000000 in
set_option maxRecDepth 100000 in
theorem m_couple (l : Launch) (dC : Nat → ClassId) (dI : Nat → Nat → Nat) (sz : Nat) (a : Nat) (b : Nat) (hb_a : a < 8) (hb_b : b < 8) : Met l yX12_couple (wT yX12_couple cX12_couple 2 (some .int)) ({ frames := 0, cells := 0, slots := 0, locals := 0 }) (pcW dC dI [.int (nI a), .int (nI b)] sz [] []) (vp_Si (fun r => r = nI (8 * a + b))) 0 0 (fun _ => False) := by
  refine Met.ofW (cc := cX12_couple) (maxL := 2) (ret := (some .int)) (by decide) rfl ?_
  intro p e s m args below meth c s₁ B hml hv
  obtain ⟨rfl, hsz, hP, hK, hD0⟩ := hv
  have hx := B.exec
  have hb := B.bytes
  have hr := B.returns
  have hT : ∀ wd ∈ TB, wd.before [.int (nI a), .int (nI b)].toArray s = true := fun wd h => atoms_spec (ws := wT yX12_couple cX12_couple 2 (some .int)) B.pre wd (List.mem_cons_of_mem _ h)
  have hown : s.vm.findClass RX12 = some m.cls := findClass_of_methodNamed B.named
  have hlocks := B.notSynchronized
  subst hsz
  have hl := lv_entry ([.int (nI a), .int (nI b)]) (n := 2) (Nat.le_of_ble_eq_true rfl)
  rw [lg_entry_eq]
  generalize (lg_sl ([.int (nI a), .int (nI b)]) ++ List.replicate (2 - (lg_sl ([.int (nI a), .int (nI b)])).length) Slot.unset).toArray = ls at hl ⊢
  have hl : lv_has ls 2 [(0, .int (nI a)), (1, .int (nI b))] := hl
  refine lv_bipush (v := 8) hx hb dX12_couple_0 (by decide) ?_
  refine lv_iload_n hx hb dX12_couple_2 rfl (lv_at hl 0 rfl) ?_
  refine lv_imul hx hb dX12_couple_3 ?_
  refine lv_topi (fun z_1 ez_1 => ?_)
  obtain rfl : z_1 = nI (8 * a) := ez_1.trans (pk_mul (8) (a))
  refine lv_iload_n hx hb dX12_couple_4 rfl (lv_at hl 1 rfl) ?_
  refine lv_iadd hx hb dX12_couple_5 ?_
  refine lv_topi (fun z_2 ez_2 => ?_)
  obtain rfl : z_2 = nI ((8 * a) + b) := ez_2.trans (nI_add (8 * a) (b))
  exact W.iret (v := nI ((8 * a) + b)) hx hb hr (fun t ht h9 => ⟨nI ((8 * a) + b), rfl, rfl, ht⟩) (fun q h => by cases h) dX12_couple_6

set_option maxHeartbeats 4000000 in
set_option maxRecDepth 100000 in
theorem m_laysFlows (l : Launch) (dC : Nat → ClassId) (dI : Nat → Nat → Nat) (cy : Nat → ClassId) (L : List Nat) (kap : Nat → Nat) (pr : Pr) (S : Nat → va_E) (sz : Nat) (o : Nat) (kd : Int32) (wo : Int32) (hTy : Ty cy L kap pr S) (hT_o : TK L kap o 12) : Met l yX12_laysFlows (wT yX12_laysFlows cX12_laysFlows 4 none) ({ frames := 2, cells := 0, slots := 0, locals := 44 }) (pcN dC dI [.ref o, .int kd, .int wo] sz (va_pl L S) (cyT cy) NLs []) (va_Qv (fun S' => Ty cy L kap pr S' ∧ Fr kap [56] S S') (fun S' t => pB dC dI (AL L sz) (va_pl L S') (cyT cy) t) (AL L sz)) 0 0 (AL L sz) := by
  refine Met.ofW (cc := cX12_laysFlows) (maxL := 4) (ret := none) (by decide) rfl ?_
  intro p e s m args below meth c s₁ B hml hv
  obtain ⟨rfl, hsz, hP, hK, hD0, hN, -⟩ := hv
  have hx := B.exec
  have hb := B.bytes
  have hr := B.returns
  have hT : ∀ wd ∈ TB, wd.before [.ref o, .int kd, .int wo].toArray s = true := fun wd h => atoms_spec (ws := wT yX12_laysFlows cX12_laysFlows 4 none) B.pre wd (List.mem_cons_of_mem _ h)
  have hown : s.vm.findClass RX12 = some m.cls := findClass_of_methodNamed B.named
  have hlocks := B.notSynchronized
  subst hsz
  have hW : PW dC dI L (AL L s.heap.size) s.heap S s.heap [] := ⟨hP, pl_self hD0, va_S.rf⟩
  have hA0 : ∀ q, q ∈ L → AL L s.heap.size q := fun _ h => Or.inl h
  have hA : ∀ q, s.heap.size ≤ q → AL L s.heap.size q := fun _ h => Or.inr h
  have hFr : Fr kap [56] S S := Fr.rf
  have hl := lv_entry ([.ref o, .int kd, .int wo]) (n := 4) (Nat.le_of_ble_eq_true rfl)
  rw [lg_entry_eq]
  generalize (lg_sl ([.ref o, .int kd, .int wo]) ++ List.replicate (4 - (lg_sl ([.ref o, .int kd, .int wo])).length) Slot.unset).toArray = ls at hl ⊢
  have hl : lv_has ls 4 [(0, .ref o), (1, .int kd), (2, .int wo)] := hl
  refine lv_iconst (v := 0) hx hb dX12_laysFlows_0 (by decide) ?_
  refine lv_istore_n (lv' := [(3, .int 0), (0, .ref o), (1, .int kd), (2, .int wo)]) hx hb dX12_laysFlows_1 rfl hl (by decide) rfl (fun ls hl => ?_)
  have loop : ∀ (fuel : Nat) (i : Nat) (SS : Nat → va_E) (H : Heap) (locs : List Loc) (ls : Array Slot), 65 - i < fuel → (i ≤ 64) → Ty cy L kap pr SS → Fr kap [56] S SS → Fr kap [56] S SS → PW dC dI L (AL L s.heap.size) s.heap SS H locs → lv_has ls 4 [(3, .int (nI i)), (0, .ref o), (1, .int kd), (2, .int wo)] → W p l e (headSpec (wT yX12_laysFlows cX12_laysFlows 4 none) { frames := 2, cells := 0, slots := 0, locals := 44 }).room s m [.ref o, .int kd, .int wo].toArray below meth c H locs 0 0 (MQ below (va_Qv (fun S' => Ty cy L kap pr S' ∧ Fr kap [56] S S') (fun S' t => pB dC dI (AL L s.heap.size) (va_pl L S') (cyT cy) t) (AL L s.heap.size)) [.ref o, .int kd, .int wo].toArray s 0 0 (AL L s.heap.size)) (F0 m 2 ls []) := by
    intro fuel
    induction fuel with
    | zero => intro i SS H locs ls h; exact absurd h (Nat.not_lt_zero _)
    | succ fu2 ih2 =>
      intro i S_1 H locs ls hm2 hb_i hTy hFr hFl2 hW hl
      refine lv_iload_n hx hb dX12_laysFlows_2 rfl (lv_at hl 0 rfl) ?_
      refine lv_bipush (v := 64) hx hb dX12_laysFlows_3 (by decide) ?_
      refine lv_icmp_ge (tgt := 21) hx hb dX12_laysFlows_5 (by decide) (fun c_5 => ?_) (fun c_5 => ?_)
      · have c_5 : 64 ≤ i := (nI_leI (a := 64) (b := i) (by omega) (by omega)).mp c_5
        refine lv_iconst (v := 0) hx hb dX12_laysFlows_21 (by decide) ?_
        refine lv_istore_n (lv' := [(3, .int 0), (0, .ref o), (1, .int kd), (2, .int wo)]) hx hb dX12_laysFlows_22 rfl hl (by decide) rfl (fun ls hl => ?_)
        have loop : ∀ (fuel : Nat) (i2 : Nat) (SS : Nat → va_E) (H : Heap) (locs : List Loc) (ls : Array Slot), 41 - i2 < fuel → (i2 ≤ 40) → Ty cy L kap pr SS → Fr kap [56] S SS → Fr kap [56] S_1 SS → PW dC dI L (AL L s.heap.size) s.heap SS H locs → lv_has ls 4 [(3, .int (nI i2)), (0, .ref o), (1, .int kd), (2, .int wo)] → W p l e (headSpec (wT yX12_laysFlows cX12_laysFlows 4 none) { frames := 2, cells := 0, slots := 0, locals := 44 }).room s m [.ref o, .int kd, .int wo].toArray below meth c H locs 0 0 (MQ below (va_Qv (fun S' => Ty cy L kap pr S' ∧ Fr kap [56] S S') (fun S' t => pB dC dI (AL L s.heap.size) (va_pl L S') (cyT cy) t) (AL L s.heap.size)) [.ref o, .int kd, .int wo].toArray s 0 0 (AL L s.heap.size)) (F0 m 23 ls []) := by
          intro fuel
          induction fuel with
          | zero => intro i2 SS H locs ls h; exact absurd h (Nat.not_lt_zero _)
          | succ fu23 ih23 =>
            intro i2 S_2 H locs ls hm23 hb_i2 hTy hFr hFl23 hW hl
            have hFl2 := hFl2.tr hFl23 (by decide)
            refine lv_iload_n hx hb dX12_laysFlows_23 rfl (lv_at hl 0 rfl) ?_
            refine lv_aload_n hx hb dX12_laysFlows_24 rfl (lv_at hl 1 rfl) ?_
            obtain ⟨x_3, x_4, x_5, x_6, x_7, x_8, x_9, x_10, x_11, x_12, x_13, x_14, x_15, x_16, x_17, x_18, x_19, x_20, x_21, x_22, x_23, x_24, x_25, x_26, x_27, x_28, x_29, x_30, x_31, x_32, x_33, hS_o, hT_x_3, hT_x_4, hT_x_5, hT_x_6, hT_x_7, hb_x_8, hb_x_9, hb_x_10, hT_x_12, hb_q2, hb_x_13, hb_x_14, hT_x_19, hT_x_20, hb_x_21, hT_x_22, hT_x_23, hT_x_24, hT_x_25, hT_x_26, hT_x_27, hT_x_28, hT_x_29, hT_x_30, hT_x_31, hT_x_32, hb_x_33⟩ := hTy.k12 hT_o
            have hb_q2 : pr.2 ≤ 900 := hb_q2
            have hS_o : S_2 o = .inr (12, [.ref x_3, .ref x_4, .ref x_5, .ref x_6, .ref x_7, .int (nI x_8), .int (nI x_9), .int (nI x_10), .int x_11, .ref x_12, .int (nI (pr.2)), .int (nI x_13), .int (nI x_14), .int x_15, .int x_16, .int x_17, .int x_18, .ref x_19, .ref x_20, .int (nI x_21), .ref x_22, .ref x_23, .ref x_24, .ref x_25, .ref x_26, .ref x_27, .ref x_28, .ref x_29, .ref x_30, .ref x_31, .ref x_32, .int (nI x_33)]) := hS_o
            refine pl_get (ci := 12) (v := .ref x_3) (C := RX12) (T := TX12) (N := 32) hx hb hT iX12 hown hK hW hT_o.1 hS_o rfl 0 (by decide) w1082 rfl dX12_laysFlows_25 ?_
            refine lv_iconst (v := 0) hx hb dX12_laysFlows_28 (by decide) ?_
            obtain ⟨f_34, hS_x_3, hi_f_34⟩ := hTy.k50 hT_x_3
            refine pl_iald hx hb hK hW hT_x_3.1 hS_x_3 (vp_in_nI (n := 0) (N := 266) (by omega) (by omega)) dX12_laysFlows_29 ?_
            refine lv_topi (fun y_35 ey_35 => ?_)
            have hv_y_35 : okS (0) y_35 := by rw [ey_35]; show okS _ (f_34 (nI (0)).toNatClampNeg); rw [nI_clamp (by omega)]; exact hi_f_34 (0) (by omega)
            obtain ⟨k_36, hb_k_36, hq_k_36⟩ := hv_y_35.1 rfl
            obtain rfl : y_35 = nI k_36 := hq_k_36
            refine lv_icmp_ge (tgt := 86) hx hb dX12_laysFlows_30 (by decide) (fun c_30 => ?_) (fun c_30 => ?_)
            · have c_30 : k_36 ≤ i2 := (nI_leI (a := k_36) (b := i2) (by omega) (by omega)).mp c_30
              exact W.vret hx hb hr (fun t ht h9 => ⟨⟨S_2, rfl, ⟨hTy, hFr⟩, by rw [ht]; exact hW.1, va_K.moved h9.alike hK, hW.2.1⟩, hW.2.2.F ht⟩) hW.2.2.2.2 dX12_laysFlows_86
            · have c_30 : ¬ (k_36 ≤ i2) := fun hh9 => c_30 ((nI_leI (a := k_36) (b := i2) (by omega) (by omega)).mpr hh9)
              refine lv_aload_n hx hb dX12_laysFlows_33 rfl (lv_at hl 1 rfl) ?_
              refine lv_iload_n hx hb dX12_laysFlows_34 rfl (lv_at hl 0 rfl) ?_
              refine lv_iload_n hx hb dX12_laysFlows_35 rfl (lv_at hl 2 rfl) ?_
              refine vp_callSi (va_Run.run (va_runV (As := [.int (nI i2), .int kd]) (rest := []) ⟨hx, hb, hml, hown, hT⟩ (m_isFree l dC dI cy L kap pr S_2 H.size o i2 kd hTy hT_o (by omega)) (cwV 2 hT (gV w1340 w1342 ws79 w14 w1343) rfl rfl rfl (by decide +kernel) ⟨(Nat.le_of_ble_eq_true rfl), (Nat.le_of_ble_eq_true rfl)⟩) ⟨pcN.blind, pl_recv hK hW hT_o.1 hS_o rfl, pcN.pre hW.1 hK hW.2.1 hN (fun q h => absurd h List.not_mem_nil)⟩ rfl rfl hl.1 rfl (lv_room (Nat.le_of_ble_eq_true rfl)) dX12_laysFlows_36 ⟨(Nat.le_of_ble_eq_true rfl), (Nat.le_of_ble_eq_true rfl)⟩)) (fun r_37 hr_37 => ?_)
              refine lv_if_eq (tgt := 80) hx hb dX12_laysFlows_39 (by decide) (fun c_39 => ?_) (fun c_39 => ?_)
              · refine lv_iinc (v := nI (i2 + 1)) (lv' := [(3, .int (nI (i2 + 1))), (0, .ref o), (1, .int kd), (2, .int wo)]) hx hb dX12_laysFlows_80 hl (k := 0) rfl (nI_add (i2) 1) (by decide) rfl (fun ls hl => ?_)
                refine lv_goto (tgt := 23) hx hb dX12_laysFlows_83 (by decide) ?_
                exact ih23 (i2 + 1) _ _ _ ls (by omega) (by omega) hTy hFr hFl23 hW (lv_sub hl [0, 1, 2, 3] rfl)
              · refine lv_aload_n hx hb dX12_laysFlows_42 rfl (lv_at hl 1 rfl) ?_
                refine lv_iload_n hx hb dX12_laysFlows_43 rfl (lv_at hl 0 rfl) ?_
                refine lv_iload_n hx hb dX12_laysFlows_44 rfl (lv_at hl 3 rfl) ?_
                refine vp_callSi (va_Run.run (va_runV (As := [.int (nI i2), .int wo]) (rest := []) ⟨hx, hb, hml, hown, hT⟩ (m_isOf l dC dI cy L kap pr S_2 H.size o i2 wo hTy hT_o (by omega)) (cwV 2 hT (gV w1344 w1346 ws80 w14 w1347) rfl rfl rfl (by decide +kernel) ⟨(Nat.le_of_ble_eq_true rfl), (Nat.le_of_ble_eq_true rfl)⟩) ⟨pcN.blind, pl_recv hK hW hT_o.1 hS_o rfl, pcN.pre hW.1 hK hW.2.1 hN (fun q h => absurd h List.not_mem_nil)⟩ rfl rfl hl.1 rfl (lv_room (Nat.le_of_ble_eq_true rfl)) dX12_laysFlows_45 ⟨(Nat.le_of_ble_eq_true rfl), (Nat.le_of_ble_eq_true rfl)⟩)) (fun r_38 hr_38 => ?_)
                refine lv_if_ne (tgt := 80) hx hb dX12_laysFlows_48 (by decide) (fun c_48 => ?_) (fun c_48 => ?_)
                · refine lv_iinc (v := nI (i2 + 1)) (lv' := [(3, .int (nI (i2 + 1))), (0, .ref o), (1, .int kd), (2, .int wo)]) hx hb dX12_laysFlows_80 hl (k := 0) rfl (nI_add (i2) 1) (by decide) rfl (fun ls hl => ?_)
                  refine lv_goto (tgt := 23) hx hb dX12_laysFlows_83 (by decide) ?_
                  exact ih23 (i2 + 1) _ _ _ ls (by omega) (by omega) hTy hFr hFl23 hW (lv_sub hl [0, 1, 2, 3] rfl)
                · refine lv_aload_n hx hb dX12_laysFlows_51 rfl (lv_at hl 1 rfl) ?_
                  refine pl_get (ci := 12) (v := .ref x_19) (C := RX12) (T := TX12) (N := 32) hx hb hT iX12 hown hK hW hT_o.1 hS_o rfl 17 (by decide) w1099 rfl dX12_laysFlows_52 ?_
                  refine lv_aload_n hx hb dX12_laysFlows_55 rfl (lv_at hl 1 rfl) ?_
                  refine lv_iload_n hx hb dX12_laysFlows_56 rfl (lv_at hl 0 rfl) ?_
                  refine lv_iconst (v := 0) hx hb dX12_laysFlows_57 (by decide) ?_
                  refine vp_callSi (va_Run.run (va_runV (As := [.int (nI i2), .int 0]) (rest := [.ref x_19]) ⟨hx, hb, hml, hown, hT⟩ (m_tradeAt l dC dI cy L kap pr S_2 H.size o i2 0 hTy hT_o (by omega) (by omega)) (cwV 2 hT (gV w1247 w1249 ws66 w14 w1250) rfl rfl rfl (by decide +kernel) ⟨(Nat.le_of_ble_eq_true rfl), (Nat.le_of_ble_eq_true rfl)⟩) ⟨pcN.blind, pl_recv hK hW hT_o.1 hS_o rfl, pcN.pre hW.1 hK hW.2.1 hN (fun q h => absurd h List.not_mem_nil)⟩ rfl rfl hl.1 rfl (lv_room (Nat.le_of_ble_eq_true rfl)) dX12_laysFlows_58 ⟨(Nat.le_of_ble_eq_true rfl), (Nat.le_of_ble_eq_true rfl)⟩)) (fun r_39 hr_39 => ?_)
                  obtain ⟨k_40, hb_k_40, rfl⟩ := hr_39.1.2.1 (by omega) (by omega) (by omega)
                  refine lv_aload_n hx hb dX12_laysFlows_61 rfl (lv_at hl 1 rfl) ?_
                  refine lv_iload_n hx hb dX12_laysFlows_62 rfl (lv_at hl 0 rfl) ?_
                  refine lv_iconst (v := 1) hx hb dX12_laysFlows_63 (by decide) ?_
                  refine vp_callSi (va_Run.run (va_runV (As := [.int (nI i2), .int 1]) (rest := [.int (nI k_40), .ref x_19]) ⟨hx, hb, hml, hown, hT⟩ (m_tradeAt l dC dI cy L kap pr S_2 H.size o i2 1 hTy hT_o (by omega) (by omega)) (cwV 2 hT (gV w1247 w1249 ws66 w14 w1250) rfl rfl rfl (by decide +kernel) ⟨(Nat.le_of_ble_eq_true rfl), (Nat.le_of_ble_eq_true rfl)⟩) ⟨pcN.blind, pl_recv hK hW hT_o.1 hS_o rfl, pcN.pre hW.1 hK hW.2.1 hN (fun q h => absurd h List.not_mem_nil)⟩ rfl rfl hl.1 rfl (lv_room (Nat.le_of_ble_eq_true rfl)) dX12_laysFlows_64 ⟨(Nat.le_of_ble_eq_true rfl), (Nat.le_of_ble_eq_true rfl)⟩)) (fun r_41 hr_41 => ?_)
                  obtain ⟨k_42, hb_k_42, rfl⟩ := hr_41.1.2.1 (by omega) (by omega) (by omega)
                  refine vp_callSi (va_Run.run (va_runS (As := [.int (nI k_40), .int (nI k_42)]) (rest := [.ref x_19]) ⟨hx, hb, hml, hown, hT⟩ (m_couple l dC dI H.size k_40 k_42 (by omega) (by omega)) (va_cwS 2 hT (gS w1348 w1349 w14 w1350) rfl rfl rfl (by decide +kernel) ⟨(Nat.le_of_ble_eq_true rfl), (Nat.le_of_ble_eq_true rfl)⟩) ⟨pcW.blind, pcW.pre (va_P0 _ _ _) (hK.sub (tys' := []) [] rfl) (va_D0 (fun _ => True))⟩ rfl rfl hl.1 rfl (lv_room (Nat.le_of_ble_eq_true rfl)) dX12_laysFlows_67 ⟨(Nat.le_of_ble_eq_true rfl), (Nat.le_of_ble_eq_true rfl)⟩)) (fun r_43 hr_43 => ?_)
                  obtain rfl : r_43 = nI (8 * k_40 + k_42) := hr_43
                  refine lv_dup2_11 hx hb dX12_laysFlows_70 rfl rfl ?_
                  obtain ⟨f_44, hS_x_19⟩ := hTy.k56 hT_x_19
                  refine pl_iald hx hb hK hW hT_x_19.1 hS_x_19 (vp_in_nI (n := 8 * k_40 + k_42) (N := 64) (by omega) (by omega)) dX12_laysFlows_71 ?_
                  refine lv_topi (fun y_45 ey_45 => ?_)
                  refine lv_aload_n hx hb dX12_laysFlows_72 rfl (lv_at hl 1 rfl) ?_
                  refine lv_iload_n hx hb dX12_laysFlows_73 rfl (lv_at hl 0 rfl) ?_
                  refine lv_iconst (v := 2) hx hb dX12_laysFlows_74 (by decide) ?_
                  refine vp_callSi (va_Run.run (va_runV (As := [.int (nI i2), .int 2]) (rest := [.int y_45, .int (nI (8 * k_40 + k_42)), .ref x_19]) ⟨hx, hb, hml, hown, hT⟩ (m_tradeAt l dC dI cy L kap pr S_2 H.size o i2 2 hTy hT_o (by omega) (by omega)) (cwV 2 hT (gV w1247 w1249 ws66 w14 w1250) rfl rfl rfl (by decide +kernel) ⟨(Nat.le_of_ble_eq_true rfl), (Nat.le_of_ble_eq_true rfl)⟩) ⟨pcN.blind, pl_recv hK hW hT_o.1 hS_o rfl, pcN.pre hW.1 hK hW.2.1 hN (fun q h => absurd h List.not_mem_nil)⟩ rfl rfl hl.1 rfl (lv_room (Nat.le_of_ble_eq_true rfl)) dX12_laysFlows_75 ⟨(Nat.le_of_ble_eq_true rfl), (Nat.le_of_ble_eq_true rfl)⟩)) (fun r_46 hr_46 => ?_)
                  refine lv_iadd hx hb dX12_laysFlows_78 ?_
                  refine lv_topi (fun z_47 ez_47 => ?_)
                  refine pl_iast hx hb hK hW hT_x_19.1 hS_x_19 (vp_in_nI (n := 8 * k_40 + k_42) (N := 64) (by omega) (by omega)) dX12_laysFlows_79 (fun H locs f_49 S_48 ef_f_49 e1 hW => ?_)
                  have hTy := hTy.u56 e1 hT_x_19 ⟨f_49, rfl⟩
                  have hS_o := un e1 hT_o hT_x_19 (by decide) hS_o
                  have hS_x_3 := un e1 hT_x_3 hT_x_19 (by decide) hS_x_3
                  have hFr := uf hFr e1 hT_x_19 (by decide) (by decide)
                  have hFl2 := uf hFl2 e1 hT_x_19 (by decide) (by decide)
                  have hFl23 := uf hFl23 e1 hT_x_19 (by decide) (by decide)
                  have hS_x_19 := us e1
                  refine lv_iinc (v := nI (i2 + 1)) (lv' := [(3, .int (nI (i2 + 1))), (0, .ref o), (1, .int kd), (2, .int wo)]) hx hb dX12_laysFlows_80 hl (k := 0) rfl (nI_add (i2) 1) (by decide) rfl (fun ls hl => ?_)
                  refine lv_goto (tgt := 23) hx hb dX12_laysFlows_83 (by decide) ?_
                  exact ih23 (i2 + 1) _ _ _ ls (by omega) (by omega) hTy hFr hFl23 hW (lv_sub hl [0, 1, 2, 3] rfl)
        exact loop ((41 - 0) + 1) 0 _ _ _ ls (Nat.lt_succ_self _) (by omega) hTy hFr Fr.rf hW (lv_sub hl [0, 1, 2, 3] rfl)
      · have c_5 : ¬ (64 ≤ i) := fun hh9 => c_5 ((nI_leI (a := 64) (b := i) (by omega) (by omega)).mpr hh9)
        refine lv_aload_n hx hb dX12_laysFlows_8 rfl (lv_at hl 1 rfl) ?_
        obtain ⟨x_50, x_51, x_52, x_53, x_54, x_55, x_56, x_57, x_58, x_59, x_60, x_61, x_62, x_63, x_64, x_65, x_66, x_67, x_68, x_69, x_70, x_71, x_72, x_73, x_74, x_75, x_76, x_77, x_78, x_79, x_80, hS_o, hT_x_50, hT_x_51, hT_x_52, hT_x_53, hT_x_54, hb_x_55, hb_x_56, hb_x_57, hT_x_59, hb_q2, hb_x_60, hb_x_61, hT_x_66, hT_x_67, hb_x_68, hT_x_69, hT_x_70, hT_x_71, hT_x_72, hT_x_73, hT_x_74, hT_x_75, hT_x_76, hT_x_77, hT_x_78, hT_x_79, hb_x_80⟩ := hTy.k12 hT_o
        have hb_q2 : pr.2 ≤ 900 := hb_q2
        have hS_o : S_1 o = .inr (12, [.ref x_50, .ref x_51, .ref x_52, .ref x_53, .ref x_54, .int (nI x_55), .int (nI x_56), .int (nI x_57), .int x_58, .ref x_59, .int (nI (pr.2)), .int (nI x_60), .int (nI x_61), .int x_62, .int x_63, .int x_64, .int x_65, .ref x_66, .ref x_67, .int (nI x_68), .ref x_69, .ref x_70, .ref x_71, .ref x_72, .ref x_73, .ref x_74, .ref x_75, .ref x_76, .ref x_77, .ref x_78, .ref x_79, .int (nI x_80)]) := hS_o
        refine pl_get (ci := 12) (v := .ref x_66) (C := RX12) (T := TX12) (N := 32) hx hb hT iX12 hown hK hW hT_o.1 hS_o rfl 17 (by decide) w1099 rfl dX12_laysFlows_9 ?_
        refine lv_iload_n hx hb dX12_laysFlows_12 rfl (lv_at hl 0 rfl) ?_
        refine lv_iconst (v := 0) hx hb dX12_laysFlows_13 (by decide) ?_
        obtain ⟨f_81, hS_x_66⟩ := hTy.k56 hT_x_66
        refine pl_iast hx hb hK hW hT_x_66.1 hS_x_66 (vp_in_nI (n := i) (N := 64) (by omega) (by omega)) dX12_laysFlows_14 (fun H locs f_83 S_82 ef_f_83 e1 hW => ?_)
        have hTy := hTy.u56 e1 hT_x_66 ⟨f_83, rfl⟩
        have hS_o := un e1 hT_o hT_x_66 (by decide) hS_o
        have hFr := uf hFr e1 hT_x_66 (by decide) (by decide)
        have hFl2 := uf hFl2 e1 hT_x_66 (by decide) (by decide)
        have hS_x_66 := us e1
        refine lv_iinc (v := nI (i + 1)) (lv' := [(3, .int (nI (i + 1))), (0, .ref o), (1, .int kd), (2, .int wo)]) hx hb dX12_laysFlows_15 hl (k := 0) rfl (nI_add (i) 1) (by decide) rfl (fun ls hl => ?_)
        refine lv_goto (tgt := 2) hx hb dX12_laysFlows_18 (by decide) ?_
        exact ih2 (i + 1) _ _ _ ls (by omega) (by omega) hTy hFr hFl2 hW (lv_sub hl [0, 1, 2, 3] rfl)
  exact loop ((65 - 0) + 1) 0 _ _ _ ls (Nat.lt_succ_self _) (by omega) hTy hFr Fr.rf hW (lv_sub hl [0, 1, 2, 3] rfl)

set_option maxHeartbeats 4000000 in
set_option maxRecDepth 100000 in
theorem m_netBy (l : Launch) (dC : Nat → ClassId) (dI : Nat → Nat → Nat) (cy : Nat → ClassId) (L : List Nat) (kap : Nat → Nat) (pr : Pr) (S : Nat → va_E) (sz : Nat) (o : Nat) (pa : Nat) (hTy : Ty cy L kap pr S) (hT_o : TK L kap o 12) (hb_pa : pa < 8) : Met l yX12_netBy (wT yX12_netBy cX12_netBy 4 (some .int)) ({ frames := 1, cells := 0, slots := 0, locals := 21 }) (pcN dC dI [.ref o, .int (nI pa)] sz (va_pl L S) (cyT cy) NLs []) (vp_Si (fun r => True)) 0 0 (fun _ => False) := by
  refine Met.ofW (cc := cX12_netBy) (maxL := 4) (ret := (some .int)) (by decide) rfl ?_
  intro p e s m args below meth c s₁ B hml hv
  obtain ⟨rfl, hsz, hP, hK, hD0, hN, -⟩ := hv
  have hx := B.exec
  have hb := B.bytes
  have hr := B.returns
  have hT : ∀ wd ∈ TB, wd.before [.ref o, .int (nI pa)].toArray s = true := fun wd h => atoms_spec (ws := wT yX12_netBy cX12_netBy 4 (some .int)) B.pre wd (List.mem_cons_of_mem _ h)
  have hown : s.vm.findClass RX12 = some m.cls := findClass_of_methodNamed B.named
  have hlocks := B.notSynchronized
  subst hsz
  have hW : PW dC dI L (AL L s.heap.size) s.heap S s.heap [] := ⟨hP, pl_self hD0, va_S.rf⟩
  have hFr : Fr kap [] S S := Fr.rf
  have hl := lv_entry ([.ref o, .int (nI pa)]) (n := 4) (Nat.le_of_ble_eq_true rfl)
  rw [lg_entry_eq]
  generalize (lg_sl ([.ref o, .int (nI pa)]) ++ List.replicate (4 - (lg_sl ([.ref o, .int (nI pa)])).length) Slot.unset).toArray = ls at hl ⊢
  have hl : lv_has ls 4 [(0, .ref o), (1, .int (nI pa))] := hl
  refine lv_iconst (v := 0) hx hb dX12_netBy_0 (by decide) ?_
  refine lv_istore_n (lv' := [(2, .int 0), (0, .ref o), (1, .int (nI pa))]) hx hb dX12_netBy_1 rfl hl (by decide) rfl (fun ls hl => ?_)
  refine lv_iconst (v := 0) hx hb dX12_netBy_2 (by decide) ?_
  refine lv_istore_n (lv' := [(3, .int 0), (2, .int 0), (0, .ref o), (1, .int (nI pa))]) hx hb dX12_netBy_3 rfl hl (by decide) rfl (fun ls hl => ?_)
  have loop : ∀ (fuel : Nat) (i : Nat) (sm : Int32) (ls : Array Slot), 9 - i < fuel → (i ≤ 8) → lv_has ls 4 [(3, .int (nI i)), (2, .int sm), (0, .ref o), (1, .int (nI pa))] → W p l e (headSpec (wT yX12_netBy cX12_netBy 4 (some .int)) { frames := 1, cells := 0, slots := 0, locals := 21 }).room s m [.ref o, .int (nI pa)].toArray below meth c s.heap [] 0 0 (MQ below (vp_Si (fun r => True)) [.ref o, .int (nI pa)].toArray s 0 0 (fun _ => False)) (F0 m 4 ls []) := by
    intro fuel
    induction fuel with
    | zero => intro i sm ls h; exact absurd h (Nat.not_lt_zero _)
    | succ fu4 ih4 =>
      intro i sm ls hm4 hb_i hl
      refine lv_iload_n hx hb dX12_netBy_4 rfl (lv_at hl 0 rfl) ?_
      refine lv_aload_n hx hb dX12_netBy_5 rfl (lv_at hl 2 rfl) ?_
      obtain ⟨x_1, x_2, x_3, x_4, x_5, x_6, x_7, x_8, x_9, x_10, x_11, x_12, x_13, x_14, x_15, x_16, x_17, x_18, x_19, x_20, x_21, x_22, x_23, x_24, x_25, x_26, x_27, x_28, x_29, x_30, x_31, hS_o, hT_x_1, hT_x_2, hT_x_3, hT_x_4, hT_x_5, hb_x_6, hb_x_7, hb_x_8, hT_x_10, hb_q2, hb_x_11, hb_x_12, hT_x_17, hT_x_18, hb_x_19, hT_x_20, hT_x_21, hT_x_22, hT_x_23, hT_x_24, hT_x_25, hT_x_26, hT_x_27, hT_x_28, hT_x_29, hT_x_30, hb_x_31⟩ := hTy.k12 hT_o
      have hb_q2 : pr.2 ≤ 900 := hb_q2
      have hS_o : S o = .inr (12, [.ref x_1, .ref x_2, .ref x_3, .ref x_4, .ref x_5, .int (nI x_6), .int (nI x_7), .int (nI x_8), .int x_9, .ref x_10, .int (nI (pr.2)), .int (nI x_11), .int (nI x_12), .int x_13, .int x_14, .int x_15, .int x_16, .ref x_17, .ref x_18, .int (nI x_19), .ref x_20, .ref x_21, .ref x_22, .ref x_23, .ref x_24, .ref x_25, .ref x_26, .ref x_27, .ref x_28, .ref x_29, .ref x_30, .int (nI x_31)]) := hS_o
      refine pl_get (ci := 12) (v := .int (nI x_6)) (C := RX12) (T := TX12) (N := 32) hx hb hT iX12 hown hK hW hT_o.1 hS_o rfl 5 (by decide) w1087 rfl dX12_netBy_6 ?_
      refine lv_icmp_ge (tgt := 42) hx hb dX12_netBy_9 (by decide) (fun c_9 => ?_) (fun c_9 => ?_)
      · have c_9 : x_6 ≤ i := (nI_leI (a := x_6) (b := i) (by omega) (by omega)).mp c_9
        refine lv_iload_n hx hb dX12_netBy_42 rfl (lv_at hl 1 rfl) ?_
        exact W.iret (v := sm) hx hb hr (fun t ht h9 => ⟨sm, rfl, trivial, ht⟩) (fun q h => by cases h) dX12_netBy_43
      · have c_9 : ¬ (x_6 ≤ i) := fun hh9 => c_9 ((nI_leI (a := x_6) (b := i) (by omega) (by omega)).mpr hh9)
        refine lv_iload_n hx hb dX12_netBy_12 rfl (lv_at hl 1 rfl) ?_
        refine lv_aload_n hx hb dX12_netBy_13 rfl (lv_at hl 2 rfl) ?_
        refine pl_get (ci := 12) (v := .ref x_17) (C := RX12) (T := TX12) (N := 32) hx hb hT iX12 hown hK hW hT_o.1 hS_o rfl 17 (by decide) w1099 rfl dX12_netBy_14 ?_
        refine lv_iload_n hx hb dX12_netBy_17 rfl (lv_at hl 3 rfl) ?_
        refine lv_iload_n hx hb dX12_netBy_18 rfl (lv_at hl 0 rfl) ?_
        refine vp_callSi (va_Run.run (va_runS (As := [.int (nI pa), .int (nI i)]) (rest := [.ref x_17, .int sm]) ⟨hx, hb, hml, hown, hT⟩ (m_couple l dC dI s.heap.size pa i (by omega) (by omega)) (va_cwS 2 hT (gS w1348 w1349 w14 w1350) rfl rfl rfl (by decide +kernel) ⟨(Nat.le_of_ble_eq_true rfl), (Nat.le_of_ble_eq_true rfl)⟩) ⟨pcW.blind, pcW.pre (va_P0 _ _ _) (hK.sub (tys' := []) [] rfl) (va_D0 (fun _ => True))⟩ rfl rfl hl.1 rfl (lv_room (Nat.le_of_ble_eq_true rfl)) dX12_netBy_19 ⟨(Nat.le_of_ble_eq_true rfl), (Nat.le_of_ble_eq_true rfl)⟩)) (fun r_32 hr_32 => ?_)
        obtain rfl : r_32 = nI (8 * pa + i) := hr_32
        obtain ⟨f_33, hS_x_17⟩ := hTy.k56 hT_x_17
        refine pl_iald hx hb hK hW hT_x_17.1 hS_x_17 (vp_in_nI (n := 8 * pa + i) (N := 64) (by omega) (by omega)) dX12_netBy_22 ?_
        refine lv_topi (fun y_34 ey_34 => ?_)
        refine lv_aload_n hx hb dX12_netBy_23 rfl (lv_at hl 2 rfl) ?_
        refine pl_get (ci := 12) (v := .ref x_17) (C := RX12) (T := TX12) (N := 32) hx hb hT iX12 hown hK hW hT_o.1 hS_o rfl 17 (by decide) w1099 rfl dX12_netBy_24 ?_
        refine lv_iload_n hx hb dX12_netBy_27 rfl (lv_at hl 0 rfl) ?_
        refine lv_iload_n hx hb dX12_netBy_28 rfl (lv_at hl 3 rfl) ?_
        refine vp_callSi (va_Run.run (va_runS (As := [.int (nI i), .int (nI pa)]) (rest := [.ref x_17, .int y_34, .int sm]) ⟨hx, hb, hml, hown, hT⟩ (m_couple l dC dI s.heap.size i pa (by omega) (by omega)) (va_cwS 2 hT (gS w1348 w1349 w14 w1350) rfl rfl rfl (by decide +kernel) ⟨(Nat.le_of_ble_eq_true rfl), (Nat.le_of_ble_eq_true rfl)⟩) ⟨pcW.blind, pcW.pre (va_P0 _ _ _) (hK.sub (tys' := []) [] rfl) (va_D0 (fun _ => True))⟩ rfl rfl hl.1 rfl (lv_room (Nat.le_of_ble_eq_true rfl)) dX12_netBy_29 ⟨(Nat.le_of_ble_eq_true rfl), (Nat.le_of_ble_eq_true rfl)⟩)) (fun r_35 hr_35 => ?_)
        obtain rfl : r_35 = nI (8 * i + pa) := hr_35
        refine pl_iald hx hb hK hW hT_x_17.1 hS_x_17 (vp_in_nI (n := 8 * i + pa) (N := 64) (by omega) (by omega)) dX12_netBy_32 ?_
        refine lv_topi (fun y_36 ey_36 => ?_)
        refine lv_isub hx hb dX12_netBy_33 ?_
        refine lv_topi (fun z_37 ez_37 => ?_)
        refine lv_iadd hx hb dX12_netBy_34 ?_
        refine lv_topi (fun z_38 ez_38 => ?_)
        refine lv_istore_n (lv' := [(2, .int z_38), (3, .int (nI i)), (0, .ref o), (1, .int (nI pa))]) hx hb dX12_netBy_35 rfl hl (by decide) rfl (fun ls hl => ?_)
        refine lv_iinc (v := nI (i + 1)) (lv' := [(3, .int (nI (i + 1))), (2, .int z_38), (0, .ref o), (1, .int (nI pa))]) hx hb dX12_netBy_36 hl (k := 1) rfl (nI_add (i) 1) (by decide) rfl (fun ls hl => ?_)
        refine lv_goto (tgt := 4) hx hb dX12_netBy_39 (by decide) ?_
        exact ih4 (i + 1) z_38 ls (by omega) (by omega) (lv_sub hl [0, 1, 2, 3] rfl)
  exact loop ((9 - 0) + 1) 0 0 ls (Nat.lt_succ_self _) (by omega) (lv_sub hl [0, 1, 2, 3] rfl)

set_option maxHeartbeats 4000000 in
set_option maxRecDepth 100000 in
theorem m_positive (l : Launch) (dC : Nat → ClassId) (dI : Nat → Nat → Nat) (cy : Nat → ClassId) (L : List Nat) (kap : Nat → Nat) (pr : Pr) (S : Nat → va_E) (sz : Nat) (o : Nat) (hTy : Ty cy L kap pr S) (hT_o : TK L kap o 12) : Met l yX12_positive (wT yX12_positive cX12_positive 3 (some .int)) ({ frames := 0, cells := 0, slots := 0, locals := 0 }) (pcN dC dI [.ref o] sz (va_pl L S) (cyT cy) NLs []) (vp_Si (fun r => True)) 0 0 (fun _ => False) := by
  refine Met.ofW (cc := cX12_positive) (maxL := 3) (ret := (some .int)) (by decide) rfl ?_
  intro p e s m args below meth c s₁ B hml hv
  obtain ⟨rfl, hsz, hP, hK, hD0, hN, -⟩ := hv
  have hx := B.exec
  have hb := B.bytes
  have hr := B.returns
  have hT : ∀ wd ∈ TB, wd.before [.ref o].toArray s = true := fun wd h => atoms_spec (ws := wT yX12_positive cX12_positive 3 (some .int)) B.pre wd (List.mem_cons_of_mem _ h)
  have hown : s.vm.findClass RX12 = some m.cls := findClass_of_methodNamed B.named
  have hlocks := B.notSynchronized
  subst hsz
  have hW : PW dC dI L (AL L s.heap.size) s.heap S s.heap [] := ⟨hP, pl_self hD0, va_S.rf⟩
  have hFr : Fr kap [] S S := Fr.rf
  have hl := lv_entry ([.ref o]) (n := 3) (Nat.le_of_ble_eq_true rfl)
  rw [lg_entry_eq]
  generalize (lg_sl ([.ref o]) ++ List.replicate (3 - (lg_sl ([.ref o])).length) Slot.unset).toArray = ls at hl ⊢
  have hl : lv_has ls 3 [(0, .ref o)] := hl
  refine lv_iconst (v := 0) hx hb dX12_positive_0 (by decide) ?_
  refine lv_istore_n (lv' := [(1, .int 0), (0, .ref o)]) hx hb dX12_positive_1 rfl hl (by decide) rfl (fun ls hl => ?_)
  refine lv_iconst (v := 0) hx hb dX12_positive_2 (by decide) ?_
  refine lv_istore_n (lv' := [(2, .int 0), (1, .int 0), (0, .ref o)]) hx hb dX12_positive_3 rfl hl (by decide) rfl (fun ls hl => ?_)
  have loop : ∀ (fuel : Nat) (i : Nat) (sm : Int32) (ls : Array Slot), 65 - i < fuel → (i ≤ 64) → lv_has ls 3 [(2, .int (nI i)), (1, .int sm), (0, .ref o)] → W p l e (headSpec (wT yX12_positive cX12_positive 3 (some .int)) { frames := 0, cells := 0, slots := 0, locals := 0 }).room s m [.ref o].toArray below meth c s.heap [] 0 0 (MQ below (vp_Si (fun r => True)) [.ref o].toArray s 0 0 (fun _ => False)) (F0 m 4 ls []) := by
    intro fuel
    induction fuel with
    | zero => intro i sm ls h; exact absurd h (Nat.not_lt_zero _)
    | succ fu4 ih4 =>
      intro i sm ls hm4 hb_i hl
      refine lv_iload_n hx hb dX12_positive_4 rfl (lv_at hl 0 rfl) ?_
      refine lv_bipush (v := 64) hx hb dX12_positive_5 (by decide) ?_
      refine lv_icmp_ge (tgt := 33) hx hb dX12_positive_7 (by decide) (fun c_7 => ?_) (fun c_7 => ?_)
      · have c_7 : 64 ≤ i := (nI_leI (a := 64) (b := i) (by omega) (by omega)).mp c_7
        refine lv_iload_n hx hb dX12_positive_33 rfl (lv_at hl 1 rfl) ?_
        exact W.iret (v := sm) hx hb hr (fun t ht h9 => ⟨sm, rfl, trivial, ht⟩) (fun q h => by cases h) dX12_positive_34
      · have c_7 : ¬ (64 ≤ i) := fun hh9 => c_7 ((nI_leI (a := 64) (b := i) (by omega) (by omega)).mpr hh9)
        refine lv_iload_n hx hb dX12_positive_10 rfl (lv_at hl 1 rfl) ?_
        refine lv_aload_n hx hb dX12_positive_11 rfl (lv_at hl 2 rfl) ?_
        obtain ⟨x_1, x_2, x_3, x_4, x_5, x_6, x_7, x_8, x_9, x_10, x_11, x_12, x_13, x_14, x_15, x_16, x_17, x_18, x_19, x_20, x_21, x_22, x_23, x_24, x_25, x_26, x_27, x_28, x_29, x_30, x_31, hS_o, hT_x_1, hT_x_2, hT_x_3, hT_x_4, hT_x_5, hb_x_6, hb_x_7, hb_x_8, hT_x_10, hb_q2, hb_x_11, hb_x_12, hT_x_17, hT_x_18, hb_x_19, hT_x_20, hT_x_21, hT_x_22, hT_x_23, hT_x_24, hT_x_25, hT_x_26, hT_x_27, hT_x_28, hT_x_29, hT_x_30, hb_x_31⟩ := hTy.k12 hT_o
        have hb_q2 : pr.2 ≤ 900 := hb_q2
        have hS_o : S o = .inr (12, [.ref x_1, .ref x_2, .ref x_3, .ref x_4, .ref x_5, .int (nI x_6), .int (nI x_7), .int (nI x_8), .int x_9, .ref x_10, .int (nI (pr.2)), .int (nI x_11), .int (nI x_12), .int x_13, .int x_14, .int x_15, .int x_16, .ref x_17, .ref x_18, .int (nI x_19), .ref x_20, .ref x_21, .ref x_22, .ref x_23, .ref x_24, .ref x_25, .ref x_26, .ref x_27, .ref x_28, .ref x_29, .ref x_30, .int (nI x_31)]) := hS_o
        refine pl_get (ci := 12) (v := .ref x_17) (C := RX12) (T := TX12) (N := 32) hx hb hT iX12 hown hK hW hT_o.1 hS_o rfl 17 (by decide) w1099 rfl dX12_positive_12 ?_
        refine lv_iload_n hx hb dX12_positive_15 rfl (lv_at hl 0 rfl) ?_
        obtain ⟨f_32, hS_x_17⟩ := hTy.k56 hT_x_17
        refine pl_iald hx hb hK hW hT_x_17.1 hS_x_17 (vp_in_nI (n := i) (N := 64) (by omega) (by omega)) dX12_positive_16 ?_
        refine lv_topi (fun y_33 ey_33 => ?_)
        refine lv_if_le (tgt := 24) hx hb dX12_positive_17 (by decide) (fun c_17 => ?_) (fun c_17 => ?_)
        · refine lv_iconst (v := 0) hx hb dX12_positive_24 (by decide) ?_
          refine lv_iadd hx hb dX12_positive_25 ?_
          refine lv_topi (fun z_34 ez_34 => ?_)
          refine lv_istore_n (lv' := [(1, .int z_34), (2, .int (nI i)), (0, .ref o)]) hx hb dX12_positive_26 rfl hl (by decide) rfl (fun ls hl => ?_)
          refine lv_iinc (v := nI (i + 1)) (lv' := [(2, .int (nI (i + 1))), (1, .int z_34), (0, .ref o)]) hx hb dX12_positive_27 hl (k := 1) rfl (nI_add (i) 1) (by decide) rfl (fun ls hl => ?_)
          refine lv_goto (tgt := 4) hx hb dX12_positive_30 (by decide) ?_
          exact ih4 (i + 1) z_34 ls (by omega) (by omega) (lv_sub hl [0, 1, 2] rfl)
        · refine lv_iconst (v := 1) hx hb dX12_positive_20 (by decide) ?_
          refine lv_goto (tgt := 25) hx hb dX12_positive_21 (by decide) ?_
          refine lv_iadd hx hb dX12_positive_25 ?_
          refine lv_topi (fun z_35 ez_35 => ?_)
          refine lv_istore_n (lv' := [(1, .int z_35), (2, .int (nI i)), (0, .ref o)]) hx hb dX12_positive_26 rfl hl (by decide) rfl (fun ls hl => ?_)
          refine lv_iinc (v := nI (i + 1)) (lv' := [(2, .int (nI (i + 1))), (1, .int z_35), (0, .ref o)]) hx hb dX12_positive_27 hl (k := 1) rfl (nI_add (i) 1) (by decide) rfl (fun ls hl => ?_)
          refine lv_goto (tgt := 4) hx hb dX12_positive_30 (by decide) ?_
          exact ih4 (i + 1) z_35 ls (by omega) (by omega) (lv_sub hl [0, 1, 2] rfl)
  exact loop ((65 - 0) + 1) 0 0 ls (Nat.lt_succ_self _) (by omega) (lv_sub hl [0, 1, 2] rfl)

set_option maxHeartbeats 4000000 in
set_option maxRecDepth 100000 in
theorem m_sumFlows (l : Launch) (dC : Nat → ClassId) (dI : Nat → Nat → Nat) (cy : Nat → ClassId) (L : List Nat) (kap : Nat → Nat) (pr : Pr) (S : Nat → va_E) (sz : Nat) (o : Nat) (hTy : Ty cy L kap pr S) (hT_o : TK L kap o 12) : Met l yX12_sumOfFlows (wT yX12_sumOfFlows cX12_sumOfFlows 3 (some .int)) ({ frames := 0, cells := 0, slots := 0, locals := 0 }) (pcN dC dI [.ref o] sz (va_pl L S) (cyT cy) NLs []) (vp_Si (fun r => True)) 0 0 (fun _ => False) := by
  refine Met.ofW (cc := cX12_sumOfFlows) (maxL := 3) (ret := (some .int)) (by decide) rfl ?_
  intro p e s m args below meth c s₁ B hml hv
  obtain ⟨rfl, hsz, hP, hK, hD0, hN, -⟩ := hv
  have hx := B.exec
  have hb := B.bytes
  have hr := B.returns
  have hT : ∀ wd ∈ TB, wd.before [.ref o].toArray s = true := fun wd h => atoms_spec (ws := wT yX12_sumOfFlows cX12_sumOfFlows 3 (some .int)) B.pre wd (List.mem_cons_of_mem _ h)
  have hown : s.vm.findClass RX12 = some m.cls := findClass_of_methodNamed B.named
  have hlocks := B.notSynchronized
  subst hsz
  have hW : PW dC dI L (AL L s.heap.size) s.heap S s.heap [] := ⟨hP, pl_self hD0, va_S.rf⟩
  have hFr : Fr kap [] S S := Fr.rf
  have hl := lv_entry ([.ref o]) (n := 3) (Nat.le_of_ble_eq_true rfl)
  rw [lg_entry_eq]
  generalize (lg_sl ([.ref o]) ++ List.replicate (3 - (lg_sl ([.ref o])).length) Slot.unset).toArray = ls at hl ⊢
  have hl : lv_has ls 3 [(0, .ref o)] := hl
  refine lv_iconst (v := 0) hx hb dX12_sumOfFlows_0 (by decide) ?_
  refine lv_istore_n (lv' := [(1, .int 0), (0, .ref o)]) hx hb dX12_sumOfFlows_1 rfl hl (by decide) rfl (fun ls hl => ?_)
  refine lv_iconst (v := 0) hx hb dX12_sumOfFlows_2 (by decide) ?_
  refine lv_istore_n (lv' := [(2, .int 0), (1, .int 0), (0, .ref o)]) hx hb dX12_sumOfFlows_3 rfl hl (by decide) rfl (fun ls hl => ?_)
  have loop : ∀ (fuel : Nat) (i : Nat) (sm : Int32) (ls : Array Slot), 65 - i < fuel → (i ≤ 64) → lv_has ls 3 [(2, .int (nI i)), (1, .int sm), (0, .ref o)] → W p l e (headSpec (wT yX12_sumOfFlows cX12_sumOfFlows 3 (some .int)) { frames := 0, cells := 0, slots := 0, locals := 0 }).room s m [.ref o].toArray below meth c s.heap [] 0 0 (MQ below (vp_Si (fun r => True)) [.ref o].toArray s 0 0 (fun _ => False)) (F0 m 4 ls []) := by
    intro fuel
    induction fuel with
    | zero => intro i sm ls h; exact absurd h (Nat.not_lt_zero _)
    | succ fu4 ih4 =>
      intro i sm ls hm4 hb_i hl
      refine lv_iload_n hx hb dX12_sumOfFlows_4 rfl (lv_at hl 0 rfl) ?_
      refine lv_bipush (v := 64) hx hb dX12_sumOfFlows_5 (by decide) ?_
      refine lv_icmp_ge (tgt := 25) hx hb dX12_sumOfFlows_7 (by decide) (fun c_7 => ?_) (fun c_7 => ?_)
      · have c_7 : 64 ≤ i := (nI_leI (a := 64) (b := i) (by omega) (by omega)).mp c_7
        refine lv_iload_n hx hb dX12_sumOfFlows_25 rfl (lv_at hl 1 rfl) ?_
        exact W.iret (v := sm) hx hb hr (fun t ht h9 => ⟨sm, rfl, trivial, ht⟩) (fun q h => by cases h) dX12_sumOfFlows_26
      · have c_7 : ¬ (64 ≤ i) := fun hh9 => c_7 ((nI_leI (a := 64) (b := i) (by omega) (by omega)).mpr hh9)
        refine lv_iload_n hx hb dX12_sumOfFlows_10 rfl (lv_at hl 1 rfl) ?_
        refine lv_aload_n hx hb dX12_sumOfFlows_11 rfl (lv_at hl 2 rfl) ?_
        obtain ⟨x_1, x_2, x_3, x_4, x_5, x_6, x_7, x_8, x_9, x_10, x_11, x_12, x_13, x_14, x_15, x_16, x_17, x_18, x_19, x_20, x_21, x_22, x_23, x_24, x_25, x_26, x_27, x_28, x_29, x_30, x_31, hS_o, hT_x_1, hT_x_2, hT_x_3, hT_x_4, hT_x_5, hb_x_6, hb_x_7, hb_x_8, hT_x_10, hb_q2, hb_x_11, hb_x_12, hT_x_17, hT_x_18, hb_x_19, hT_x_20, hT_x_21, hT_x_22, hT_x_23, hT_x_24, hT_x_25, hT_x_26, hT_x_27, hT_x_28, hT_x_29, hT_x_30, hb_x_31⟩ := hTy.k12 hT_o
        have hb_q2 : pr.2 ≤ 900 := hb_q2
        have hS_o : S o = .inr (12, [.ref x_1, .ref x_2, .ref x_3, .ref x_4, .ref x_5, .int (nI x_6), .int (nI x_7), .int (nI x_8), .int x_9, .ref x_10, .int (nI (pr.2)), .int (nI x_11), .int (nI x_12), .int x_13, .int x_14, .int x_15, .int x_16, .ref x_17, .ref x_18, .int (nI x_19), .ref x_20, .ref x_21, .ref x_22, .ref x_23, .ref x_24, .ref x_25, .ref x_26, .ref x_27, .ref x_28, .ref x_29, .ref x_30, .int (nI x_31)]) := hS_o
        refine pl_get (ci := 12) (v := .ref x_17) (C := RX12) (T := TX12) (N := 32) hx hb hT iX12 hown hK hW hT_o.1 hS_o rfl 17 (by decide) w1099 rfl dX12_sumOfFlows_12 ?_
        refine lv_iload_n hx hb dX12_sumOfFlows_15 rfl (lv_at hl 0 rfl) ?_
        obtain ⟨f_32, hS_x_17⟩ := hTy.k56 hT_x_17
        refine pl_iald hx hb hK hW hT_x_17.1 hS_x_17 (vp_in_nI (n := i) (N := 64) (by omega) (by omega)) dX12_sumOfFlows_16 ?_
        refine lv_topi (fun y_33 ey_33 => ?_)
        refine lv_iadd hx hb dX12_sumOfFlows_17 ?_
        refine lv_topi (fun z_34 ez_34 => ?_)
        refine lv_istore_n (lv' := [(1, .int z_34), (2, .int (nI i)), (0, .ref o)]) hx hb dX12_sumOfFlows_18 rfl hl (by decide) rfl (fun ls hl => ?_)
        refine lv_iinc (v := nI (i + 1)) (lv' := [(2, .int (nI (i + 1))), (1, .int z_34), (0, .ref o)]) hx hb dX12_sumOfFlows_19 hl (k := 1) rfl (nI_add (i) 1) (by decide) rfl (fun ls hl => ?_)
        refine lv_goto (tgt := 4) hx hb dX12_sumOfFlows_22 (by decide) ?_
        exact ih4 (i + 1) z_34 ls (by omega) (by omega) (lv_sub hl [0, 1, 2] rfl)
  exact loop ((65 - 0) + 1) 0 0 ls (Nat.lt_succ_self _) (by omega) (lv_sub hl [0, 1, 2] rfl)

set_option maxHeartbeats 4000000 in
set_option maxRecDepth 100000 in
theorem m_sumOf (l : Launch) (dC : Nat → ClassId) (dI : Nat → Nat → Nat) (cy : Nat → ClassId) (L : List Nat) (kap : Nat → Nat) (pr : Pr) (S : Nat → va_E) (sz : Nat) (o : Nat) (hTy : Ty cy L kap pr S) (hT_o : TK L kap o 12) : Met l yX12_sumOf (wT yX12_sumOf cX12_sumOf 3 (some .int)) ({ frames := 0, cells := 0, slots := 0, locals := 0 }) (pcN dC dI [.ref o] sz (va_pl L S) (cyT cy) NLs []) (vp_Si (fun r => True)) 0 0 (fun _ => False) := by
  refine Met.ofW (cc := cX12_sumOf) (maxL := 3) (ret := (some .int)) (by decide) rfl ?_
  intro p e s m args below meth c s₁ B hml hv
  obtain ⟨rfl, hsz, hP, hK, hD0, hN, -⟩ := hv
  have hx := B.exec
  have hb := B.bytes
  have hr := B.returns
  have hT : ∀ wd ∈ TB, wd.before [.ref o].toArray s = true := fun wd h => atoms_spec (ws := wT yX12_sumOf cX12_sumOf 3 (some .int)) B.pre wd (List.mem_cons_of_mem _ h)
  have hown : s.vm.findClass RX12 = some m.cls := findClass_of_methodNamed B.named
  have hlocks := B.notSynchronized
  subst hsz
  have hW : PW dC dI L (AL L s.heap.size) s.heap S s.heap [] := ⟨hP, pl_self hD0, va_S.rf⟩
  have hFr : Fr kap [] S S := Fr.rf
  have hl := lv_entry ([.ref o]) (n := 3) (Nat.le_of_ble_eq_true rfl)
  rw [lg_entry_eq]
  generalize (lg_sl ([.ref o]) ++ List.replicate (3 - (lg_sl ([.ref o])).length) Slot.unset).toArray = ls at hl ⊢
  have hl : lv_has ls 3 [(0, .ref o)] := hl
  refine lv_iconst (v := 0) hx hb dX12_sumOf_0 (by decide) ?_
  refine lv_istore_n (lv' := [(1, .int 0), (0, .ref o)]) hx hb dX12_sumOf_1 rfl hl (by decide) rfl (fun ls hl => ?_)
  refine lv_iconst (v := 0) hx hb dX12_sumOf_2 (by decide) ?_
  refine lv_istore_n (lv' := [(2, .int 0), (1, .int 0), (0, .ref o)]) hx hb dX12_sumOf_3 rfl hl (by decide) rfl (fun ls hl => ?_)
  have loop : ∀ (fuel : Nat) (i : Nat) (sm : Int32) (ls : Array Slot), 65 - i < fuel → (i ≤ 64) → lv_has ls 3 [(2, .int (nI i)), (1, .int sm), (0, .ref o)] → W p l e (headSpec (wT yX12_sumOf cX12_sumOf 3 (some .int)) { frames := 0, cells := 0, slots := 0, locals := 0 }).room s m [.ref o].toArray below meth c s.heap [] 0 0 (MQ below (vp_Si (fun r => True)) [.ref o].toArray s 0 0 (fun _ => False)) (F0 m 4 ls []) := by
    intro fuel
    induction fuel with
    | zero => intro i sm ls h; exact absurd h (Nat.not_lt_zero _)
    | succ fu4 ih4 =>
      intro i sm ls hm4 hb_i hl
      refine lv_iload_n hx hb dX12_sumOf_4 rfl (lv_at hl 0 rfl) ?_
      refine lv_bipush (v := 64) hx hb dX12_sumOf_5 (by decide) ?_
      refine lv_icmp_ge (tgt := 25) hx hb dX12_sumOf_7 (by decide) (fun c_7 => ?_) (fun c_7 => ?_)
      · have c_7 : 64 ≤ i := (nI_leI (a := 64) (b := i) (by omega) (by omega)).mp c_7
        refine lv_iload_n hx hb dX12_sumOf_25 rfl (lv_at hl 1 rfl) ?_
        exact W.iret (v := sm) hx hb hr (fun t ht h9 => ⟨sm, rfl, trivial, ht⟩) (fun q h => by cases h) dX12_sumOf_26
      · have c_7 : ¬ (64 ≤ i) := fun hh9 => c_7 ((nI_leI (a := 64) (b := i) (by omega) (by omega)).mpr hh9)
        refine lv_iload_n hx hb dX12_sumOf_10 rfl (lv_at hl 1 rfl) ?_
        refine lv_aload_n hx hb dX12_sumOf_11 rfl (lv_at hl 2 rfl) ?_
        obtain ⟨x_1, x_2, x_3, x_4, x_5, x_6, x_7, x_8, x_9, x_10, x_11, x_12, x_13, x_14, x_15, x_16, x_17, x_18, x_19, x_20, x_21, x_22, x_23, x_24, x_25, x_26, x_27, x_28, x_29, x_30, x_31, hS_o, hT_x_1, hT_x_2, hT_x_3, hT_x_4, hT_x_5, hb_x_6, hb_x_7, hb_x_8, hT_x_10, hb_q2, hb_x_11, hb_x_12, hT_x_17, hT_x_18, hb_x_19, hT_x_20, hT_x_21, hT_x_22, hT_x_23, hT_x_24, hT_x_25, hT_x_26, hT_x_27, hT_x_28, hT_x_29, hT_x_30, hb_x_31⟩ := hTy.k12 hT_o
        have hb_q2 : pr.2 ≤ 900 := hb_q2
        have hS_o : S o = .inr (12, [.ref x_1, .ref x_2, .ref x_3, .ref x_4, .ref x_5, .int (nI x_6), .int (nI x_7), .int (nI x_8), .int x_9, .ref x_10, .int (nI (pr.2)), .int (nI x_11), .int (nI x_12), .int x_13, .int x_14, .int x_15, .int x_16, .ref x_17, .ref x_18, .int (nI x_19), .ref x_20, .ref x_21, .ref x_22, .ref x_23, .ref x_24, .ref x_25, .ref x_26, .ref x_27, .ref x_28, .ref x_29, .ref x_30, .int (nI x_31)]) := hS_o
        refine pl_get (ci := 12) (v := .ref x_22) (C := RX12) (T := TX12) (N := 32) hx hb hT iX12 hown hK hW hT_o.1 hS_o rfl 22 (by decide) w1104 rfl dX12_sumOf_12 ?_
        refine lv_iload_n hx hb dX12_sumOf_15 rfl (lv_at hl 0 rfl) ?_
        obtain ⟨f_32, hS_x_22⟩ := hTy.k60 hT_x_22
        refine pl_iald hx hb hK hW hT_x_22.1 hS_x_22 (vp_in_nI (n := i) (N := 64) (by omega) (by omega)) dX12_sumOf_16 ?_
        refine lv_topi (fun y_33 ey_33 => ?_)
        refine lv_iadd hx hb dX12_sumOf_17 ?_
        refine lv_topi (fun z_34 ez_34 => ?_)
        refine lv_istore_n (lv' := [(1, .int z_34), (2, .int (nI i)), (0, .ref o)]) hx hb dX12_sumOf_18 rfl hl (by decide) rfl (fun ls hl => ?_)
        refine lv_iinc (v := nI (i + 1)) (lv' := [(2, .int (nI (i + 1))), (1, .int z_34), (0, .ref o)]) hx hb dX12_sumOf_19 hl (k := 1) rfl (nI_add (i) 1) (by decide) rfl (fun ls hl => ?_)
        refine lv_goto (tgt := 4) hx hb dX12_sumOf_22 (by decide) ?_
        exact ih4 (i + 1) z_34 ls (by omega) (by omega) (lv_sub hl [0, 1, 2] rfl)
  exact loop ((65 - 0) + 1) 0 0 ls (Nat.lt_succ_self _) (by omega) (lv_sub hl [0, 1, 2] rfl)

set_option maxHeartbeats 4000000 in
set_option maxRecDepth 100000 in
theorem m_amounts (l : Launch) (dC : Nat → ClassId) (dI : Nat → Nat → Nat) (cy : Nat → ClassId) (L : List Nat) (kap : Nat → Nat) (pr : Pr) (S : Nat → va_E) (sz : Nat) (o : Nat) (pa : Int32) (kd : Int32) (en : Nat) (hTy : Ty cy L kap pr S) (hT_o : TK L kap o 12) (hb_en : en < 5) : Met l yX12_amounts (wT yX12_amounts cX12_amounts 6 (some .int)) ({ frames := 1, cells := 0, slots := 0, locals := 22 }) (pcN dC dI [.ref o, .int pa, .int kd, .int (nI en)] sz (va_pl L S) (cyT cy) NLs []) (vp_Si (fun r => True)) 0 0 (fun _ => False) := by
  refine Met.ofW (cc := cX12_amounts) (maxL := 6) (ret := (some .int)) (by decide) rfl ?_
  intro p e s m args below meth c s₁ B hml hv
  obtain ⟨rfl, hsz, hP, hK, hD0, hN, -⟩ := hv
  have hx := B.exec
  have hb := B.bytes
  have hr := B.returns
  have hT : ∀ wd ∈ TB, wd.before [.ref o, .int pa, .int kd, .int (nI en)].toArray s = true := fun wd h => atoms_spec (ws := wT yX12_amounts cX12_amounts 6 (some .int)) B.pre wd (List.mem_cons_of_mem _ h)
  have hown : s.vm.findClass RX12 = some m.cls := findClass_of_methodNamed B.named
  have hlocks := B.notSynchronized
  subst hsz
  have hW : PW dC dI L (AL L s.heap.size) s.heap S s.heap [] := ⟨hP, pl_self hD0, va_S.rf⟩
  have hFr : Fr kap [] S S := Fr.rf
  have hl := lv_entry ([.ref o, .int pa, .int kd, .int (nI en)]) (n := 6) (Nat.le_of_ble_eq_true rfl)
  rw [lg_entry_eq]
  generalize (lg_sl ([.ref o, .int pa, .int kd, .int (nI en)]) ++ List.replicate (6 - (lg_sl ([.ref o, .int pa, .int kd, .int (nI en)])).length) Slot.unset).toArray = ls at hl ⊢
  have hl : lv_has ls 6 [(0, .ref o), (1, .int pa), (2, .int kd), (3, .int (nI en))] := hl
  refine lv_iconst (v := 0) hx hb dX12_amounts_0 (by decide) ?_
  refine lv_istore (lv' := [(4, .int 0), (0, .ref o), (1, .int pa), (2, .int kd), (3, .int (nI en))]) hx hb dX12_amounts_1 hl (by decide) rfl (fun ls hl => ?_)
  refine lv_iconst (v := 0) hx hb dX12_amounts_3 (by decide) ?_
  refine lv_istore (lv' := [(5, .int 0), (4, .int 0), (0, .ref o), (1, .int pa), (2, .int kd), (3, .int (nI en))]) hx hb dX12_amounts_4 hl (by decide) rfl (fun ls hl => ?_)
  have loop : ∀ (fuel : Nat) (i : Nat) (sm : Int32) (ls : Array Slot), 41 - i < fuel → (i ≤ 40) → lv_has ls 6 [(5, .int (nI i)), (4, .int sm), (0, .ref o), (1, .int pa), (2, .int kd), (3, .int (nI en))] → W p l e (headSpec (wT yX12_amounts cX12_amounts 6 (some .int)) { frames := 1, cells := 0, slots := 0, locals := 22 }).room s m [.ref o, .int pa, .int kd, .int (nI en)].toArray below meth c s.heap [] 0 0 (MQ below (vp_Si (fun r => True)) [.ref o, .int pa, .int kd, .int (nI en)].toArray s 0 0 (fun _ => False)) (F0 m 6 ls []) := by
    intro fuel
    induction fuel with
    | zero => intro i sm ls h; exact absurd h (Nat.not_lt_zero _)
    | succ fu6 ih6 =>
      intro i sm ls hm6 hb_i hl
      refine lv_iload hx hb dX12_amounts_6 (lv_at hl 0 rfl) ?_
      refine lv_aload_n hx hb dX12_amounts_8 rfl (lv_at hl 2 rfl) ?_
      obtain ⟨x_1, x_2, x_3, x_4, x_5, x_6, x_7, x_8, x_9, x_10, x_11, x_12, x_13, x_14, x_15, x_16, x_17, x_18, x_19, x_20, x_21, x_22, x_23, x_24, x_25, x_26, x_27, x_28, x_29, x_30, x_31, hS_o, hT_x_1, hT_x_2, hT_x_3, hT_x_4, hT_x_5, hb_x_6, hb_x_7, hb_x_8, hT_x_10, hb_q2, hb_x_11, hb_x_12, hT_x_17, hT_x_18, hb_x_19, hT_x_20, hT_x_21, hT_x_22, hT_x_23, hT_x_24, hT_x_25, hT_x_26, hT_x_27, hT_x_28, hT_x_29, hT_x_30, hb_x_31⟩ := hTy.k12 hT_o
      have hb_q2 : pr.2 ≤ 900 := hb_q2
      have hS_o : S o = .inr (12, [.ref x_1, .ref x_2, .ref x_3, .ref x_4, .ref x_5, .int (nI x_6), .int (nI x_7), .int (nI x_8), .int x_9, .ref x_10, .int (nI (pr.2)), .int (nI x_11), .int (nI x_12), .int x_13, .int x_14, .int x_15, .int x_16, .ref x_17, .ref x_18, .int (nI x_19), .ref x_20, .ref x_21, .ref x_22, .ref x_23, .ref x_24, .ref x_25, .ref x_26, .ref x_27, .ref x_28, .ref x_29, .ref x_30, .int (nI x_31)]) := hS_o
      refine pl_get (ci := 12) (v := .ref x_1) (C := RX12) (T := TX12) (N := 32) hx hb hT iX12 hown hK hW hT_o.1 hS_o rfl 0 (by decide) w1082 rfl dX12_amounts_9 ?_
      refine lv_iconst (v := 0) hx hb dX12_amounts_12 (by decide) ?_
      obtain ⟨f_32, hS_x_1, hi_f_32⟩ := hTy.k50 hT_x_1
      refine pl_iald hx hb hK hW hT_x_1.1 hS_x_1 (vp_in_nI (n := 0) (N := 266) (by omega) (by omega)) dX12_amounts_13 ?_
      refine lv_topi (fun y_33 ey_33 => ?_)
      have hv_y_33 : okS (0) y_33 := by rw [ey_33]; show okS _ (f_32 (nI (0)).toNatClampNeg); rw [nI_clamp (by omega)]; exact hi_f_32 (0) (by omega)
      obtain ⟨k_34, hb_k_34, hq_k_34⟩ := hv_y_33.1 rfl
      obtain rfl : y_33 = nI k_34 := hq_k_34
      refine lv_icmp_ge (tgt := 61) hx hb dX12_amounts_14 (by decide) (fun c_14 => ?_) (fun c_14 => ?_)
      · have c_14 : k_34 ≤ i := (nI_leI (a := k_34) (b := i) (by omega) (by omega)).mp c_14
        refine lv_iload hx hb dX12_amounts_61 (lv_at hl 1 rfl) ?_
        exact W.iret (v := sm) hx hb hr (fun t ht h9 => ⟨sm, rfl, trivial, ht⟩) (fun q h => by cases h) dX12_amounts_63
      · have c_14 : ¬ (k_34 ≤ i) := fun hh9 => c_14 ((nI_leI (a := k_34) (b := i) (by omega) (by omega)).mpr hh9)
        refine lv_iload hx hb dX12_amounts_17 (lv_at hl 1 rfl) ?_
        refine lv_aload_n hx hb dX12_amounts_19 rfl (lv_at hl 2 rfl) ?_
        refine lv_iload hx hb dX12_amounts_20 (lv_at hl 0 rfl) ?_
        refine lv_iconst (v := 3) hx hb dX12_amounts_22 (by decide) ?_
        refine vp_callSi (va_Run.run (va_runV (As := [.int (nI i), .int 3]) (rest := [.int sm]) ⟨hx, hb, hml, hown, hT⟩ (m_tradeAt l dC dI cy L kap pr S s.heap.size o i 3 hTy hT_o (by omega) (by omega)) (cwV 2 hT (gV w1247 w1249 ws66 w14 w1250) rfl rfl rfl (by decide +kernel) ⟨(Nat.le_of_ble_eq_true rfl), (Nat.le_of_ble_eq_true rfl)⟩) ⟨pcN.blind, pl_recv hK hW hT_o.1 hS_o rfl, pcN.pre hW.1 hK hW.2.1 hN (fun q h => absurd h List.not_mem_nil)⟩ rfl rfl hl.1 rfl (lv_room (Nat.le_of_ble_eq_true rfl)) dX12_amounts_23 ⟨(Nat.le_of_ble_eq_true rfl), (Nat.le_of_ble_eq_true rfl)⟩)) (fun r_35 hr_35 => ?_)
        obtain ⟨k_36, hb_k_36, rfl⟩ := hr_35.1.2.2 (by omega) (by omega) (by omega)
        refine lv_iload_n hx hb dX12_amounts_26 rfl (lv_at hl 4 rfl) ?_
        refine lv_icmp_ne (tgt := 51) hx hb dX12_amounts_27 (by decide) (fun c_27 => ?_) (fun c_27 => ?_)
        · refine lv_iconst (v := 0) hx hb dX12_amounts_51 (by decide) ?_
          refine lv_iadd hx hb dX12_amounts_52 ?_
          refine lv_topi (fun z_37 ez_37 => ?_)
          refine lv_istore (lv' := [(4, .int z_37), (5, .int (nI i)), (0, .ref o), (1, .int pa), (2, .int kd), (3, .int (nI en))]) hx hb dX12_amounts_53 hl (by decide) rfl (fun ls hl => ?_)
          refine lv_iinc (v := nI (i + 1)) (lv' := [(5, .int (nI (i + 1))), (4, .int z_37), (0, .ref o), (1, .int pa), (2, .int kd), (3, .int (nI en))]) hx hb dX12_amounts_55 hl (k := 1) rfl (nI_add (i) 1) (by decide) rfl (fun ls hl => ?_)
          refine lv_goto (tgt := 6) hx hb dX12_amounts_58 (by decide) ?_
          exact ih6 (i + 1) z_37 ls (by omega) (by omega) (lv_sub hl [0, 1, 2, 3, 4, 5] rfl)
        · refine lv_aload_n hx hb dX12_amounts_30 rfl (lv_at hl 2 rfl) ?_
          refine lv_iload hx hb dX12_amounts_31 (lv_at hl 0 rfl) ?_
          refine lv_iload_n hx hb dX12_amounts_33 rfl (lv_at hl 5 rfl) ?_
          refine vp_callSi (va_Run.run (va_runV (As := [.int (nI i), .int (nI en)]) (rest := [.int sm]) ⟨hx, hb, hml, hown, hT⟩ (m_tradeAt l dC dI cy L kap pr S s.heap.size o i en hTy hT_o (by omega) (by omega)) (cwV 2 hT (gV w1247 w1249 ws66 w14 w1250) rfl rfl rfl (by decide +kernel) ⟨(Nat.le_of_ble_eq_true rfl), (Nat.le_of_ble_eq_true rfl)⟩) ⟨pcN.blind, pl_recv hK hW hT_o.1 hS_o rfl, pcN.pre hW.1 hK hW.2.1 hN (fun q h => absurd h List.not_mem_nil)⟩ rfl rfl hl.1 rfl (lv_room (Nat.le_of_ble_eq_true rfl)) dX12_amounts_34 ⟨(Nat.le_of_ble_eq_true rfl), (Nat.le_of_ble_eq_true rfl)⟩)) (fun r_38 hr_38 => ?_)
          refine lv_iload_n hx hb dX12_amounts_37 rfl (lv_at hl 3 rfl) ?_
          refine lv_icmp_ne (tgt := 51) hx hb dX12_amounts_38 (by decide) (fun c_38 => ?_) (fun c_38 => ?_)
          · refine lv_iconst (v := 0) hx hb dX12_amounts_51 (by decide) ?_
            refine lv_iadd hx hb dX12_amounts_52 ?_
            refine lv_topi (fun z_39 ez_39 => ?_)
            refine lv_istore (lv' := [(4, .int z_39), (5, .int (nI i)), (0, .ref o), (1, .int pa), (2, .int kd), (3, .int (nI en))]) hx hb dX12_amounts_53 hl (by decide) rfl (fun ls hl => ?_)
            refine lv_iinc (v := nI (i + 1)) (lv' := [(5, .int (nI (i + 1))), (4, .int z_39), (0, .ref o), (1, .int pa), (2, .int kd), (3, .int (nI en))]) hx hb dX12_amounts_55 hl (k := 1) rfl (nI_add (i) 1) (by decide) rfl (fun ls hl => ?_)
            refine lv_goto (tgt := 6) hx hb dX12_amounts_58 (by decide) ?_
            exact ih6 (i + 1) z_39 ls (by omega) (by omega) (lv_sub hl [0, 1, 2, 3, 4, 5] rfl)
          · refine lv_aload_n hx hb dX12_amounts_41 rfl (lv_at hl 2 rfl) ?_
            refine lv_iload hx hb dX12_amounts_42 (lv_at hl 0 rfl) ?_
            refine lv_iconst (v := 2) hx hb dX12_amounts_44 (by decide) ?_
            refine vp_callSi (va_Run.run (va_runV (As := [.int (nI i), .int 2]) (rest := [.int sm]) ⟨hx, hb, hml, hown, hT⟩ (m_tradeAt l dC dI cy L kap pr S s.heap.size o i 2 hTy hT_o (by omega) (by omega)) (cwV 2 hT (gV w1247 w1249 ws66 w14 w1250) rfl rfl rfl (by decide +kernel) ⟨(Nat.le_of_ble_eq_true rfl), (Nat.le_of_ble_eq_true rfl)⟩) ⟨pcN.blind, pl_recv hK hW hT_o.1 hS_o rfl, pcN.pre hW.1 hK hW.2.1 hN (fun q h => absurd h List.not_mem_nil)⟩ rfl rfl hl.1 rfl (lv_room (Nat.le_of_ble_eq_true rfl)) dX12_amounts_45 ⟨(Nat.le_of_ble_eq_true rfl), (Nat.le_of_ble_eq_true rfl)⟩)) (fun r_40 hr_40 => ?_)
            refine lv_goto (tgt := 52) hx hb dX12_amounts_48 (by decide) ?_
            refine lv_iadd hx hb dX12_amounts_52 ?_
            refine lv_topi (fun z_41 ez_41 => ?_)
            refine lv_istore (lv' := [(4, .int z_41), (5, .int (nI i)), (0, .ref o), (1, .int pa), (2, .int kd), (3, .int (nI en))]) hx hb dX12_amounts_53 hl (by decide) rfl (fun ls hl => ?_)
            refine lv_iinc (v := nI (i + 1)) (lv' := [(5, .int (nI (i + 1))), (4, .int z_41), (0, .ref o), (1, .int pa), (2, .int kd), (3, .int (nI en))]) hx hb dX12_amounts_55 hl (k := 1) rfl (nI_add (i) 1) (by decide) rfl (fun ls hl => ?_)
            refine lv_goto (tgt := 6) hx hb dX12_amounts_58 (by decide) ?_
            exact ih6 (i + 1) z_41 ls (by omega) (by omega) (lv_sub hl [0, 1, 2, 3, 4, 5] rfl)
  exact loop ((41 - 0) + 1) 0 0 ls (Nat.lt_succ_self _) (by omega) (lv_sub hl [0, 1, 2, 3, 4, 5] rfl)

set_option maxHeartbeats 4000000 in
set_option maxRecDepth 100000 in
theorem m_boundOf (l : Launch) (dC : Nat → ClassId) (dI : Nat → Nat → Nat) (cy : Nat → ClassId) (L : List Nat) (kap : Nat → Nat) (pr : Pr) (S : Nat → va_E) (sz : Nat) (o : Nat) (a : Nat) (b : Nat) (hTy : Ty cy L kap pr S) (hT_o : TK L kap o 12) (hb_a : a < 8) (hb_b : b < 8) : Met l yX12_boundOf (wT yX12_boundOf cX12_boundOf 4 (some .int)) ({ frames := 1, cells := 0, slots := 0, locals := 21 }) (pcN dC dI [.ref o, .int (nI a), .int (nI b)] sz (va_pl L S) (cyT cy) NLs []) (vp_Si (fun r => True)) 0 0 (fun _ => False) := by
  refine Met.ofW (cc := cX12_boundOf) (maxL := 4) (ret := (some .int)) (by decide) rfl ?_
  intro p e s m args below meth c s₁ B hml hv
  obtain ⟨rfl, hsz, hP, hK, hD0, hN, -⟩ := hv
  have hx := B.exec
  have hb := B.bytes
  have hr := B.returns
  have hT : ∀ wd ∈ TB, wd.before [.ref o, .int (nI a), .int (nI b)].toArray s = true := fun wd h => atoms_spec (ws := wT yX12_boundOf cX12_boundOf 4 (some .int)) B.pre wd (List.mem_cons_of_mem _ h)
  have hown : s.vm.findClass RX12 = some m.cls := findClass_of_methodNamed B.named
  have hlocks := B.notSynchronized
  subst hsz
  have hW : PW dC dI L (AL L s.heap.size) s.heap S s.heap [] := ⟨hP, pl_self hD0, va_S.rf⟩
  have hFr : Fr kap [] S S := Fr.rf
  have hl := lv_entry ([.ref o, .int (nI a), .int (nI b)]) (n := 4) (Nat.le_of_ble_eq_true rfl)
  rw [lg_entry_eq]
  generalize (lg_sl ([.ref o, .int (nI a), .int (nI b)]) ++ List.replicate (4 - (lg_sl ([.ref o, .int (nI a), .int (nI b)])).length) Slot.unset).toArray = ls at hl ⊢
  have hl : lv_has ls 4 [(0, .ref o), (1, .int (nI a)), (2, .int (nI b))] := hl
  refine lv_aload_n hx hb dX12_boundOf_0 rfl (lv_at hl 0 rfl) ?_
  obtain ⟨x_1, x_2, x_3, x_4, x_5, x_6, x_7, x_8, x_9, x_10, x_11, x_12, x_13, x_14, x_15, x_16, x_17, x_18, x_19, x_20, x_21, x_22, x_23, x_24, x_25, x_26, x_27, x_28, x_29, x_30, x_31, hS_o, hT_x_1, hT_x_2, hT_x_3, hT_x_4, hT_x_5, hb_x_6, hb_x_7, hb_x_8, hT_x_10, hb_q2, hb_x_11, hb_x_12, hT_x_17, hT_x_18, hb_x_19, hT_x_20, hT_x_21, hT_x_22, hT_x_23, hT_x_24, hT_x_25, hT_x_26, hT_x_27, hT_x_28, hT_x_29, hT_x_30, hb_x_31⟩ := hTy.k12 hT_o
  have hb_q2 : pr.2 ≤ 900 := hb_q2
  have hS_o : S o = .inr (12, [.ref x_1, .ref x_2, .ref x_3, .ref x_4, .ref x_5, .int (nI x_6), .int (nI x_7), .int (nI x_8), .int x_9, .ref x_10, .int (nI (pr.2)), .int (nI x_11), .int (nI x_12), .int x_13, .int x_14, .int x_15, .int x_16, .ref x_17, .ref x_18, .int (nI x_19), .ref x_20, .ref x_21, .ref x_22, .ref x_23, .ref x_24, .ref x_25, .ref x_26, .ref x_27, .ref x_28, .ref x_29, .ref x_30, .int (nI x_31)]) := hS_o
  refine pl_get (ci := 12) (v := .ref x_17) (C := RX12) (T := TX12) (N := 32) hx hb hT iX12 hown hK hW hT_o.1 hS_o rfl 17 (by decide) w1099 rfl dX12_boundOf_1 ?_
  refine lv_iload_n hx hb dX12_boundOf_4 rfl (lv_at hl 1 rfl) ?_
  refine lv_iload_n hx hb dX12_boundOf_5 rfl (lv_at hl 2 rfl) ?_
  refine vp_callSi (va_Run.run (va_runS (As := [.int (nI a), .int (nI b)]) (rest := [.ref x_17]) ⟨hx, hb, hml, hown, hT⟩ (m_couple l dC dI s.heap.size a b (by omega) (by omega)) (va_cwS 2 hT (gS w1348 w1349 w14 w1350) rfl rfl rfl (by decide +kernel) ⟨(Nat.le_of_ble_eq_true rfl), (Nat.le_of_ble_eq_true rfl)⟩) ⟨pcW.blind, pcW.pre (va_P0 _ _ _) (hK.sub (tys' := []) [] rfl) (va_D0 (fun _ => True))⟩ rfl rfl hl.1 rfl (lv_room (Nat.le_of_ble_eq_true rfl)) dX12_boundOf_6 ⟨(Nat.le_of_ble_eq_true rfl), (Nat.le_of_ble_eq_true rfl)⟩)) (fun r_32 hr_32 => ?_)
  obtain rfl : r_32 = nI (8 * a + b) := hr_32
  obtain ⟨f_33, hS_x_17⟩ := hTy.k56 hT_x_17
  refine pl_iald hx hb hK hW hT_x_17.1 hS_x_17 (vp_in_nI (n := 8 * a + b) (N := 64) (by omega) (by omega)) dX12_boundOf_9 ?_
  refine lv_topi (fun y_34 ey_34 => ?_)
  refine lv_istore_n (lv' := [(3, .int y_34), (0, .ref o), (1, .int (nI a)), (2, .int (nI b))]) hx hb dX12_boundOf_10 rfl hl (by decide) rfl (fun ls hl => ?_)
  refine lv_aload_n hx hb dX12_boundOf_11 rfl (lv_at hl 1 rfl) ?_
  refine pl_get (ci := 12) (v := .ref x_1) (C := RX12) (T := TX12) (N := 32) hx hb hT iX12 hown hK hW hT_o.1 hS_o rfl 0 (by decide) w1082 rfl dX12_boundOf_12 ?_
  refine lv_iconst (v := 1) hx hb dX12_boundOf_15 (by decide) ?_
  obtain ⟨f_35, hS_x_1, hi_f_35⟩ := hTy.k50 hT_x_1
  refine pl_iald hx hb hK hW hT_x_1.1 hS_x_1 (vp_in_nI (n := 1) (N := 266) (by omega) (by omega)) dX12_boundOf_16 ?_
  refine lv_topi (fun y_36 ey_36 => ?_)
  have hv_y_36 : okS (1) y_36 := by rw [ey_36]; show okS _ (f_35 (nI (1)).toNatClampNeg); rw [nI_clamp (by omega)]; exact hi_f_35 (1) (by omega)
  refine lv_if_ne (tgt := 24) hx hb dX12_boundOf_17 (by decide) (fun c_17 => ?_) (fun c_17 => ?_)
  · refine lv_aload_n hx hb dX12_boundOf_24 rfl (lv_at hl 1 rfl) ?_
    refine pl_get (ci := 12) (v := .ref x_1) (C := RX12) (T := TX12) (N := 32) hx hb hT iX12 hown hK hW hT_o.1 hS_o rfl 0 (by decide) w1082 rfl dX12_boundOf_25 ?_
    refine lv_iconst (v := 1) hx hb dX12_boundOf_28 (by decide) ?_
    refine pl_iald hx hb hK hW hT_x_1.1 hS_x_1 (vp_in_nI (n := 1) (N := 266) (by omega) (by omega)) dX12_boundOf_29 ?_
    refine lv_topi (fun y_37 ey_37 => ?_)
    have hv_y_37 : okS (1) y_37 := by rw [ey_37]; show okS _ (f_35 (nI (1)).toNatClampNeg); rw [nI_clamp (by omega)]; exact hi_f_35 (1) (by omega)
    refine lv_iconst (v := 2) hx hb dX12_boundOf_30 (by decide) ?_
    refine lv_icmp_ne (tgt := 51) hx hb dX12_boundOf_31 (by decide) (fun c_31 => ?_) (fun c_31 => ?_)
    · refine lv_iload_n hx hb dX12_boundOf_51 rfl (lv_at hl 0 rfl) ?_
      refine lv_aload_n hx hb dX12_boundOf_52 rfl (lv_at hl 1 rfl) ?_
      refine pl_get (ci := 12) (v := .ref x_17) (C := RX12) (T := TX12) (N := 32) hx hb hT iX12 hown hK hW hT_o.1 hS_o rfl 17 (by decide) w1099 rfl dX12_boundOf_53 ?_
      refine lv_iload_n hx hb dX12_boundOf_56 rfl (lv_at hl 3 rfl) ?_
      refine lv_iload_n hx hb dX12_boundOf_57 rfl (lv_at hl 2 rfl) ?_
      refine vp_callSi (va_Run.run (va_runS (As := [.int (nI b), .int (nI a)]) (rest := [.ref x_17, .int y_34]) ⟨hx, hb, hml, hown, hT⟩ (m_couple l dC dI s.heap.size b a (by omega) (by omega)) (va_cwS 2 hT (gS w1348 w1349 w14 w1350) rfl rfl rfl (by decide +kernel) ⟨(Nat.le_of_ble_eq_true rfl), (Nat.le_of_ble_eq_true rfl)⟩) ⟨pcW.blind, pcW.pre (va_P0 _ _ _) (hK.sub (tys' := []) [] rfl) (va_D0 (fun _ => True))⟩ rfl rfl hl.1 rfl (lv_room (Nat.le_of_ble_eq_true rfl)) dX12_boundOf_58 ⟨(Nat.le_of_ble_eq_true rfl), (Nat.le_of_ble_eq_true rfl)⟩)) (fun r_38 hr_38 => ?_)
      obtain rfl : r_38 = nI (8 * b + a) := hr_38
      refine pl_iald hx hb hK hW hT_x_17.1 hS_x_17 (vp_in_nI (n := 8 * b + a) (N := 64) (by omega) (by omega)) dX12_boundOf_61 ?_
      refine lv_topi (fun y_39 ey_39 => ?_)
      refine lv_iadd hx hb dX12_boundOf_62 ?_
      refine lv_topi (fun z_40 ez_40 => ?_)
      exact W.iret (v := z_40) hx hb hr (fun t ht h9 => ⟨z_40, rfl, trivial, ht⟩) (fun q h => by cases h) dX12_boundOf_63
    · refine lv_aload_n hx hb dX12_boundOf_34 rfl (lv_at hl 1 rfl) ?_
      refine pl_get (ci := 12) (v := .ref x_1) (C := RX12) (T := TX12) (N := 32) hx hb hT iX12 hown hK hW hT_o.1 hS_o rfl 0 (by decide) w1082 rfl dX12_boundOf_35 ?_
      refine lv_sipush (v := 202) hx hb dX12_boundOf_38 (by decide) ?_
      refine lv_iload_n hx hb dX12_boundOf_41 rfl (lv_at hl 2 rfl) ?_
      refine lv_iload_n hx hb dX12_boundOf_42 rfl (lv_at hl 3 rfl) ?_
      refine vp_callSi (va_Run.run (va_runS (As := [.int (nI a), .int (nI b)]) (rest := [.int 202, .ref x_1]) ⟨hx, hb, hml, hown, hT⟩ (m_couple l dC dI s.heap.size a b (by omega) (by omega)) (va_cwS 2 hT (gS w1348 w1349 w14 w1350) rfl rfl rfl (by decide +kernel) ⟨(Nat.le_of_ble_eq_true rfl), (Nat.le_of_ble_eq_true rfl)⟩) ⟨pcW.blind, pcW.pre (va_P0 _ _ _) (hK.sub (tys' := []) [] rfl) (va_D0 (fun _ => True))⟩ rfl rfl hl.1 rfl (lv_room (Nat.le_of_ble_eq_true rfl)) dX12_boundOf_43 ⟨(Nat.le_of_ble_eq_true rfl), (Nat.le_of_ble_eq_true rfl)⟩)) (fun r_41 hr_41 => ?_)
      obtain rfl : r_41 = nI (8 * a + b) := hr_41
      refine lv_iadd hx hb dX12_boundOf_46 ?_
      refine lv_topi (fun z_42 ez_42 => ?_)
      obtain rfl : z_42 = nI (202 + (8 * a + b)) := ez_42.trans (nI_add (202) (8 * a + b))
      refine pl_iald hx hb hK hW hT_x_1.1 hS_x_1 (vp_in_nI (n := 202 + (8 * a + b)) (N := 266) (by omega) (by omega)) dX12_boundOf_47 ?_
      refine lv_topi (fun y_43 ey_43 => ?_)
      have hv_y_43 : okS (202 + (8 * a + b)) y_43 := by rw [ey_43]; show okS _ (f_35 (nI (202 + (8 * a + b))).toNatClampNeg); rw [nI_clamp (by omega)]; exact hi_f_35 (202 + (8 * a + b)) (by omega)
      refine lv_goto (tgt := 63) hx hb dX12_boundOf_48 (by decide) ?_
      exact W.iret (v := y_43) hx hb hr (fun t ht h9 => ⟨y_43, rfl, trivial, ht⟩) (fun q h => by cases h) dX12_boundOf_63
  · refine lv_iload_n hx hb dX12_boundOf_20 rfl (lv_at hl 0 rfl) ?_
    refine lv_goto (tgt := 63) hx hb dX12_boundOf_21 (by decide) ?_
    exact W.iret (v := y_34) hx hb hr (fun t ht h9 => ⟨y_34, rfl, trivial, ht⟩) (fun q h => by cases h) dX12_boundOf_63

set_option maxHeartbeats 4000000 in
set_option maxRecDepth 100000 in
theorem m_tradeOf (l : Launch) (dC : Nat → ClassId) (dI : Nat → Nat → Nat) (cy : Nat → ClassId) (L : List Nat) (kap : Nat → Nat) (pr : Pr) (S : Nat → va_E) (sz : Nat) (o : Nat) (tr : Int32) (wh : Int32) (hTy : Ty cy L kap pr S) (hT_o : TK L kap o 12) : Met l yX12_tradeOf (wT yX12_tradeOf cX12_tradeOf 3 (some .int)) ({ frames := 2, cells := 0, slots := 0, locals := 46 }) (pcN dC dI [.ref o, .int tr, .int wh] sz (va_pl L S) (cyT cy) NLs []) (va_Qi (fun r S' => Ty cy L kap pr S' ∧ Fr kap [12] S S') (fun S' t => pB dC dI (AL L sz) (va_pl L S') (cyT cy) t) (AL L sz)) 0 0 (AL L sz) := by
  refine Met.ofW (cc := cX12_tradeOf) (maxL := 3) (ret := (some .int)) (by decide) rfl ?_
  intro p e s m args below meth c s₁ B hml hv
  obtain ⟨rfl, hsz, hP, hK, hD0, hN, -⟩ := hv
  have hx := B.exec
  have hb := B.bytes
  have hr := B.returns
  have hT : ∀ wd ∈ TB, wd.before [.ref o, .int tr, .int wh].toArray s = true := fun wd h => atoms_spec (ws := wT yX12_tradeOf cX12_tradeOf 3 (some .int)) B.pre wd (List.mem_cons_of_mem _ h)
  have hown : s.vm.findClass RX12 = some m.cls := findClass_of_methodNamed B.named
  have hlocks := B.notSynchronized
  subst hsz
  have hW : PW dC dI L (AL L s.heap.size) s.heap S s.heap [] := ⟨hP, pl_self hD0, va_S.rf⟩
  have hA0 : ∀ q, q ∈ L → AL L s.heap.size q := fun _ h => Or.inl h
  have hA : ∀ q, s.heap.size ≤ q → AL L s.heap.size q := fun _ h => Or.inr h
  have hFr : Fr kap [12] S S := Fr.rf
  have hl := lv_entry ([.ref o, .int tr, .int wh]) (n := 3) (Nat.le_of_ble_eq_true rfl)
  rw [lg_entry_eq]
  generalize (lg_sl ([.ref o, .int tr, .int wh]) ++ List.replicate (3 - (lg_sl ([.ref o, .int tr, .int wh])).length) Slot.unset).toArray = ls at hl ⊢
  have hl : lv_has ls 3 [(0, .ref o), (1, .int tr), (2, .int wh)] := hl
  refine lv_aload_n hx hb dX12_tradeOf_0 rfl (lv_at hl 0 rfl) ?_
  refine lv_iconst (v := 0) hx hb dX12_tradeOf_1 (by decide) ?_
  obtain ⟨x_1, x_2, x_3, x_4, x_5, x_6, x_7, x_8, x_9, x_10, x_11, x_12, x_13, x_14, x_15, x_16, x_17, x_18, x_19, x_20, x_21, x_22, x_23, x_24, x_25, x_26, x_27, x_28, x_29, x_30, x_31, hS_o, hT_x_1, hT_x_2, hT_x_3, hT_x_4, hT_x_5, hb_x_6, hb_x_7, hb_x_8, hT_x_10, hb_q2, hb_x_11, hb_x_12, hT_x_17, hT_x_18, hb_x_19, hT_x_20, hT_x_21, hT_x_22, hT_x_23, hT_x_24, hT_x_25, hT_x_26, hT_x_27, hT_x_28, hT_x_29, hT_x_30, hb_x_31⟩ := hTy.k12 hT_o
  have hb_q2 : pr.2 ≤ 900 := hb_q2
  have hS_o : S o = .inr (12, [.ref x_1, .ref x_2, .ref x_3, .ref x_4, .ref x_5, .int (nI x_6), .int (nI x_7), .int (nI x_8), .int x_9, .ref x_10, .int (nI (pr.2)), .int (nI x_11), .int (nI x_12), .int x_13, .int x_14, .int x_15, .int x_16, .ref x_17, .ref x_18, .int (nI x_19), .ref x_20, .ref x_21, .ref x_22, .ref x_23, .ref x_24, .ref x_25, .ref x_26, .ref x_27, .ref x_28, .ref x_29, .ref x_30, .int (nI x_31)]) := hS_o
  refine pl_put (ci := 12) (v := .int 0) (ty := .int) (C := RX12) (T := TX12) (N := 32) (fs' := [.ref x_1, .ref x_2, .ref x_3, .ref x_4, .ref x_5, .int (nI x_6), .int (nI x_7), .int (nI x_8), .int 0, .ref x_10, .int (nI (pr.2)), .int (nI x_11), .int (nI x_12), .int x_13, .int x_14, .int x_15, .int x_16, .ref x_17, .ref x_18, .int (nI x_19), .ref x_20, .ref x_21, .ref x_22, .ref x_23, .ref x_24, .ref x_25, .ref x_26, .ref x_27, .ref x_28, .ref x_29, .ref x_30, .int (nI x_31)]) hx hb hT iX12 tyX12 tyX12_ok nmX12 hown hK hW hT_o.1 hS_o rfl 8 (by decide) w1090 rfl (by decide +kernel) rfl rfl (Nat.le_of_ble_eq_true rfl) rfl dX12_tradeOf_2 (fun H locs S_32 e1 hW => ?_)
  have hTy := hTy.u12 e1 hT_o ⟨x_1, x_2, x_3, x_4, x_5, x_6, x_7, x_8, 0, x_10, x_11, x_12, x_13, x_14, x_15, x_16, x_17, x_18, x_19, x_20, x_21, x_22, x_23, x_24, x_25, x_26, x_27, x_28, x_29, x_30, x_31, rfl, hT_x_1, hT_x_2, hT_x_3, hT_x_4, hT_x_5, (by omega), (by omega), (by omega), hT_x_10, (by show pr.2 ≤ 900; omega), (by omega), (by omega), hT_x_17, hT_x_18, (by omega), hT_x_20, hT_x_21, hT_x_22, hT_x_23, hT_x_24, hT_x_25, hT_x_26, hT_x_27, hT_x_28, hT_x_29, hT_x_30, (by omega)⟩
  have hws := (show wrs (.inr (12, [.ref x_1, .ref x_2, .ref x_3, .ref x_4, .ref x_5, .int (nI x_6), .int (nI x_7), .int (nI x_8), .int 0, .ref x_10, .int (nI (pr.2)), .int (nI x_11), .int (nI x_12), .int x_13, .int x_14, .int x_15, .int x_16, .ref x_17, .ref x_18, .int (nI x_19), .ref x_20, .ref x_21, .ref x_22, .ref x_23, .ref x_24, .ref x_25, .ref x_26, .ref x_27, .ref x_28, .ref x_29, .ref x_30, .int (nI x_31)])) = wrs (S o) from by rw [hS_o]; rfl)
  have hFr := ufs hFr e1 hT_o (by decide) hws
  have hS_o := us e1
  refine lv_aload_n hx hb dX12_tradeOf_5 rfl (lv_at hl 0 rfl) ?_
  refine lv_iload_n hx hb dX12_tradeOf_6 rfl (lv_at hl 1 rfl) ?_
  refine vp_callSi (va_Run.run (va_runV (As := [.int tr]) (rest := []) ⟨hx, hb, hml, hown, hT⟩ (m_isTrade l dC dI cy L kap pr S_32 H.size o tr hTy hT_o) (cwV 1 hT (gV w1301 w1303 ws76 w14 w1304) rfl rfl rfl (by decide +kernel) ⟨(Nat.le_of_ble_eq_true rfl), (Nat.le_of_ble_eq_true rfl)⟩) ⟨pcN.blind, pl_recv hK hW hT_o.1 hS_o rfl, pcN.pre hW.1 hK hW.2.1 hN (fun q h => absurd h List.not_mem_nil)⟩ rfl rfl hl.1 rfl (lv_room (Nat.le_of_ble_eq_true rfl)) dX12_tradeOf_7 ⟨(Nat.le_of_ble_eq_true rfl), (Nat.le_of_ble_eq_true rfl)⟩)) (fun r_33 hr_33 => ?_)
  rcases hr_33 with hc_ | hc_
  · obtain rfl : r_33 = 0 := hc_
    refine lv_if_eq (tgt := 34) hx hb dX12_tradeOf_10 (by decide) (fun _ => ?_) (fun h => absurd (by decide) h)
    refine lv_bipush (v := (-2)) hx hb dX12_tradeOf_34 (by decide) ?_
    exact W.iret (v := (-2)) hx hb hr (fun t ht h9 => ⟨⟨(-2), S_32, rfl, ⟨hTy, hFr⟩, by rw [ht]; exact hW.1, va_K.moved h9.alike hK, hW.2.1⟩, hW.2.2.F ht⟩) hW.2.2.2.2 dX12_tradeOf_36
  · obtain ⟨rfl, k_34, n_35, hb_k_34, hb_n_35, rfl, hmn_⟩ := hc_
    obtain ⟨f_36, hS_x_1, hi_f_36⟩ := hTy.k50 hT_x_1
    have h0_ : f_36 0 = nI n_35 := mnye hmn_ hS_o rfl hS_x_1
    refine lv_if_eq (tgt := 34) hx hb dX12_tradeOf_10 (by decide) (fun h => absurd h (by decide)) (fun _ => ?_)
    refine lv_iload_n hx hb dX12_tradeOf_13 rfl (lv_at hl 2 rfl) ?_
    refine lv_i2l hx hb dX12_tradeOf_14 rfl ?_
    refine lv_topl (fun z_37 ez_37 => ?_)
    refine lv_lconst (v := 0) hx hb dX12_tradeOf_15 (by decide) ?_
    refine lv_ldc2 (v := 4) hx hb hown (hT _ w1331) dX12_tradeOf_16 ?_
    refine vp_callSi (va_Run.run (va_runS (As := [.long z_37, .long 0, .long 4]) (rest := []) ⟨hx, hb, hml, hown, hT⟩ (m_isIn l dC dI H.size z_37 0 4) (va_cwS 3 hT (gS w1187 w1188 w14 w1189) rfl rfl rfl (by decide +kernel) ⟨(Nat.le_of_ble_eq_true rfl), (Nat.le_of_ble_eq_true rfl)⟩) ⟨pcW.blind, pcW.pre (va_P0 _ _ _) (hK.sub (tys' := []) [] rfl) (va_D0 (fun _ => True))⟩ rfl rfl hl.1 rfl (lv_room (Nat.le_of_ble_eq_true rfl)) dX12_tradeOf_19 ⟨(Nat.le_of_ble_eq_true rfl), (Nat.le_of_ble_eq_true rfl)⟩)) (fun r_38 hr_38 => ?_)
    rcases isInc hr_38 with hc_ | hc_
    · obtain ⟨rfl, hin_⟩ := hc_
      obtain ⟨k_39, hb_k_39, rfl⟩ := inK (H := 4) ez_37 hin_ (by decide) (by decide)
      refine lv_if_eq (tgt := 34) hx hb dX12_tradeOf_22 (by decide) (fun h => absurd h (by decide)) (fun _ => ?_)
      refine lv_aload_n hx hb dX12_tradeOf_25 rfl (lv_at hl 0 rfl) ?_
      refine lv_iload_n hx hb dX12_tradeOf_26 rfl (lv_at hl 1 rfl) ?_
      refine lv_iload_n hx hb dX12_tradeOf_27 rfl (lv_at hl 2 rfl) ?_
      refine vp_callSi (va_Run.run (va_runV (As := [.int (nI k_34), .int (nI k_39)]) (rest := []) ⟨hx, hb, hml, hown, hT⟩ (m_tradeAt l dC dI cy L kap pr S_32 H.size o k_34 k_39 hTy hT_o (by omega) (by omega)) (cwV 2 hT (gV w1247 w1249 ws66 w14 w1250) rfl rfl rfl (by decide +kernel) ⟨(Nat.le_of_ble_eq_true rfl), (Nat.le_of_ble_eq_true rfl)⟩) ⟨pcN.blind, pl_recv hK hW hT_o.1 hS_o rfl, pcN.pre hW.1 hK hW.2.1 hN (fun q h => absurd h List.not_mem_nil)⟩ rfl rfl hl.1 rfl (lv_room (Nat.le_of_ble_eq_true rfl)) dX12_tradeOf_28 ⟨(Nat.le_of_ble_eq_true rfl), (Nat.le_of_ble_eq_true rfl)⟩)) (fun r_40 hr_40 => ?_)
      refine lv_goto (tgt := 36) hx hb dX12_tradeOf_31 (by decide) ?_
      exact W.iret (v := r_40) hx hb hr (fun t ht h9 => ⟨⟨r_40, S_32, rfl, ⟨hTy, hFr⟩, by rw [ht]; exact hW.1, va_K.moved h9.alike hK, hW.2.1⟩, hW.2.2.F ht⟩) hW.2.2.2.2 dX12_tradeOf_36
    · obtain ⟨rfl, hin_⟩ := hc_
      refine lv_if_eq (tgt := 34) hx hb dX12_tradeOf_22 (by decide) (fun _ => ?_) (fun h => absurd (by decide) h)
      refine lv_bipush (v := (-2)) hx hb dX12_tradeOf_34 (by decide) ?_
      exact W.iret (v := (-2)) hx hb hr (fun t ht h9 => ⟨⟨(-2), S_32, rfl, ⟨hTy, hFr⟩, by rw [ht]; exact hW.1, va_K.moved h9.alike hK, hW.2.1⟩, hW.2.2.F ht⟩) hW.2.2.2.2 dX12_tradeOf_36

set_option maxHeartbeats 4000000 in
set_option maxRecDepth 100000 in
theorem m_flow (l : Launch) (dC : Nat → ClassId) (dI : Nat → Nat → Nat) (cy : Nat → ClassId) (L : List Nat) (kap : Nat → Nat) (pr : Pr) (S : Nat → va_E) (sz : Nat) (o : Nat) (fa : Int32) (fb : Int32) (kd : Int32) (hTy : Ty cy L kap pr S) (hT_o : TK L kap o 12) : Met l yX12_flow (wT yX12_flow cX12_flow 4 (some .int)) ({ frames := 3, cells := 0, slots := 0, locals := 68 }) (pcN dC dI [.ref o, .int fa, .int fb, .int kd] sz (va_pl L S) (cyT cy) NLs []) (va_Qi (fun r S' => Ty cy L kap pr S' ∧ Fr kap [12, 56] S S') (fun S' t => pB dC dI (AL L sz) (va_pl L S') (cyT cy) t) (AL L sz)) 0 0 (AL L sz) := by
  refine Met.ofW (cc := cX12_flow) (maxL := 4) (ret := (some .int)) (by decide) rfl ?_
  intro p e s m args below meth c s₁ B hml hv
  obtain ⟨rfl, hsz, hP, hK, hD0, hN, -⟩ := hv
  have hx := B.exec
  have hb := B.bytes
  have hr := B.returns
  have hT : ∀ wd ∈ TB, wd.before [.ref o, .int fa, .int fb, .int kd].toArray s = true := fun wd h => atoms_spec (ws := wT yX12_flow cX12_flow 4 (some .int)) B.pre wd (List.mem_cons_of_mem _ h)
  have hown : s.vm.findClass RX12 = some m.cls := findClass_of_methodNamed B.named
  have hlocks := B.notSynchronized
  subst hsz
  have hW : PW dC dI L (AL L s.heap.size) s.heap S s.heap [] := ⟨hP, pl_self hD0, va_S.rf⟩
  have hA0 : ∀ q, q ∈ L → AL L s.heap.size q := fun _ h => Or.inl h
  have hA : ∀ q, s.heap.size ≤ q → AL L s.heap.size q := fun _ h => Or.inr h
  have hFr : Fr kap [12, 56] S S := Fr.rf
  have hl := lv_entry ([.ref o, .int fa, .int fb, .int kd]) (n := 4) (Nat.le_of_ble_eq_true rfl)
  rw [lg_entry_eq]
  generalize (lg_sl ([.ref o, .int fa, .int fb, .int kd]) ++ List.replicate (4 - (lg_sl ([.ref o, .int fa, .int fb, .int kd])).length) Slot.unset).toArray = ls at hl ⊢
  have hl : lv_has ls 4 [(0, .ref o), (1, .int fa), (2, .int fb), (3, .int kd)] := hl
  refine lv_aload_n hx hb dX12_flow_0 rfl (lv_at hl 0 rfl) ?_
  refine lv_iconst (v := 0) hx hb dX12_flow_1 (by decide) ?_
  obtain ⟨x_1, x_2, x_3, x_4, x_5, x_6, x_7, x_8, x_9, x_10, x_11, x_12, x_13, x_14, x_15, x_16, x_17, x_18, x_19, x_20, x_21, x_22, x_23, x_24, x_25, x_26, x_27, x_28, x_29, x_30, x_31, hS_o, hT_x_1, hT_x_2, hT_x_3, hT_x_4, hT_x_5, hb_x_6, hb_x_7, hb_x_8, hT_x_10, hb_q2, hb_x_11, hb_x_12, hT_x_17, hT_x_18, hb_x_19, hT_x_20, hT_x_21, hT_x_22, hT_x_23, hT_x_24, hT_x_25, hT_x_26, hT_x_27, hT_x_28, hT_x_29, hT_x_30, hb_x_31⟩ := hTy.k12 hT_o
  have hb_q2 : pr.2 ≤ 900 := hb_q2
  have hS_o : S o = .inr (12, [.ref x_1, .ref x_2, .ref x_3, .ref x_4, .ref x_5, .int (nI x_6), .int (nI x_7), .int (nI x_8), .int x_9, .ref x_10, .int (nI (pr.2)), .int (nI x_11), .int (nI x_12), .int x_13, .int x_14, .int x_15, .int x_16, .ref x_17, .ref x_18, .int (nI x_19), .ref x_20, .ref x_21, .ref x_22, .ref x_23, .ref x_24, .ref x_25, .ref x_26, .ref x_27, .ref x_28, .ref x_29, .ref x_30, .int (nI x_31)]) := hS_o
  refine pl_put (ci := 12) (v := .int 0) (ty := .int) (C := RX12) (T := TX12) (N := 32) (fs' := [.ref x_1, .ref x_2, .ref x_3, .ref x_4, .ref x_5, .int (nI x_6), .int (nI x_7), .int (nI x_8), .int 0, .ref x_10, .int (nI (pr.2)), .int (nI x_11), .int (nI x_12), .int x_13, .int x_14, .int x_15, .int x_16, .ref x_17, .ref x_18, .int (nI x_19), .ref x_20, .ref x_21, .ref x_22, .ref x_23, .ref x_24, .ref x_25, .ref x_26, .ref x_27, .ref x_28, .ref x_29, .ref x_30, .int (nI x_31)]) hx hb hT iX12 tyX12 tyX12_ok nmX12 hown hK hW hT_o.1 hS_o rfl 8 (by decide) w1090 rfl (by decide +kernel) rfl rfl (Nat.le_of_ble_eq_true rfl) rfl dX12_flow_2 (fun H locs S_32 e1 hW => ?_)
  have hTy := hTy.u12 e1 hT_o ⟨x_1, x_2, x_3, x_4, x_5, x_6, x_7, x_8, 0, x_10, x_11, x_12, x_13, x_14, x_15, x_16, x_17, x_18, x_19, x_20, x_21, x_22, x_23, x_24, x_25, x_26, x_27, x_28, x_29, x_30, x_31, rfl, hT_x_1, hT_x_2, hT_x_3, hT_x_4, hT_x_5, (by omega), (by omega), (by omega), hT_x_10, (by show pr.2 ≤ 900; omega), (by omega), (by omega), hT_x_17, hT_x_18, (by omega), hT_x_20, hT_x_21, hT_x_22, hT_x_23, hT_x_24, hT_x_25, hT_x_26, hT_x_27, hT_x_28, hT_x_29, hT_x_30, (by omega)⟩
  have hws := (show wrs (.inr (12, [.ref x_1, .ref x_2, .ref x_3, .ref x_4, .ref x_5, .int (nI x_6), .int (nI x_7), .int (nI x_8), .int 0, .ref x_10, .int (nI (pr.2)), .int (nI x_11), .int (nI x_12), .int x_13, .int x_14, .int x_15, .int x_16, .ref x_17, .ref x_18, .int (nI x_19), .ref x_20, .ref x_21, .ref x_22, .ref x_23, .ref x_24, .ref x_25, .ref x_26, .ref x_27, .ref x_28, .ref x_29, .ref x_30, .int (nI x_31)])) = wrs (S o) from by rw [hS_o]; rfl)
  have hFr := ufs hFr e1 hT_o (by decide) hws
  have hS_o := us e1
  refine lv_aload_n hx hb dX12_flow_5 rfl (lv_at hl 0 rfl) ?_
  refine lv_iload_n hx hb dX12_flow_6 rfl (lv_at hl 1 rfl) ?_
  refine lv_iload_n hx hb dX12_flow_7 rfl (lv_at hl 2 rfl) ?_
  refine vp_callSi (va_Run.run (va_runV (As := [.int fa, .int fb]) (rest := []) ⟨hx, hb, hml, hown, hT⟩ (m_areTwo l dC dI cy L kap pr S_32 H.size o fa fb hTy hT_o) (cwV 2 hT (gV w1280 w1282 ws72 w14 w1283) rfl rfl rfl (by decide +kernel) ⟨(Nat.le_of_ble_eq_true rfl), (Nat.le_of_ble_eq_true rfl)⟩) ⟨pcN.blind, pl_recv hK hW hT_o.1 hS_o rfl, pcN.pre hW.1 hK hW.2.1 hN (fun q h => absurd h List.not_mem_nil)⟩ rfl rfl hl.1 rfl (lv_room (Nat.le_of_ble_eq_true rfl)) dX12_flow_8 ⟨(Nat.le_of_ble_eq_true rfl), (Nat.le_of_ble_eq_true rfl)⟩)) (fun r_33 hr_33 => ?_)
  rcases hr_33 with hc_ | hc_
  · obtain rfl : r_33 = 0 := hc_
    refine lv_if_eq (tgt := 22) hx hb dX12_flow_11 (by decide) (fun _ => ?_) (fun h => absurd (by decide) h)
    refine lv_bipush (v := (-2)) hx hb dX12_flow_22 (by decide) ?_
    exact W.iret (v := (-2)) hx hb hr (fun t ht h9 => ⟨⟨(-2), S_32, rfl, ⟨hTy, hFr⟩, by rw [ht]; exact hW.1, va_K.moved h9.alike hK, hW.2.1⟩, hW.2.2.F ht⟩) hW.2.2.2.2 dX12_flow_24
  · obtain ⟨rfl, k_34, k_35, hb_k_34, hb_k_35, rfl, rfl, hab2⟩ := hc_
    refine lv_if_eq (tgt := 22) hx hb dX12_flow_11 (by decide) (fun h => absurd h (by decide)) (fun _ => ?_)
    refine lv_aload_n hx hb dX12_flow_14 rfl (lv_at hl 0 rfl) ?_
    refine lv_iload_n hx hb dX12_flow_15 rfl (lv_at hl 3 rfl) ?_
    refine vp_callSi (va_Run.run (va_runV (As := [.int kd]) (rest := []) ⟨hx, hb, hml, hown, hT⟩ (m_isKind l dC dI cy L kap pr S_32 H.size o kd hTy hT_o) (cwV 1 hT (gV w1288 w1290 ws74 w14 w1291) rfl rfl rfl (by decide +kernel) ⟨(Nat.le_of_ble_eq_true rfl), (Nat.le_of_ble_eq_true rfl)⟩) ⟨pcN.blind, pl_recv hK hW hT_o.1 hS_o rfl, pcN.pre hW.1 hK hW.2.1 hN (fun q h => absurd h List.not_mem_nil)⟩ rfl rfl hl.1 rfl (lv_room (Nat.le_of_ble_eq_true rfl)) dX12_flow_16 ⟨(Nat.le_of_ble_eq_true rfl), (Nat.le_of_ble_eq_true rfl)⟩)) (fun r_36 hr_36 => ?_)
    rcases hr_36 with hc_ | hc_
    · obtain rfl : r_36 = 0 := hc_
      refine lv_if_ne (tgt := 25) hx hb dX12_flow_19 (by decide) (fun h => absurd (by decide) h) (fun _ => ?_)
      refine lv_bipush (v := (-2)) hx hb dX12_flow_22 (by decide) ?_
      exact W.iret (v := (-2)) hx hb hr (fun t ht h9 => ⟨⟨(-2), S_32, rfl, ⟨hTy, hFr⟩, by rw [ht]; exact hW.1, va_K.moved h9.alike hK, hW.2.1⟩, hW.2.2.F ht⟩) hW.2.2.2.2 dX12_flow_24
    · obtain ⟨rfl, k_37, hb_k_37, rfl⟩ := hc_
      refine lv_if_ne (tgt := 25) hx hb dX12_flow_19 (by decide) (fun _ => ?_) (fun h => absurd h (by decide))
      refine lv_aload_n hx hb dX12_flow_25 rfl (lv_at hl 0 rfl) ?_
      refine lv_iload_n hx hb dX12_flow_26 rfl (lv_at hl 3 rfl) ?_
      refine lv_iconst (v := (-1)) hx hb dX12_flow_27 (by decide) ?_
      refine pl_callv (va_runV (As := [.int (nI k_37), .int (-1)]) (rest := []) ⟨hx, hb, hml, hown, hT⟩ (m_laysFlows l dC dI cy L kap pr S_32 H.size o (nI k_37) (-1) hTy hT_o) (cwV 2 hT (gV w1336 w1338 ws78 w14 w1339) rfl rfl rfl (by decide +kernel) ⟨(Nat.le_of_ble_eq_true rfl), (Nat.le_of_ble_eq_true rfl)⟩) ⟨pcN.blind, pl_recv hK hW hT_o.1 hS_o rfl, pcN.pre hW.1 hK hW.2.1 hN (fun q h => absurd h List.not_mem_nil)⟩ rfl rfl hl.1 rfl (lv_room (Nat.le_of_ble_eq_true rfl)) dX12_flow_28 ⟨(Nat.le_of_ble_eq_true rfl), (Nat.le_of_ble_eq_true rfl)⟩) hW hA0 hA (fun S_38 H locs hrel hW => ?_)
      obtain ⟨hTy, hF1⟩ := hrel
      have hFr := hFr.tr hF1 (by decide)
      have hS_o := hF1.at hT_o (by decide) hS_o
      refine lv_aload_n hx hb dX12_flow_31 rfl (lv_at hl 0 rfl) ?_
      refine pl_get (ci := 12) (v := .ref x_17) (C := RX12) (T := TX12) (N := 32) hx hb hT iX12 hown hK hW hT_o.1 hS_o rfl 17 (by decide) w1099 rfl dX12_flow_32 ?_
      refine lv_iload_n hx hb dX12_flow_35 rfl (lv_at hl 1 rfl) ?_
      refine lv_iload_n hx hb dX12_flow_36 rfl (lv_at hl 2 rfl) ?_
      refine vp_callSi (va_Run.run (va_runS (As := [.int (nI k_34), .int (nI k_35)]) (rest := [.ref x_17]) ⟨hx, hb, hml, hown, hT⟩ (m_couple l dC dI H.size k_34 k_35 (by omega) (by omega)) (va_cwS 2 hT (gS w1348 w1349 w14 w1350) rfl rfl rfl (by decide +kernel) ⟨(Nat.le_of_ble_eq_true rfl), (Nat.le_of_ble_eq_true rfl)⟩) ⟨pcW.blind, pcW.pre (va_P0 _ _ _) (hK.sub (tys' := []) [] rfl) (va_D0 (fun _ => True))⟩ rfl rfl hl.1 rfl (lv_room (Nat.le_of_ble_eq_true rfl)) dX12_flow_37 ⟨(Nat.le_of_ble_eq_true rfl), (Nat.le_of_ble_eq_true rfl)⟩)) (fun r_39 hr_39 => ?_)
      obtain rfl : r_39 = nI (8 * k_34 + k_35) := hr_39
      obtain ⟨f_40, hS_x_17⟩ := hTy.k56 hT_x_17
      refine pl_iald hx hb hK hW hT_x_17.1 hS_x_17 (vp_in_nI (n := 8 * k_34 + k_35) (N := 64) (by omega) (by omega)) dX12_flow_40 ?_
      refine lv_topi (fun y_41 ey_41 => ?_)
      exact W.iret (v := y_41) hx hb hr (fun t ht h9 => ⟨⟨y_41, S_38, rfl, ⟨hTy, hFr⟩, by rw [ht]; exact hW.1, va_K.moved h9.alike hK, hW.2.1⟩, hW.2.2.F ht⟩) hW.2.2.2.2 dX12_flow_41

set_option maxHeartbeats 4000000 in
set_option maxRecDepth 100000 in
theorem m_net (l : Launch) (dC : Nat → ClassId) (dI : Nat → Nat → Nat) (cy : Nat → ClassId) (L : List Nat) (kap : Nat → Nat) (pr : Pr) (S : Nat → va_E) (sz : Nat) (o : Nat) (pa : Int32) (kd : Int32) (fr : Int32) (hTy : Ty cy L kap pr S) (hT_o : TK L kap o 12) : Met l yX12_net (wT yX12_net cX12_net 4 (some .int)) ({ frames := 3, cells := 0, slots := 0, locals := 67 }) (pcN dC dI [.ref o, .int pa, .int kd, .int fr] sz (va_pl L S) (cyT cy) NLs []) (va_Qi (fun r S' => Ty cy L kap pr S' ∧ Fr kap [12, 56] S S') (fun S' t => pB dC dI (AL L sz) (va_pl L S') (cyT cy) t) (AL L sz)) 0 0 (AL L sz) := by
  refine Met.ofW (cc := cX12_net) (maxL := 4) (ret := (some .int)) (by decide) rfl ?_
  intro p e s m args below meth c s₁ B hml hv
  obtain ⟨rfl, hsz, hP, hK, hD0, hN, -⟩ := hv
  have hx := B.exec
  have hb := B.bytes
  have hr := B.returns
  have hT : ∀ wd ∈ TB, wd.before [.ref o, .int pa, .int kd, .int fr].toArray s = true := fun wd h => atoms_spec (ws := wT yX12_net cX12_net 4 (some .int)) B.pre wd (List.mem_cons_of_mem _ h)
  have hown : s.vm.findClass RX12 = some m.cls := findClass_of_methodNamed B.named
  have hlocks := B.notSynchronized
  subst hsz
  have hW : PW dC dI L (AL L s.heap.size) s.heap S s.heap [] := ⟨hP, pl_self hD0, va_S.rf⟩
  have hA0 : ∀ q, q ∈ L → AL L s.heap.size q := fun _ h => Or.inl h
  have hA : ∀ q, s.heap.size ≤ q → AL L s.heap.size q := fun _ h => Or.inr h
  have hFr : Fr kap [12, 56] S S := Fr.rf
  have hl := lv_entry ([.ref o, .int pa, .int kd, .int fr]) (n := 4) (Nat.le_of_ble_eq_true rfl)
  rw [lg_entry_eq]
  generalize (lg_sl ([.ref o, .int pa, .int kd, .int fr]) ++ List.replicate (4 - (lg_sl ([.ref o, .int pa, .int kd, .int fr])).length) Slot.unset).toArray = ls at hl ⊢
  have hl : lv_has ls 4 [(0, .ref o), (1, .int pa), (2, .int kd), (3, .int fr)] := hl
  refine lv_aload_n hx hb dX12_net_0 rfl (lv_at hl 0 rfl) ?_
  refine lv_iconst (v := 0) hx hb dX12_net_1 (by decide) ?_
  obtain ⟨x_1, x_2, x_3, x_4, x_5, x_6, x_7, x_8, x_9, x_10, x_11, x_12, x_13, x_14, x_15, x_16, x_17, x_18, x_19, x_20, x_21, x_22, x_23, x_24, x_25, x_26, x_27, x_28, x_29, x_30, x_31, hS_o, hT_x_1, hT_x_2, hT_x_3, hT_x_4, hT_x_5, hb_x_6, hb_x_7, hb_x_8, hT_x_10, hb_q2, hb_x_11, hb_x_12, hT_x_17, hT_x_18, hb_x_19, hT_x_20, hT_x_21, hT_x_22, hT_x_23, hT_x_24, hT_x_25, hT_x_26, hT_x_27, hT_x_28, hT_x_29, hT_x_30, hb_x_31⟩ := hTy.k12 hT_o
  have hb_q2 : pr.2 ≤ 900 := hb_q2
  have hS_o : S o = .inr (12, [.ref x_1, .ref x_2, .ref x_3, .ref x_4, .ref x_5, .int (nI x_6), .int (nI x_7), .int (nI x_8), .int x_9, .ref x_10, .int (nI (pr.2)), .int (nI x_11), .int (nI x_12), .int x_13, .int x_14, .int x_15, .int x_16, .ref x_17, .ref x_18, .int (nI x_19), .ref x_20, .ref x_21, .ref x_22, .ref x_23, .ref x_24, .ref x_25, .ref x_26, .ref x_27, .ref x_28, .ref x_29, .ref x_30, .int (nI x_31)]) := hS_o
  refine pl_put (ci := 12) (v := .int 0) (ty := .int) (C := RX12) (T := TX12) (N := 32) (fs' := [.ref x_1, .ref x_2, .ref x_3, .ref x_4, .ref x_5, .int (nI x_6), .int (nI x_7), .int (nI x_8), .int 0, .ref x_10, .int (nI (pr.2)), .int (nI x_11), .int (nI x_12), .int x_13, .int x_14, .int x_15, .int x_16, .ref x_17, .ref x_18, .int (nI x_19), .ref x_20, .ref x_21, .ref x_22, .ref x_23, .ref x_24, .ref x_25, .ref x_26, .ref x_27, .ref x_28, .ref x_29, .ref x_30, .int (nI x_31)]) hx hb hT iX12 tyX12 tyX12_ok nmX12 hown hK hW hT_o.1 hS_o rfl 8 (by decide) w1090 rfl (by decide +kernel) rfl rfl (Nat.le_of_ble_eq_true rfl) rfl dX12_net_2 (fun H locs S_32 e1 hW => ?_)
  have hTy := hTy.u12 e1 hT_o ⟨x_1, x_2, x_3, x_4, x_5, x_6, x_7, x_8, 0, x_10, x_11, x_12, x_13, x_14, x_15, x_16, x_17, x_18, x_19, x_20, x_21, x_22, x_23, x_24, x_25, x_26, x_27, x_28, x_29, x_30, x_31, rfl, hT_x_1, hT_x_2, hT_x_3, hT_x_4, hT_x_5, (by omega), (by omega), (by omega), hT_x_10, (by show pr.2 ≤ 900; omega), (by omega), (by omega), hT_x_17, hT_x_18, (by omega), hT_x_20, hT_x_21, hT_x_22, hT_x_23, hT_x_24, hT_x_25, hT_x_26, hT_x_27, hT_x_28, hT_x_29, hT_x_30, (by omega)⟩
  have hws := (show wrs (.inr (12, [.ref x_1, .ref x_2, .ref x_3, .ref x_4, .ref x_5, .int (nI x_6), .int (nI x_7), .int (nI x_8), .int 0, .ref x_10, .int (nI (pr.2)), .int (nI x_11), .int (nI x_12), .int x_13, .int x_14, .int x_15, .int x_16, .ref x_17, .ref x_18, .int (nI x_19), .ref x_20, .ref x_21, .ref x_22, .ref x_23, .ref x_24, .ref x_25, .ref x_26, .ref x_27, .ref x_28, .ref x_29, .ref x_30, .int (nI x_31)])) = wrs (S o) from by rw [hS_o]; rfl)
  have hFr := ufs hFr e1 hT_o (by decide) hws
  have hS_o := us e1
  refine lv_aload_n hx hb dX12_net_5 rfl (lv_at hl 0 rfl) ?_
  refine lv_iload_n hx hb dX12_net_6 rfl (lv_at hl 1 rfl) ?_
  refine vp_callSi (va_Run.run (va_runV (As := [.int pa]) (rest := []) ⟨hx, hb, hml, hown, hT⟩ (m_isParty l dC dI cy L kap pr S_32 H.size o pa hTy hT_o) (cwV 1 hT (gV w1284 w1286 ws73 w14 w1287) rfl rfl rfl (by decide +kernel) ⟨(Nat.le_of_ble_eq_true rfl), (Nat.le_of_ble_eq_true rfl)⟩) ⟨pcN.blind, pl_recv hK hW hT_o.1 hS_o rfl, pcN.pre hW.1 hK hW.2.1 hN (fun q h => absurd h List.not_mem_nil)⟩ rfl rfl hl.1 rfl (lv_room (Nat.le_of_ble_eq_true rfl)) dX12_net_7 ⟨(Nat.le_of_ble_eq_true rfl), (Nat.le_of_ble_eq_true rfl)⟩)) (fun r_33 hr_33 => ?_)
  rcases hr_33 with hc_ | hc_
  · obtain rfl : r_33 = 0 := hc_
    refine lv_if_eq (tgt := 21) hx hb dX12_net_10 (by decide) (fun _ => ?_) (fun h => absurd (by decide) h)
    refine lv_bipush (v := (-2)) hx hb dX12_net_21 (by decide) ?_
    exact W.iret (v := (-2)) hx hb hr (fun t ht h9 => ⟨⟨(-2), S_32, rfl, ⟨hTy, hFr⟩, by rw [ht]; exact hW.1, va_K.moved h9.alike hK, hW.2.1⟩, hW.2.2.F ht⟩) hW.2.2.2.2 dX12_net_23
  · obtain ⟨rfl, k_34, hb_k_34, rfl⟩ := hc_
    refine lv_if_eq (tgt := 21) hx hb dX12_net_10 (by decide) (fun h => absurd h (by decide)) (fun _ => ?_)
    refine lv_aload_n hx hb dX12_net_13 rfl (lv_at hl 0 rfl) ?_
    refine lv_iload_n hx hb dX12_net_14 rfl (lv_at hl 2 rfl) ?_
    refine vp_callSi (va_Run.run (va_runV (As := [.int kd]) (rest := []) ⟨hx, hb, hml, hown, hT⟩ (m_isKind l dC dI cy L kap pr S_32 H.size o kd hTy hT_o) (cwV 1 hT (gV w1288 w1290 ws74 w14 w1291) rfl rfl rfl (by decide +kernel) ⟨(Nat.le_of_ble_eq_true rfl), (Nat.le_of_ble_eq_true rfl)⟩) ⟨pcN.blind, pl_recv hK hW hT_o.1 hS_o rfl, pcN.pre hW.1 hK hW.2.1 hN (fun q h => absurd h List.not_mem_nil)⟩ rfl rfl hl.1 rfl (lv_room (Nat.le_of_ble_eq_true rfl)) dX12_net_15 ⟨(Nat.le_of_ble_eq_true rfl), (Nat.le_of_ble_eq_true rfl)⟩)) (fun r_35 hr_35 => ?_)
    rcases hr_35 with hc_ | hc_
    · obtain rfl : r_35 = 0 := hc_
      refine lv_if_ne (tgt := 24) hx hb dX12_net_18 (by decide) (fun h => absurd (by decide) h) (fun _ => ?_)
      refine lv_bipush (v := (-2)) hx hb dX12_net_21 (by decide) ?_
      exact W.iret (v := (-2)) hx hb hr (fun t ht h9 => ⟨⟨(-2), S_32, rfl, ⟨hTy, hFr⟩, by rw [ht]; exact hW.1, va_K.moved h9.alike hK, hW.2.1⟩, hW.2.2.F ht⟩) hW.2.2.2.2 dX12_net_23
    · obtain ⟨rfl, k_36, hb_k_36, rfl⟩ := hc_
      refine lv_if_ne (tgt := 24) hx hb dX12_net_18 (by decide) (fun _ => ?_) (fun h => absurd h (by decide))
      refine lv_aload_n hx hb dX12_net_24 rfl (lv_at hl 0 rfl) ?_
      refine lv_iload_n hx hb dX12_net_25 rfl (lv_at hl 2 rfl) ?_
      refine lv_iconst (v := (-1)) hx hb dX12_net_26 (by decide) ?_
      refine pl_callv (va_runV (As := [.int (nI k_36), .int (-1)]) (rest := []) ⟨hx, hb, hml, hown, hT⟩ (m_laysFlows l dC dI cy L kap pr S_32 H.size o (nI k_36) (-1) hTy hT_o) (cwV 2 hT (gV w1336 w1338 ws78 w14 w1339) rfl rfl rfl (by decide +kernel) ⟨(Nat.le_of_ble_eq_true rfl), (Nat.le_of_ble_eq_true rfl)⟩) ⟨pcN.blind, pl_recv hK hW hT_o.1 hS_o rfl, pcN.pre hW.1 hK hW.2.1 hN (fun q h => absurd h List.not_mem_nil)⟩ rfl rfl hl.1 rfl (lv_room (Nat.le_of_ble_eq_true rfl)) dX12_net_27 ⟨(Nat.le_of_ble_eq_true rfl), (Nat.le_of_ble_eq_true rfl)⟩) hW hA0 hA (fun S_37 H locs hrel hW => ?_)
      obtain ⟨hTy, hF1⟩ := hrel
      have hFr := hFr.tr hF1 (by decide)
      have hS_o := hF1.at hT_o (by decide) hS_o
      refine lv_ldc (v := 100000000) hx hb hown (hT _ w1355) dX12_net_30 ?_
      refine lv_iload_n hx hb dX12_net_32 rfl (lv_at hl 3 rfl) ?_
      refine lv_if_eq (tgt := 44) hx hb dX12_net_33 (by decide) (fun c_33 => ?_) (fun c_33 => ?_)
      · refine lv_aload_n hx hb dX12_net_44 rfl (lv_at hl 0 rfl) ?_
        refine lv_iload_n hx hb dX12_net_45 rfl (lv_at hl 1 rfl) ?_
        refine lv_iload_n hx hb dX12_net_46 rfl (lv_at hl 2 rfl) ?_
        refine lv_iconst (v := 0) hx hb dX12_net_47 (by decide) ?_
        refine vp_callSi (va_Run.run (va_runV (As := [.int (nI k_34), .int (nI k_36), .int 0]) (rest := [.int 100000000]) ⟨hx, hb, hml, hown, hT⟩ (m_amounts l dC dI cy L kap pr S_37 H.size o (nI k_34) (nI k_36) 0 hTy hT_o (by omega)) (cwV 3 hT (gV w1360 w1362 ws82 w14 w1363) rfl rfl rfl (by decide +kernel) ⟨(Nat.le_of_ble_eq_true rfl), (Nat.le_of_ble_eq_true rfl)⟩) ⟨pcN.blind, pl_recv hK hW hT_o.1 hS_o rfl, pcN.pre hW.1 hK hW.2.1 hN (fun q h => absurd h List.not_mem_nil)⟩ rfl rfl hl.1 rfl (lv_room (Nat.le_of_ble_eq_true rfl)) dX12_net_48 ⟨(Nat.le_of_ble_eq_true rfl), (Nat.le_of_ble_eq_true rfl)⟩)) (fun r_38 hr_38 => ?_)
        refine lv_aload_n hx hb dX12_net_51 rfl (lv_at hl 0 rfl) ?_
        refine lv_iload_n hx hb dX12_net_52 rfl (lv_at hl 1 rfl) ?_
        refine lv_iload_n hx hb dX12_net_53 rfl (lv_at hl 2 rfl) ?_
        refine lv_iconst (v := 1) hx hb dX12_net_54 (by decide) ?_
        refine vp_callSi (va_Run.run (va_runV (As := [.int (nI k_34), .int (nI k_36), .int 1]) (rest := [.int r_38, .int 100000000]) ⟨hx, hb, hml, hown, hT⟩ (m_amounts l dC dI cy L kap pr S_37 H.size o (nI k_34) (nI k_36) 1 hTy hT_o (by omega)) (cwV 3 hT (gV w1360 w1362 ws82 w14 w1363) rfl rfl rfl (by decide +kernel) ⟨(Nat.le_of_ble_eq_true rfl), (Nat.le_of_ble_eq_true rfl)⟩) ⟨pcN.blind, pl_recv hK hW hT_o.1 hS_o rfl, pcN.pre hW.1 hK hW.2.1 hN (fun q h => absurd h List.not_mem_nil)⟩ rfl rfl hl.1 rfl (lv_room (Nat.le_of_ble_eq_true rfl)) dX12_net_55 ⟨(Nat.le_of_ble_eq_true rfl), (Nat.le_of_ble_eq_true rfl)⟩)) (fun r_39 hr_39 => ?_)
        refine lv_isub hx hb dX12_net_58 ?_
        refine lv_topi (fun z_40 ez_40 => ?_)
        refine lv_iadd hx hb dX12_net_59 ?_
        refine lv_topi (fun z_41 ez_41 => ?_)
        exact W.iret (v := z_41) hx hb hr (fun t ht h9 => ⟨⟨z_41, S_37, rfl, ⟨hTy, hFr⟩, by rw [ht]; exact hW.1, va_K.moved h9.alike hK, hW.2.1⟩, hW.2.2.F ht⟩) hW.2.2.2.2 dX12_net_60
      · refine lv_aload_n hx hb dX12_net_36 rfl (lv_at hl 0 rfl) ?_
        refine lv_iload_n hx hb dX12_net_37 rfl (lv_at hl 1 rfl) ?_
        refine vp_callSi (va_Run.run (va_runV (As := [.int (nI k_34)]) (rest := [.int 100000000]) ⟨hx, hb, hml, hown, hT⟩ (m_netBy l dC dI cy L kap pr S_37 H.size o k_34 hTy hT_o (by omega)) (cwV 1 hT (gV w1356 w1358 ws81 w14 w1359) rfl rfl rfl (by decide +kernel) ⟨(Nat.le_of_ble_eq_true rfl), (Nat.le_of_ble_eq_true rfl)⟩) ⟨pcN.blind, pl_recv hK hW hT_o.1 hS_o rfl, pcN.pre hW.1 hK hW.2.1 hN (fun q h => absurd h List.not_mem_nil)⟩ rfl rfl hl.1 rfl (lv_room (Nat.le_of_ble_eq_true rfl)) dX12_net_38 ⟨(Nat.le_of_ble_eq_true rfl), (Nat.le_of_ble_eq_true rfl)⟩)) (fun r_42 hr_42 => ?_)
        refine lv_goto (tgt := 59) hx hb dX12_net_41 (by decide) ?_
        refine lv_iadd hx hb dX12_net_59 ?_
        refine lv_topi (fun z_43 ez_43 => ?_)
        exact W.iret (v := z_43) hx hb hr (fun t ht h9 => ⟨⟨z_43, S_37, rfl, ⟨hTy, hFr⟩, by rw [ht]; exact hW.1, va_K.moved h9.alike hK, hW.2.1⟩, hW.2.2.F ht⟩) hW.2.2.2.2 dX12_net_60

set_option maxHeartbeats 4000000 in
set_option maxRecDepth 100000 in
theorem m_side (l : Launch) (dC : Nat → ClassId) (dI : Nat → Nat → Nat) (cy : Nat → ClassId) (L : List Nat) (kap : Nat → Nat) (pr : Pr) (S : Nat → va_E) (sz : Nat) (o : Nat) (pa : Int32) (kd : Int32) (wh : Int32) (hTy : Ty cy L kap pr S) (hT_o : TK L kap o 12) : Met l yX12_side (wT yX12_side cX12_side 6 (some .int)) ({ frames := 2, cells := 0, slots := 0, locals := 47 }) (pcN dC dI [.ref o, .int pa, .int kd, .int wh] sz (va_pl L S) (cyT cy) NLs []) (va_Qi (fun r S' => Ty cy L kap pr S' ∧ Fr kap [12] S S') (fun S' t => pB dC dI (AL L sz) (va_pl L S') (cyT cy) t) (AL L sz)) 0 0 (AL L sz) := by
  refine Met.ofW (cc := cX12_side) (maxL := 6) (ret := (some .int)) (by decide) rfl ?_
  intro p e s m args below meth c s₁ B hml hv
  obtain ⟨rfl, hsz, hP, hK, hD0, hN, -⟩ := hv
  have hx := B.exec
  have hb := B.bytes
  have hr := B.returns
  have hT : ∀ wd ∈ TB, wd.before [.ref o, .int pa, .int kd, .int wh].toArray s = true := fun wd h => atoms_spec (ws := wT yX12_side cX12_side 6 (some .int)) B.pre wd (List.mem_cons_of_mem _ h)
  have hown : s.vm.findClass RX12 = some m.cls := findClass_of_methodNamed B.named
  have hlocks := B.notSynchronized
  subst hsz
  have hW : PW dC dI L (AL L s.heap.size) s.heap S s.heap [] := ⟨hP, pl_self hD0, va_S.rf⟩
  have hA0 : ∀ q, q ∈ L → AL L s.heap.size q := fun _ h => Or.inl h
  have hA : ∀ q, s.heap.size ≤ q → AL L s.heap.size q := fun _ h => Or.inr h
  have hFr : Fr kap [12] S S := Fr.rf
  have hl := lv_entry ([.ref o, .int pa, .int kd, .int wh]) (n := 6) (Nat.le_of_ble_eq_true rfl)
  rw [lg_entry_eq]
  generalize (lg_sl ([.ref o, .int pa, .int kd, .int wh]) ++ List.replicate (6 - (lg_sl ([.ref o, .int pa, .int kd, .int wh])).length) Slot.unset).toArray = ls at hl ⊢
  have hl : lv_has ls 6 [(0, .ref o), (1, .int pa), (2, .int kd), (3, .int wh)] := hl
  refine lv_aload_n hx hb dX12_side_0 rfl (lv_at hl 0 rfl) ?_
  refine lv_iconst (v := 0) hx hb dX12_side_1 (by decide) ?_
  obtain ⟨x_1, x_2, x_3, x_4, x_5, x_6, x_7, x_8, x_9, x_10, x_11, x_12, x_13, x_14, x_15, x_16, x_17, x_18, x_19, x_20, x_21, x_22, x_23, x_24, x_25, x_26, x_27, x_28, x_29, x_30, x_31, hS_o, hT_x_1, hT_x_2, hT_x_3, hT_x_4, hT_x_5, hb_x_6, hb_x_7, hb_x_8, hT_x_10, hb_q2, hb_x_11, hb_x_12, hT_x_17, hT_x_18, hb_x_19, hT_x_20, hT_x_21, hT_x_22, hT_x_23, hT_x_24, hT_x_25, hT_x_26, hT_x_27, hT_x_28, hT_x_29, hT_x_30, hb_x_31⟩ := hTy.k12 hT_o
  have hb_q2 : pr.2 ≤ 900 := hb_q2
  have hS_o : S o = .inr (12, [.ref x_1, .ref x_2, .ref x_3, .ref x_4, .ref x_5, .int (nI x_6), .int (nI x_7), .int (nI x_8), .int x_9, .ref x_10, .int (nI (pr.2)), .int (nI x_11), .int (nI x_12), .int x_13, .int x_14, .int x_15, .int x_16, .ref x_17, .ref x_18, .int (nI x_19), .ref x_20, .ref x_21, .ref x_22, .ref x_23, .ref x_24, .ref x_25, .ref x_26, .ref x_27, .ref x_28, .ref x_29, .ref x_30, .int (nI x_31)]) := hS_o
  refine pl_put (ci := 12) (v := .int 0) (ty := .int) (C := RX12) (T := TX12) (N := 32) (fs' := [.ref x_1, .ref x_2, .ref x_3, .ref x_4, .ref x_5, .int (nI x_6), .int (nI x_7), .int (nI x_8), .int 0, .ref x_10, .int (nI (pr.2)), .int (nI x_11), .int (nI x_12), .int x_13, .int x_14, .int x_15, .int x_16, .ref x_17, .ref x_18, .int (nI x_19), .ref x_20, .ref x_21, .ref x_22, .ref x_23, .ref x_24, .ref x_25, .ref x_26, .ref x_27, .ref x_28, .ref x_29, .ref x_30, .int (nI x_31)]) hx hb hT iX12 tyX12 tyX12_ok nmX12 hown hK hW hT_o.1 hS_o rfl 8 (by decide) w1090 rfl (by decide +kernel) rfl rfl (Nat.le_of_ble_eq_true rfl) rfl dX12_side_2 (fun H locs S_32 e1 hW => ?_)
  have hTy := hTy.u12 e1 hT_o ⟨x_1, x_2, x_3, x_4, x_5, x_6, x_7, x_8, 0, x_10, x_11, x_12, x_13, x_14, x_15, x_16, x_17, x_18, x_19, x_20, x_21, x_22, x_23, x_24, x_25, x_26, x_27, x_28, x_29, x_30, x_31, rfl, hT_x_1, hT_x_2, hT_x_3, hT_x_4, hT_x_5, (by omega), (by omega), (by omega), hT_x_10, (by show pr.2 ≤ 900; omega), (by omega), (by omega), hT_x_17, hT_x_18, (by omega), hT_x_20, hT_x_21, hT_x_22, hT_x_23, hT_x_24, hT_x_25, hT_x_26, hT_x_27, hT_x_28, hT_x_29, hT_x_30, (by omega)⟩
  have hws := (show wrs (.inr (12, [.ref x_1, .ref x_2, .ref x_3, .ref x_4, .ref x_5, .int (nI x_6), .int (nI x_7), .int (nI x_8), .int 0, .ref x_10, .int (nI (pr.2)), .int (nI x_11), .int (nI x_12), .int x_13, .int x_14, .int x_15, .int x_16, .ref x_17, .ref x_18, .int (nI x_19), .ref x_20, .ref x_21, .ref x_22, .ref x_23, .ref x_24, .ref x_25, .ref x_26, .ref x_27, .ref x_28, .ref x_29, .ref x_30, .int (nI x_31)])) = wrs (S o) from by rw [hS_o]; rfl)
  have hFr := ufs hFr e1 hT_o (by decide) hws
  have hS_o := us e1
  refine lv_aload_n hx hb dX12_side_5 rfl (lv_at hl 0 rfl) ?_
  refine lv_iload_n hx hb dX12_side_6 rfl (lv_at hl 1 rfl) ?_
  refine vp_callSi (va_Run.run (va_runV (As := [.int pa]) (rest := []) ⟨hx, hb, hml, hown, hT⟩ (m_isParty l dC dI cy L kap pr S_32 H.size o pa hTy hT_o) (cwV 1 hT (gV w1284 w1286 ws73 w14 w1287) rfl rfl rfl (by decide +kernel) ⟨(Nat.le_of_ble_eq_true rfl), (Nat.le_of_ble_eq_true rfl)⟩) ⟨pcN.blind, pl_recv hK hW hT_o.1 hS_o rfl, pcN.pre hW.1 hK hW.2.1 hN (fun q h => absurd h List.not_mem_nil)⟩ rfl rfl hl.1 rfl (lv_room (Nat.le_of_ble_eq_true rfl)) dX12_side_7 ⟨(Nat.le_of_ble_eq_true rfl), (Nat.le_of_ble_eq_true rfl)⟩)) (fun r_33 hr_33 => ?_)
  rcases hr_33 with hc_ | hc_
  · obtain rfl : r_33 = 0 := hc_
    refine lv_if_eq (tgt := 33) hx hb dX12_side_10 (by decide) (fun _ => ?_) (fun h => absurd (by decide) h)
    refine lv_bipush (v := (-2)) hx hb dX12_side_33 (by decide) ?_
    exact W.iret (v := (-2)) hx hb hr (fun t ht h9 => ⟨⟨(-2), S_32, rfl, ⟨hTy, hFr⟩, by rw [ht]; exact hW.1, va_K.moved h9.alike hK, hW.2.1⟩, hW.2.2.F ht⟩) hW.2.2.2.2 dX12_side_35
  · obtain ⟨rfl, k_34, hb_k_34, rfl⟩ := hc_
    refine lv_if_eq (tgt := 33) hx hb dX12_side_10 (by decide) (fun h => absurd h (by decide)) (fun _ => ?_)
    refine lv_aload_n hx hb dX12_side_13 rfl (lv_at hl 0 rfl) ?_
    refine lv_iload_n hx hb dX12_side_14 rfl (lv_at hl 2 rfl) ?_
    refine vp_callSi (va_Run.run (va_runV (As := [.int kd]) (rest := []) ⟨hx, hb, hml, hown, hT⟩ (m_isKind l dC dI cy L kap pr S_32 H.size o kd hTy hT_o) (cwV 1 hT (gV w1288 w1290 ws74 w14 w1291) rfl rfl rfl (by decide +kernel) ⟨(Nat.le_of_ble_eq_true rfl), (Nat.le_of_ble_eq_true rfl)⟩) ⟨pcN.blind, pl_recv hK hW hT_o.1 hS_o rfl, pcN.pre hW.1 hK hW.2.1 hN (fun q h => absurd h List.not_mem_nil)⟩ rfl rfl hl.1 rfl (lv_room (Nat.le_of_ble_eq_true rfl)) dX12_side_15 ⟨(Nat.le_of_ble_eq_true rfl), (Nat.le_of_ble_eq_true rfl)⟩)) (fun r_35 hr_35 => ?_)
    rcases hr_35 with hc_ | hc_
    · obtain rfl : r_35 = 0 := hc_
      refine lv_if_eq (tgt := 33) hx hb dX12_side_18 (by decide) (fun _ => ?_) (fun h => absurd (by decide) h)
      refine lv_bipush (v := (-2)) hx hb dX12_side_33 (by decide) ?_
      exact W.iret (v := (-2)) hx hb hr (fun t ht h9 => ⟨⟨(-2), S_32, rfl, ⟨hTy, hFr⟩, by rw [ht]; exact hW.1, va_K.moved h9.alike hK, hW.2.1⟩, hW.2.2.F ht⟩) hW.2.2.2.2 dX12_side_35
    · obtain ⟨rfl, k_36, hb_k_36, rfl⟩ := hc_
      refine lv_if_eq (tgt := 33) hx hb dX12_side_18 (by decide) (fun h => absurd h (by decide)) (fun _ => ?_)
      refine lv_iload_n hx hb dX12_side_21 rfl (lv_at hl 3 rfl) ?_
      refine lv_i2l hx hb dX12_side_22 rfl ?_
      refine lv_topl (fun z_37 ez_37 => ?_)
      refine lv_lconst (v := 0) hx hb dX12_side_23 (by decide) ?_
      refine lv_ldc2 (v := 2) hx hb hown (hT _ w1368) dX12_side_24 ?_
      refine vp_callSi (va_Run.run (va_runS (As := [.long z_37, .long 0, .long 2]) (rest := []) ⟨hx, hb, hml, hown, hT⟩ (m_isIn l dC dI H.size z_37 0 2) (va_cwS 3 hT (gS w1187 w1188 w14 w1189) rfl rfl rfl (by decide +kernel) ⟨(Nat.le_of_ble_eq_true rfl), (Nat.le_of_ble_eq_true rfl)⟩) ⟨pcW.blind, pcW.pre (va_P0 _ _ _) (hK.sub (tys' := []) [] rfl) (va_D0 (fun _ => True))⟩ rfl rfl hl.1 rfl (lv_room (Nat.le_of_ble_eq_true rfl)) dX12_side_27 ⟨(Nat.le_of_ble_eq_true rfl), (Nat.le_of_ble_eq_true rfl)⟩)) (fun r_38 hr_38 => ?_)
      rcases isInc hr_38 with hc_ | hc_
      · obtain ⟨rfl, hin_⟩ := hc_
        obtain ⟨k_39, hb_k_39, rfl⟩ := inK (H := 2) ez_37 hin_ (by decide) (by decide)
        refine lv_if_ne (tgt := 36) hx hb dX12_side_30 (by decide) (fun _ => ?_) (fun h => absurd h (by decide))
        refine lv_iload_n hx hb dX12_side_36 rfl (lv_at hl 3 rfl) ?_
        refine lv_iconst (v := 2) hx hb dX12_side_37 (by decide) ?_
        refine lv_icmp_ge (tgt := 49) hx hb dX12_side_38 (by decide) (fun c_38 => ?_) (fun c_38 => ?_)
        · have c_38 : 2 ≤ k_39 := (nI_leI (a := 2) (b := k_39) (by omega) (by omega)).mp c_38
          refine lv_iconst (v := 0) hx hb dX12_side_49 (by decide) ?_
          refine lv_istore (lv' := [(4, .int 0), (0, .ref o), (1, .int (nI k_34)), (2, .int (nI k_36)), (3, .int (nI k_39))]) hx hb dX12_side_50 hl (by decide) rfl (fun ls hl => ?_)
          refine lv_iconst (v := 0) hx hb dX12_side_52 (by decide) ?_
          refine lv_istore (lv' := [(5, .int 0), (4, .int 0), (0, .ref o), (1, .int (nI k_34)), (2, .int (nI k_36)), (3, .int (nI k_39))]) hx hb dX12_side_53 hl (by decide) rfl (fun ls hl => ?_)
          have loop : ∀ (fuel : Nat) (i : Nat) (st : Int32) (SS : Nat → va_E) (H : Heap) (locs : List Loc) (ls : Array Slot), 41 - i < fuel → (i ≤ 40) → Ty cy L kap pr SS → Fr kap [12] S SS → Fr kap [] S_32 SS → PW dC dI L (AL L s.heap.size) s.heap SS H locs → lv_has ls 6 [(5, .int (nI i)), (4, .int st), (0, .ref o), (1, .int (nI k_34)), (2, .int (nI k_36)), (3, .int (nI k_39))] → W p l e (headSpec (wT yX12_side cX12_side 6 (some .int)) { frames := 2, cells := 0, slots := 0, locals := 47 }).room s m [.ref o, .int (nI k_34), .int (nI k_36), .int (nI k_39)].toArray below meth c H locs 0 0 (MQ below (va_Qi (fun r S' => Ty cy L kap pr S' ∧ Fr kap [12] S S') (fun S' t => pB dC dI (AL L s.heap.size) (va_pl L S') (cyT cy) t) (AL L s.heap.size)) [.ref o, .int (nI k_34), .int (nI k_36), .int (nI k_39)].toArray s 0 0 (AL L s.heap.size)) (F0 m 55 ls []) := by
            intro fuel
            induction fuel with
            | zero => intro i st SS H locs ls h; exact absurd h (Nat.not_lt_zero _)
            | succ fu55 ih55 =>
              intro i st S_40 H locs ls hm55 hb_i hTy hFr hFl55 hW hl
              have hS_o := hFl55.at hT_o (by decide) hS_o
              refine lv_iload hx hb dX12_side_55 (lv_at hl 0 rfl) ?_
              refine lv_aload_n hx hb dX12_side_57 rfl (lv_at hl 2 rfl) ?_
              refine pl_get (ci := 12) (v := .ref x_1) (C := RX12) (T := TX12) (N := 32) hx hb hT iX12 hown hK hW hT_o.1 hS_o rfl 0 (by decide) w1082 rfl dX12_side_58 ?_
              refine lv_iconst (v := 0) hx hb dX12_side_61 (by decide) ?_
              obtain ⟨f_41, hS_x_1, hi_f_41⟩ := hTy.k50 hT_x_1
              refine pl_iald hx hb hK hW hT_x_1.1 hS_x_1 (vp_in_nI (n := 0) (N := 266) (by omega) (by omega)) dX12_side_62 ?_
              refine lv_topi (fun y_42 ey_42 => ?_)
              have hv_y_42 : okS (0) y_42 := by rw [ey_42]; show okS _ (f_41 (nI (0)).toNatClampNeg); rw [nI_clamp (by omega)]; exact hi_f_41 (0) (by omega)
              obtain ⟨k_43, hb_k_43, hq_k_43⟩ := hv_y_42.1 rfl
              obtain rfl : y_42 = nI k_43 := hq_k_43
              refine lv_icmp_ge (tgt := 117) hx hb dX12_side_63 (by decide) (fun c_63 => ?_) (fun c_63 => ?_)
              · have c_63 : k_43 ≤ i := (nI_leI (a := k_43) (b := i) (by omega) (by omega)).mp c_63
                refine lv_iload hx hb dX12_side_117 (lv_at hl 1 rfl) ?_
                refine vp_callSi (va_Run.run (va_runS (As := [.int st]) (rest := []) ⟨hx, hb, hml, hown, hT⟩ (s_bitCount l dC dI H.size st) (va_cwS 1 hT (gS w1369 w883 w21 w884) rfl rfl rfl (by decide +kernel) ⟨(Nat.le_of_ble_eq_true rfl), (Nat.le_of_ble_eq_true rfl)⟩) ⟨pcW.blind, pcW.pre (va_P0 _ _ _) (hK.sub (tys' := []) [] rfl) (va_D0 (fun _ => True))⟩ rfl rfl hl.1 rfl (lv_room (Nat.le_of_ble_eq_true rfl)) dX12_side_119 ⟨(Nat.le_of_ble_eq_true rfl), (Nat.le_of_ble_eq_true rfl)⟩)) (fun r_44 hr_44 => ?_)
                exact W.iret (v := r_44) hx hb hr (fun t ht h9 => ⟨⟨r_44, S_40, rfl, ⟨hTy, hFr⟩, by rw [ht]; exact hW.1, va_K.moved h9.alike hK, hW.2.1⟩, hW.2.2.F ht⟩) hW.2.2.2.2 dX12_side_122
              · have c_63 : ¬ (k_43 ≤ i) := fun hh9 => c_63 ((nI_leI (a := k_43) (b := i) (by omega) (by omega)).mpr hh9)
                refine lv_aload_n hx hb dX12_side_66 rfl (lv_at hl 2 rfl) ?_
                refine lv_iload hx hb dX12_side_67 (lv_at hl 0 rfl) ?_
                refine lv_iconst (v := 3) hx hb dX12_side_69 (by decide) ?_
                refine vp_callSi (va_Run.run (va_runV (As := [.int (nI i), .int 3]) (rest := []) ⟨hx, hb, hml, hown, hT⟩ (m_tradeAt l dC dI cy L kap pr S_40 H.size o i 3 hTy hT_o (by omega) (by omega)) (cwV 2 hT (gV w1247 w1249 ws66 w14 w1250) rfl rfl rfl (by decide +kernel) ⟨(Nat.le_of_ble_eq_true rfl), (Nat.le_of_ble_eq_true rfl)⟩) ⟨pcN.blind, pl_recv hK hW hT_o.1 hS_o rfl, pcN.pre hW.1 hK hW.2.1 hN (fun q h => absurd h List.not_mem_nil)⟩ rfl rfl hl.1 rfl (lv_room (Nat.le_of_ble_eq_true rfl)) dX12_side_70 ⟨(Nat.le_of_ble_eq_true rfl), (Nat.le_of_ble_eq_true rfl)⟩)) (fun r_45 hr_45 => ?_)
                obtain ⟨k_46, hb_k_46, rfl⟩ := hr_45.1.2.2 (by omega) (by omega) (by omega)
                refine lv_iload_n hx hb dX12_side_73 rfl (lv_at hl 4 rfl) ?_
                refine lv_icmp_ne (tgt := 111) hx hb dX12_side_74 (by decide) (fun c_74 => ?_) (fun c_74 => ?_)
                · have c_74 : ¬ (k_46 = k_36) := fun hh9 => c_74 ((nI_eq (a := k_46) (b := k_36) (by omega) (by omega)).mpr hh9)
                  refine lv_iinc (v := nI (i + 1)) (lv' := [(5, .int (nI (i + 1))), (4, .int st), (0, .ref o), (1, .int (nI k_34)), (2, .int (nI k_36)), (3, .int (nI k_39))]) hx hb dX12_side_111 hl (k := 0) rfl (nI_add (i) 1) (by decide) rfl (fun ls hl => ?_)
                  refine lv_goto (tgt := 55) hx hb dX12_side_114 (by decide) ?_
                  exact ih55 (i + 1) st _ _ _ ls (by omega) (by omega) hTy hFr hFl55 hW (lv_sub hl [0, 1, 2, 3, 4, 5] rfl)
                · have c_74 : k_46 = k_36 := (nI_eq (a := k_46) (b := k_36) (by omega) (by omega)).mp c_74
                  refine lv_aload_n hx hb dX12_side_77 rfl (lv_at hl 2 rfl) ?_
                  refine lv_iload hx hb dX12_side_78 (lv_at hl 0 rfl) ?_
                  refine lv_iload_n hx hb dX12_side_80 rfl (lv_at hl 3 rfl) ?_
                  refine vp_callSi (va_Run.run (va_runV (As := [.int (nI i), .int (nI k_34)]) (rest := []) ⟨hx, hb, hml, hown, hT⟩ (m_isOf l dC dI cy L kap pr S_40 H.size o i (nI k_34) hTy hT_o (by omega)) (cwV 2 hT (gV w1344 w1346 ws80 w14 w1347) rfl rfl rfl (by decide +kernel) ⟨(Nat.le_of_ble_eq_true rfl), (Nat.le_of_ble_eq_true rfl)⟩) ⟨pcN.blind, pl_recv hK hW hT_o.1 hS_o rfl, pcN.pre hW.1 hK hW.2.1 hN (fun q h => absurd h List.not_mem_nil)⟩ rfl rfl hl.1 rfl (lv_room (Nat.le_of_ble_eq_true rfl)) dX12_side_81 ⟨(Nat.le_of_ble_eq_true rfl), (Nat.le_of_ble_eq_true rfl)⟩)) (fun r_47 hr_47 => ?_)
                  refine lv_if_eq (tgt := 111) hx hb dX12_side_84 (by decide) (fun c_84 => ?_) (fun c_84 => ?_)
                  · refine lv_iinc (v := nI (i + 1)) (lv' := [(5, .int (nI (i + 1))), (4, .int st), (0, .ref o), (1, .int (nI k_34)), (2, .int (nI k_36)), (3, .int (nI k_39))]) hx hb dX12_side_111 hl (k := 0) rfl (nI_add (i) 1) (by decide) rfl (fun ls hl => ?_)
                    refine lv_goto (tgt := 55) hx hb dX12_side_114 (by decide) ?_
                    exact ih55 (i + 1) st _ _ _ ls (by omega) (by omega) hTy hFr hFl55 hW (lv_sub hl [0, 1, 2, 3, 4, 5] rfl)
                  · refine lv_iload hx hb dX12_side_87 (lv_at hl 1 rfl) ?_
                    refine lv_iconst (v := 1) hx hb dX12_side_89 (by decide) ?_
                    refine lv_aload_n hx hb dX12_side_90 rfl (lv_at hl 2 rfl) ?_
                    refine lv_iload hx hb dX12_side_91 (lv_at hl 0 rfl) ?_
                    refine lv_iconst (v := 0) hx hb dX12_side_93 (by decide) ?_
                    refine vp_callSi (va_Run.run (va_runV (As := [.int (nI i), .int 0]) (rest := [.int 1, .int st]) ⟨hx, hb, hml, hown, hT⟩ (m_tradeAt l dC dI cy L kap pr S_40 H.size o i 0 hTy hT_o (by omega) (by omega)) (cwV 2 hT (gV w1247 w1249 ws66 w14 w1250) rfl rfl rfl (by decide +kernel) ⟨(Nat.le_of_ble_eq_true rfl), (Nat.le_of_ble_eq_true rfl)⟩) ⟨pcN.blind, pl_recv hK hW hT_o.1 hS_o rfl, pcN.pre hW.1 hK hW.2.1 hN (fun q h => absurd h List.not_mem_nil)⟩ rfl rfl hl.1 rfl (lv_room (Nat.le_of_ble_eq_true rfl)) dX12_side_94 ⟨(Nat.le_of_ble_eq_true rfl), (Nat.le_of_ble_eq_true rfl)⟩)) (fun r_48 hr_48 => ?_)
                    obtain ⟨k_49, hb_k_49, rfl⟩ := hr_48.1.2.1 (by omega) (by omega) (by omega)
                    refine lv_aload_n hx hb dX12_side_97 rfl (lv_at hl 2 rfl) ?_
                    refine lv_iload hx hb dX12_side_98 (lv_at hl 0 rfl) ?_
                    refine lv_iconst (v := 1) hx hb dX12_side_100 (by decide) ?_
                    refine vp_callSi (va_Run.run (va_runV (As := [.int (nI i), .int 1]) (rest := [.int (nI k_49), .int 1, .int st]) ⟨hx, hb, hml, hown, hT⟩ (m_tradeAt l dC dI cy L kap pr S_40 H.size o i 1 hTy hT_o (by omega) (by omega)) (cwV 2 hT (gV w1247 w1249 ws66 w14 w1250) rfl rfl rfl (by decide +kernel) ⟨(Nat.le_of_ble_eq_true rfl), (Nat.le_of_ble_eq_true rfl)⟩) ⟨pcN.blind, pl_recv hK hW hT_o.1 hS_o rfl, pcN.pre hW.1 hK hW.2.1 hN (fun q h => absurd h List.not_mem_nil)⟩ rfl rfl hl.1 rfl (lv_room (Nat.le_of_ble_eq_true rfl)) dX12_side_101 ⟨(Nat.le_of_ble_eq_true rfl), (Nat.le_of_ble_eq_true rfl)⟩)) (fun r_50 hr_50 => ?_)
                    obtain ⟨k_51, hb_k_51, rfl⟩ := hr_50.1.2.1 (by omega) (by omega) (by omega)
                    refine lv_iadd hx hb dX12_side_104 ?_
                    refine lv_topi (fun z_52 ez_52 => ?_)
                    obtain rfl : z_52 = nI (k_49 + k_51) := ez_52.trans (nI_add (k_49) (k_51))
                    refine lv_iload_n hx hb dX12_side_105 rfl (lv_at hl 3 rfl) ?_
                    refine lv_isub hx hb dX12_side_106 ?_
                    refine lv_topi (fun z_53 ez_53 => ?_)
                    refine lv_ishl hx hb dX12_side_107 ?_
                    refine lv_topi (fun z_54 ez_54 => ?_)
                    refine lv_ior hx hb dX12_side_108 ?_
                    refine lv_topi (fun z_55 ez_55 => ?_)
                    refine lv_istore (lv' := [(4, .int z_55), (5, .int (nI i)), (0, .ref o), (1, .int (nI k_34)), (2, .int (nI k_36)), (3, .int (nI k_39))]) hx hb dX12_side_109 hl (by decide) rfl (fun ls hl => ?_)
                    refine lv_iinc (v := nI (i + 1)) (lv' := [(5, .int (nI (i + 1))), (4, .int z_55), (0, .ref o), (1, .int (nI k_34)), (2, .int (nI k_36)), (3, .int (nI k_39))]) hx hb dX12_side_111 hl (k := 1) rfl (nI_add (i) 1) (by decide) rfl (fun ls hl => ?_)
                    refine lv_goto (tgt := 55) hx hb dX12_side_114 (by decide) ?_
                    exact ih55 (i + 1) z_55 _ _ _ ls (by omega) (by omega) hTy hFr hFl55 hW (lv_sub hl [0, 1, 2, 3, 4, 5] rfl)
          exact loop ((41 - 0) + 1) 0 0 _ _ _ ls (Nat.lt_succ_self _) (by omega) hTy hFr Fr.rf hW (lv_sub hl [0, 1, 2, 3, 4, 5] rfl)
        · have c_38 : ¬ (2 ≤ k_39) := fun hh9 => c_38 ((nI_leI (a := 2) (b := k_39) (by omega) (by omega)).mpr hh9)
          refine lv_aload_n hx hb dX12_side_41 rfl (lv_at hl 0 rfl) ?_
          refine lv_iload_n hx hb dX12_side_42 rfl (lv_at hl 1 rfl) ?_
          refine lv_iload_n hx hb dX12_side_43 rfl (lv_at hl 2 rfl) ?_
          refine lv_iload_n hx hb dX12_side_44 rfl (lv_at hl 3 rfl) ?_
          refine vp_callSi (va_Run.run (va_runV (As := [.int (nI k_34), .int (nI k_36), .int (nI k_39)]) (rest := []) ⟨hx, hb, hml, hown, hT⟩ (m_amounts l dC dI cy L kap pr S_32 H.size o (nI k_34) (nI k_36) k_39 hTy hT_o (by omega)) (cwV 3 hT (gV w1360 w1362 ws82 w14 w1363) rfl rfl rfl (by decide +kernel) ⟨(Nat.le_of_ble_eq_true rfl), (Nat.le_of_ble_eq_true rfl)⟩) ⟨pcN.blind, pl_recv hK hW hT_o.1 hS_o rfl, pcN.pre hW.1 hK hW.2.1 hN (fun q h => absurd h List.not_mem_nil)⟩ rfl rfl hl.1 rfl (lv_room (Nat.le_of_ble_eq_true rfl)) dX12_side_45 ⟨(Nat.le_of_ble_eq_true rfl), (Nat.le_of_ble_eq_true rfl)⟩)) (fun r_56 hr_56 => ?_)
          exact W.iret (v := r_56) hx hb hr (fun t ht h9 => ⟨⟨r_56, S_32, rfl, ⟨hTy, hFr⟩, by rw [ht]; exact hW.1, va_K.moved h9.alike hK, hW.2.1⟩, hW.2.2.F ht⟩) hW.2.2.2.2 dX12_side_48
      · obtain ⟨rfl, hin_⟩ := hc_
        refine lv_if_ne (tgt := 36) hx hb dX12_side_30 (by decide) (fun h => absurd (by decide) h) (fun _ => ?_)
        refine lv_bipush (v := (-2)) hx hb dX12_side_33 (by decide) ?_
        exact W.iret (v := (-2)) hx hb hr (fun t ht h9 => ⟨⟨(-2), S_32, rfl, ⟨hTy, hFr⟩, by rw [ht]; exact hW.1, va_K.moved h9.alike hK, hW.2.1⟩, hW.2.2.F ht⟩) hW.2.2.2.2 dX12_side_35

set_option maxHeartbeats 4000000 in
set_option maxRecDepth 100000 in
theorem m_total (l : Launch) (dC : Nat → ClassId) (dI : Nat → Nat → Nat) (cy : Nat → ClassId) (L : List Nat) (kap : Nat → Nat) (pr : Pr) (S : Nat → va_E) (sz : Nat) (o : Nat) (kd : Int32) (wh : Int32) (hTy : Ty cy L kap pr S) (hT_o : TK L kap o 12) : Met l yX12_total (wT yX12_total cX12_total 5 (some .int)) ({ frames := 3, cells := 0, slots := 0, locals := 67 }) (pcN dC dI [.ref o, .int kd, .int wh] sz (va_pl L S) (cyT cy) NLs []) (va_Qi (fun r S' => Ty cy L kap pr S' ∧ Fr kap [12, 56] S S') (fun S' t => pB dC dI (AL L sz) (va_pl L S') (cyT cy) t) (AL L sz)) 0 0 (AL L sz) := by
  refine Met.ofW (cc := cX12_total) (maxL := 5) (ret := (some .int)) (by decide) rfl ?_
  intro p e s m args below meth c s₁ B hml hv
  obtain ⟨rfl, hsz, hP, hK, hD0, hN, -⟩ := hv
  have hx := B.exec
  have hb := B.bytes
  have hr := B.returns
  have hT : ∀ wd ∈ TB, wd.before [.ref o, .int kd, .int wh].toArray s = true := fun wd h => atoms_spec (ws := wT yX12_total cX12_total 5 (some .int)) B.pre wd (List.mem_cons_of_mem _ h)
  have hown : s.vm.findClass RX12 = some m.cls := findClass_of_methodNamed B.named
  have hlocks := B.notSynchronized
  subst hsz
  have hW : PW dC dI L (AL L s.heap.size) s.heap S s.heap [] := ⟨hP, pl_self hD0, va_S.rf⟩
  have hA0 : ∀ q, q ∈ L → AL L s.heap.size q := fun _ h => Or.inl h
  have hA : ∀ q, s.heap.size ≤ q → AL L s.heap.size q := fun _ h => Or.inr h
  have hFr : Fr kap [12, 56] S S := Fr.rf
  have hl := lv_entry ([.ref o, .int kd, .int wh]) (n := 5) (Nat.le_of_ble_eq_true rfl)
  rw [lg_entry_eq]
  generalize (lg_sl ([.ref o, .int kd, .int wh]) ++ List.replicate (5 - (lg_sl ([.ref o, .int kd, .int wh])).length) Slot.unset).toArray = ls at hl ⊢
  have hl : lv_has ls 5 [(0, .ref o), (1, .int kd), (2, .int wh)] := hl
  refine lv_aload_n hx hb dX12_total_0 rfl (lv_at hl 0 rfl) ?_
  refine lv_iconst (v := 0) hx hb dX12_total_1 (by decide) ?_
  obtain ⟨x_1, x_2, x_3, x_4, x_5, x_6, x_7, x_8, x_9, x_10, x_11, x_12, x_13, x_14, x_15, x_16, x_17, x_18, x_19, x_20, x_21, x_22, x_23, x_24, x_25, x_26, x_27, x_28, x_29, x_30, x_31, hS_o, hT_x_1, hT_x_2, hT_x_3, hT_x_4, hT_x_5, hb_x_6, hb_x_7, hb_x_8, hT_x_10, hb_q2, hb_x_11, hb_x_12, hT_x_17, hT_x_18, hb_x_19, hT_x_20, hT_x_21, hT_x_22, hT_x_23, hT_x_24, hT_x_25, hT_x_26, hT_x_27, hT_x_28, hT_x_29, hT_x_30, hb_x_31⟩ := hTy.k12 hT_o
  have hb_q2 : pr.2 ≤ 900 := hb_q2
  have hS_o : S o = .inr (12, [.ref x_1, .ref x_2, .ref x_3, .ref x_4, .ref x_5, .int (nI x_6), .int (nI x_7), .int (nI x_8), .int x_9, .ref x_10, .int (nI (pr.2)), .int (nI x_11), .int (nI x_12), .int x_13, .int x_14, .int x_15, .int x_16, .ref x_17, .ref x_18, .int (nI x_19), .ref x_20, .ref x_21, .ref x_22, .ref x_23, .ref x_24, .ref x_25, .ref x_26, .ref x_27, .ref x_28, .ref x_29, .ref x_30, .int (nI x_31)]) := hS_o
  refine pl_put (ci := 12) (v := .int 0) (ty := .int) (C := RX12) (T := TX12) (N := 32) (fs' := [.ref x_1, .ref x_2, .ref x_3, .ref x_4, .ref x_5, .int (nI x_6), .int (nI x_7), .int (nI x_8), .int 0, .ref x_10, .int (nI (pr.2)), .int (nI x_11), .int (nI x_12), .int x_13, .int x_14, .int x_15, .int x_16, .ref x_17, .ref x_18, .int (nI x_19), .ref x_20, .ref x_21, .ref x_22, .ref x_23, .ref x_24, .ref x_25, .ref x_26, .ref x_27, .ref x_28, .ref x_29, .ref x_30, .int (nI x_31)]) hx hb hT iX12 tyX12 tyX12_ok nmX12 hown hK hW hT_o.1 hS_o rfl 8 (by decide) w1090 rfl (by decide +kernel) rfl rfl (Nat.le_of_ble_eq_true rfl) rfl dX12_total_2 (fun H locs S_32 e1 hW => ?_)
  have hTy := hTy.u12 e1 hT_o ⟨x_1, x_2, x_3, x_4, x_5, x_6, x_7, x_8, 0, x_10, x_11, x_12, x_13, x_14, x_15, x_16, x_17, x_18, x_19, x_20, x_21, x_22, x_23, x_24, x_25, x_26, x_27, x_28, x_29, x_30, x_31, rfl, hT_x_1, hT_x_2, hT_x_3, hT_x_4, hT_x_5, (by omega), (by omega), (by omega), hT_x_10, (by show pr.2 ≤ 900; omega), (by omega), (by omega), hT_x_17, hT_x_18, (by omega), hT_x_20, hT_x_21, hT_x_22, hT_x_23, hT_x_24, hT_x_25, hT_x_26, hT_x_27, hT_x_28, hT_x_29, hT_x_30, (by omega)⟩
  have hws := (show wrs (.inr (12, [.ref x_1, .ref x_2, .ref x_3, .ref x_4, .ref x_5, .int (nI x_6), .int (nI x_7), .int (nI x_8), .int 0, .ref x_10, .int (nI (pr.2)), .int (nI x_11), .int (nI x_12), .int x_13, .int x_14, .int x_15, .int x_16, .ref x_17, .ref x_18, .int (nI x_19), .ref x_20, .ref x_21, .ref x_22, .ref x_23, .ref x_24, .ref x_25, .ref x_26, .ref x_27, .ref x_28, .ref x_29, .ref x_30, .int (nI x_31)])) = wrs (S o) from by rw [hS_o]; rfl)
  have hFr := ufs hFr e1 hT_o (by decide) hws
  have hS_o := us e1
  refine lv_aload_n hx hb dX12_total_5 rfl (lv_at hl 0 rfl) ?_
  refine lv_iload_n hx hb dX12_total_6 rfl (lv_at hl 1 rfl) ?_
  refine vp_callSi (va_Run.run (va_runV (As := [.int kd]) (rest := []) ⟨hx, hb, hml, hown, hT⟩ (m_isKind l dC dI cy L kap pr S_32 H.size o kd hTy hT_o) (cwV 1 hT (gV w1288 w1290 ws74 w14 w1291) rfl rfl rfl (by decide +kernel) ⟨(Nat.le_of_ble_eq_true rfl), (Nat.le_of_ble_eq_true rfl)⟩) ⟨pcN.blind, pl_recv hK hW hT_o.1 hS_o rfl, pcN.pre hW.1 hK hW.2.1 hN (fun q h => absurd h List.not_mem_nil)⟩ rfl rfl hl.1 rfl (lv_room (Nat.le_of_ble_eq_true rfl)) dX12_total_7 ⟨(Nat.le_of_ble_eq_true rfl), (Nat.le_of_ble_eq_true rfl)⟩)) (fun r_33 hr_33 => ?_)
  rcases hr_33 with hc_ | hc_
  · obtain rfl : r_33 = 0 := hc_
    refine lv_if_eq (tgt := 25) hx hb dX12_total_10 (by decide) (fun _ => ?_) (fun h => absurd (by decide) h)
    refine lv_bipush (v := (-2)) hx hb dX12_total_25 (by decide) ?_
    exact W.iret (v := (-2)) hx hb hr (fun t ht h9 => ⟨⟨(-2), S_32, rfl, ⟨hTy, hFr⟩, by rw [ht]; exact hW.1, va_K.moved h9.alike hK, hW.2.1⟩, hW.2.2.F ht⟩) hW.2.2.2.2 dX12_total_27
  · obtain ⟨rfl, k_34, hb_k_34, rfl⟩ := hc_
    refine lv_if_eq (tgt := 25) hx hb dX12_total_10 (by decide) (fun h => absurd h (by decide)) (fun _ => ?_)
    refine lv_iload_n hx hb dX12_total_13 rfl (lv_at hl 2 rfl) ?_
    refine lv_i2l hx hb dX12_total_14 rfl ?_
    refine lv_topl (fun z_35 ez_35 => ?_)
    refine lv_lconst (v := 0) hx hb dX12_total_15 (by decide) ?_
    refine lv_ldc2 (v := 3) hx hb hown (hT _ w1317) dX12_total_16 ?_
    refine vp_callSi (va_Run.run (va_runS (As := [.long z_35, .long 0, .long 3]) (rest := []) ⟨hx, hb, hml, hown, hT⟩ (m_isIn l dC dI H.size z_35 0 3) (va_cwS 3 hT (gS w1187 w1188 w14 w1189) rfl rfl rfl (by decide +kernel) ⟨(Nat.le_of_ble_eq_true rfl), (Nat.le_of_ble_eq_true rfl)⟩) ⟨pcW.blind, pcW.pre (va_P0 _ _ _) (hK.sub (tys' := []) [] rfl) (va_D0 (fun _ => True))⟩ rfl rfl hl.1 rfl (lv_room (Nat.le_of_ble_eq_true rfl)) dX12_total_19 ⟨(Nat.le_of_ble_eq_true rfl), (Nat.le_of_ble_eq_true rfl)⟩)) (fun r_36 hr_36 => ?_)
    rcases isInc hr_36 with hc_ | hc_
    · obtain ⟨rfl, hin_⟩ := hc_
      obtain ⟨k_37, hb_k_37, rfl⟩ := inK (H := 3) ez_35 hin_ (by decide) (by decide)
      refine lv_if_ne (tgt := 28) hx hb dX12_total_22 (by decide) (fun _ => ?_) (fun h => absurd h (by decide))
      refine lv_aload_n hx hb dX12_total_28 rfl (lv_at hl 0 rfl) ?_
      refine lv_iload_n hx hb dX12_total_29 rfl (lv_at hl 1 rfl) ?_
      refine lv_iconst (v := (-1)) hx hb dX12_total_30 (by decide) ?_
      refine pl_callv (va_runV (As := [.int (nI k_34), .int (-1)]) (rest := []) ⟨hx, hb, hml, hown, hT⟩ (m_laysFlows l dC dI cy L kap pr S_32 H.size o (nI k_34) (-1) hTy hT_o) (cwV 2 hT (gV w1336 w1338 ws78 w14 w1339) rfl rfl rfl (by decide +kernel) ⟨(Nat.le_of_ble_eq_true rfl), (Nat.le_of_ble_eq_true rfl)⟩) ⟨pcN.blind, pl_recv hK hW hT_o.1 hS_o rfl, pcN.pre hW.1 hK hW.2.1 hN (fun q h => absurd h List.not_mem_nil)⟩ rfl rfl hl.1 rfl (lv_room (Nat.le_of_ble_eq_true rfl)) dX12_total_31 ⟨(Nat.le_of_ble_eq_true rfl), (Nat.le_of_ble_eq_true rfl)⟩) hW hA0 hA (fun S_38 H locs hrel hW => ?_)
      obtain ⟨hTy, hF1⟩ := hrel
      have hFr := hFr.tr hF1 (by decide)
      have hS_o := hF1.at hT_o (by decide) hS_o
      refine lv_iconst (v := 0) hx hb dX12_total_34 (by decide) ?_
      refine lv_istore_n (lv' := [(3, .int 0), (0, .ref o), (1, .int (nI k_34)), (2, .int (nI k_37))]) hx hb dX12_total_35 rfl hl (by decide) rfl (fun ls hl => ?_)
      refine lv_iload_n hx hb dX12_total_36 rfl (lv_at hl 3 rfl) ?_
      refine lv_if_ne (tgt := 45) hx hb dX12_total_37 (by decide) (fun c_37 => ?_) (fun c_37 => ?_)
      · have c_37 : ¬ (k_37 = 0) := fun hh9 => c_37 ((nI_eq (a := k_37) (b := 0) (by omega) (by omega)).mpr hh9)
        refine lv_iload_n hx hb dX12_total_45 rfl (lv_at hl 3 rfl) ?_
        refine lv_iconst (v := 2) hx hb dX12_total_46 (by decide) ?_
        refine lv_icmp_ne (tgt := 106) hx hb dX12_total_47 (by decide) (fun c_47 => ?_) (fun c_47 => ?_)
        · have c_47 : ¬ (k_37 = 2) := fun hh9 => c_47 ((nI_eq (a := k_37) (b := 2) (by omega) (by omega)).mpr hh9)
          refine lv_iload_n hx hb dX12_total_106 rfl (lv_at hl 3 rfl) ?_
          refine lv_iconst (v := 3) hx hb dX12_total_107 (by decide) ?_
          refine lv_icmp_ne (tgt := 151) hx hb dX12_total_108 (by decide) (fun c_108 => ?_) (fun c_108 => ?_)
          · have c_108 : ¬ (k_37 = 3) := fun hh9 => c_108 ((nI_eq (a := k_37) (b := 3) (by omega) (by omega)).mpr hh9)
            refine lv_iload_n hx hb dX12_total_151 rfl (lv_at hl 3 rfl) ?_
            refine lv_iconst (v := 1) hx hb dX12_total_152 (by decide) ?_
            refine lv_icmp_ne (tgt := 163) hx hb dX12_total_153 (by decide) (fun c_153 => ?_) (fun c_153 => ?_)
            · have c_153 : ¬ (k_37 = 1) := fun hh9 => c_153 ((nI_eq (a := k_37) (b := 1) (by omega) (by omega)).mpr hh9)
              refine lv_iload_n hx hb dX12_total_163 rfl (lv_at hl 0 rfl) ?_
              exact W.iret (v := 0) hx hb hr (fun t ht h9 => ⟨⟨0, S_38, rfl, ⟨hTy, hFr⟩, by rw [ht]; exact hW.1, va_K.moved h9.alike hK, hW.2.1⟩, hW.2.2.F ht⟩) hW.2.2.2.2 dX12_total_164
            · have c_153 : k_37 = 1 := (nI_eq (a := k_37) (b := 1) (by omega) (by omega)).mp c_153
              refine lv_aload_n hx hb dX12_total_156 rfl (lv_at hl 1 rfl) ?_
              refine vp_callSi (va_Run.run (va_runV (As := []) (rest := []) ⟨hx, hb, hml, hown, hT⟩ (m_positive l dC dI cy L kap pr S_38 H.size o hTy hT_o) (cwV 0 hT (gV w1378 w1380 ws84 w14 w1381) rfl rfl rfl (by decide +kernel) ⟨(Nat.le_of_ble_eq_true rfl), (Nat.le_of_ble_eq_true rfl)⟩) ⟨pcN.blind, pl_recv hK hW hT_o.1 hS_o rfl, pcN.pre hW.1 hK hW.2.1 hN (fun q h => absurd h List.not_mem_nil)⟩ rfl rfl hl.1 rfl (lv_room (Nat.le_of_ble_eq_true rfl)) dX12_total_157 ⟨(Nat.le_of_ble_eq_true rfl), (Nat.le_of_ble_eq_true rfl)⟩)) (fun r_39 hr_39 => ?_)
              refine lv_goto (tgt := 164) hx hb dX12_total_160 (by decide) ?_
              exact W.iret (v := r_39) hx hb hr (fun t ht h9 => ⟨⟨r_39, S_38, rfl, ⟨hTy, hFr⟩, by rw [ht]; exact hW.1, va_K.moved h9.alike hK, hW.2.1⟩, hW.2.2.F ht⟩) hW.2.2.2.2 dX12_total_164
          · have c_108 : k_37 = 3 := (nI_eq (a := k_37) (b := 3) (by omega) (by omega)).mp c_108
            refine lv_iconst (v := 0) hx hb dX12_total_111 (by decide) ?_
            refine lv_istore (lv' := [(4, .int 0), (3, .int 0), (0, .ref o), (1, .int (nI k_34)), (2, .int (nI k_37))]) hx hb dX12_total_112 hl (by decide) rfl (fun ls hl => ?_)
            have loop : ∀ (fuel : Nat) (i2 : Nat) (sm2 : Int32) (SS : Nat → va_E) (H : Heap) (locs : List Loc) (ls : Array Slot), 9 - i2 < fuel → (i2 ≤ 8) → Ty cy L kap pr SS → Fr kap [12, 56] S SS → Fr kap [] S_38 SS → PW dC dI L (AL L s.heap.size) s.heap SS H locs → lv_has ls 5 [(4, .int (nI i2)), (3, .int sm2), (0, .ref o), (1, .int (nI k_34)), (2, .int (nI k_37))] → W p l e (headSpec (wT yX12_total cX12_total 5 (some .int)) { frames := 3, cells := 0, slots := 0, locals := 67 }).room s m [.ref o, .int (nI k_34), .int (nI k_37)].toArray below meth c H locs 0 0 (MQ below (va_Qi (fun r S' => Ty cy L kap pr S' ∧ Fr kap [12, 56] S S') (fun S' t => pB dC dI (AL L s.heap.size) (va_pl L S') (cyT cy) t) (AL L s.heap.size)) [.ref o, .int (nI k_34), .int (nI k_37)].toArray s 0 0 (AL L s.heap.size)) (F0 m 114 ls []) := by
              intro fuel
              induction fuel with
              | zero => intro i2 sm2 SS H locs ls h; exact absurd h (Nat.not_lt_zero _)
              | succ fu114 ih114 =>
                intro i2 sm2 S_40 H locs ls hm114 hb_i2 hTy hFr hFl114 hW hl
                have hS_o := hFl114.at hT_o (by decide) hS_o
                refine lv_iload hx hb dX12_total_114 (lv_at hl 0 rfl) ?_
                refine lv_aload_n hx hb dX12_total_116 rfl (lv_at hl 2 rfl) ?_
                refine pl_get (ci := 12) (v := .int (nI x_6)) (C := RX12) (T := TX12) (N := 32) hx hb hT iX12 hown hK hW hT_o.1 hS_o rfl 5 (by decide) w1087 rfl dX12_total_117 ?_
                refine lv_icmp_ge (tgt := 151) hx hb dX12_total_120 (by decide) (fun c_120 => ?_) (fun c_120 => ?_)
                · have c_120 : x_6 ≤ i2 := (nI_leI (a := x_6) (b := i2) (by omega) (by omega)).mp c_120
                  refine lv_iload_n hx hb dX12_total_151 rfl (lv_at hl 4 rfl) ?_
                  refine lv_iconst (v := 1) hx hb dX12_total_152 (by decide) ?_
                  refine lv_icmp_ne (tgt := 163) hx hb dX12_total_153 (by decide) (fun c_153 => ?_) (fun c_153 => ?_)
                  · have c_153 : ¬ (k_37 = 1) := fun hh9 => c_153 ((nI_eq (a := k_37) (b := 1) (by omega) (by omega)).mpr hh9)
                    refine lv_iload_n hx hb dX12_total_163 rfl (lv_at hl 1 rfl) ?_
                    exact W.iret (v := sm2) hx hb hr (fun t ht h9 => ⟨⟨sm2, S_40, rfl, ⟨hTy, hFr⟩, by rw [ht]; exact hW.1, va_K.moved h9.alike hK, hW.2.1⟩, hW.2.2.F ht⟩) hW.2.2.2.2 dX12_total_164
                  · have c_153 : k_37 = 1 := (nI_eq (a := k_37) (b := 1) (by omega) (by omega)).mp c_153
                    refine lv_aload_n hx hb dX12_total_156 rfl (lv_at hl 2 rfl) ?_
                    refine vp_callSi (va_Run.run (va_runV (As := []) (rest := []) ⟨hx, hb, hml, hown, hT⟩ (m_positive l dC dI cy L kap pr S_40 H.size o hTy hT_o) (cwV 0 hT (gV w1378 w1380 ws84 w14 w1381) rfl rfl rfl (by decide +kernel) ⟨(Nat.le_of_ble_eq_true rfl), (Nat.le_of_ble_eq_true rfl)⟩) ⟨pcN.blind, pl_recv hK hW hT_o.1 hS_o rfl, pcN.pre hW.1 hK hW.2.1 hN (fun q h => absurd h List.not_mem_nil)⟩ rfl rfl hl.1 rfl (lv_room (Nat.le_of_ble_eq_true rfl)) dX12_total_157 ⟨(Nat.le_of_ble_eq_true rfl), (Nat.le_of_ble_eq_true rfl)⟩)) (fun r_41 hr_41 => ?_)
                    refine lv_goto (tgt := 164) hx hb dX12_total_160 (by decide) ?_
                    exact W.iret (v := r_41) hx hb hr (fun t ht h9 => ⟨⟨r_41, S_40, rfl, ⟨hTy, hFr⟩, by rw [ht]; exact hW.1, va_K.moved h9.alike hK, hW.2.1⟩, hW.2.2.F ht⟩) hW.2.2.2.2 dX12_total_164
                · have c_120 : ¬ (x_6 ≤ i2) := fun hh9 => c_120 ((nI_leI (a := x_6) (b := i2) (by omega) (by omega)).mpr hh9)
                  refine lv_iload_n hx hb dX12_total_123 rfl (lv_at hl 1 rfl) ?_
                  refine lv_aload_n hx hb dX12_total_124 rfl (lv_at hl 2 rfl) ?_
                  refine lv_iload hx hb dX12_total_125 (lv_at hl 0 rfl) ?_
                  refine vp_callSi (va_Run.run (va_runV (As := [.int (nI i2)]) (rest := [.int sm2]) ⟨hx, hb, hml, hown, hT⟩ (m_netBy l dC dI cy L kap pr S_40 H.size o i2 hTy hT_o (by omega)) (cwV 1 hT (gV w1356 w1358 ws81 w14 w1359) rfl rfl rfl (by decide +kernel) ⟨(Nat.le_of_ble_eq_true rfl), (Nat.le_of_ble_eq_true rfl)⟩) ⟨pcN.blind, pl_recv hK hW hT_o.1 hS_o rfl, pcN.pre hW.1 hK hW.2.1 hN (fun q h => absurd h List.not_mem_nil)⟩ rfl rfl hl.1 rfl (lv_room (Nat.le_of_ble_eq_true rfl)) dX12_total_127 ⟨(Nat.le_of_ble_eq_true rfl), (Nat.le_of_ble_eq_true rfl)⟩)) (fun r_42 hr_42 => ?_)
                  refine lv_if_le (tgt := 142) hx hb dX12_total_130 (by decide) (fun c_130 => ?_) (fun c_130 => ?_)
                  · refine lv_iconst (v := 0) hx hb dX12_total_142 (by decide) ?_
                    refine lv_iadd hx hb dX12_total_143 ?_
                    refine lv_topi (fun z_43 ez_43 => ?_)
                    refine lv_istore_n (lv' := [(3, .int z_43), (4, .int (nI i2)), (0, .ref o), (1, .int (nI k_34)), (2, .int (nI k_37))]) hx hb dX12_total_144 rfl hl (by decide) rfl (fun ls hl => ?_)
                    refine lv_iinc (v := nI (i2 + 1)) (lv' := [(4, .int (nI (i2 + 1))), (3, .int z_43), (0, .ref o), (1, .int (nI k_34)), (2, .int (nI k_37))]) hx hb dX12_total_145 hl (k := 1) rfl (nI_add (i2) 1) (by decide) rfl (fun ls hl => ?_)
                    refine lv_goto (tgt := 114) hx hb dX12_total_148 (by decide) ?_
                    exact ih114 (i2 + 1) z_43 _ _ _ ls (by omega) (by omega) hTy hFr hFl114 hW (lv_sub hl [0, 1, 2, 3, 4] rfl)
                  · refine lv_aload_n hx hb dX12_total_133 rfl (lv_at hl 2 rfl) ?_
                    refine lv_iload hx hb dX12_total_134 (lv_at hl 0 rfl) ?_
                    refine vp_callSi (va_Run.run (va_runV (As := [.int (nI i2)]) (rest := [.int sm2]) ⟨hx, hb, hml, hown, hT⟩ (m_netBy l dC dI cy L kap pr S_40 H.size o i2 hTy hT_o (by omega)) (cwV 1 hT (gV w1356 w1358 ws81 w14 w1359) rfl rfl rfl (by decide +kernel) ⟨(Nat.le_of_ble_eq_true rfl), (Nat.le_of_ble_eq_true rfl)⟩) ⟨pcN.blind, pl_recv hK hW hT_o.1 hS_o rfl, pcN.pre hW.1 hK hW.2.1 hN (fun q h => absurd h List.not_mem_nil)⟩ rfl rfl hl.1 rfl (lv_room (Nat.le_of_ble_eq_true rfl)) dX12_total_136 ⟨(Nat.le_of_ble_eq_true rfl), (Nat.le_of_ble_eq_true rfl)⟩)) (fun r_44 hr_44 => ?_)
                    refine lv_goto (tgt := 143) hx hb dX12_total_139 (by decide) ?_
                    refine lv_iadd hx hb dX12_total_143 ?_
                    refine lv_topi (fun z_45 ez_45 => ?_)
                    refine lv_istore_n (lv' := [(3, .int z_45), (4, .int (nI i2)), (0, .ref o), (1, .int (nI k_34)), (2, .int (nI k_37))]) hx hb dX12_total_144 rfl hl (by decide) rfl (fun ls hl => ?_)
                    refine lv_iinc (v := nI (i2 + 1)) (lv' := [(4, .int (nI (i2 + 1))), (3, .int z_45), (0, .ref o), (1, .int (nI k_34)), (2, .int (nI k_37))]) hx hb dX12_total_145 hl (k := 1) rfl (nI_add (i2) 1) (by decide) rfl (fun ls hl => ?_)
                    refine lv_goto (tgt := 114) hx hb dX12_total_148 (by decide) ?_
                    exact ih114 (i2 + 1) z_45 _ _ _ ls (by omega) (by omega) hTy hFr hFl114 hW (lv_sub hl [0, 1, 2, 3, 4] rfl)
            exact loop ((9 - 0) + 1) 0 0 _ _ _ ls (Nat.lt_succ_self _) (by omega) hTy hFr Fr.rf hW (lv_sub hl [0, 1, 2, 3, 4] rfl)
        · have c_47 : k_37 = 2 := (nI_eq (a := k_37) (b := 2) (by omega) (by omega)).mp c_47
          refine lv_iconst (v := 0) hx hb dX12_total_50 (by decide) ?_
          refine lv_istore (lv' := [(4, .int 0), (3, .int 0), (0, .ref o), (1, .int (nI k_34)), (2, .int (nI k_37))]) hx hb dX12_total_51 hl (by decide) rfl (fun ls hl => ?_)
          have loop : ∀ (fuel : Nat) (i : Nat) (sm : Int32) (SS : Nat → va_E) (H : Heap) (locs : List Loc) (ls : Array Slot), 41 - i < fuel → (i ≤ 40) → Ty cy L kap pr SS → Fr kap [12, 56] S SS → Fr kap [] S_38 SS → PW dC dI L (AL L s.heap.size) s.heap SS H locs → lv_has ls 5 [(4, .int (nI i)), (3, .int sm), (0, .ref o), (1, .int (nI k_34)), (2, .int (nI k_37))] → W p l e (headSpec (wT yX12_total cX12_total 5 (some .int)) { frames := 3, cells := 0, slots := 0, locals := 67 }).room s m [.ref o, .int (nI k_34), .int (nI k_37)].toArray below meth c H locs 0 0 (MQ below (va_Qi (fun r S' => Ty cy L kap pr S' ∧ Fr kap [12, 56] S S') (fun S' t => pB dC dI (AL L s.heap.size) (va_pl L S') (cyT cy) t) (AL L s.heap.size)) [.ref o, .int (nI k_34), .int (nI k_37)].toArray s 0 0 (AL L s.heap.size)) (F0 m 53 ls []) := by
            intro fuel
            induction fuel with
            | zero => intro i sm SS H locs ls h; exact absurd h (Nat.not_lt_zero _)
            | succ fu53 ih53 =>
              intro i sm S_46 H locs ls hm53 hb_i hTy hFr hFl53 hW hl
              have hS_o := hFl53.at hT_o (by decide) hS_o
              refine lv_iload hx hb dX12_total_53 (lv_at hl 0 rfl) ?_
              refine lv_aload_n hx hb dX12_total_55 rfl (lv_at hl 2 rfl) ?_
              refine pl_get (ci := 12) (v := .ref x_1) (C := RX12) (T := TX12) (N := 32) hx hb hT iX12 hown hK hW hT_o.1 hS_o rfl 0 (by decide) w1082 rfl dX12_total_56 ?_
              refine lv_iconst (v := 0) hx hb dX12_total_59 (by decide) ?_
              obtain ⟨f_47, hS_x_1, hi_f_47⟩ := hTy.k50 hT_x_1
              refine pl_iald hx hb hK hW hT_x_1.1 hS_x_1 (vp_in_nI (n := 0) (N := 266) (by omega) (by omega)) dX12_total_60 ?_
              refine lv_topi (fun y_48 ey_48 => ?_)
              have hv_y_48 : okS (0) y_48 := by rw [ey_48]; show okS _ (f_47 (nI (0)).toNatClampNeg); rw [nI_clamp (by omega)]; exact hi_f_47 (0) (by omega)
              obtain ⟨k_49, hb_k_49, hq_k_49⟩ := hv_y_48.1 rfl
              obtain rfl : y_48 = nI k_49 := hq_k_49
              refine lv_icmp_ge (tgt := 106) hx hb dX12_total_61 (by decide) (fun c_61 => ?_) (fun c_61 => ?_)
              · have c_61 : k_49 ≤ i := (nI_leI (a := k_49) (b := i) (by omega) (by omega)).mp c_61
                refine lv_iload_n hx hb dX12_total_106 rfl (lv_at hl 4 rfl) ?_
                refine lv_iconst (v := 3) hx hb dX12_total_107 (by decide) ?_
                refine lv_icmp_ne (tgt := 151) hx hb dX12_total_108 (by decide) (fun c_108 => ?_) (fun c_108 => ?_)
                · have c_108 : ¬ (k_37 = 3) := fun hh9 => c_108 ((nI_eq (a := k_37) (b := 3) (by omega) (by omega)).mpr hh9)
                  refine lv_iload_n hx hb dX12_total_151 rfl (lv_at hl 4 rfl) ?_
                  refine lv_iconst (v := 1) hx hb dX12_total_152 (by decide) ?_
                  refine lv_icmp_ne (tgt := 163) hx hb dX12_total_153 (by decide) (fun c_153 => ?_) (fun c_153 => ?_)
                  · have c_153 : ¬ (k_37 = 1) := fun hh9 => c_153 ((nI_eq (a := k_37) (b := 1) (by omega) (by omega)).mpr hh9)
                    refine lv_iload_n hx hb dX12_total_163 rfl (lv_at hl 1 rfl) ?_
                    exact W.iret (v := sm) hx hb hr (fun t ht h9 => ⟨⟨sm, S_46, rfl, ⟨hTy, hFr⟩, by rw [ht]; exact hW.1, va_K.moved h9.alike hK, hW.2.1⟩, hW.2.2.F ht⟩) hW.2.2.2.2 dX12_total_164
                  · have c_153 : k_37 = 1 := (nI_eq (a := k_37) (b := 1) (by omega) (by omega)).mp c_153
                    refine lv_aload_n hx hb dX12_total_156 rfl (lv_at hl 2 rfl) ?_
                    refine vp_callSi (va_Run.run (va_runV (As := []) (rest := []) ⟨hx, hb, hml, hown, hT⟩ (m_positive l dC dI cy L kap pr S_46 H.size o hTy hT_o) (cwV 0 hT (gV w1378 w1380 ws84 w14 w1381) rfl rfl rfl (by decide +kernel) ⟨(Nat.le_of_ble_eq_true rfl), (Nat.le_of_ble_eq_true rfl)⟩) ⟨pcN.blind, pl_recv hK hW hT_o.1 hS_o rfl, pcN.pre hW.1 hK hW.2.1 hN (fun q h => absurd h List.not_mem_nil)⟩ rfl rfl hl.1 rfl (lv_room (Nat.le_of_ble_eq_true rfl)) dX12_total_157 ⟨(Nat.le_of_ble_eq_true rfl), (Nat.le_of_ble_eq_true rfl)⟩)) (fun r_50 hr_50 => ?_)
                    refine lv_goto (tgt := 164) hx hb dX12_total_160 (by decide) ?_
                    exact W.iret (v := r_50) hx hb hr (fun t ht h9 => ⟨⟨r_50, S_46, rfl, ⟨hTy, hFr⟩, by rw [ht]; exact hW.1, va_K.moved h9.alike hK, hW.2.1⟩, hW.2.2.F ht⟩) hW.2.2.2.2 dX12_total_164
                · have c_108 : k_37 = 3 := (nI_eq (a := k_37) (b := 3) (by omega) (by omega)).mp c_108
                  refine lv_iconst (v := 0) hx hb dX12_total_111 (by decide) ?_
                  refine lv_istore (lv' := [(4, .int 0), (3, .int sm), (0, .ref o), (1, .int (nI k_34)), (2, .int (nI k_37))]) hx hb dX12_total_112 hl (by decide) rfl (fun ls hl => ?_)
                  have loop : ∀ (fuel : Nat) (i2 : Nat) (sm2 : Int32) (SS : Nat → va_E) (H : Heap) (locs : List Loc) (ls : Array Slot), 9 - i2 < fuel → (i2 ≤ 8) → Ty cy L kap pr SS → Fr kap [12, 56] S SS → Fr kap [] S_46 SS → PW dC dI L (AL L s.heap.size) s.heap SS H locs → lv_has ls 5 [(4, .int (nI i2)), (3, .int sm2), (0, .ref o), (1, .int (nI k_34)), (2, .int (nI k_37))] → W p l e (headSpec (wT yX12_total cX12_total 5 (some .int)) { frames := 3, cells := 0, slots := 0, locals := 67 }).room s m [.ref o, .int (nI k_34), .int (nI k_37)].toArray below meth c H locs 0 0 (MQ below (va_Qi (fun r S' => Ty cy L kap pr S' ∧ Fr kap [12, 56] S S') (fun S' t => pB dC dI (AL L s.heap.size) (va_pl L S') (cyT cy) t) (AL L s.heap.size)) [.ref o, .int (nI k_34), .int (nI k_37)].toArray s 0 0 (AL L s.heap.size)) (F0 m 114 ls []) := by
                    intro fuel
                    induction fuel with
                    | zero => intro i2 sm2 SS H locs ls h; exact absurd h (Nat.not_lt_zero _)
                    | succ fu114 ih114 =>
                      intro i2 sm2 S_51 H locs ls hm114 hb_i2 hTy hFr hFl114 hW hl
                      have hS_o := hFl114.at hT_o (by decide) hS_o
                      have hS_x_1 := hFl114.at hT_x_1 (by decide) hS_x_1
                      have hFl53 := hFl53.tr hFl114 (by decide)
                      refine lv_iload hx hb dX12_total_114 (lv_at hl 0 rfl) ?_
                      refine lv_aload_n hx hb dX12_total_116 rfl (lv_at hl 2 rfl) ?_
                      refine pl_get (ci := 12) (v := .int (nI x_6)) (C := RX12) (T := TX12) (N := 32) hx hb hT iX12 hown hK hW hT_o.1 hS_o rfl 5 (by decide) w1087 rfl dX12_total_117 ?_
                      refine lv_icmp_ge (tgt := 151) hx hb dX12_total_120 (by decide) (fun c_120 => ?_) (fun c_120 => ?_)
                      · have c_120 : x_6 ≤ i2 := (nI_leI (a := x_6) (b := i2) (by omega) (by omega)).mp c_120
                        refine lv_iload_n hx hb dX12_total_151 rfl (lv_at hl 4 rfl) ?_
                        refine lv_iconst (v := 1) hx hb dX12_total_152 (by decide) ?_
                        refine lv_icmp_ne (tgt := 163) hx hb dX12_total_153 (by decide) (fun c_153 => ?_) (fun c_153 => ?_)
                        · have c_153 : ¬ (k_37 = 1) := fun hh9 => c_153 ((nI_eq (a := k_37) (b := 1) (by omega) (by omega)).mpr hh9)
                          refine lv_iload_n hx hb dX12_total_163 rfl (lv_at hl 1 rfl) ?_
                          exact W.iret (v := sm2) hx hb hr (fun t ht h9 => ⟨⟨sm2, S_51, rfl, ⟨hTy, hFr⟩, by rw [ht]; exact hW.1, va_K.moved h9.alike hK, hW.2.1⟩, hW.2.2.F ht⟩) hW.2.2.2.2 dX12_total_164
                        · have c_153 : k_37 = 1 := (nI_eq (a := k_37) (b := 1) (by omega) (by omega)).mp c_153
                          refine lv_aload_n hx hb dX12_total_156 rfl (lv_at hl 2 rfl) ?_
                          refine vp_callSi (va_Run.run (va_runV (As := []) (rest := []) ⟨hx, hb, hml, hown, hT⟩ (m_positive l dC dI cy L kap pr S_51 H.size o hTy hT_o) (cwV 0 hT (gV w1378 w1380 ws84 w14 w1381) rfl rfl rfl (by decide +kernel) ⟨(Nat.le_of_ble_eq_true rfl), (Nat.le_of_ble_eq_true rfl)⟩) ⟨pcN.blind, pl_recv hK hW hT_o.1 hS_o rfl, pcN.pre hW.1 hK hW.2.1 hN (fun q h => absurd h List.not_mem_nil)⟩ rfl rfl hl.1 rfl (lv_room (Nat.le_of_ble_eq_true rfl)) dX12_total_157 ⟨(Nat.le_of_ble_eq_true rfl), (Nat.le_of_ble_eq_true rfl)⟩)) (fun r_52 hr_52 => ?_)
                          refine lv_goto (tgt := 164) hx hb dX12_total_160 (by decide) ?_
                          exact W.iret (v := r_52) hx hb hr (fun t ht h9 => ⟨⟨r_52, S_51, rfl, ⟨hTy, hFr⟩, by rw [ht]; exact hW.1, va_K.moved h9.alike hK, hW.2.1⟩, hW.2.2.F ht⟩) hW.2.2.2.2 dX12_total_164
                      · have c_120 : ¬ (x_6 ≤ i2) := fun hh9 => c_120 ((nI_leI (a := x_6) (b := i2) (by omega) (by omega)).mpr hh9)
                        refine lv_iload_n hx hb dX12_total_123 rfl (lv_at hl 1 rfl) ?_
                        refine lv_aload_n hx hb dX12_total_124 rfl (lv_at hl 2 rfl) ?_
                        refine lv_iload hx hb dX12_total_125 (lv_at hl 0 rfl) ?_
                        refine vp_callSi (va_Run.run (va_runV (As := [.int (nI i2)]) (rest := [.int sm2]) ⟨hx, hb, hml, hown, hT⟩ (m_netBy l dC dI cy L kap pr S_51 H.size o i2 hTy hT_o (by omega)) (cwV 1 hT (gV w1356 w1358 ws81 w14 w1359) rfl rfl rfl (by decide +kernel) ⟨(Nat.le_of_ble_eq_true rfl), (Nat.le_of_ble_eq_true rfl)⟩) ⟨pcN.blind, pl_recv hK hW hT_o.1 hS_o rfl, pcN.pre hW.1 hK hW.2.1 hN (fun q h => absurd h List.not_mem_nil)⟩ rfl rfl hl.1 rfl (lv_room (Nat.le_of_ble_eq_true rfl)) dX12_total_127 ⟨(Nat.le_of_ble_eq_true rfl), (Nat.le_of_ble_eq_true rfl)⟩)) (fun r_53 hr_53 => ?_)
                        refine lv_if_le (tgt := 142) hx hb dX12_total_130 (by decide) (fun c_130 => ?_) (fun c_130 => ?_)
                        · refine lv_iconst (v := 0) hx hb dX12_total_142 (by decide) ?_
                          refine lv_iadd hx hb dX12_total_143 ?_
                          refine lv_topi (fun z_54 ez_54 => ?_)
                          refine lv_istore_n (lv' := [(3, .int z_54), (4, .int (nI i2)), (0, .ref o), (1, .int (nI k_34)), (2, .int (nI k_37))]) hx hb dX12_total_144 rfl hl (by decide) rfl (fun ls hl => ?_)
                          refine lv_iinc (v := nI (i2 + 1)) (lv' := [(4, .int (nI (i2 + 1))), (3, .int z_54), (0, .ref o), (1, .int (nI k_34)), (2, .int (nI k_37))]) hx hb dX12_total_145 hl (k := 1) rfl (nI_add (i2) 1) (by decide) rfl (fun ls hl => ?_)
                          refine lv_goto (tgt := 114) hx hb dX12_total_148 (by decide) ?_
                          exact ih114 (i2 + 1) z_54 _ _ _ ls (by omega) (by omega) hTy hFr hFl114 hW (lv_sub hl [0, 1, 2, 3, 4] rfl)
                        · refine lv_aload_n hx hb dX12_total_133 rfl (lv_at hl 2 rfl) ?_
                          refine lv_iload hx hb dX12_total_134 (lv_at hl 0 rfl) ?_
                          refine vp_callSi (va_Run.run (va_runV (As := [.int (nI i2)]) (rest := [.int sm2]) ⟨hx, hb, hml, hown, hT⟩ (m_netBy l dC dI cy L kap pr S_51 H.size o i2 hTy hT_o (by omega)) (cwV 1 hT (gV w1356 w1358 ws81 w14 w1359) rfl rfl rfl (by decide +kernel) ⟨(Nat.le_of_ble_eq_true rfl), (Nat.le_of_ble_eq_true rfl)⟩) ⟨pcN.blind, pl_recv hK hW hT_o.1 hS_o rfl, pcN.pre hW.1 hK hW.2.1 hN (fun q h => absurd h List.not_mem_nil)⟩ rfl rfl hl.1 rfl (lv_room (Nat.le_of_ble_eq_true rfl)) dX12_total_136 ⟨(Nat.le_of_ble_eq_true rfl), (Nat.le_of_ble_eq_true rfl)⟩)) (fun r_55 hr_55 => ?_)
                          refine lv_goto (tgt := 143) hx hb dX12_total_139 (by decide) ?_
                          refine lv_iadd hx hb dX12_total_143 ?_
                          refine lv_topi (fun z_56 ez_56 => ?_)
                          refine lv_istore_n (lv' := [(3, .int z_56), (4, .int (nI i2)), (0, .ref o), (1, .int (nI k_34)), (2, .int (nI k_37))]) hx hb dX12_total_144 rfl hl (by decide) rfl (fun ls hl => ?_)
                          refine lv_iinc (v := nI (i2 + 1)) (lv' := [(4, .int (nI (i2 + 1))), (3, .int z_56), (0, .ref o), (1, .int (nI k_34)), (2, .int (nI k_37))]) hx hb dX12_total_145 hl (k := 1) rfl (nI_add (i2) 1) (by decide) rfl (fun ls hl => ?_)
                          refine lv_goto (tgt := 114) hx hb dX12_total_148 (by decide) ?_
                          exact ih114 (i2 + 1) z_56 _ _ _ ls (by omega) (by omega) hTy hFr hFl114 hW (lv_sub hl [0, 1, 2, 3, 4] rfl)
                  exact loop ((9 - 0) + 1) 0 sm _ _ _ ls (Nat.lt_succ_self _) (by omega) hTy hFr Fr.rf hW (lv_sub hl [0, 1, 2, 3, 4] rfl)
              · have c_61 : ¬ (k_49 ≤ i) := fun hh9 => c_61 ((nI_leI (a := k_49) (b := i) (by omega) (by omega)).mpr hh9)
                refine lv_iload_n hx hb dX12_total_64 rfl (lv_at hl 1 rfl) ?_
                refine lv_aload_n hx hb dX12_total_65 rfl (lv_at hl 2 rfl) ?_
                refine lv_iload hx hb dX12_total_66 (lv_at hl 0 rfl) ?_
                refine lv_iconst (v := 3) hx hb dX12_total_68 (by decide) ?_
                refine vp_callSi (va_Run.run (va_runV (As := [.int (nI i), .int 3]) (rest := [.int sm]) ⟨hx, hb, hml, hown, hT⟩ (m_tradeAt l dC dI cy L kap pr S_46 H.size o i 3 hTy hT_o (by omega) (by omega)) (cwV 2 hT (gV w1247 w1249 ws66 w14 w1250) rfl rfl rfl (by decide +kernel) ⟨(Nat.le_of_ble_eq_true rfl), (Nat.le_of_ble_eq_true rfl)⟩) ⟨pcN.blind, pl_recv hK hW hT_o.1 hS_o rfl, pcN.pre hW.1 hK hW.2.1 hN (fun q h => absurd h List.not_mem_nil)⟩ rfl rfl hl.1 rfl (lv_room (Nat.le_of_ble_eq_true rfl)) dX12_total_69 ⟨(Nat.le_of_ble_eq_true rfl), (Nat.le_of_ble_eq_true rfl)⟩)) (fun r_57 hr_57 => ?_)
                obtain ⟨k_58, hb_k_58, rfl⟩ := hr_57.1.2.2 (by omega) (by omega) (by omega)
                refine lv_iload_n hx hb dX12_total_72 rfl (lv_at hl 3 rfl) ?_
                refine lv_icmp_ne (tgt := 97) hx hb dX12_total_73 (by decide) (fun c_73 => ?_) (fun c_73 => ?_)
                · have c_73 : ¬ (k_58 = k_34) := fun hh9 => c_73 ((nI_eq (a := k_58) (b := k_34) (by omega) (by omega)).mpr hh9)
                  refine lv_iconst (v := 0) hx hb dX12_total_97 (by decide) ?_
                  refine lv_iadd hx hb dX12_total_98 ?_
                  refine lv_topi (fun z_59 ez_59 => ?_)
                  refine lv_istore_n (lv' := [(3, .int z_59), (4, .int (nI i)), (0, .ref o), (1, .int (nI k_34)), (2, .int (nI k_37))]) hx hb dX12_total_99 rfl hl (by decide) rfl (fun ls hl => ?_)
                  refine lv_iinc (v := nI (i + 1)) (lv' := [(4, .int (nI (i + 1))), (3, .int z_59), (0, .ref o), (1, .int (nI k_34)), (2, .int (nI k_37))]) hx hb dX12_total_100 hl (k := 1) rfl (nI_add (i) 1) (by decide) rfl (fun ls hl => ?_)
                  refine lv_goto (tgt := 53) hx hb dX12_total_103 (by decide) ?_
                  exact ih53 (i + 1) z_59 _ _ _ ls (by omega) (by omega) hTy hFr hFl53 hW (lv_sub hl [0, 1, 2, 3, 4] rfl)
                · have c_73 : k_58 = k_34 := (nI_eq (a := k_58) (b := k_34) (by omega) (by omega)).mp c_73
                  refine lv_aload_n hx hb dX12_total_76 rfl (lv_at hl 2 rfl) ?_
                  refine lv_iload hx hb dX12_total_77 (lv_at hl 0 rfl) ?_
                  refine lv_iconst (v := 4) hx hb dX12_total_79 (by decide) ?_
                  refine vp_callSi (va_Run.run (va_runV (As := [.int (nI i), .int 4]) (rest := [.int sm]) ⟨hx, hb, hml, hown, hT⟩ (m_tradeAt l dC dI cy L kap pr S_46 H.size o i 4 hTy hT_o (by omega) (by omega)) (cwV 2 hT (gV w1247 w1249 ws66 w14 w1250) rfl rfl rfl (by decide +kernel) ⟨(Nat.le_of_ble_eq_true rfl), (Nat.le_of_ble_eq_true rfl)⟩) ⟨pcN.blind, pl_recv hK hW hT_o.1 hS_o rfl, pcN.pre hW.1 hK hW.2.1 hN (fun q h => absurd h List.not_mem_nil)⟩ rfl rfl hl.1 rfl (lv_room (Nat.le_of_ble_eq_true rfl)) dX12_total_80 ⟨(Nat.le_of_ble_eq_true rfl), (Nat.le_of_ble_eq_true rfl)⟩)) (fun r_60 hr_60 => ?_)
                  refine lv_iconst (v := 1) hx hb dX12_total_83 (by decide) ?_
                  refine lv_icmp_ne (tgt := 97) hx hb dX12_total_84 (by decide) (fun c_84 => ?_) (fun c_84 => ?_)
                  · refine lv_iconst (v := 0) hx hb dX12_total_97 (by decide) ?_
                    refine lv_iadd hx hb dX12_total_98 ?_
                    refine lv_topi (fun z_61 ez_61 => ?_)
                    refine lv_istore_n (lv' := [(3, .int z_61), (4, .int (nI i)), (0, .ref o), (1, .int (nI k_34)), (2, .int (nI k_37))]) hx hb dX12_total_99 rfl hl (by decide) rfl (fun ls hl => ?_)
                    refine lv_iinc (v := nI (i + 1)) (lv' := [(4, .int (nI (i + 1))), (3, .int z_61), (0, .ref o), (1, .int (nI k_34)), (2, .int (nI k_37))]) hx hb dX12_total_100 hl (k := 1) rfl (nI_add (i) 1) (by decide) rfl (fun ls hl => ?_)
                    refine lv_goto (tgt := 53) hx hb dX12_total_103 (by decide) ?_
                    exact ih53 (i + 1) z_61 _ _ _ ls (by omega) (by omega) hTy hFr hFl53 hW (lv_sub hl [0, 1, 2, 3, 4] rfl)
                  · refine lv_aload_n hx hb dX12_total_87 rfl (lv_at hl 2 rfl) ?_
                    refine lv_iload hx hb dX12_total_88 (lv_at hl 0 rfl) ?_
                    refine lv_iconst (v := 2) hx hb dX12_total_90 (by decide) ?_
                    refine vp_callSi (va_Run.run (va_runV (As := [.int (nI i), .int 2]) (rest := [.int sm]) ⟨hx, hb, hml, hown, hT⟩ (m_tradeAt l dC dI cy L kap pr S_46 H.size o i 2 hTy hT_o (by omega) (by omega)) (cwV 2 hT (gV w1247 w1249 ws66 w14 w1250) rfl rfl rfl (by decide +kernel) ⟨(Nat.le_of_ble_eq_true rfl), (Nat.le_of_ble_eq_true rfl)⟩) ⟨pcN.blind, pl_recv hK hW hT_o.1 hS_o rfl, pcN.pre hW.1 hK hW.2.1 hN (fun q h => absurd h List.not_mem_nil)⟩ rfl rfl hl.1 rfl (lv_room (Nat.le_of_ble_eq_true rfl)) dX12_total_91 ⟨(Nat.le_of_ble_eq_true rfl), (Nat.le_of_ble_eq_true rfl)⟩)) (fun r_62 hr_62 => ?_)
                    refine lv_goto (tgt := 98) hx hb dX12_total_94 (by decide) ?_
                    refine lv_iadd hx hb dX12_total_98 ?_
                    refine lv_topi (fun z_63 ez_63 => ?_)
                    refine lv_istore_n (lv' := [(3, .int z_63), (4, .int (nI i)), (0, .ref o), (1, .int (nI k_34)), (2, .int (nI k_37))]) hx hb dX12_total_99 rfl hl (by decide) rfl (fun ls hl => ?_)
                    refine lv_iinc (v := nI (i + 1)) (lv' := [(4, .int (nI (i + 1))), (3, .int z_63), (0, .ref o), (1, .int (nI k_34)), (2, .int (nI k_37))]) hx hb dX12_total_100 hl (k := 1) rfl (nI_add (i) 1) (by decide) rfl (fun ls hl => ?_)
                    refine lv_goto (tgt := 53) hx hb dX12_total_103 (by decide) ?_
                    exact ih53 (i + 1) z_63 _ _ _ ls (by omega) (by omega) hTy hFr hFl53 hW (lv_sub hl [0, 1, 2, 3, 4] rfl)
          exact loop ((41 - 0) + 1) 0 0 _ _ _ ls (Nat.lt_succ_self _) (by omega) hTy hFr Fr.rf hW (lv_sub hl [0, 1, 2, 3, 4] rfl)
      · have c_37 : k_37 = 0 := (nI_eq (a := k_37) (b := 0) (by omega) (by omega)).mp c_37
        refine lv_aload_n hx hb dX12_total_40 rfl (lv_at hl 1 rfl) ?_
        refine vp_callSi (va_Run.run (va_runV (As := []) (rest := []) ⟨hx, hb, hml, hown, hT⟩ (m_sumFlows l dC dI cy L kap pr S_38 H.size o hTy hT_o) (cwV 0 hT (gV w1374 w1376 ws83 w14 w1377) rfl rfl rfl (by decide +kernel) ⟨(Nat.le_of_ble_eq_true rfl), (Nat.le_of_ble_eq_true rfl)⟩) ⟨pcN.blind, pl_recv hK hW hT_o.1 hS_o rfl, pcN.pre hW.1 hK hW.2.1 hN (fun q h => absurd h List.not_mem_nil)⟩ rfl rfl hl.1 rfl (lv_room (Nat.le_of_ble_eq_true rfl)) dX12_total_41 ⟨(Nat.le_of_ble_eq_true rfl), (Nat.le_of_ble_eq_true rfl)⟩)) (fun r_64 hr_64 => ?_)
        refine lv_istore_n (lv' := [(3, .int r_64), (0, .ref o), (1, .int (nI k_34)), (2, .int (nI k_37))]) hx hb dX12_total_44 rfl hl (by decide) rfl (fun ls hl => ?_)
        refine lv_iload_n hx hb dX12_total_45 rfl (lv_at hl 3 rfl) ?_
        refine lv_iconst (v := 2) hx hb dX12_total_46 (by decide) ?_
        refine lv_icmp_ne (tgt := 106) hx hb dX12_total_47 (by decide) (fun c_47 => ?_) (fun c_47 => ?_)
        · have c_47 : ¬ (k_37 = 2) := fun hh9 => c_47 ((nI_eq (a := k_37) (b := 2) (by omega) (by omega)).mpr hh9)
          refine lv_iload_n hx hb dX12_total_106 rfl (lv_at hl 3 rfl) ?_
          refine lv_iconst (v := 3) hx hb dX12_total_107 (by decide) ?_
          refine lv_icmp_ne (tgt := 151) hx hb dX12_total_108 (by decide) (fun c_108 => ?_) (fun c_108 => ?_)
          · have c_108 : ¬ (k_37 = 3) := fun hh9 => c_108 ((nI_eq (a := k_37) (b := 3) (by omega) (by omega)).mpr hh9)
            refine lv_iload_n hx hb dX12_total_151 rfl (lv_at hl 3 rfl) ?_
            refine lv_iconst (v := 1) hx hb dX12_total_152 (by decide) ?_
            refine lv_icmp_ne (tgt := 163) hx hb dX12_total_153 (by decide) (fun c_153 => ?_) (fun c_153 => ?_)
            · have c_153 : ¬ (k_37 = 1) := fun hh9 => c_153 ((nI_eq (a := k_37) (b := 1) (by omega) (by omega)).mpr hh9)
              refine lv_iload_n hx hb dX12_total_163 rfl (lv_at hl 0 rfl) ?_
              exact W.iret (v := r_64) hx hb hr (fun t ht h9 => ⟨⟨r_64, S_38, rfl, ⟨hTy, hFr⟩, by rw [ht]; exact hW.1, va_K.moved h9.alike hK, hW.2.1⟩, hW.2.2.F ht⟩) hW.2.2.2.2 dX12_total_164
            · have c_153 : k_37 = 1 := (nI_eq (a := k_37) (b := 1) (by omega) (by omega)).mp c_153
              refine lv_aload_n hx hb dX12_total_156 rfl (lv_at hl 1 rfl) ?_
              refine vp_callSi (va_Run.run (va_runV (As := []) (rest := []) ⟨hx, hb, hml, hown, hT⟩ (m_positive l dC dI cy L kap pr S_38 H.size o hTy hT_o) (cwV 0 hT (gV w1378 w1380 ws84 w14 w1381) rfl rfl rfl (by decide +kernel) ⟨(Nat.le_of_ble_eq_true rfl), (Nat.le_of_ble_eq_true rfl)⟩) ⟨pcN.blind, pl_recv hK hW hT_o.1 hS_o rfl, pcN.pre hW.1 hK hW.2.1 hN (fun q h => absurd h List.not_mem_nil)⟩ rfl rfl hl.1 rfl (lv_room (Nat.le_of_ble_eq_true rfl)) dX12_total_157 ⟨(Nat.le_of_ble_eq_true rfl), (Nat.le_of_ble_eq_true rfl)⟩)) (fun r_65 hr_65 => ?_)
              refine lv_goto (tgt := 164) hx hb dX12_total_160 (by decide) ?_
              exact W.iret (v := r_65) hx hb hr (fun t ht h9 => ⟨⟨r_65, S_38, rfl, ⟨hTy, hFr⟩, by rw [ht]; exact hW.1, va_K.moved h9.alike hK, hW.2.1⟩, hW.2.2.F ht⟩) hW.2.2.2.2 dX12_total_164
          · have c_108 : k_37 = 3 := (nI_eq (a := k_37) (b := 3) (by omega) (by omega)).mp c_108
            refine lv_iconst (v := 0) hx hb dX12_total_111 (by decide) ?_
            refine lv_istore (lv' := [(4, .int 0), (3, .int r_64), (0, .ref o), (1, .int (nI k_34)), (2, .int (nI k_37))]) hx hb dX12_total_112 hl (by decide) rfl (fun ls hl => ?_)
            have loop : ∀ (fuel : Nat) (i2 : Nat) (sm2 : Int32) (SS : Nat → va_E) (H : Heap) (locs : List Loc) (ls : Array Slot), 9 - i2 < fuel → (i2 ≤ 8) → Ty cy L kap pr SS → Fr kap [12, 56] S SS → Fr kap [] S_38 SS → PW dC dI L (AL L s.heap.size) s.heap SS H locs → lv_has ls 5 [(4, .int (nI i2)), (3, .int sm2), (0, .ref o), (1, .int (nI k_34)), (2, .int (nI k_37))] → W p l e (headSpec (wT yX12_total cX12_total 5 (some .int)) { frames := 3, cells := 0, slots := 0, locals := 67 }).room s m [.ref o, .int (nI k_34), .int (nI k_37)].toArray below meth c H locs 0 0 (MQ below (va_Qi (fun r S' => Ty cy L kap pr S' ∧ Fr kap [12, 56] S S') (fun S' t => pB dC dI (AL L s.heap.size) (va_pl L S') (cyT cy) t) (AL L s.heap.size)) [.ref o, .int (nI k_34), .int (nI k_37)].toArray s 0 0 (AL L s.heap.size)) (F0 m 114 ls []) := by
              intro fuel
              induction fuel with
              | zero => intro i2 sm2 SS H locs ls h; exact absurd h (Nat.not_lt_zero _)
              | succ fu114 ih114 =>
                intro i2 sm2 S_66 H locs ls hm114 hb_i2 hTy hFr hFl114 hW hl
                have hS_o := hFl114.at hT_o (by decide) hS_o
                refine lv_iload hx hb dX12_total_114 (lv_at hl 0 rfl) ?_
                refine lv_aload_n hx hb dX12_total_116 rfl (lv_at hl 2 rfl) ?_
                refine pl_get (ci := 12) (v := .int (nI x_6)) (C := RX12) (T := TX12) (N := 32) hx hb hT iX12 hown hK hW hT_o.1 hS_o rfl 5 (by decide) w1087 rfl dX12_total_117 ?_
                refine lv_icmp_ge (tgt := 151) hx hb dX12_total_120 (by decide) (fun c_120 => ?_) (fun c_120 => ?_)
                · have c_120 : x_6 ≤ i2 := (nI_leI (a := x_6) (b := i2) (by omega) (by omega)).mp c_120
                  refine lv_iload_n hx hb dX12_total_151 rfl (lv_at hl 4 rfl) ?_
                  refine lv_iconst (v := 1) hx hb dX12_total_152 (by decide) ?_
                  refine lv_icmp_ne (tgt := 163) hx hb dX12_total_153 (by decide) (fun c_153 => ?_) (fun c_153 => ?_)
                  · have c_153 : ¬ (k_37 = 1) := fun hh9 => c_153 ((nI_eq (a := k_37) (b := 1) (by omega) (by omega)).mpr hh9)
                    refine lv_iload_n hx hb dX12_total_163 rfl (lv_at hl 1 rfl) ?_
                    exact W.iret (v := sm2) hx hb hr (fun t ht h9 => ⟨⟨sm2, S_66, rfl, ⟨hTy, hFr⟩, by rw [ht]; exact hW.1, va_K.moved h9.alike hK, hW.2.1⟩, hW.2.2.F ht⟩) hW.2.2.2.2 dX12_total_164
                  · have c_153 : k_37 = 1 := (nI_eq (a := k_37) (b := 1) (by omega) (by omega)).mp c_153
                    refine lv_aload_n hx hb dX12_total_156 rfl (lv_at hl 2 rfl) ?_
                    refine vp_callSi (va_Run.run (va_runV (As := []) (rest := []) ⟨hx, hb, hml, hown, hT⟩ (m_positive l dC dI cy L kap pr S_66 H.size o hTy hT_o) (cwV 0 hT (gV w1378 w1380 ws84 w14 w1381) rfl rfl rfl (by decide +kernel) ⟨(Nat.le_of_ble_eq_true rfl), (Nat.le_of_ble_eq_true rfl)⟩) ⟨pcN.blind, pl_recv hK hW hT_o.1 hS_o rfl, pcN.pre hW.1 hK hW.2.1 hN (fun q h => absurd h List.not_mem_nil)⟩ rfl rfl hl.1 rfl (lv_room (Nat.le_of_ble_eq_true rfl)) dX12_total_157 ⟨(Nat.le_of_ble_eq_true rfl), (Nat.le_of_ble_eq_true rfl)⟩)) (fun r_67 hr_67 => ?_)
                    refine lv_goto (tgt := 164) hx hb dX12_total_160 (by decide) ?_
                    exact W.iret (v := r_67) hx hb hr (fun t ht h9 => ⟨⟨r_67, S_66, rfl, ⟨hTy, hFr⟩, by rw [ht]; exact hW.1, va_K.moved h9.alike hK, hW.2.1⟩, hW.2.2.F ht⟩) hW.2.2.2.2 dX12_total_164
                · have c_120 : ¬ (x_6 ≤ i2) := fun hh9 => c_120 ((nI_leI (a := x_6) (b := i2) (by omega) (by omega)).mpr hh9)
                  refine lv_iload_n hx hb dX12_total_123 rfl (lv_at hl 1 rfl) ?_
                  refine lv_aload_n hx hb dX12_total_124 rfl (lv_at hl 2 rfl) ?_
                  refine lv_iload hx hb dX12_total_125 (lv_at hl 0 rfl) ?_
                  refine vp_callSi (va_Run.run (va_runV (As := [.int (nI i2)]) (rest := [.int sm2]) ⟨hx, hb, hml, hown, hT⟩ (m_netBy l dC dI cy L kap pr S_66 H.size o i2 hTy hT_o (by omega)) (cwV 1 hT (gV w1356 w1358 ws81 w14 w1359) rfl rfl rfl (by decide +kernel) ⟨(Nat.le_of_ble_eq_true rfl), (Nat.le_of_ble_eq_true rfl)⟩) ⟨pcN.blind, pl_recv hK hW hT_o.1 hS_o rfl, pcN.pre hW.1 hK hW.2.1 hN (fun q h => absurd h List.not_mem_nil)⟩ rfl rfl hl.1 rfl (lv_room (Nat.le_of_ble_eq_true rfl)) dX12_total_127 ⟨(Nat.le_of_ble_eq_true rfl), (Nat.le_of_ble_eq_true rfl)⟩)) (fun r_68 hr_68 => ?_)
                  refine lv_if_le (tgt := 142) hx hb dX12_total_130 (by decide) (fun c_130 => ?_) (fun c_130 => ?_)
                  · refine lv_iconst (v := 0) hx hb dX12_total_142 (by decide) ?_
                    refine lv_iadd hx hb dX12_total_143 ?_
                    refine lv_topi (fun z_69 ez_69 => ?_)
                    refine lv_istore_n (lv' := [(3, .int z_69), (4, .int (nI i2)), (0, .ref o), (1, .int (nI k_34)), (2, .int (nI k_37))]) hx hb dX12_total_144 rfl hl (by decide) rfl (fun ls hl => ?_)
                    refine lv_iinc (v := nI (i2 + 1)) (lv' := [(4, .int (nI (i2 + 1))), (3, .int z_69), (0, .ref o), (1, .int (nI k_34)), (2, .int (nI k_37))]) hx hb dX12_total_145 hl (k := 1) rfl (nI_add (i2) 1) (by decide) rfl (fun ls hl => ?_)
                    refine lv_goto (tgt := 114) hx hb dX12_total_148 (by decide) ?_
                    exact ih114 (i2 + 1) z_69 _ _ _ ls (by omega) (by omega) hTy hFr hFl114 hW (lv_sub hl [0, 1, 2, 3, 4] rfl)
                  · refine lv_aload_n hx hb dX12_total_133 rfl (lv_at hl 2 rfl) ?_
                    refine lv_iload hx hb dX12_total_134 (lv_at hl 0 rfl) ?_
                    refine vp_callSi (va_Run.run (va_runV (As := [.int (nI i2)]) (rest := [.int sm2]) ⟨hx, hb, hml, hown, hT⟩ (m_netBy l dC dI cy L kap pr S_66 H.size o i2 hTy hT_o (by omega)) (cwV 1 hT (gV w1356 w1358 ws81 w14 w1359) rfl rfl rfl (by decide +kernel) ⟨(Nat.le_of_ble_eq_true rfl), (Nat.le_of_ble_eq_true rfl)⟩) ⟨pcN.blind, pl_recv hK hW hT_o.1 hS_o rfl, pcN.pre hW.1 hK hW.2.1 hN (fun q h => absurd h List.not_mem_nil)⟩ rfl rfl hl.1 rfl (lv_room (Nat.le_of_ble_eq_true rfl)) dX12_total_136 ⟨(Nat.le_of_ble_eq_true rfl), (Nat.le_of_ble_eq_true rfl)⟩)) (fun r_70 hr_70 => ?_)
                    refine lv_goto (tgt := 143) hx hb dX12_total_139 (by decide) ?_
                    refine lv_iadd hx hb dX12_total_143 ?_
                    refine lv_topi (fun z_71 ez_71 => ?_)
                    refine lv_istore_n (lv' := [(3, .int z_71), (4, .int (nI i2)), (0, .ref o), (1, .int (nI k_34)), (2, .int (nI k_37))]) hx hb dX12_total_144 rfl hl (by decide) rfl (fun ls hl => ?_)
                    refine lv_iinc (v := nI (i2 + 1)) (lv' := [(4, .int (nI (i2 + 1))), (3, .int z_71), (0, .ref o), (1, .int (nI k_34)), (2, .int (nI k_37))]) hx hb dX12_total_145 hl (k := 1) rfl (nI_add (i2) 1) (by decide) rfl (fun ls hl => ?_)
                    refine lv_goto (tgt := 114) hx hb dX12_total_148 (by decide) ?_
                    exact ih114 (i2 + 1) z_71 _ _ _ ls (by omega) (by omega) hTy hFr hFl114 hW (lv_sub hl [0, 1, 2, 3, 4] rfl)
            exact loop ((9 - 0) + 1) 0 r_64 _ _ _ ls (Nat.lt_succ_self _) (by omega) hTy hFr Fr.rf hW (lv_sub hl [0, 1, 2, 3, 4] rfl)
        · have c_47 : k_37 = 2 := (nI_eq (a := k_37) (b := 2) (by omega) (by omega)).mp c_47
          refine lv_iconst (v := 0) hx hb dX12_total_50 (by decide) ?_
          refine lv_istore (lv' := [(4, .int 0), (3, .int r_64), (0, .ref o), (1, .int (nI k_34)), (2, .int (nI k_37))]) hx hb dX12_total_51 hl (by decide) rfl (fun ls hl => ?_)
          have loop : ∀ (fuel : Nat) (i : Nat) (sm : Int32) (SS : Nat → va_E) (H : Heap) (locs : List Loc) (ls : Array Slot), 41 - i < fuel → (i ≤ 40) → Ty cy L kap pr SS → Fr kap [12, 56] S SS → Fr kap [] S_38 SS → PW dC dI L (AL L s.heap.size) s.heap SS H locs → lv_has ls 5 [(4, .int (nI i)), (3, .int sm), (0, .ref o), (1, .int (nI k_34)), (2, .int (nI k_37))] → W p l e (headSpec (wT yX12_total cX12_total 5 (some .int)) { frames := 3, cells := 0, slots := 0, locals := 67 }).room s m [.ref o, .int (nI k_34), .int (nI k_37)].toArray below meth c H locs 0 0 (MQ below (va_Qi (fun r S' => Ty cy L kap pr S' ∧ Fr kap [12, 56] S S') (fun S' t => pB dC dI (AL L s.heap.size) (va_pl L S') (cyT cy) t) (AL L s.heap.size)) [.ref o, .int (nI k_34), .int (nI k_37)].toArray s 0 0 (AL L s.heap.size)) (F0 m 53 ls []) := by
            intro fuel
            induction fuel with
            | zero => intro i sm SS H locs ls h; exact absurd h (Nat.not_lt_zero _)
            | succ fu53 ih53 =>
              intro i sm S_72 H locs ls hm53 hb_i hTy hFr hFl53 hW hl
              have hS_o := hFl53.at hT_o (by decide) hS_o
              refine lv_iload hx hb dX12_total_53 (lv_at hl 0 rfl) ?_
              refine lv_aload_n hx hb dX12_total_55 rfl (lv_at hl 2 rfl) ?_
              refine pl_get (ci := 12) (v := .ref x_1) (C := RX12) (T := TX12) (N := 32) hx hb hT iX12 hown hK hW hT_o.1 hS_o rfl 0 (by decide) w1082 rfl dX12_total_56 ?_
              refine lv_iconst (v := 0) hx hb dX12_total_59 (by decide) ?_
              obtain ⟨f_73, hS_x_1, hi_f_73⟩ := hTy.k50 hT_x_1
              refine pl_iald hx hb hK hW hT_x_1.1 hS_x_1 (vp_in_nI (n := 0) (N := 266) (by omega) (by omega)) dX12_total_60 ?_
              refine lv_topi (fun y_74 ey_74 => ?_)
              have hv_y_74 : okS (0) y_74 := by rw [ey_74]; show okS _ (f_73 (nI (0)).toNatClampNeg); rw [nI_clamp (by omega)]; exact hi_f_73 (0) (by omega)
              obtain ⟨k_75, hb_k_75, hq_k_75⟩ := hv_y_74.1 rfl
              obtain rfl : y_74 = nI k_75 := hq_k_75
              refine lv_icmp_ge (tgt := 106) hx hb dX12_total_61 (by decide) (fun c_61 => ?_) (fun c_61 => ?_)
              · have c_61 : k_75 ≤ i := (nI_leI (a := k_75) (b := i) (by omega) (by omega)).mp c_61
                refine lv_iload_n hx hb dX12_total_106 rfl (lv_at hl 4 rfl) ?_
                refine lv_iconst (v := 3) hx hb dX12_total_107 (by decide) ?_
                refine lv_icmp_ne (tgt := 151) hx hb dX12_total_108 (by decide) (fun c_108 => ?_) (fun c_108 => ?_)
                · have c_108 : ¬ (k_37 = 3) := fun hh9 => c_108 ((nI_eq (a := k_37) (b := 3) (by omega) (by omega)).mpr hh9)
                  refine lv_iload_n hx hb dX12_total_151 rfl (lv_at hl 4 rfl) ?_
                  refine lv_iconst (v := 1) hx hb dX12_total_152 (by decide) ?_
                  refine lv_icmp_ne (tgt := 163) hx hb dX12_total_153 (by decide) (fun c_153 => ?_) (fun c_153 => ?_)
                  · have c_153 : ¬ (k_37 = 1) := fun hh9 => c_153 ((nI_eq (a := k_37) (b := 1) (by omega) (by omega)).mpr hh9)
                    refine lv_iload_n hx hb dX12_total_163 rfl (lv_at hl 1 rfl) ?_
                    exact W.iret (v := sm) hx hb hr (fun t ht h9 => ⟨⟨sm, S_72, rfl, ⟨hTy, hFr⟩, by rw [ht]; exact hW.1, va_K.moved h9.alike hK, hW.2.1⟩, hW.2.2.F ht⟩) hW.2.2.2.2 dX12_total_164
                  · have c_153 : k_37 = 1 := (nI_eq (a := k_37) (b := 1) (by omega) (by omega)).mp c_153
                    refine lv_aload_n hx hb dX12_total_156 rfl (lv_at hl 2 rfl) ?_
                    refine vp_callSi (va_Run.run (va_runV (As := []) (rest := []) ⟨hx, hb, hml, hown, hT⟩ (m_positive l dC dI cy L kap pr S_72 H.size o hTy hT_o) (cwV 0 hT (gV w1378 w1380 ws84 w14 w1381) rfl rfl rfl (by decide +kernel) ⟨(Nat.le_of_ble_eq_true rfl), (Nat.le_of_ble_eq_true rfl)⟩) ⟨pcN.blind, pl_recv hK hW hT_o.1 hS_o rfl, pcN.pre hW.1 hK hW.2.1 hN (fun q h => absurd h List.not_mem_nil)⟩ rfl rfl hl.1 rfl (lv_room (Nat.le_of_ble_eq_true rfl)) dX12_total_157 ⟨(Nat.le_of_ble_eq_true rfl), (Nat.le_of_ble_eq_true rfl)⟩)) (fun r_76 hr_76 => ?_)
                    refine lv_goto (tgt := 164) hx hb dX12_total_160 (by decide) ?_
                    exact W.iret (v := r_76) hx hb hr (fun t ht h9 => ⟨⟨r_76, S_72, rfl, ⟨hTy, hFr⟩, by rw [ht]; exact hW.1, va_K.moved h9.alike hK, hW.2.1⟩, hW.2.2.F ht⟩) hW.2.2.2.2 dX12_total_164
                · have c_108 : k_37 = 3 := (nI_eq (a := k_37) (b := 3) (by omega) (by omega)).mp c_108
                  refine lv_iconst (v := 0) hx hb dX12_total_111 (by decide) ?_
                  refine lv_istore (lv' := [(4, .int 0), (3, .int sm), (0, .ref o), (1, .int (nI k_34)), (2, .int (nI k_37))]) hx hb dX12_total_112 hl (by decide) rfl (fun ls hl => ?_)
                  have loop : ∀ (fuel : Nat) (i2 : Nat) (sm2 : Int32) (SS : Nat → va_E) (H : Heap) (locs : List Loc) (ls : Array Slot), 9 - i2 < fuel → (i2 ≤ 8) → Ty cy L kap pr SS → Fr kap [12, 56] S SS → Fr kap [] S_72 SS → PW dC dI L (AL L s.heap.size) s.heap SS H locs → lv_has ls 5 [(4, .int (nI i2)), (3, .int sm2), (0, .ref o), (1, .int (nI k_34)), (2, .int (nI k_37))] → W p l e (headSpec (wT yX12_total cX12_total 5 (some .int)) { frames := 3, cells := 0, slots := 0, locals := 67 }).room s m [.ref o, .int (nI k_34), .int (nI k_37)].toArray below meth c H locs 0 0 (MQ below (va_Qi (fun r S' => Ty cy L kap pr S' ∧ Fr kap [12, 56] S S') (fun S' t => pB dC dI (AL L s.heap.size) (va_pl L S') (cyT cy) t) (AL L s.heap.size)) [.ref o, .int (nI k_34), .int (nI k_37)].toArray s 0 0 (AL L s.heap.size)) (F0 m 114 ls []) := by
                    intro fuel
                    induction fuel with
                    | zero => intro i2 sm2 SS H locs ls h; exact absurd h (Nat.not_lt_zero _)
                    | succ fu114 ih114 =>
                      intro i2 sm2 S_77 H locs ls hm114 hb_i2 hTy hFr hFl114 hW hl
                      have hS_o := hFl114.at hT_o (by decide) hS_o
                      have hS_x_1 := hFl114.at hT_x_1 (by decide) hS_x_1
                      have hFl53 := hFl53.tr hFl114 (by decide)
                      refine lv_iload hx hb dX12_total_114 (lv_at hl 0 rfl) ?_
                      refine lv_aload_n hx hb dX12_total_116 rfl (lv_at hl 2 rfl) ?_
                      refine pl_get (ci := 12) (v := .int (nI x_6)) (C := RX12) (T := TX12) (N := 32) hx hb hT iX12 hown hK hW hT_o.1 hS_o rfl 5 (by decide) w1087 rfl dX12_total_117 ?_
                      refine lv_icmp_ge (tgt := 151) hx hb dX12_total_120 (by decide) (fun c_120 => ?_) (fun c_120 => ?_)
                      · have c_120 : x_6 ≤ i2 := (nI_leI (a := x_6) (b := i2) (by omega) (by omega)).mp c_120
                        refine lv_iload_n hx hb dX12_total_151 rfl (lv_at hl 4 rfl) ?_
                        refine lv_iconst (v := 1) hx hb dX12_total_152 (by decide) ?_
                        refine lv_icmp_ne (tgt := 163) hx hb dX12_total_153 (by decide) (fun c_153 => ?_) (fun c_153 => ?_)
                        · have c_153 : ¬ (k_37 = 1) := fun hh9 => c_153 ((nI_eq (a := k_37) (b := 1) (by omega) (by omega)).mpr hh9)
                          refine lv_iload_n hx hb dX12_total_163 rfl (lv_at hl 1 rfl) ?_
                          exact W.iret (v := sm2) hx hb hr (fun t ht h9 => ⟨⟨sm2, S_77, rfl, ⟨hTy, hFr⟩, by rw [ht]; exact hW.1, va_K.moved h9.alike hK, hW.2.1⟩, hW.2.2.F ht⟩) hW.2.2.2.2 dX12_total_164
                        · have c_153 : k_37 = 1 := (nI_eq (a := k_37) (b := 1) (by omega) (by omega)).mp c_153
                          refine lv_aload_n hx hb dX12_total_156 rfl (lv_at hl 2 rfl) ?_
                          refine vp_callSi (va_Run.run (va_runV (As := []) (rest := []) ⟨hx, hb, hml, hown, hT⟩ (m_positive l dC dI cy L kap pr S_77 H.size o hTy hT_o) (cwV 0 hT (gV w1378 w1380 ws84 w14 w1381) rfl rfl rfl (by decide +kernel) ⟨(Nat.le_of_ble_eq_true rfl), (Nat.le_of_ble_eq_true rfl)⟩) ⟨pcN.blind, pl_recv hK hW hT_o.1 hS_o rfl, pcN.pre hW.1 hK hW.2.1 hN (fun q h => absurd h List.not_mem_nil)⟩ rfl rfl hl.1 rfl (lv_room (Nat.le_of_ble_eq_true rfl)) dX12_total_157 ⟨(Nat.le_of_ble_eq_true rfl), (Nat.le_of_ble_eq_true rfl)⟩)) (fun r_78 hr_78 => ?_)
                          refine lv_goto (tgt := 164) hx hb dX12_total_160 (by decide) ?_
                          exact W.iret (v := r_78) hx hb hr (fun t ht h9 => ⟨⟨r_78, S_77, rfl, ⟨hTy, hFr⟩, by rw [ht]; exact hW.1, va_K.moved h9.alike hK, hW.2.1⟩, hW.2.2.F ht⟩) hW.2.2.2.2 dX12_total_164
                      · have c_120 : ¬ (x_6 ≤ i2) := fun hh9 => c_120 ((nI_leI (a := x_6) (b := i2) (by omega) (by omega)).mpr hh9)
                        refine lv_iload_n hx hb dX12_total_123 rfl (lv_at hl 1 rfl) ?_
                        refine lv_aload_n hx hb dX12_total_124 rfl (lv_at hl 2 rfl) ?_
                        refine lv_iload hx hb dX12_total_125 (lv_at hl 0 rfl) ?_
                        refine vp_callSi (va_Run.run (va_runV (As := [.int (nI i2)]) (rest := [.int sm2]) ⟨hx, hb, hml, hown, hT⟩ (m_netBy l dC dI cy L kap pr S_77 H.size o i2 hTy hT_o (by omega)) (cwV 1 hT (gV w1356 w1358 ws81 w14 w1359) rfl rfl rfl (by decide +kernel) ⟨(Nat.le_of_ble_eq_true rfl), (Nat.le_of_ble_eq_true rfl)⟩) ⟨pcN.blind, pl_recv hK hW hT_o.1 hS_o rfl, pcN.pre hW.1 hK hW.2.1 hN (fun q h => absurd h List.not_mem_nil)⟩ rfl rfl hl.1 rfl (lv_room (Nat.le_of_ble_eq_true rfl)) dX12_total_127 ⟨(Nat.le_of_ble_eq_true rfl), (Nat.le_of_ble_eq_true rfl)⟩)) (fun r_79 hr_79 => ?_)
                        refine lv_if_le (tgt := 142) hx hb dX12_total_130 (by decide) (fun c_130 => ?_) (fun c_130 => ?_)
                        · refine lv_iconst (v := 0) hx hb dX12_total_142 (by decide) ?_
                          refine lv_iadd hx hb dX12_total_143 ?_
                          refine lv_topi (fun z_80 ez_80 => ?_)
                          refine lv_istore_n (lv' := [(3, .int z_80), (4, .int (nI i2)), (0, .ref o), (1, .int (nI k_34)), (2, .int (nI k_37))]) hx hb dX12_total_144 rfl hl (by decide) rfl (fun ls hl => ?_)
                          refine lv_iinc (v := nI (i2 + 1)) (lv' := [(4, .int (nI (i2 + 1))), (3, .int z_80), (0, .ref o), (1, .int (nI k_34)), (2, .int (nI k_37))]) hx hb dX12_total_145 hl (k := 1) rfl (nI_add (i2) 1) (by decide) rfl (fun ls hl => ?_)
                          refine lv_goto (tgt := 114) hx hb dX12_total_148 (by decide) ?_
                          exact ih114 (i2 + 1) z_80 _ _ _ ls (by omega) (by omega) hTy hFr hFl114 hW (lv_sub hl [0, 1, 2, 3, 4] rfl)
                        · refine lv_aload_n hx hb dX12_total_133 rfl (lv_at hl 2 rfl) ?_
                          refine lv_iload hx hb dX12_total_134 (lv_at hl 0 rfl) ?_
                          refine vp_callSi (va_Run.run (va_runV (As := [.int (nI i2)]) (rest := [.int sm2]) ⟨hx, hb, hml, hown, hT⟩ (m_netBy l dC dI cy L kap pr S_77 H.size o i2 hTy hT_o (by omega)) (cwV 1 hT (gV w1356 w1358 ws81 w14 w1359) rfl rfl rfl (by decide +kernel) ⟨(Nat.le_of_ble_eq_true rfl), (Nat.le_of_ble_eq_true rfl)⟩) ⟨pcN.blind, pl_recv hK hW hT_o.1 hS_o rfl, pcN.pre hW.1 hK hW.2.1 hN (fun q h => absurd h List.not_mem_nil)⟩ rfl rfl hl.1 rfl (lv_room (Nat.le_of_ble_eq_true rfl)) dX12_total_136 ⟨(Nat.le_of_ble_eq_true rfl), (Nat.le_of_ble_eq_true rfl)⟩)) (fun r_81 hr_81 => ?_)
                          refine lv_goto (tgt := 143) hx hb dX12_total_139 (by decide) ?_
                          refine lv_iadd hx hb dX12_total_143 ?_
                          refine lv_topi (fun z_82 ez_82 => ?_)
                          refine lv_istore_n (lv' := [(3, .int z_82), (4, .int (nI i2)), (0, .ref o), (1, .int (nI k_34)), (2, .int (nI k_37))]) hx hb dX12_total_144 rfl hl (by decide) rfl (fun ls hl => ?_)
                          refine lv_iinc (v := nI (i2 + 1)) (lv' := [(4, .int (nI (i2 + 1))), (3, .int z_82), (0, .ref o), (1, .int (nI k_34)), (2, .int (nI k_37))]) hx hb dX12_total_145 hl (k := 1) rfl (nI_add (i2) 1) (by decide) rfl (fun ls hl => ?_)
                          refine lv_goto (tgt := 114) hx hb dX12_total_148 (by decide) ?_
                          exact ih114 (i2 + 1) z_82 _ _ _ ls (by omega) (by omega) hTy hFr hFl114 hW (lv_sub hl [0, 1, 2, 3, 4] rfl)
                  exact loop ((9 - 0) + 1) 0 sm _ _ _ ls (Nat.lt_succ_self _) (by omega) hTy hFr Fr.rf hW (lv_sub hl [0, 1, 2, 3, 4] rfl)
              · have c_61 : ¬ (k_75 ≤ i) := fun hh9 => c_61 ((nI_leI (a := k_75) (b := i) (by omega) (by omega)).mpr hh9)
                refine lv_iload_n hx hb dX12_total_64 rfl (lv_at hl 1 rfl) ?_
                refine lv_aload_n hx hb dX12_total_65 rfl (lv_at hl 2 rfl) ?_
                refine lv_iload hx hb dX12_total_66 (lv_at hl 0 rfl) ?_
                refine lv_iconst (v := 3) hx hb dX12_total_68 (by decide) ?_
                refine vp_callSi (va_Run.run (va_runV (As := [.int (nI i), .int 3]) (rest := [.int sm]) ⟨hx, hb, hml, hown, hT⟩ (m_tradeAt l dC dI cy L kap pr S_72 H.size o i 3 hTy hT_o (by omega) (by omega)) (cwV 2 hT (gV w1247 w1249 ws66 w14 w1250) rfl rfl rfl (by decide +kernel) ⟨(Nat.le_of_ble_eq_true rfl), (Nat.le_of_ble_eq_true rfl)⟩) ⟨pcN.blind, pl_recv hK hW hT_o.1 hS_o rfl, pcN.pre hW.1 hK hW.2.1 hN (fun q h => absurd h List.not_mem_nil)⟩ rfl rfl hl.1 rfl (lv_room (Nat.le_of_ble_eq_true rfl)) dX12_total_69 ⟨(Nat.le_of_ble_eq_true rfl), (Nat.le_of_ble_eq_true rfl)⟩)) (fun r_83 hr_83 => ?_)
                obtain ⟨k_84, hb_k_84, rfl⟩ := hr_83.1.2.2 (by omega) (by omega) (by omega)
                refine lv_iload_n hx hb dX12_total_72 rfl (lv_at hl 3 rfl) ?_
                refine lv_icmp_ne (tgt := 97) hx hb dX12_total_73 (by decide) (fun c_73 => ?_) (fun c_73 => ?_)
                · have c_73 : ¬ (k_84 = k_34) := fun hh9 => c_73 ((nI_eq (a := k_84) (b := k_34) (by omega) (by omega)).mpr hh9)
                  refine lv_iconst (v := 0) hx hb dX12_total_97 (by decide) ?_
                  refine lv_iadd hx hb dX12_total_98 ?_
                  refine lv_topi (fun z_85 ez_85 => ?_)
                  refine lv_istore_n (lv' := [(3, .int z_85), (4, .int (nI i)), (0, .ref o), (1, .int (nI k_34)), (2, .int (nI k_37))]) hx hb dX12_total_99 rfl hl (by decide) rfl (fun ls hl => ?_)
                  refine lv_iinc (v := nI (i + 1)) (lv' := [(4, .int (nI (i + 1))), (3, .int z_85), (0, .ref o), (1, .int (nI k_34)), (2, .int (nI k_37))]) hx hb dX12_total_100 hl (k := 1) rfl (nI_add (i) 1) (by decide) rfl (fun ls hl => ?_)
                  refine lv_goto (tgt := 53) hx hb dX12_total_103 (by decide) ?_
                  exact ih53 (i + 1) z_85 _ _ _ ls (by omega) (by omega) hTy hFr hFl53 hW (lv_sub hl [0, 1, 2, 3, 4] rfl)
                · have c_73 : k_84 = k_34 := (nI_eq (a := k_84) (b := k_34) (by omega) (by omega)).mp c_73
                  refine lv_aload_n hx hb dX12_total_76 rfl (lv_at hl 2 rfl) ?_
                  refine lv_iload hx hb dX12_total_77 (lv_at hl 0 rfl) ?_
                  refine lv_iconst (v := 4) hx hb dX12_total_79 (by decide) ?_
                  refine vp_callSi (va_Run.run (va_runV (As := [.int (nI i), .int 4]) (rest := [.int sm]) ⟨hx, hb, hml, hown, hT⟩ (m_tradeAt l dC dI cy L kap pr S_72 H.size o i 4 hTy hT_o (by omega) (by omega)) (cwV 2 hT (gV w1247 w1249 ws66 w14 w1250) rfl rfl rfl (by decide +kernel) ⟨(Nat.le_of_ble_eq_true rfl), (Nat.le_of_ble_eq_true rfl)⟩) ⟨pcN.blind, pl_recv hK hW hT_o.1 hS_o rfl, pcN.pre hW.1 hK hW.2.1 hN (fun q h => absurd h List.not_mem_nil)⟩ rfl rfl hl.1 rfl (lv_room (Nat.le_of_ble_eq_true rfl)) dX12_total_80 ⟨(Nat.le_of_ble_eq_true rfl), (Nat.le_of_ble_eq_true rfl)⟩)) (fun r_86 hr_86 => ?_)
                  refine lv_iconst (v := 1) hx hb dX12_total_83 (by decide) ?_
                  refine lv_icmp_ne (tgt := 97) hx hb dX12_total_84 (by decide) (fun c_84 => ?_) (fun c_84 => ?_)
                  · refine lv_iconst (v := 0) hx hb dX12_total_97 (by decide) ?_
                    refine lv_iadd hx hb dX12_total_98 ?_
                    refine lv_topi (fun z_87 ez_87 => ?_)
                    refine lv_istore_n (lv' := [(3, .int z_87), (4, .int (nI i)), (0, .ref o), (1, .int (nI k_34)), (2, .int (nI k_37))]) hx hb dX12_total_99 rfl hl (by decide) rfl (fun ls hl => ?_)
                    refine lv_iinc (v := nI (i + 1)) (lv' := [(4, .int (nI (i + 1))), (3, .int z_87), (0, .ref o), (1, .int (nI k_34)), (2, .int (nI k_37))]) hx hb dX12_total_100 hl (k := 1) rfl (nI_add (i) 1) (by decide) rfl (fun ls hl => ?_)
                    refine lv_goto (tgt := 53) hx hb dX12_total_103 (by decide) ?_
                    exact ih53 (i + 1) z_87 _ _ _ ls (by omega) (by omega) hTy hFr hFl53 hW (lv_sub hl [0, 1, 2, 3, 4] rfl)
                  · refine lv_aload_n hx hb dX12_total_87 rfl (lv_at hl 2 rfl) ?_
                    refine lv_iload hx hb dX12_total_88 (lv_at hl 0 rfl) ?_
                    refine lv_iconst (v := 2) hx hb dX12_total_90 (by decide) ?_
                    refine vp_callSi (va_Run.run (va_runV (As := [.int (nI i), .int 2]) (rest := [.int sm]) ⟨hx, hb, hml, hown, hT⟩ (m_tradeAt l dC dI cy L kap pr S_72 H.size o i 2 hTy hT_o (by omega) (by omega)) (cwV 2 hT (gV w1247 w1249 ws66 w14 w1250) rfl rfl rfl (by decide +kernel) ⟨(Nat.le_of_ble_eq_true rfl), (Nat.le_of_ble_eq_true rfl)⟩) ⟨pcN.blind, pl_recv hK hW hT_o.1 hS_o rfl, pcN.pre hW.1 hK hW.2.1 hN (fun q h => absurd h List.not_mem_nil)⟩ rfl rfl hl.1 rfl (lv_room (Nat.le_of_ble_eq_true rfl)) dX12_total_91 ⟨(Nat.le_of_ble_eq_true rfl), (Nat.le_of_ble_eq_true rfl)⟩)) (fun r_88 hr_88 => ?_)
                    refine lv_goto (tgt := 98) hx hb dX12_total_94 (by decide) ?_
                    refine lv_iadd hx hb dX12_total_98 ?_
                    refine lv_topi (fun z_89 ez_89 => ?_)
                    refine lv_istore_n (lv' := [(3, .int z_89), (4, .int (nI i)), (0, .ref o), (1, .int (nI k_34)), (2, .int (nI k_37))]) hx hb dX12_total_99 rfl hl (by decide) rfl (fun ls hl => ?_)
                    refine lv_iinc (v := nI (i + 1)) (lv' := [(4, .int (nI (i + 1))), (3, .int z_89), (0, .ref o), (1, .int (nI k_34)), (2, .int (nI k_37))]) hx hb dX12_total_100 hl (k := 1) rfl (nI_add (i) 1) (by decide) rfl (fun ls hl => ?_)
                    refine lv_goto (tgt := 53) hx hb dX12_total_103 (by decide) ?_
                    exact ih53 (i + 1) z_89 _ _ _ ls (by omega) (by omega) hTy hFr hFl53 hW (lv_sub hl [0, 1, 2, 3, 4] rfl)
          exact loop ((41 - 0) + 1) 0 r_64 _ _ _ ls (Nat.lt_succ_self _) (by omega) hTy hFr Fr.rf hW (lv_sub hl [0, 1, 2, 3, 4] rfl)
    · obtain ⟨rfl, hin_⟩ := hc_
      refine lv_if_ne (tgt := 28) hx hb dX12_total_22 (by decide) (fun h => absurd (by decide) h) (fun _ => ?_)
      refine lv_bipush (v := (-2)) hx hb dX12_total_25 (by decide) ?_
      exact W.iret (v := (-2)) hx hb hr (fun t ht h9 => ⟨⟨(-2), S_32, rfl, ⟨hTy, hFr⟩, by rw [ht]; exact hW.1, va_K.moved h9.alike hK, hW.2.1⟩, hW.2.2.F ht⟩) hW.2.2.2.2 dX12_total_27

set_option maxHeartbeats 4000000 in
set_option maxRecDepth 100000 in
theorem m_bound (l : Launch) (dC : Nat → ClassId) (dI : Nat → Nat → Nat) (cy : Nat → ClassId) (L : List Nat) (kap : Nat → Nat) (pr : Pr) (S : Nat → va_E) (sz : Nat) (o : Nat) (fa : Int32) (fb : Int32) (kd : Int32) (hTy : Ty cy L kap pr S) (hT_o : TK L kap o 12) : Met l yX12_bound (wT yX12_bound cX12_bound 4 (some .int)) ({ frames := 3, cells := 0, slots := 0, locals := 68 }) (pcN dC dI [.ref o, .int fa, .int fb, .int kd] sz (va_pl L S) (cyT cy) NLs []) (va_Qi (fun r S' => Ty cy L kap pr S' ∧ Fr kap [12, 56] S S') (fun S' t => pB dC dI (AL L sz) (va_pl L S') (cyT cy) t) (AL L sz)) 0 0 (AL L sz) := by
  refine Met.ofW (cc := cX12_bound) (maxL := 4) (ret := (some .int)) (by decide) rfl ?_
  intro p e s m args below meth c s₁ B hml hv
  obtain ⟨rfl, hsz, hP, hK, hD0, hN, -⟩ := hv
  have hx := B.exec
  have hb := B.bytes
  have hr := B.returns
  have hT : ∀ wd ∈ TB, wd.before [.ref o, .int fa, .int fb, .int kd].toArray s = true := fun wd h => atoms_spec (ws := wT yX12_bound cX12_bound 4 (some .int)) B.pre wd (List.mem_cons_of_mem _ h)
  have hown : s.vm.findClass RX12 = some m.cls := findClass_of_methodNamed B.named
  have hlocks := B.notSynchronized
  subst hsz
  have hW : PW dC dI L (AL L s.heap.size) s.heap S s.heap [] := ⟨hP, pl_self hD0, va_S.rf⟩
  have hA0 : ∀ q, q ∈ L → AL L s.heap.size q := fun _ h => Or.inl h
  have hA : ∀ q, s.heap.size ≤ q → AL L s.heap.size q := fun _ h => Or.inr h
  have hFr : Fr kap [12, 56] S S := Fr.rf
  have hl := lv_entry ([.ref o, .int fa, .int fb, .int kd]) (n := 4) (Nat.le_of_ble_eq_true rfl)
  rw [lg_entry_eq]
  generalize (lg_sl ([.ref o, .int fa, .int fb, .int kd]) ++ List.replicate (4 - (lg_sl ([.ref o, .int fa, .int fb, .int kd])).length) Slot.unset).toArray = ls at hl ⊢
  have hl : lv_has ls 4 [(0, .ref o), (1, .int fa), (2, .int fb), (3, .int kd)] := hl
  refine lv_aload_n hx hb dX12_bound_0 rfl (lv_at hl 0 rfl) ?_
  refine lv_iconst (v := 0) hx hb dX12_bound_1 (by decide) ?_
  obtain ⟨x_1, x_2, x_3, x_4, x_5, x_6, x_7, x_8, x_9, x_10, x_11, x_12, x_13, x_14, x_15, x_16, x_17, x_18, x_19, x_20, x_21, x_22, x_23, x_24, x_25, x_26, x_27, x_28, x_29, x_30, x_31, hS_o, hT_x_1, hT_x_2, hT_x_3, hT_x_4, hT_x_5, hb_x_6, hb_x_7, hb_x_8, hT_x_10, hb_q2, hb_x_11, hb_x_12, hT_x_17, hT_x_18, hb_x_19, hT_x_20, hT_x_21, hT_x_22, hT_x_23, hT_x_24, hT_x_25, hT_x_26, hT_x_27, hT_x_28, hT_x_29, hT_x_30, hb_x_31⟩ := hTy.k12 hT_o
  have hb_q2 : pr.2 ≤ 900 := hb_q2
  have hS_o : S o = .inr (12, [.ref x_1, .ref x_2, .ref x_3, .ref x_4, .ref x_5, .int (nI x_6), .int (nI x_7), .int (nI x_8), .int x_9, .ref x_10, .int (nI (pr.2)), .int (nI x_11), .int (nI x_12), .int x_13, .int x_14, .int x_15, .int x_16, .ref x_17, .ref x_18, .int (nI x_19), .ref x_20, .ref x_21, .ref x_22, .ref x_23, .ref x_24, .ref x_25, .ref x_26, .ref x_27, .ref x_28, .ref x_29, .ref x_30, .int (nI x_31)]) := hS_o
  refine pl_put (ci := 12) (v := .int 0) (ty := .int) (C := RX12) (T := TX12) (N := 32) (fs' := [.ref x_1, .ref x_2, .ref x_3, .ref x_4, .ref x_5, .int (nI x_6), .int (nI x_7), .int (nI x_8), .int 0, .ref x_10, .int (nI (pr.2)), .int (nI x_11), .int (nI x_12), .int x_13, .int x_14, .int x_15, .int x_16, .ref x_17, .ref x_18, .int (nI x_19), .ref x_20, .ref x_21, .ref x_22, .ref x_23, .ref x_24, .ref x_25, .ref x_26, .ref x_27, .ref x_28, .ref x_29, .ref x_30, .int (nI x_31)]) hx hb hT iX12 tyX12 tyX12_ok nmX12 hown hK hW hT_o.1 hS_o rfl 8 (by decide) w1090 rfl (by decide +kernel) rfl rfl (Nat.le_of_ble_eq_true rfl) rfl dX12_bound_2 (fun H locs S_32 e1 hW => ?_)
  have hTy := hTy.u12 e1 hT_o ⟨x_1, x_2, x_3, x_4, x_5, x_6, x_7, x_8, 0, x_10, x_11, x_12, x_13, x_14, x_15, x_16, x_17, x_18, x_19, x_20, x_21, x_22, x_23, x_24, x_25, x_26, x_27, x_28, x_29, x_30, x_31, rfl, hT_x_1, hT_x_2, hT_x_3, hT_x_4, hT_x_5, (by omega), (by omega), (by omega), hT_x_10, (by show pr.2 ≤ 900; omega), (by omega), (by omega), hT_x_17, hT_x_18, (by omega), hT_x_20, hT_x_21, hT_x_22, hT_x_23, hT_x_24, hT_x_25, hT_x_26, hT_x_27, hT_x_28, hT_x_29, hT_x_30, (by omega)⟩
  have hws := (show wrs (.inr (12, [.ref x_1, .ref x_2, .ref x_3, .ref x_4, .ref x_5, .int (nI x_6), .int (nI x_7), .int (nI x_8), .int 0, .ref x_10, .int (nI (pr.2)), .int (nI x_11), .int (nI x_12), .int x_13, .int x_14, .int x_15, .int x_16, .ref x_17, .ref x_18, .int (nI x_19), .ref x_20, .ref x_21, .ref x_22, .ref x_23, .ref x_24, .ref x_25, .ref x_26, .ref x_27, .ref x_28, .ref x_29, .ref x_30, .int (nI x_31)])) = wrs (S o) from by rw [hS_o]; rfl)
  have hFr := ufs hFr e1 hT_o (by decide) hws
  have hS_o := us e1
  refine lv_aload_n hx hb dX12_bound_5 rfl (lv_at hl 0 rfl) ?_
  refine lv_iload_n hx hb dX12_bound_6 rfl (lv_at hl 1 rfl) ?_
  refine lv_iload_n hx hb dX12_bound_7 rfl (lv_at hl 2 rfl) ?_
  refine vp_callSi (va_Run.run (va_runV (As := [.int fa, .int fb]) (rest := []) ⟨hx, hb, hml, hown, hT⟩ (m_areTwo l dC dI cy L kap pr S_32 H.size o fa fb hTy hT_o) (cwV 2 hT (gV w1280 w1282 ws72 w14 w1283) rfl rfl rfl (by decide +kernel) ⟨(Nat.le_of_ble_eq_true rfl), (Nat.le_of_ble_eq_true rfl)⟩) ⟨pcN.blind, pl_recv hK hW hT_o.1 hS_o rfl, pcN.pre hW.1 hK hW.2.1 hN (fun q h => absurd h List.not_mem_nil)⟩ rfl rfl hl.1 rfl (lv_room (Nat.le_of_ble_eq_true rfl)) dX12_bound_8 ⟨(Nat.le_of_ble_eq_true rfl), (Nat.le_of_ble_eq_true rfl)⟩)) (fun r_33 hr_33 => ?_)
  rcases hr_33 with hc_ | hc_
  · obtain rfl : r_33 = 0 := hc_
    refine lv_if_eq (tgt := 22) hx hb dX12_bound_11 (by decide) (fun _ => ?_) (fun h => absurd (by decide) h)
    refine lv_bipush (v := (-2)) hx hb dX12_bound_22 (by decide) ?_
    exact W.iret (v := (-2)) hx hb hr (fun t ht h9 => ⟨⟨(-2), S_32, rfl, ⟨hTy, hFr⟩, by rw [ht]; exact hW.1, va_K.moved h9.alike hK, hW.2.1⟩, hW.2.2.F ht⟩) hW.2.2.2.2 dX12_bound_24
  · obtain ⟨rfl, k_34, k_35, hb_k_34, hb_k_35, rfl, rfl, hab2⟩ := hc_
    refine lv_if_eq (tgt := 22) hx hb dX12_bound_11 (by decide) (fun h => absurd h (by decide)) (fun _ => ?_)
    refine lv_aload_n hx hb dX12_bound_14 rfl (lv_at hl 0 rfl) ?_
    refine lv_iload_n hx hb dX12_bound_15 rfl (lv_at hl 3 rfl) ?_
    refine vp_callSi (va_Run.run (va_runV (As := [.int kd]) (rest := []) ⟨hx, hb, hml, hown, hT⟩ (m_isKind l dC dI cy L kap pr S_32 H.size o kd hTy hT_o) (cwV 1 hT (gV w1288 w1290 ws74 w14 w1291) rfl rfl rfl (by decide +kernel) ⟨(Nat.le_of_ble_eq_true rfl), (Nat.le_of_ble_eq_true rfl)⟩) ⟨pcN.blind, pl_recv hK hW hT_o.1 hS_o rfl, pcN.pre hW.1 hK hW.2.1 hN (fun q h => absurd h List.not_mem_nil)⟩ rfl rfl hl.1 rfl (lv_room (Nat.le_of_ble_eq_true rfl)) dX12_bound_16 ⟨(Nat.le_of_ble_eq_true rfl), (Nat.le_of_ble_eq_true rfl)⟩)) (fun r_36 hr_36 => ?_)
    rcases hr_36 with hc_ | hc_
    · obtain rfl : r_36 = 0 := hc_
      refine lv_if_ne (tgt := 25) hx hb dX12_bound_19 (by decide) (fun h => absurd (by decide) h) (fun _ => ?_)
      refine lv_bipush (v := (-2)) hx hb dX12_bound_22 (by decide) ?_
      exact W.iret (v := (-2)) hx hb hr (fun t ht h9 => ⟨⟨(-2), S_32, rfl, ⟨hTy, hFr⟩, by rw [ht]; exact hW.1, va_K.moved h9.alike hK, hW.2.1⟩, hW.2.2.F ht⟩) hW.2.2.2.2 dX12_bound_24
    · obtain ⟨rfl, k_37, hb_k_37, rfl⟩ := hc_
      refine lv_if_ne (tgt := 25) hx hb dX12_bound_19 (by decide) (fun _ => ?_) (fun h => absurd h (by decide))
      refine lv_aload_n hx hb dX12_bound_25 rfl (lv_at hl 0 rfl) ?_
      refine lv_iload_n hx hb dX12_bound_26 rfl (lv_at hl 3 rfl) ?_
      refine lv_iconst (v := (-1)) hx hb dX12_bound_27 (by decide) ?_
      refine pl_callv (va_runV (As := [.int (nI k_37), .int (-1)]) (rest := []) ⟨hx, hb, hml, hown, hT⟩ (m_laysFlows l dC dI cy L kap pr S_32 H.size o (nI k_37) (-1) hTy hT_o) (cwV 2 hT (gV w1336 w1338 ws78 w14 w1339) rfl rfl rfl (by decide +kernel) ⟨(Nat.le_of_ble_eq_true rfl), (Nat.le_of_ble_eq_true rfl)⟩) ⟨pcN.blind, pl_recv hK hW hT_o.1 hS_o rfl, pcN.pre hW.1 hK hW.2.1 hN (fun q h => absurd h List.not_mem_nil)⟩ rfl rfl hl.1 rfl (lv_room (Nat.le_of_ble_eq_true rfl)) dX12_bound_28 ⟨(Nat.le_of_ble_eq_true rfl), (Nat.le_of_ble_eq_true rfl)⟩) hW hA0 hA (fun S_38 H locs hrel hW => ?_)
      obtain ⟨hTy, hF1⟩ := hrel
      have hFr := hFr.tr hF1 (by decide)
      have hS_o := hF1.at hT_o (by decide) hS_o
      refine lv_aload_n hx hb dX12_bound_31 rfl (lv_at hl 0 rfl) ?_
      refine lv_iload_n hx hb dX12_bound_32 rfl (lv_at hl 1 rfl) ?_
      refine lv_iload_n hx hb dX12_bound_33 rfl (lv_at hl 2 rfl) ?_
      refine vp_callSi (va_Run.run (va_runV (As := [.int (nI k_34), .int (nI k_35)]) (rest := []) ⟨hx, hb, hml, hown, hT⟩ (m_boundOf l dC dI cy L kap pr S_38 H.size o k_34 k_35 hTy hT_o (by omega) (by omega)) (cwV 2 hT (gV w1386 w1388 ws85 w14 w1389) rfl rfl rfl (by decide +kernel) ⟨(Nat.le_of_ble_eq_true rfl), (Nat.le_of_ble_eq_true rfl)⟩) ⟨pcN.blind, pl_recv hK hW hT_o.1 hS_o rfl, pcN.pre hW.1 hK hW.2.1 hN (fun q h => absurd h List.not_mem_nil)⟩ rfl rfl hl.1 rfl (lv_room (Nat.le_of_ble_eq_true rfl)) dX12_bound_34 ⟨(Nat.le_of_ble_eq_true rfl), (Nat.le_of_ble_eq_true rfl)⟩)) (fun r_39 hr_39 => ?_)
      exact W.iret (v := r_39) hx hb hr (fun t ht h9 => ⟨⟨r_39, S_38, rfl, ⟨hTy, hFr⟩, by rw [ht]; exact hW.1, va_K.moved h9.alike hK, hW.2.1⟩, hW.2.2.F ht⟩) hW.2.2.2.2 dX12_bound_37

set_option maxHeartbeats 4000000 in
set_option maxRecDepth 100000 in
theorem m_throughBy56 (l : Launch) (dC : Nat → ClassId) (dI : Nat → Nat → Nat) (cy : Nat → ClassId) (L : List Nat) (kap : Nat → Nat) (pr : Pr) (S : Nat → va_E) (sz : Nat) (q : Nat) (pa : Nat) (hTy : Ty cy L kap pr S) (hT_q : TK L kap q 56) (hb_pa : pa < 8) : Met l yX12_throughBy (wT yX12_throughBy cX12_throughBy 5 (some .int)) ({ frames := 1, cells := 0, slots := 0, locals := 21 }) (pcN dC dI [.ref q, .int (nI pa)] sz (va_pl L S) (cyT cy) NLs []) (vp_Si (fun r => True)) 0 0 (fun _ => False) := by
  refine Met.ofW (cc := cX12_throughBy) (maxL := 5) (ret := (some .int)) (by decide) rfl ?_
  intro p e s m args below meth c s₁ B hml hv
  obtain ⟨rfl, hsz, hP, hK, hD0, hN, -⟩ := hv
  have hx := B.exec
  have hb := B.bytes
  have hr := B.returns
  have hT : ∀ wd ∈ TB, wd.before [.ref q, .int (nI pa)].toArray s = true := fun wd h => atoms_spec (ws := wT yX12_throughBy cX12_throughBy 5 (some .int)) B.pre wd (List.mem_cons_of_mem _ h)
  have hown : s.vm.findClass RX12 = some m.cls := findClass_of_methodNamed B.named
  have hlocks := B.notSynchronized
  subst hsz
  have hW : PW dC dI L (AL L s.heap.size) s.heap S s.heap [] := ⟨hP, pl_self hD0, va_S.rf⟩
  have hFr : Fr kap [] S S := Fr.rf
  have hl := lv_entry ([.ref q, .int (nI pa)]) (n := 5) (Nat.le_of_ble_eq_true rfl)
  rw [lg_entry_eq]
  generalize (lg_sl ([.ref q, .int (nI pa)]) ++ List.replicate (5 - (lg_sl ([.ref q, .int (nI pa)])).length) Slot.unset).toArray = ls at hl ⊢
  have hl : lv_has ls 5 [(0, .ref q), (1, .int (nI pa))] := hl
  refine lv_iconst (v := 0) hx hb dX12_throughBy_0 (by decide) ?_
  refine lv_istore_n (lv' := [(2, .int 0), (0, .ref q), (1, .int (nI pa))]) hx hb dX12_throughBy_1 rfl hl (by decide) rfl (fun ls hl => ?_)
  refine lv_iconst (v := 0) hx hb dX12_throughBy_2 (by decide) ?_
  refine lv_istore_n (lv' := [(3, .int 0), (2, .int 0), (0, .ref q), (1, .int (nI pa))]) hx hb dX12_throughBy_3 rfl hl (by decide) rfl (fun ls hl => ?_)
  refine lv_iconst (v := 0) hx hb dX12_throughBy_4 (by decide) ?_
  refine lv_istore (lv' := [(4, .int 0), (3, .int 0), (2, .int 0), (0, .ref q), (1, .int (nI pa))]) hx hb dX12_throughBy_5 hl (by decide) rfl (fun ls hl => ?_)
  have loop : ∀ (fuel : Nat) (i : Nat) (su : Int32) (sv : Int32) (ls : Array Slot), 9 - i < fuel → (i ≤ 8) → lv_has ls 5 [(4, .int (nI i)), (3, .int sv), (2, .int su), (0, .ref q), (1, .int (nI pa))] → W p l e (headSpec (wT yX12_throughBy cX12_throughBy 5 (some .int)) { frames := 1, cells := 0, slots := 0, locals := 21 }).room s m [.ref q, .int (nI pa)].toArray below meth c s.heap [] 0 0 (MQ below (vp_Si (fun r => True)) [.ref q, .int (nI pa)].toArray s 0 0 (fun _ => False)) (F0 m 7 ls []) := by
    intro fuel
    induction fuel with
    | zero => intro i su sv ls h; exact absurd h (Nat.not_lt_zero _)
    | succ fu7 ih7 =>
      intro i su sv ls hm7 hb_i hl
      refine lv_iload hx hb dX12_throughBy_7 (lv_at hl 0 rfl) ?_
      refine lv_bipush (v := 8) hx hb dX12_throughBy_9 (by decide) ?_
      refine lv_icmp_ge (tgt := 42) hx hb dX12_throughBy_11 (by decide) (fun c_11 => ?_) (fun c_11 => ?_)
      · have c_11 : 8 ≤ i := (nI_leI (a := 8) (b := i) (by omega) (by omega)).mp c_11
        refine lv_iload_n hx hb dX12_throughBy_42 rfl (lv_at hl 2 rfl) ?_
        refine lv_iload_n hx hb dX12_throughBy_43 rfl (lv_at hl 1 rfl) ?_
        refine lv_icmp_ge (tgt := 51) hx hb dX12_throughBy_44 (by decide) (fun c_44 => ?_) (fun c_44 => ?_)
        · refine lv_iload_n hx hb dX12_throughBy_51 rfl (lv_at hl 1 rfl) ?_
          exact W.iret (v := sv) hx hb hr (fun t ht h9 => ⟨sv, rfl, trivial, ht⟩) (fun q h => by cases h) dX12_throughBy_52
        · refine lv_iload_n hx hb dX12_throughBy_47 rfl (lv_at hl 2 rfl) ?_
          refine lv_goto (tgt := 52) hx hb dX12_throughBy_48 (by decide) ?_
          exact W.iret (v := su) hx hb hr (fun t ht h9 => ⟨su, rfl, trivial, ht⟩) (fun q h => by cases h) dX12_throughBy_52
      · have c_11 : ¬ (8 ≤ i) := fun hh9 => c_11 ((nI_leI (a := 8) (b := i) (by omega) (by omega)).mpr hh9)
        refine lv_iload_n hx hb dX12_throughBy_14 rfl (lv_at hl 2 rfl) ?_
        refine lv_aload_n hx hb dX12_throughBy_15 rfl (lv_at hl 3 rfl) ?_
        refine lv_iload_n hx hb dX12_throughBy_16 rfl (lv_at hl 4 rfl) ?_
        refine lv_iload hx hb dX12_throughBy_17 (lv_at hl 0 rfl) ?_
        refine vp_callSi (va_Run.run (va_runS (As := [.int (nI pa), .int (nI i)]) (rest := [.ref q, .int su]) ⟨hx, hb, hml, hown, hT⟩ (m_couple l dC dI s.heap.size pa i (by omega) (by omega)) (va_cwS 2 hT (gS w1348 w1349 w14 w1350) rfl rfl rfl (by decide +kernel) ⟨(Nat.le_of_ble_eq_true rfl), (Nat.le_of_ble_eq_true rfl)⟩) ⟨pcW.blind, pcW.pre (va_P0 _ _ _) (hK.sub (tys' := []) [] rfl) (va_D0 (fun _ => True))⟩ rfl rfl hl.1 rfl (lv_room (Nat.le_of_ble_eq_true rfl)) dX12_throughBy_19 ⟨(Nat.le_of_ble_eq_true rfl), (Nat.le_of_ble_eq_true rfl)⟩)) (fun r_1 hr_1 => ?_)
        obtain rfl : r_1 = nI (8 * pa + i) := hr_1
        obtain ⟨f_2, hS_q⟩ := hTy.k56 hT_q
        refine pl_iald hx hb hK hW hT_q.1 hS_q (vp_in_nI (n := 8 * pa + i) (N := 64) (by omega) (by omega)) dX12_throughBy_22 ?_
        refine lv_topi (fun y_3 ey_3 => ?_)
        refine lv_iadd hx hb dX12_throughBy_23 ?_
        refine lv_topi (fun z_4 ez_4 => ?_)
        refine lv_istore_n (lv' := [(2, .int z_4), (4, .int (nI i)), (3, .int sv), (0, .ref q), (1, .int (nI pa))]) hx hb dX12_throughBy_24 rfl hl (by decide) rfl (fun ls hl => ?_)
        refine lv_iload_n hx hb dX12_throughBy_25 rfl (lv_at hl 2 rfl) ?_
        refine lv_aload_n hx hb dX12_throughBy_26 rfl (lv_at hl 3 rfl) ?_
        refine lv_iload hx hb dX12_throughBy_27 (lv_at hl 1 rfl) ?_
        refine lv_iload_n hx hb dX12_throughBy_29 rfl (lv_at hl 4 rfl) ?_
        refine vp_callSi (va_Run.run (va_runS (As := [.int (nI i), .int (nI pa)]) (rest := [.ref q, .int sv]) ⟨hx, hb, hml, hown, hT⟩ (m_couple l dC dI s.heap.size i pa (by omega) (by omega)) (va_cwS 2 hT (gS w1348 w1349 w14 w1350) rfl rfl rfl (by decide +kernel) ⟨(Nat.le_of_ble_eq_true rfl), (Nat.le_of_ble_eq_true rfl)⟩) ⟨pcW.blind, pcW.pre (va_P0 _ _ _) (hK.sub (tys' := []) [] rfl) (va_D0 (fun _ => True))⟩ rfl rfl hl.1 rfl (lv_room (Nat.le_of_ble_eq_true rfl)) dX12_throughBy_30 ⟨(Nat.le_of_ble_eq_true rfl), (Nat.le_of_ble_eq_true rfl)⟩)) (fun r_5 hr_5 => ?_)
        obtain rfl : r_5 = nI (8 * i + pa) := hr_5
        refine pl_iald hx hb hK hW hT_q.1 hS_q (vp_in_nI (n := 8 * i + pa) (N := 64) (by omega) (by omega)) dX12_throughBy_33 ?_
        refine lv_topi (fun y_6 ey_6 => ?_)
        refine lv_iadd hx hb dX12_throughBy_34 ?_
        refine lv_topi (fun z_7 ez_7 => ?_)
        refine lv_istore_n (lv' := [(3, .int z_7), (2, .int z_4), (4, .int (nI i)), (0, .ref q), (1, .int (nI pa))]) hx hb dX12_throughBy_35 rfl hl (by decide) rfl (fun ls hl => ?_)
        refine lv_iinc (v := nI (i + 1)) (lv' := [(4, .int (nI (i + 1))), (3, .int z_7), (2, .int z_4), (0, .ref q), (1, .int (nI pa))]) hx hb dX12_throughBy_36 hl (k := 2) rfl (nI_add (i) 1) (by decide) rfl (fun ls hl => ?_)
        refine lv_goto (tgt := 7) hx hb dX12_throughBy_39 (by decide) ?_
        exact ih7 (i + 1) z_4 z_7 ls (by omega) (by omega) (lv_sub hl [0, 1, 2, 3, 4] rfl)
  exact loop ((9 - 0) + 1) 0 0 0 ls (Nat.lt_succ_self _) (by omega) (lv_sub hl [0, 1, 2, 3, 4] rfl)

set_option maxHeartbeats 4000000 in
set_option maxRecDepth 100000 in
theorem m_throughBy60 (l : Launch) (dC : Nat → ClassId) (dI : Nat → Nat → Nat) (cy : Nat → ClassId) (L : List Nat) (kap : Nat → Nat) (pr : Pr) (S : Nat → va_E) (sz : Nat) (q : Nat) (pa : Nat) (hTy : Ty cy L kap pr S) (hT_q : TK L kap q 60) (hb_pa : pa < 8) : Met l yX12_throughBy (wT yX12_throughBy cX12_throughBy 5 (some .int)) ({ frames := 1, cells := 0, slots := 0, locals := 21 }) (pcN dC dI [.ref q, .int (nI pa)] sz (va_pl L S) (cyT cy) NLs []) (vp_Si (fun r => True)) 0 0 (fun _ => False) := by
  refine Met.ofW (cc := cX12_throughBy) (maxL := 5) (ret := (some .int)) (by decide) rfl ?_
  intro p e s m args below meth c s₁ B hml hv
  obtain ⟨rfl, hsz, hP, hK, hD0, hN, -⟩ := hv
  have hx := B.exec
  have hb := B.bytes
  have hr := B.returns
  have hT : ∀ wd ∈ TB, wd.before [.ref q, .int (nI pa)].toArray s = true := fun wd h => atoms_spec (ws := wT yX12_throughBy cX12_throughBy 5 (some .int)) B.pre wd (List.mem_cons_of_mem _ h)
  have hown : s.vm.findClass RX12 = some m.cls := findClass_of_methodNamed B.named
  have hlocks := B.notSynchronized
  subst hsz
  have hW : PW dC dI L (AL L s.heap.size) s.heap S s.heap [] := ⟨hP, pl_self hD0, va_S.rf⟩
  have hFr : Fr kap [] S S := Fr.rf
  have hl := lv_entry ([.ref q, .int (nI pa)]) (n := 5) (Nat.le_of_ble_eq_true rfl)
  rw [lg_entry_eq]
  generalize (lg_sl ([.ref q, .int (nI pa)]) ++ List.replicate (5 - (lg_sl ([.ref q, .int (nI pa)])).length) Slot.unset).toArray = ls at hl ⊢
  have hl : lv_has ls 5 [(0, .ref q), (1, .int (nI pa))] := hl
  refine lv_iconst (v := 0) hx hb dX12_throughBy_0 (by decide) ?_
  refine lv_istore_n (lv' := [(2, .int 0), (0, .ref q), (1, .int (nI pa))]) hx hb dX12_throughBy_1 rfl hl (by decide) rfl (fun ls hl => ?_)
  refine lv_iconst (v := 0) hx hb dX12_throughBy_2 (by decide) ?_
  refine lv_istore_n (lv' := [(3, .int 0), (2, .int 0), (0, .ref q), (1, .int (nI pa))]) hx hb dX12_throughBy_3 rfl hl (by decide) rfl (fun ls hl => ?_)
  refine lv_iconst (v := 0) hx hb dX12_throughBy_4 (by decide) ?_
  refine lv_istore (lv' := [(4, .int 0), (3, .int 0), (2, .int 0), (0, .ref q), (1, .int (nI pa))]) hx hb dX12_throughBy_5 hl (by decide) rfl (fun ls hl => ?_)
  have loop : ∀ (fuel : Nat) (i : Nat) (su : Int32) (sv : Int32) (ls : Array Slot), 9 - i < fuel → (i ≤ 8) → lv_has ls 5 [(4, .int (nI i)), (3, .int sv), (2, .int su), (0, .ref q), (1, .int (nI pa))] → W p l e (headSpec (wT yX12_throughBy cX12_throughBy 5 (some .int)) { frames := 1, cells := 0, slots := 0, locals := 21 }).room s m [.ref q, .int (nI pa)].toArray below meth c s.heap [] 0 0 (MQ below (vp_Si (fun r => True)) [.ref q, .int (nI pa)].toArray s 0 0 (fun _ => False)) (F0 m 7 ls []) := by
    intro fuel
    induction fuel with
    | zero => intro i su sv ls h; exact absurd h (Nat.not_lt_zero _)
    | succ fu7 ih7 =>
      intro i su sv ls hm7 hb_i hl
      refine lv_iload hx hb dX12_throughBy_7 (lv_at hl 0 rfl) ?_
      refine lv_bipush (v := 8) hx hb dX12_throughBy_9 (by decide) ?_
      refine lv_icmp_ge (tgt := 42) hx hb dX12_throughBy_11 (by decide) (fun c_11 => ?_) (fun c_11 => ?_)
      · have c_11 : 8 ≤ i := (nI_leI (a := 8) (b := i) (by omega) (by omega)).mp c_11
        refine lv_iload_n hx hb dX12_throughBy_42 rfl (lv_at hl 2 rfl) ?_
        refine lv_iload_n hx hb dX12_throughBy_43 rfl (lv_at hl 1 rfl) ?_
        refine lv_icmp_ge (tgt := 51) hx hb dX12_throughBy_44 (by decide) (fun c_44 => ?_) (fun c_44 => ?_)
        · refine lv_iload_n hx hb dX12_throughBy_51 rfl (lv_at hl 1 rfl) ?_
          exact W.iret (v := sv) hx hb hr (fun t ht h9 => ⟨sv, rfl, trivial, ht⟩) (fun q h => by cases h) dX12_throughBy_52
        · refine lv_iload_n hx hb dX12_throughBy_47 rfl (lv_at hl 2 rfl) ?_
          refine lv_goto (tgt := 52) hx hb dX12_throughBy_48 (by decide) ?_
          exact W.iret (v := su) hx hb hr (fun t ht h9 => ⟨su, rfl, trivial, ht⟩) (fun q h => by cases h) dX12_throughBy_52
      · have c_11 : ¬ (8 ≤ i) := fun hh9 => c_11 ((nI_leI (a := 8) (b := i) (by omega) (by omega)).mpr hh9)
        refine lv_iload_n hx hb dX12_throughBy_14 rfl (lv_at hl 2 rfl) ?_
        refine lv_aload_n hx hb dX12_throughBy_15 rfl (lv_at hl 3 rfl) ?_
        refine lv_iload_n hx hb dX12_throughBy_16 rfl (lv_at hl 4 rfl) ?_
        refine lv_iload hx hb dX12_throughBy_17 (lv_at hl 0 rfl) ?_
        refine vp_callSi (va_Run.run (va_runS (As := [.int (nI pa), .int (nI i)]) (rest := [.ref q, .int su]) ⟨hx, hb, hml, hown, hT⟩ (m_couple l dC dI s.heap.size pa i (by omega) (by omega)) (va_cwS 2 hT (gS w1348 w1349 w14 w1350) rfl rfl rfl (by decide +kernel) ⟨(Nat.le_of_ble_eq_true rfl), (Nat.le_of_ble_eq_true rfl)⟩) ⟨pcW.blind, pcW.pre (va_P0 _ _ _) (hK.sub (tys' := []) [] rfl) (va_D0 (fun _ => True))⟩ rfl rfl hl.1 rfl (lv_room (Nat.le_of_ble_eq_true rfl)) dX12_throughBy_19 ⟨(Nat.le_of_ble_eq_true rfl), (Nat.le_of_ble_eq_true rfl)⟩)) (fun r_1 hr_1 => ?_)
        obtain rfl : r_1 = nI (8 * pa + i) := hr_1
        obtain ⟨f_2, hS_q⟩ := hTy.k60 hT_q
        refine pl_iald hx hb hK hW hT_q.1 hS_q (vp_in_nI (n := 8 * pa + i) (N := 64) (by omega) (by omega)) dX12_throughBy_22 ?_
        refine lv_topi (fun y_3 ey_3 => ?_)
        refine lv_iadd hx hb dX12_throughBy_23 ?_
        refine lv_topi (fun z_4 ez_4 => ?_)
        refine lv_istore_n (lv' := [(2, .int z_4), (4, .int (nI i)), (3, .int sv), (0, .ref q), (1, .int (nI pa))]) hx hb dX12_throughBy_24 rfl hl (by decide) rfl (fun ls hl => ?_)
        refine lv_iload_n hx hb dX12_throughBy_25 rfl (lv_at hl 2 rfl) ?_
        refine lv_aload_n hx hb dX12_throughBy_26 rfl (lv_at hl 3 rfl) ?_
        refine lv_iload hx hb dX12_throughBy_27 (lv_at hl 1 rfl) ?_
        refine lv_iload_n hx hb dX12_throughBy_29 rfl (lv_at hl 4 rfl) ?_
        refine vp_callSi (va_Run.run (va_runS (As := [.int (nI i), .int (nI pa)]) (rest := [.ref q, .int sv]) ⟨hx, hb, hml, hown, hT⟩ (m_couple l dC dI s.heap.size i pa (by omega) (by omega)) (va_cwS 2 hT (gS w1348 w1349 w14 w1350) rfl rfl rfl (by decide +kernel) ⟨(Nat.le_of_ble_eq_true rfl), (Nat.le_of_ble_eq_true rfl)⟩) ⟨pcW.blind, pcW.pre (va_P0 _ _ _) (hK.sub (tys' := []) [] rfl) (va_D0 (fun _ => True))⟩ rfl rfl hl.1 rfl (lv_room (Nat.le_of_ble_eq_true rfl)) dX12_throughBy_30 ⟨(Nat.le_of_ble_eq_true rfl), (Nat.le_of_ble_eq_true rfl)⟩)) (fun r_5 hr_5 => ?_)
        obtain rfl : r_5 = nI (8 * i + pa) := hr_5
        refine pl_iald hx hb hK hW hT_q.1 hS_q (vp_in_nI (n := 8 * i + pa) (N := 64) (by omega) (by omega)) dX12_throughBy_33 ?_
        refine lv_topi (fun y_6 ey_6 => ?_)
        refine lv_iadd hx hb dX12_throughBy_34 ?_
        refine lv_topi (fun z_7 ez_7 => ?_)
        refine lv_istore_n (lv' := [(3, .int z_7), (2, .int z_4), (4, .int (nI i)), (0, .ref q), (1, .int (nI pa))]) hx hb dX12_throughBy_35 rfl hl (by decide) rfl (fun ls hl => ?_)
        refine lv_iinc (v := nI (i + 1)) (lv' := [(4, .int (nI (i + 1))), (3, .int z_7), (2, .int z_4), (0, .ref q), (1, .int (nI pa))]) hx hb dX12_throughBy_36 hl (k := 2) rfl (nI_add (i) 1) (by decide) rfl (fun ls hl => ?_)
        refine lv_goto (tgt := 7) hx hb dX12_throughBy_39 (by decide) ?_
        exact ih7 (i + 1) z_4 z_7 ls (by omega) (by omega) (lv_sub hl [0, 1, 2, 3, 4] rfl)
  exact loop ((9 - 0) + 1) 0 0 0 ls (Nat.lt_succ_self _) (by omega) (lv_sub hl [0, 1, 2, 3, 4] rfl)

set_option maxHeartbeats 4000000 in
set_option maxRecDepth 100000 in
theorem m_keptMany (l : Launch) (dC : Nat → ClassId) (dI : Nat → Nat → Nat) (cy : Nat → ClassId) (L : List Nat) (kap : Nat → Nat) (pr : Pr) (S : Nat → va_E) (sz : Nat) (o : Nat) (hTy : Ty cy L kap pr S) (hT_o : TK L kap o 12) : Met l yX12_keptMany (wT yX12_keptMany cX12_keptMany 3 (some .int)) ({ frames := 1, cells := 0, slots := 0, locals := 22 }) (pcN dC dI [.ref o] sz (va_pl L S) (cyT cy) NLs []) (vp_Si (fun r => True)) 0 0 (fun _ => False) := by
  refine Met.ofW (cc := cX12_keptMany) (maxL := 3) (ret := (some .int)) (by decide) rfl ?_
  intro p e s m args below meth c s₁ B hml hv
  obtain ⟨rfl, hsz, hP, hK, hD0, hN, -⟩ := hv
  have hx := B.exec
  have hb := B.bytes
  have hr := B.returns
  have hT : ∀ wd ∈ TB, wd.before [.ref o].toArray s = true := fun wd h => atoms_spec (ws := wT yX12_keptMany cX12_keptMany 3 (some .int)) B.pre wd (List.mem_cons_of_mem _ h)
  have hown : s.vm.findClass RX12 = some m.cls := findClass_of_methodNamed B.named
  have hlocks := B.notSynchronized
  subst hsz
  have hW : PW dC dI L (AL L s.heap.size) s.heap S s.heap [] := ⟨hP, pl_self hD0, va_S.rf⟩
  have hFr : Fr kap [] S S := Fr.rf
  have hl := lv_entry ([.ref o]) (n := 3) (Nat.le_of_ble_eq_true rfl)
  rw [lg_entry_eq]
  generalize (lg_sl ([.ref o]) ++ List.replicate (3 - (lg_sl ([.ref o])).length) Slot.unset).toArray = ls at hl ⊢
  have hl : lv_has ls 3 [(0, .ref o)] := hl
  refine lv_iconst (v := 0) hx hb dX12_keptMany_0 (by decide) ?_
  refine lv_istore_n (lv' := [(1, .int 0), (0, .ref o)]) hx hb dX12_keptMany_1 rfl hl (by decide) rfl (fun ls hl => ?_)
  refine lv_iconst (v := 0) hx hb dX12_keptMany_2 (by decide) ?_
  refine lv_istore_n (lv' := [(2, .int 0), (1, .int 0), (0, .ref o)]) hx hb dX12_keptMany_3 rfl hl (by decide) rfl (fun ls hl => ?_)
  have loop : ∀ (fuel : Nat) (i : Nat) (sm : Int32) (ls : Array Slot), 41 - i < fuel → (i ≤ 40) → lv_has ls 3 [(2, .int (nI i)), (1, .int sm), (0, .ref o)] → W p l e (headSpec (wT yX12_keptMany cX12_keptMany 3 (some .int)) { frames := 1, cells := 0, slots := 0, locals := 22 }).room s m [.ref o].toArray below meth c s.heap [] 0 0 (MQ below (vp_Si (fun r => True)) [.ref o].toArray s 0 0 (fun _ => False)) (F0 m 4 ls []) := by
    intro fuel
    induction fuel with
    | zero => intro i sm ls h; exact absurd h (Nat.not_lt_zero _)
    | succ fu4 ih4 =>
      intro i sm ls hm4 hb_i hl
      refine lv_iload_n hx hb dX12_keptMany_4 rfl (lv_at hl 0 rfl) ?_
      refine lv_aload_n hx hb dX12_keptMany_5 rfl (lv_at hl 2 rfl) ?_
      obtain ⟨x_1, x_2, x_3, x_4, x_5, x_6, x_7, x_8, x_9, x_10, x_11, x_12, x_13, x_14, x_15, x_16, x_17, x_18, x_19, x_20, x_21, x_22, x_23, x_24, x_25, x_26, x_27, x_28, x_29, x_30, x_31, hS_o, hT_x_1, hT_x_2, hT_x_3, hT_x_4, hT_x_5, hb_x_6, hb_x_7, hb_x_8, hT_x_10, hb_q2, hb_x_11, hb_x_12, hT_x_17, hT_x_18, hb_x_19, hT_x_20, hT_x_21, hT_x_22, hT_x_23, hT_x_24, hT_x_25, hT_x_26, hT_x_27, hT_x_28, hT_x_29, hT_x_30, hb_x_31⟩ := hTy.k12 hT_o
      have hb_q2 : pr.2 ≤ 900 := hb_q2
      have hS_o : S o = .inr (12, [.ref x_1, .ref x_2, .ref x_3, .ref x_4, .ref x_5, .int (nI x_6), .int (nI x_7), .int (nI x_8), .int x_9, .ref x_10, .int (nI (pr.2)), .int (nI x_11), .int (nI x_12), .int x_13, .int x_14, .int x_15, .int x_16, .ref x_17, .ref x_18, .int (nI x_19), .ref x_20, .ref x_21, .ref x_22, .ref x_23, .ref x_24, .ref x_25, .ref x_26, .ref x_27, .ref x_28, .ref x_29, .ref x_30, .int (nI x_31)]) := hS_o
      refine pl_get (ci := 12) (v := .ref x_1) (C := RX12) (T := TX12) (N := 32) hx hb hT iX12 hown hK hW hT_o.1 hS_o rfl 0 (by decide) w1082 rfl dX12_keptMany_6 ?_
      refine lv_iconst (v := 0) hx hb dX12_keptMany_9 (by decide) ?_
      obtain ⟨f_32, hS_x_1, hi_f_32⟩ := hTy.k50 hT_x_1
      refine pl_iald hx hb hK hW hT_x_1.1 hS_x_1 (vp_in_nI (n := 0) (N := 266) (by omega) (by omega)) dX12_keptMany_10 ?_
      refine lv_topi (fun y_33 ey_33 => ?_)
      have hv_y_33 : okS (0) y_33 := by rw [ey_33]; show okS _ (f_32 (nI (0)).toNatClampNeg); rw [nI_clamp (by omega)]; exact hi_f_32 (0) (by omega)
      obtain ⟨k_34, hb_k_34, hq_k_34⟩ := hv_y_33.1 rfl
      obtain rfl : y_33 = nI k_34 := hq_k_34
      refine lv_icmp_ge (tgt := 29) hx hb dX12_keptMany_11 (by decide) (fun c_11 => ?_) (fun c_11 => ?_)
      · have c_11 : k_34 ≤ i := (nI_leI (a := k_34) (b := i) (by omega) (by omega)).mp c_11
        refine lv_iload_n hx hb dX12_keptMany_29 rfl (lv_at hl 1 rfl) ?_
        exact W.iret (v := sm) hx hb hr (fun t ht h9 => ⟨sm, rfl, trivial, ht⟩) (fun q h => by cases h) dX12_keptMany_30
      · have c_11 : ¬ (k_34 ≤ i) := fun hh9 => c_11 ((nI_leI (a := k_34) (b := i) (by omega) (by omega)).mpr hh9)
        refine lv_iload_n hx hb dX12_keptMany_14 rfl (lv_at hl 1 rfl) ?_
        refine lv_aload_n hx hb dX12_keptMany_15 rfl (lv_at hl 2 rfl) ?_
        refine lv_iload_n hx hb dX12_keptMany_16 rfl (lv_at hl 0 rfl) ?_
        refine lv_iconst (v := 4) hx hb dX12_keptMany_17 (by decide) ?_
        refine vp_callSi (va_Run.run (va_runV (As := [.int (nI i), .int 4]) (rest := [.int sm]) ⟨hx, hb, hml, hown, hT⟩ (m_tradeAt l dC dI cy L kap pr S s.heap.size o i 4 hTy hT_o (by omega) (by omega)) (cwV 2 hT (gV w1247 w1249 ws66 w14 w1250) rfl rfl rfl (by decide +kernel) ⟨(Nat.le_of_ble_eq_true rfl), (Nat.le_of_ble_eq_true rfl)⟩) ⟨pcN.blind, pl_recv hK hW hT_o.1 hS_o rfl, pcN.pre hW.1 hK hW.2.1 hN (fun q h => absurd h List.not_mem_nil)⟩ rfl rfl hl.1 rfl (lv_room (Nat.le_of_ble_eq_true rfl)) dX12_keptMany_18 ⟨(Nat.le_of_ble_eq_true rfl), (Nat.le_of_ble_eq_true rfl)⟩)) (fun r_35 hr_35 => ?_)
        refine lv_iadd hx hb dX12_keptMany_21 ?_
        refine lv_topi (fun z_36 ez_36 => ?_)
        refine lv_istore_n (lv' := [(1, .int z_36), (2, .int (nI i)), (0, .ref o)]) hx hb dX12_keptMany_22 rfl hl (by decide) rfl (fun ls hl => ?_)
        refine lv_iinc (v := nI (i + 1)) (lv' := [(2, .int (nI (i + 1))), (1, .int z_36), (0, .ref o)]) hx hb dX12_keptMany_23 hl (k := 1) rfl (nI_add (i) 1) (by decide) rfl (fun ls hl => ?_)
        refine lv_goto (tgt := 4) hx hb dX12_keptMany_26 (by decide) ?_
        exact ih4 (i + 1) z_36 ls (by omega) (by omega) (lv_sub hl [0, 1, 2] rfl)
  exact loop ((41 - 0) + 1) 0 0 ls (Nat.lt_succ_self _) (by omega) (lv_sub hl [0, 1, 2] rfl)

set_option maxHeartbeats 4000000 in
set_option maxRecDepth 100000 in
theorem m_count (l : Launch) (dC : Nat → ClassId) (dI : Nat → Nat → Nat) (cy : Nat → ClassId) (L : List Nat) (kap : Nat → Nat) (pr : Pr) (S : Nat → va_E) (sz : Nat) (o : Nat) (wh : Int32) (hTy : Ty cy L kap pr S) (hT_o : TK L kap o 12) : Met l yX12_count (wT yX12_count cX12_count 2 (some .int)) ({ frames := 2, cells := 0, slots := 0, locals := 44 }) (pcN dC dI [.ref o, .int wh] sz (va_pl L S) (cyT cy) NLs []) (va_Qi (fun r S' => Ty cy L kap pr S' ∧ Fr kap [12] S S') (fun S' t => pB dC dI (AL L sz) (va_pl L S') (cyT cy) t) (AL L sz)) 0 0 (AL L sz) := by
  refine Met.ofW (cc := cX12_count) (maxL := 2) (ret := (some .int)) (by decide) rfl ?_
  intro p e s m args below meth c s₁ B hml hv
  obtain ⟨rfl, hsz, hP, hK, hD0, hN, -⟩ := hv
  have hx := B.exec
  have hb := B.bytes
  have hr := B.returns
  have hT : ∀ wd ∈ TB, wd.before [.ref o, .int wh].toArray s = true := fun wd h => atoms_spec (ws := wT yX12_count cX12_count 2 (some .int)) B.pre wd (List.mem_cons_of_mem _ h)
  have hown : s.vm.findClass RX12 = some m.cls := findClass_of_methodNamed B.named
  have hlocks := B.notSynchronized
  subst hsz
  have hW : PW dC dI L (AL L s.heap.size) s.heap S s.heap [] := ⟨hP, pl_self hD0, va_S.rf⟩
  have hA0 : ∀ q, q ∈ L → AL L s.heap.size q := fun _ h => Or.inl h
  have hA : ∀ q, s.heap.size ≤ q → AL L s.heap.size q := fun _ h => Or.inr h
  have hFr : Fr kap [12] S S := Fr.rf
  have hl := lv_entry ([.ref o, .int wh]) (n := 2) (Nat.le_of_ble_eq_true rfl)
  rw [lg_entry_eq]
  generalize (lg_sl ([.ref o, .int wh]) ++ List.replicate (2 - (lg_sl ([.ref o, .int wh])).length) Slot.unset).toArray = ls at hl ⊢
  have hl : lv_has ls 2 [(0, .ref o), (1, .int wh)] := hl
  refine lv_aload_n hx hb dX12_count_0 rfl (lv_at hl 0 rfl) ?_
  refine lv_iconst (v := 0) hx hb dX12_count_1 (by decide) ?_
  obtain ⟨x_1, x_2, x_3, x_4, x_5, x_6, x_7, x_8, x_9, x_10, x_11, x_12, x_13, x_14, x_15, x_16, x_17, x_18, x_19, x_20, x_21, x_22, x_23, x_24, x_25, x_26, x_27, x_28, x_29, x_30, x_31, hS_o, hT_x_1, hT_x_2, hT_x_3, hT_x_4, hT_x_5, hb_x_6, hb_x_7, hb_x_8, hT_x_10, hb_q2, hb_x_11, hb_x_12, hT_x_17, hT_x_18, hb_x_19, hT_x_20, hT_x_21, hT_x_22, hT_x_23, hT_x_24, hT_x_25, hT_x_26, hT_x_27, hT_x_28, hT_x_29, hT_x_30, hb_x_31⟩ := hTy.k12 hT_o
  have hb_q2 : pr.2 ≤ 900 := hb_q2
  have hS_o : S o = .inr (12, [.ref x_1, .ref x_2, .ref x_3, .ref x_4, .ref x_5, .int (nI x_6), .int (nI x_7), .int (nI x_8), .int x_9, .ref x_10, .int (nI (pr.2)), .int (nI x_11), .int (nI x_12), .int x_13, .int x_14, .int x_15, .int x_16, .ref x_17, .ref x_18, .int (nI x_19), .ref x_20, .ref x_21, .ref x_22, .ref x_23, .ref x_24, .ref x_25, .ref x_26, .ref x_27, .ref x_28, .ref x_29, .ref x_30, .int (nI x_31)]) := hS_o
  refine pl_put (ci := 12) (v := .int 0) (ty := .int) (C := RX12) (T := TX12) (N := 32) (fs' := [.ref x_1, .ref x_2, .ref x_3, .ref x_4, .ref x_5, .int (nI x_6), .int (nI x_7), .int (nI x_8), .int 0, .ref x_10, .int (nI (pr.2)), .int (nI x_11), .int (nI x_12), .int x_13, .int x_14, .int x_15, .int x_16, .ref x_17, .ref x_18, .int (nI x_19), .ref x_20, .ref x_21, .ref x_22, .ref x_23, .ref x_24, .ref x_25, .ref x_26, .ref x_27, .ref x_28, .ref x_29, .ref x_30, .int (nI x_31)]) hx hb hT iX12 tyX12 tyX12_ok nmX12 hown hK hW hT_o.1 hS_o rfl 8 (by decide) w1090 rfl (by decide +kernel) rfl rfl (Nat.le_of_ble_eq_true rfl) rfl dX12_count_2 (fun H locs S_32 e1 hW => ?_)
  have hTy := hTy.u12 e1 hT_o ⟨x_1, x_2, x_3, x_4, x_5, x_6, x_7, x_8, 0, x_10, x_11, x_12, x_13, x_14, x_15, x_16, x_17, x_18, x_19, x_20, x_21, x_22, x_23, x_24, x_25, x_26, x_27, x_28, x_29, x_30, x_31, rfl, hT_x_1, hT_x_2, hT_x_3, hT_x_4, hT_x_5, (by omega), (by omega), (by omega), hT_x_10, (by show pr.2 ≤ 900; omega), (by omega), (by omega), hT_x_17, hT_x_18, (by omega), hT_x_20, hT_x_21, hT_x_22, hT_x_23, hT_x_24, hT_x_25, hT_x_26, hT_x_27, hT_x_28, hT_x_29, hT_x_30, (by omega)⟩
  have hws := (show wrs (.inr (12, [.ref x_1, .ref x_2, .ref x_3, .ref x_4, .ref x_5, .int (nI x_6), .int (nI x_7), .int (nI x_8), .int 0, .ref x_10, .int (nI (pr.2)), .int (nI x_11), .int (nI x_12), .int x_13, .int x_14, .int x_15, .int x_16, .ref x_17, .ref x_18, .int (nI x_19), .ref x_20, .ref x_21, .ref x_22, .ref x_23, .ref x_24, .ref x_25, .ref x_26, .ref x_27, .ref x_28, .ref x_29, .ref x_30, .int (nI x_31)])) = wrs (S o) from by rw [hS_o]; rfl)
  have hFr := ufs hFr e1 hT_o (by decide) hws
  have hS_o := us e1
  refine lv_iload_n hx hb dX12_count_5 rfl (lv_at hl 1 rfl) ?_
  by_cases hk_6_0 : wh = 0
  · subst hk_6_0
    refine lv_tableIn (off := 42) (tgt := 48) hx hb dX12_count_6 (by decide) (by decide) rfl (by decide) ?_
    refine lv_aload_n hx hb dX12_count_48 rfl (lv_at hl 0 rfl) ?_
    refine pl_get (ci := 12) (v := .int (nI x_6)) (C := RX12) (T := TX12) (N := 32) hx hb hT iX12 hown hK hW hT_o.1 hS_o rfl 5 (by decide) w1087 rfl dX12_count_49 ?_
    exact W.iret (v := nI x_6) hx hb hr (fun t ht h9 => ⟨⟨nI x_6, S_32, rfl, ⟨hTy, hFr⟩, by rw [ht]; exact hW.1, va_K.moved h9.alike hK, hW.2.1⟩, hW.2.2.F ht⟩) hW.2.2.2.2 dX12_count_52
  by_cases hk_6_1 : wh = 1
  · subst hk_6_1
    refine lv_tableIn (off := 47) (tgt := 53) hx hb dX12_count_6 (by decide) (by decide) rfl (by decide) ?_
    refine lv_aload_n hx hb dX12_count_53 rfl (lv_at hl 0 rfl) ?_
    refine pl_get (ci := 12) (v := .int (nI x_7)) (C := RX12) (T := TX12) (N := 32) hx hb hT iX12 hown hK hW hT_o.1 hS_o rfl 6 (by decide) w1088 rfl dX12_count_54 ?_
    exact W.iret (v := nI x_7) hx hb hr (fun t ht h9 => ⟨⟨nI x_7, S_32, rfl, ⟨hTy, hFr⟩, by rw [ht]; exact hW.1, va_K.moved h9.alike hK, hW.2.1⟩, hW.2.2.F ht⟩) hW.2.2.2.2 dX12_count_57
  by_cases hk_6_2 : wh = 2
  · subst hk_6_2
    refine lv_tableIn (off := 52) (tgt := 58) hx hb dX12_count_6 (by decide) (by decide) rfl (by decide) ?_
    refine lv_aload_n hx hb dX12_count_58 rfl (lv_at hl 0 rfl) ?_
    refine pl_get (ci := 12) (v := .ref x_1) (C := RX12) (T := TX12) (N := 32) hx hb hT iX12 hown hK hW hT_o.1 hS_o rfl 0 (by decide) w1082 rfl dX12_count_59 ?_
    refine lv_iconst (v := 0) hx hb dX12_count_62 (by decide) ?_
    obtain ⟨f_33, hS_x_1, hi_f_33⟩ := hTy.k50 hT_x_1
    refine pl_iald hx hb hK hW hT_x_1.1 hS_x_1 (vp_in_nI (n := 0) (N := 266) (by omega) (by omega)) dX12_count_63 ?_
    refine lv_topi (fun y_34 ey_34 => ?_)
    have hv_y_34 : okS (0) y_34 := by rw [ey_34]; show okS _ (f_33 (nI (0)).toNatClampNeg); rw [nI_clamp (by omega)]; exact hi_f_33 (0) (by omega)
    obtain ⟨k_35, hb_k_35, hq_k_35⟩ := hv_y_34.1 rfl
    obtain rfl : y_34 = nI k_35 := hq_k_35
    exact W.iret (v := nI k_35) hx hb hr (fun t ht h9 => ⟨⟨nI k_35, S_32, rfl, ⟨hTy, hFr⟩, by rw [ht]; exact hW.1, va_K.moved h9.alike hK, hW.2.1⟩, hW.2.2.F ht⟩) hW.2.2.2.2 dX12_count_64
  by_cases hk_6_3 : wh = 3
  · subst hk_6_3
    refine lv_tableIn (off := 59) (tgt := 65) hx hb dX12_count_6 (by decide) (by decide) rfl (by decide) ?_
    refine lv_aload_n hx hb dX12_count_65 rfl (lv_at hl 0 rfl) ?_
    refine vp_callSi (va_Run.run (va_runV (As := []) (rest := []) ⟨hx, hb, hml, hown, hT⟩ (m_keptMany l dC dI cy L kap pr S_32 H.size o hTy hT_o) (cwV 0 hT (gV w1584 w1586 ws110 w14 w1587) rfl rfl rfl (by decide +kernel) ⟨(Nat.le_of_ble_eq_true rfl), (Nat.le_of_ble_eq_true rfl)⟩) ⟨pcN.blind, pl_recv hK hW hT_o.1 hS_o rfl, pcN.pre hW.1 hK hW.2.1 hN (fun q h => absurd h List.not_mem_nil)⟩ rfl rfl hl.1 rfl (lv_room (Nat.le_of_ble_eq_true rfl)) dX12_count_66 ⟨(Nat.le_of_ble_eq_true rfl), (Nat.le_of_ble_eq_true rfl)⟩)) (fun r_36 hr_36 => ?_)
    exact W.iret (v := r_36) hx hb hr (fun t ht h9 => ⟨⟨r_36, S_32, rfl, ⟨hTy, hFr⟩, by rw [ht]; exact hW.1, va_K.moved h9.alike hK, hW.2.1⟩, hW.2.2.F ht⟩) hW.2.2.2.2 dX12_count_69
  by_cases hk_6_4 : wh = 4
  · subst hk_6_4
    refine lv_tableIn (off := 64) (tgt := 70) hx hb dX12_count_6 (by decide) (by decide) rfl (by decide) ?_
    refine lv_aload_n hx hb dX12_count_70 rfl (lv_at hl 0 rfl) ?_
    refine pl_get (ci := 12) (v := .ref x_1) (C := RX12) (T := TX12) (N := 32) hx hb hT iX12 hown hK hW hT_o.1 hS_o rfl 0 (by decide) w1082 rfl dX12_count_71 ?_
    refine lv_iconst (v := 1) hx hb dX12_count_74 (by decide) ?_
    obtain ⟨f_37, hS_x_1, hi_f_37⟩ := hTy.k50 hT_x_1
    refine pl_iald hx hb hK hW hT_x_1.1 hS_x_1 (vp_in_nI (n := 1) (N := 266) (by omega) (by omega)) dX12_count_75 ?_
    refine lv_topi (fun y_38 ey_38 => ?_)
    have hv_y_38 : okS (1) y_38 := by rw [ey_38]; show okS _ (f_37 (nI (1)).toNatClampNeg); rw [nI_clamp (by omega)]; exact hi_f_37 (1) (by omega)
    exact W.iret (v := y_38) hx hb hr (fun t ht h9 => ⟨⟨y_38, S_32, rfl, ⟨hTy, hFr⟩, by rw [ht]; exact hW.1, va_K.moved h9.alike hK, hW.2.1⟩, hW.2.2.F ht⟩) hW.2.2.2.2 dX12_count_76
  by_cases hk_6_5 : wh = 5
  · subst hk_6_5
    refine lv_tableIn (off := 71) (tgt := 77) hx hb dX12_count_6 (by decide) (by decide) rfl (by decide) ?_
    refine lv_aload_n hx hb dX12_count_77 rfl (lv_at hl 0 rfl) ?_
    refine pl_get (ci := 12) (v := .int (nI x_8)) (C := RX12) (T := TX12) (N := 32) hx hb hT iX12 hown hK hW hT_o.1 hS_o rfl 7 (by decide) w1089 rfl dX12_count_78 ?_
    exact W.iret (v := nI x_8) hx hb hr (fun t ht h9 => ⟨⟨nI x_8, S_32, rfl, ⟨hTy, hFr⟩, by rw [ht]; exact hW.1, va_K.moved h9.alike hK, hW.2.1⟩, hW.2.2.F ht⟩) hW.2.2.2.2 dX12_count_81
  by_cases hk_6_6 : wh = 6
  · subst hk_6_6
    refine lv_tableIn (off := 76) (tgt := 82) hx hb dX12_count_6 (by decide) (by decide) rfl (by decide) ?_
    refine lv_aload_n hx hb dX12_count_82 rfl (lv_at hl 0 rfl) ?_
    refine pl_get (ci := 12) (v := .int (nI (pr.2))) (C := RX12) (T := TX12) (N := 32) hx hb hT iX12 hown hK hW hT_o.1 hS_o rfl 10 (by decide) w1092 rfl dX12_count_83 ?_
    exact W.iret (v := nI (pr.2)) hx hb hr (fun t ht h9 => ⟨⟨nI (pr.2), S_32, rfl, ⟨hTy, hFr⟩, by rw [ht]; exact hW.1, va_K.moved h9.alike hK, hW.2.1⟩, hW.2.2.F ht⟩) hW.2.2.2.2 dX12_count_86
  refine lv_tableOut (tgt := 87) hx hb dX12_count_6 (swout_0_6 hk_6_0 hk_6_1 hk_6_2 hk_6_3 hk_6_4 hk_6_5 hk_6_6) (by decide) ?_
  refine lv_iconst (v := (-1)) hx hb dX12_count_87 (by decide) ?_
  exact W.iret (v := (-1)) hx hb hr (fun t ht h9 => ⟨⟨(-1), S_32, rfl, ⟨hTy, hFr⟩, by rw [ht]; exact hW.1, va_K.moved h9.alike hK, hW.2.1⟩, hW.2.2.F ht⟩) hW.2.2.2.2 dX12_count_88

