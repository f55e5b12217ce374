theorem w3 : (.initialized RX6 : Cond) ∈ TB := mTB (List.mem_of_getElem? (i := 3) (by decide +kernel)) (by decide +kernel)
theorem w63 : (.fieldLink RX6 95 "SwapPress$Names" "parties" "I" : Cond) ∈ TB := mTB (List.mem_of_getElem? (i := 63) (by decide +kernel)) (by decide +kernel)
theorem w66 : (.fieldLink RX6 108 "SwapPress$Names" "kinds" "I" : Cond) ∈ TB := mTB (List.mem_of_getElem? (i := 66) (by decide +kernel)) (by decide +kernel)
theorem w108 : (.fieldLink RX6 136 "SwapPress$Book" "kept" "[Z" : Cond) ∈ TB := mTB (List.mem_of_getElem? (i := 108) (by decide +kernel)) (by decide +kernel)
theorem w110 : (.fieldLink RX6 141 "SwapPress$Book" "caps" "[I" : Cond) ∈ TB := mTB (List.mem_of_getElem? (i := 110) (by decide +kernel)) (by decide +kernel)
theorem w115 : (.fieldLink RX6 114 "SwapPress$Book" "size" "I" : Cond) ∈ TB := mTB (List.mem_of_getElem? (i := 115) (by decide +kernel)) (by decide +kernel)
theorem w119 : (.fieldLink RX6 148 "SwapPress$Book" "boundMode" "I" : Cond) ∈ TB := mTB (List.mem_of_getElem? (i := 119) (by decide +kernel)) (by decide +kernel)
theorem w139 : (.fieldLink RX6 55 "SwapPress$Reader" "fault" "I" : Cond) ∈ TB := mTB (List.mem_of_getElem? (i := 139) (by decide +kernel)) (by decide +kernel)
theorem w141 : (.fieldLink RX6 9 "SwapPress$Reader" "place" "I" : Cond) ∈ TB := mTB (List.mem_of_getElem? (i := 141) (by decide +kernel)) (by decide +kernel)
theorem w143 : (.fieldLink RX6 18 "SwapPress$Reader" "names" "LSwapPress$Names;" : Cond) ∈ TB := mTB (List.mem_of_getElem? (i := 143) (by decide +kernel)) (by decide +kernel)
theorem w145 : (.fieldLink RX6 25 "SwapPress$Reader" "book" "LSwapPress$Book;" : Cond) ∈ TB := mTB (List.mem_of_getElem? (i := 145) (by decide +kernel)) (by decide +kernel)
theorem w147 : (.fieldLink RX6 35 "SwapPress$Reader" "text" "[B" : Cond) ∈ TB := mTB (List.mem_of_getElem? (i := 147) (by decide +kernel)) (by decide +kernel)
theorem w148 : (.fieldLink RX6 44 "SwapPress$Reader" "end" "I" : Cond) ∈ TB := mTB (List.mem_of_getElem? (i := 148) (by decide +kernel)) (by decide +kernel)
theorem w149 : (.fieldLink RX6 51 "SwapPress$Reader" "modeTold" "Z" : Cond) ∈ TB := mTB (List.mem_of_getElem? (i := 149) (by decide +kernel)) (by decide +kernel)
theorem w150 : (.fieldLink RX6 64 "SwapPress$Reader" "token" "I" : Cond) ∈ TB := mTB (List.mem_of_getElem? (i := 150) (by decide +kernel)) (by decide +kernel)
theorem w151 : (.fieldLink RX6 101 "SwapPress$Reader" "tokenAt" "I" : Cond) ∈ TB := mTB (List.mem_of_getElem? (i := 151) (by decide +kernel)) (by decide +kernel)
theorem w152 : (.fieldLink RX6 58 "SwapPress$Reader" "tokenEnd" "I" : Cond) ∈ TB := mTB (List.mem_of_getElem? (i := 152) (by decide +kernel)) (by decide +kernel)
theorem w409 : (.methodLink RX6 38 Lib.Math.min.name : Cond) ∈ TB := mTB (List.mem_of_getElem? (i := 409) (by decide +kernel)) (by decide +kernel)
theorem w412 : (.methodLink RX6 47 yX3_clear : Cond) ∈ TB := mTB (List.mem_of_getElem? (i := 412) (by decide +kernel)) (by decide +kernel)
theorem w413 : (.instanceMethod yX3_clear : Cond) ∈ TB := mTB (List.mem_of_getElem? (i := 413) (by decide +kernel)) (by decide +kernel)
theorem w414 : (.selects RX3 yX3_clear yX3_clear : Cond) ∈ TB := mTB (List.mem_of_getElem? (i := 414) (by decide +kernel)) (by decide +kernel)
theorem w415 : (.code yX3_clear cX3_clear 1 none : Cond) ∈ TB := mTB (List.mem_of_getElem? (i := 415) (by decide +kernel)) (by decide +kernel)
theorem w416 : (.methodLink RX6 50 yX0_clear : Cond) ∈ TB := mTB (List.mem_of_getElem? (i := 416) (by decide +kernel)) (by decide +kernel)
theorem w417 : (.instanceMethod yX0_clear : Cond) ∈ TB := mTB (List.mem_of_getElem? (i := 417) (by decide +kernel)) (by decide +kernel)
theorem w418 : (.selects RX0 yX0_clear yX0_clear : Cond) ∈ TB := mTB (List.mem_of_getElem? (i := 418) (by decide +kernel)) (by decide +kernel)
theorem w419 : (.code yX0_clear cX0_clear 1 none : Cond) ∈ TB := mTB (List.mem_of_getElem? (i := 419) (by decide +kernel)) (by decide +kernel)
theorem w420 : (.methodLink RX6 61 yX6_next : Cond) ∈ TB := mTB (List.mem_of_getElem? (i := 420) (by decide +kernel)) (by decide +kernel)
theorem w422 : (.instanceMethod yX6_next : Cond) ∈ TB := mTB (List.mem_of_getElem? (i := 422) (by decide +kernel)) (by decide +kernel)
theorem w423 : (.code yX6_next cX6_next 1 none : Cond) ∈ TB := mTB (List.mem_of_getElem? (i := 423) (by decide +kernel)) (by decide +kernel)
theorem w424 : (.methodLink RX6 170 yX6_isLetter : Cond) ∈ TB := mTB (List.mem_of_getElem? (i := 424) (by decide +kernel)) (by decide +kernel)
theorem w425 : (.static yX6_isLetter : Cond) ∈ TB := mTB (List.mem_of_getElem? (i := 425) (by decide +kernel)) (by decide +kernel)
theorem w426 : (.code yX6_isLetter cX6_isLetter 1 (some .boolean) : Cond) ∈ TB := mTB (List.mem_of_getElem? (i := 426) (by decide +kernel)) (by decide +kernel)
theorem w427 : (.methodLink RX6 174 yX6_wordToken : Cond) ∈ TB := mTB (List.mem_of_getElem? (i := 427) (by decide +kernel)) (by decide +kernel)
theorem w429 : (.instanceMethod yX6_wordToken : Cond) ∈ TB := mTB (List.mem_of_getElem? (i := 429) (by decide +kernel)) (by decide +kernel)
theorem w430 : (.code yX6_wordToken cX6_wordToken 1 (some .int) : Cond) ∈ TB := mTB (List.mem_of_getElem? (i := 430) (by decide +kernel)) (by decide +kernel)
theorem w432 : (.methodLink RX6 182 yX6_isWord : Cond) ∈ TB := mTB (List.mem_of_getElem? (i := 432) (by decide +kernel)) (by decide +kernel)
theorem w434 : (.instanceMethod yX6_isWord : Cond) ∈ TB := mTB (List.mem_of_getElem? (i := 434) (by decide +kernel)) (by decide +kernel)
theorem w435 : (.code yX6_isWord cX6_isWord 3 (some .boolean) : Cond) ∈ TB := mTB (List.mem_of_getElem? (i := 435) (by decide +kernel)) (by decide +kernel)
theorem w436 : (.methodLink RX6 161 yJ0_length_8abf5 : Cond) ∈ TB := mTB (List.mem_of_getElem? (i := 436) (by decide +kernel)) (by decide +kernel)
theorem w437 : (.instanceMethod yJ0_length_8abf5 : Cond) ∈ TB := mTB (List.mem_of_getElem? (i := 437) (by decide +kernel)) (by decide +kernel)
theorem w438 : (.selects RJ0 yJ0_length_8abf5 yJ0_length_8abf5 : Cond) ∈ TB := mTB (List.mem_of_getElem? (i := 438) (by decide +kernel)) (by decide +kernel)
theorem w439 : (.code yJ0_length_8abf5 cJ0_length_8abf5 1 (some .int) : Cond) ∈ TB := mTB (List.mem_of_getElem? (i := 439) (by decide +kernel)) (by decide +kernel)
theorem w446 : (.methodLink RX6 166 yJ0_charAt_5068e : Cond) ∈ TB := mTB (List.mem_of_getElem? (i := 446) (by decide +kernel)) (by decide +kernel)
theorem w447 : (.instanceMethod yJ0_charAt_5068e : Cond) ∈ TB := mTB (List.mem_of_getElem? (i := 447) (by decide +kernel)) (by decide +kernel)
theorem w448 : (.selects RJ0 yJ0_charAt_5068e yJ0_charAt_5068e : Cond) ∈ TB := mTB (List.mem_of_getElem? (i := 448) (by decide +kernel)) (by decide +kernel)
theorem w449 : (.code yJ0_charAt_5068e cJ0_charAt_5068e 2 (some .char) : Cond) ∈ TB := mTB (List.mem_of_getElem? (i := 449) (by decide +kernel)) (by decide +kernel)
theorem w489 : (.methodLink RX6 177 yX6_isDigit : Cond) ∈ TB := mTB (List.mem_of_getElem? (i := 489) (by decide +kernel)) (by decide +kernel)
theorem w490 : (.static yX6_isDigit : Cond) ∈ TB := mTB (List.mem_of_getElem? (i := 490) (by decide +kernel)) (by decide +kernel)
theorem w491 : (.code yX6_isDigit cX6_isDigit 1 (some .boolean) : Cond) ∈ TB := mTB (List.mem_of_getElem? (i := 491) (by decide +kernel)) (by decide +kernel)
theorem w492 : (.methodLink RX6 67 yX6_readLine : Cond) ∈ TB := mTB (List.mem_of_getElem? (i := 492) (by decide +kernel)) (by decide +kernel)
theorem w494 : (.instanceMethod yX6_readLine : Cond) ∈ TB := mTB (List.mem_of_getElem? (i := 494) (by decide +kernel)) (by decide +kernel)
theorem w495 : (.code yX6_readLine cX6_readLine 1 none : Cond) ∈ TB := mTB (List.mem_of_getElem? (i := 495) (by decide +kernel)) (by decide +kernel)
theorem w496 : (.methodLink RX6 70 yX6_readParty : Cond) ∈ TB := mTB (List.mem_of_getElem? (i := 496) (by decide +kernel)) (by decide +kernel)
theorem w498 : (.instanceMethod yX6_readParty : Cond) ∈ TB := mTB (List.mem_of_getElem? (i := 498) (by decide +kernel)) (by decide +kernel)
theorem w499 : (.code yX6_readParty cX6_readParty 1 none : Cond) ∈ TB := mTB (List.mem_of_getElem? (i := 499) (by decide +kernel)) (by decide +kernel)
theorem w500 : (.methodLink RX6 88 yX6_fail : Cond) ∈ TB := mTB (List.mem_of_getElem? (i := 500) (by decide +kernel)) (by decide +kernel)
theorem w502 : (.instanceMethod yX6_fail : Cond) ∈ TB := mTB (List.mem_of_getElem? (i := 502) (by decide +kernel)) (by decide +kernel)
theorem w503 : (.code yX6_fail cX6_fail 2 none : Cond) ∈ TB := mTB (List.mem_of_getElem? (i := 503) (by decide +kernel)) (by decide +kernel)
theorem w504 : (.methodLink RX6 98 yX6_checkNewName : Cond) ∈ TB := mTB (List.mem_of_getElem? (i := 504) (by decide +kernel)) (by decide +kernel)
theorem w506 : (.instanceMethod yX6_checkNewName : Cond) ∈ TB := mTB (List.mem_of_getElem? (i := 506) (by decide +kernel)) (by decide +kernel)
theorem w507 : (.code yX6_checkNewName cX6_checkNewName 1 none : Cond) ∈ TB := mTB (List.mem_of_getElem? (i := 507) (by decide +kernel)) (by decide +kernel)
theorem w508 : (.methodLink RX6 151 yX6_partyHere : Cond) ∈ TB := mTB (List.mem_of_getElem? (i := 508) (by decide +kernel)) (by decide +kernel)
theorem w510 : (.instanceMethod yX6_partyHere : Cond) ∈ TB := mTB (List.mem_of_getElem? (i := 510) (by decide +kernel)) (by decide +kernel)
theorem w511 : (.code yX6_partyHere cX6_partyHere 1 (some .int) : Cond) ∈ TB := mTB (List.mem_of_getElem? (i := 511) (by decide +kernel)) (by decide +kernel)
theorem w512 : (.methodLink RX6 157 yX3_find : Cond) ∈ TB := mTB (List.mem_of_getElem? (i := 512) (by decide +kernel)) (by decide +kernel)
theorem w513 : (.instanceMethod yX3_find : Cond) ∈ TB := mTB (List.mem_of_getElem? (i := 513) (by decide +kernel)) (by decide +kernel)
theorem w514 : (.selects RX3 yX3_find yX3_find : Cond) ∈ TB := mTB (List.mem_of_getElem? (i := 514) (by decide +kernel)) (by decide +kernel)
theorem w515 : (.code yX3_find cX3_find 7 (some .int) : Cond) ∈ TB := mTB (List.mem_of_getElem? (i := 515) (by decide +kernel)) (by decide +kernel)
theorem w520 : (.methodLink RX6 154 yX6_kindHere : Cond) ∈ TB := mTB (List.mem_of_getElem? (i := 520) (by decide +kernel)) (by decide +kernel)
theorem w522 : (.instanceMethod yX6_kindHere : Cond) ∈ TB := mTB (List.mem_of_getElem? (i := 522) (by decide +kernel)) (by decide +kernel)
theorem w523 : (.code yX6_kindHere cX6_kindHere 1 (some .int) : Cond) ∈ TB := mTB (List.mem_of_getElem? (i := 523) (by decide +kernel)) (by decide +kernel)
theorem w524 : (.methodLink RX6 104 yX3_appendParty : Cond) ∈ TB := mTB (List.mem_of_getElem? (i := 524) (by decide +kernel)) (by decide +kernel)
theorem w525 : (.instanceMethod yX3_appendParty : Cond) ∈ TB := mTB (List.mem_of_getElem? (i := 525) (by decide +kernel)) (by decide +kernel)
theorem w526 : (.selects RX3 yX3_appendParty yX3_appendParty : Cond) ∈ TB := mTB (List.mem_of_getElem? (i := 526) (by decide +kernel)) (by decide +kernel)
theorem w527 : (.code yX3_appendParty cX3_appendParty 4 none : Cond) ∈ TB := mTB (List.mem_of_getElem? (i := 527) (by decide +kernel)) (by decide +kernel)
theorem w533 : (.methodLink RX6 73 yX6_readKind : Cond) ∈ TB := mTB (List.mem_of_getElem? (i := 533) (by decide +kernel)) (by decide +kernel)
theorem w535 : (.instanceMethod yX6_readKind : Cond) ∈ TB := mTB (List.mem_of_getElem? (i := 535) (by decide +kernel)) (by decide +kernel)
theorem w536 : (.code yX6_readKind cX6_readKind 1 none : Cond) ∈ TB := mTB (List.mem_of_getElem? (i := 536) (by decide +kernel)) (by decide +kernel)
theorem w537 : (.methodLink RX6 111 yX3_appendKind : Cond) ∈ TB := mTB (List.mem_of_getElem? (i := 537) (by decide +kernel)) (by decide +kernel)
theorem w538 : (.instanceMethod yX3_appendKind : Cond) ∈ TB := mTB (List.mem_of_getElem? (i := 538) (by decide +kernel)) (by decide +kernel)
theorem w539 : (.selects RX3 yX3_appendKind yX3_appendKind : Cond) ∈ TB := mTB (List.mem_of_getElem? (i := 539) (by decide +kernel)) (by decide +kernel)
theorem w540 : (.code yX3_appendKind cX3_appendKind 4 none : Cond) ∈ TB := mTB (List.mem_of_getElem? (i := 540) (by decide +kernel)) (by decide +kernel)
theorem w541 : (.methodLink RX6 76 yX6_readTrade : Cond) ∈ TB := mTB (List.mem_of_getElem? (i := 541) (by decide +kernel)) (by decide +kernel)
theorem w543 : (.instanceMethod yX6_readTrade : Cond) ∈ TB := mTB (List.mem_of_getElem? (i := 543) (by decide +kernel)) (by decide +kernel)
theorem w544 : (.code yX6_readTrade cX6_readTrade 5 none : Cond) ∈ TB := mTB (List.mem_of_getElem? (i := 544) (by decide +kernel)) (by decide +kernel)
theorem w545 : (.methodLink RX6 117 yX6_knownParty : Cond) ∈ TB := mTB (List.mem_of_getElem? (i := 545) (by decide +kernel)) (by decide +kernel)
theorem w547 : (.instanceMethod yX6_knownParty : Cond) ∈ TB := mTB (List.mem_of_getElem? (i := 547) (by decide +kernel)) (by decide +kernel)
theorem w548 : (.code yX6_knownParty cX6_knownParty 2 (some .int) : Cond) ∈ TB := mTB (List.mem_of_getElem? (i := 548) (by decide +kernel)) (by decide +kernel)
theorem w549 : (.methodLink RX6 121 yX6_failIfSame : Cond) ∈ TB := mTB (List.mem_of_getElem? (i := 549) (by decide +kernel)) (by decide +kernel)
theorem w551 : (.instanceMethod yX6_failIfSame : Cond) ∈ TB := mTB (List.mem_of_getElem? (i := 551) (by decide +kernel)) (by decide +kernel)
theorem w552 : (.code yX6_failIfSame cX6_failIfSame 3 none : Cond) ∈ TB := mTB (List.mem_of_getElem? (i := 552) (by decide +kernel)) (by decide +kernel)
theorem w553 : (.constant RX6 125 999999 : Cond) ∈ TB := mTB (List.mem_of_getElem? (i := 553) (by decide +kernel)) (by decide +kernel)
theorem w554 : (.methodLink RX6 126 yX6_numberWithin : Cond) ∈ TB := mTB (List.mem_of_getElem? (i := 554) (by decide +kernel)) (by decide +kernel)
theorem w556 : (.instanceMethod yX6_numberWithin : Cond) ∈ TB := mTB (List.mem_of_getElem? (i := 556) (by decide +kernel)) (by decide +kernel)
theorem w557 : (.code yX6_numberWithin cX6_numberWithin 5 (some .int) : Cond) ∈ TB := mTB (List.mem_of_getElem? (i := 557) (by decide +kernel)) (by decide +kernel)
theorem w558 : (.methodLink RX6 129 yX6_knownKind : Cond) ∈ TB := mTB (List.mem_of_getElem? (i := 558) (by decide +kernel)) (by decide +kernel)
theorem w560 : (.instanceMethod yX6_knownKind : Cond) ∈ TB := mTB (List.mem_of_getElem? (i := 560) (by decide +kernel)) (by decide +kernel)
theorem w561 : (.code yX6_knownKind cX6_knownKind 2 (some .int) : Cond) ∈ TB := mTB (List.mem_of_getElem? (i := 561) (by decide +kernel)) (by decide +kernel)
theorem w562 : (.methodLink RX6 132 yX0_append : Cond) ∈ TB := mTB (List.mem_of_getElem? (i := 562) (by decide +kernel)) (by decide +kernel)
theorem w563 : (.instanceMethod yX0_append : Cond) ∈ TB := mTB (List.mem_of_getElem? (i := 563) (by decide +kernel)) (by decide +kernel)
theorem w564 : (.selects RX0 yX0_append yX0_append : Cond) ∈ TB := mTB (List.mem_of_getElem? (i := 564) (by decide +kernel)) (by decide +kernel)
theorem w565 : (.code yX0_append cX0_append 6 none : Cond) ∈ TB := mTB (List.mem_of_getElem? (i := 565) (by decide +kernel)) (by decide +kernel)
theorem w566 : (.methodLink RX6 79 yX6_readKeep : Cond) ∈ TB := mTB (List.mem_of_getElem? (i := 566) (by decide +kernel)) (by decide +kernel)
theorem w568 : (.instanceMethod yX6_readKeep : Cond) ∈ TB := mTB (List.mem_of_getElem? (i := 568) (by decide +kernel)) (by decide +kernel)
theorem w569 : (.code yX6_readKeep cX6_readKeep 2 none : Cond) ∈ TB := mTB (List.mem_of_getElem? (i := 569) (by decide +kernel)) (by decide +kernel)
theorem w570 : (.methodLink RX6 82 yX6_readCap : Cond) ∈ TB := mTB (List.mem_of_getElem? (i := 570) (by decide +kernel)) (by decide +kernel)
theorem w572 : (.instanceMethod yX6_readCap : Cond) ∈ TB := mTB (List.mem_of_getElem? (i := 572) (by decide +kernel)) (by decide +kernel)
theorem w573 : (.code yX6_readCap cX6_readCap 4 none : Cond) ∈ TB := mTB (List.mem_of_getElem? (i := 573) (by decide +kernel)) (by decide +kernel)
theorem w574 : (.constant RX6 140 99999999 : Cond) ∈ TB := mTB (List.mem_of_getElem? (i := 574) (by decide +kernel)) (by decide +kernel)
theorem w578 : (.methodLink RX6 85 yX6_readMode : Cond) ∈ TB := mTB (List.mem_of_getElem? (i := 578) (by decide +kernel)) (by decide +kernel)
theorem w580 : (.instanceMethod yX6_readMode : Cond) ∈ TB := mTB (List.mem_of_getElem? (i := 580) (by decide +kernel)) (by decide +kernel)
theorem w581 : (.code yX6_readMode cX6_readMode 2 none : Cond) ∈ TB := mTB (List.mem_of_getElem? (i := 581) (by decide +kernel)) (by decide +kernel)
theorem w582 : (.methodLink RX6 92 yX6_readSemicolon : Cond) ∈ TB := mTB (List.mem_of_getElem? (i := 582) (by decide +kernel)) (by decide +kernel)
theorem w584 : (.instanceMethod yX6_readSemicolon : Cond) ∈ TB := mTB (List.mem_of_getElem? (i := 584) (by decide +kernel)) (by decide +kernel)
theorem w585 : (.code yX6_readSemicolon cX6_readSemicolon 1 none : Cond) ∈ TB := mTB (List.mem_of_getElem? (i := 585) (by decide +kernel)) (by decide +kernel)
theorem ws0 : (.selects RX6 yX6_next yX6_next : Cond) ∈ TB := mSel (y := yX6_next) (n := 10) (List.mem_of_getElem? (i := 0) (by decide +kernel)) (by decide +kernel)
theorem ws1 : (.selects RX6 yX6_wordToken yX6_wordToken : Cond) ∈ TB := mSel (y := yX6_wordToken) (n := 10) (List.mem_of_getElem? (i := 1) (by decide +kernel)) (by decide +kernel)
theorem ws2 : (.selects RX6 yX6_isWord yX6_isWord : Cond) ∈ TB := mSel (y := yX6_isWord) (n := 10) (List.mem_of_getElem? (i := 2) (by decide +kernel)) (by decide +kernel)
theorem ws3 : (.selects RX6 yX6_readLine yX6_readLine : Cond) ∈ TB := mSel (y := yX6_readLine) (n := 10) (List.mem_of_getElem? (i := 3) (by decide +kernel)) (by decide +kernel)
theorem ws4 : (.selects RX6 yX6_readParty yX6_readParty : Cond) ∈ TB := mSel (y := yX6_readParty) (n := 10) (List.mem_of_getElem? (i := 4) (by decide +kernel)) (by decide +kernel)
theorem ws5 : (.selects RX6 yX6_fail yX6_fail : Cond) ∈ TB := mSel (y := yX6_fail) (n := 10) (List.mem_of_getElem? (i := 5) (by decide +kernel)) (by decide +kernel)
theorem ws6 : (.selects RX6 yX6_checkNewName yX6_checkNewName : Cond) ∈ TB := mSel (y := yX6_checkNewName) (n := 10) (List.mem_of_getElem? (i := 6) (by decide +kernel)) (by decide +kernel)
theorem ws7 : (.selects RX6 yX6_partyHere yX6_partyHere : Cond) ∈ TB := mSel (y := yX6_partyHere) (n := 10) (List.mem_of_getElem? (i := 7) (by decide +kernel)) (by decide +kernel)
theorem ws9 : (.selects RX6 yX6_kindHere yX6_kindHere : Cond) ∈ TB := mSel (y := yX6_kindHere) (n := 10) (List.mem_of_getElem? (i := 9) (by decide +kernel)) (by decide +kernel)
theorem ws11 : (.selects RX6 yX6_readKind yX6_readKind : Cond) ∈ TB := mSel (y := yX6_readKind) (n := 10) (List.mem_of_getElem? (i := 11) (by decide +kernel)) (by decide +kernel)
theorem ws12 : (.selects RX6 yX6_readTrade yX6_readTrade : Cond) ∈ TB := mSel (y := yX6_readTrade) (n := 10) (List.mem_of_getElem? (i := 12) (by decide +kernel)) (by decide +kernel)
theorem ws13 : (.selects RX6 yX6_knownParty yX6_knownParty : Cond) ∈ TB := mSel (y := yX6_knownParty) (n := 10) (List.mem_of_getElem? (i := 13) (by decide +kernel)) (by decide +kernel)
theorem ws14 : (.selects RX6 yX6_failIfSame yX6_failIfSame : Cond) ∈ TB := mSel (y := yX6_failIfSame) (n := 10) (List.mem_of_getElem? (i := 14) (by decide +kernel)) (by decide +kernel)
theorem ws15 : (.selects RX6 yX6_numberWithin yX6_numberWithin : Cond) ∈ TB := mSel (y := yX6_numberWithin) (n := 10) (List.mem_of_getElem? (i := 15) (by decide +kernel)) (by decide +kernel)
theorem ws16 : (.selects RX6 yX6_knownKind yX6_knownKind : Cond) ∈ TB := mSel (y := yX6_knownKind) (n := 10) (List.mem_of_getElem? (i := 16) (by decide +kernel)) (by decide +kernel)
theorem ws17 : (.selects RX6 yX6_readKeep yX6_readKeep : Cond) ∈ TB := mSel (y := yX6_readKeep) (n := 10) (List.mem_of_getElem? (i := 17) (by decide +kernel)) (by decide +kernel)
theorem ws18 : (.selects RX6 yX6_readCap yX6_readCap : Cond) ∈ TB := mSel (y := yX6_readCap) (n := 10) (List.mem_of_getElem? (i := 18) (by decide +kernel)) (by decide +kernel)
theorem ws19 : (.selects RX6 yX6_readMode yX6_readMode : Cond) ∈ TB := mSel (y := yX6_readMode) (n := 10) (List.mem_of_getElem? (i := 19) (by decide +kernel)) (by decide +kernel)
theorem ws20 : (.selects RX6 yX6_readSemicolon yX6_readSemicolon : Cond) ∈ TB := mSel (y := yX6_readSemicolon) (n := 10) (List.mem_of_getElem? (i := 20) (by decide +kernel)) (by decide +kernel)
theorem dX6_checkNewName_0 : decode cX6_checkNewName 0 = .ok (.aload_n 0, 1) := by decide +kernel
theorem dX6_checkNewName_1 : decode cX6_checkNewName 1 = .ok (.getfield 64, 3) := by decide +kernel
theorem dX6_checkNewName_4 : decode cX6_checkNewName 4 = .ok (.iconst 4, 1) := by decide +kernel
theorem dX6_checkNewName_5 : decode cX6_checkNewName 5 = .ok (.if_icmp .eq 11, 3) := by decide +kernel
theorem dX6_checkNewName_8 : decode cX6_checkNewName 8 = .ok (.aload_n 0, 1) := by decide +kernel
theorem dX6_checkNewName_9 : decode cX6_checkNewName 9 = .ok (.iconst 1, 1) := by decide +kernel
theorem dX6_checkNewName_10 : decode cX6_checkNewName 10 = .ok (.invokevirtual 88, 3) := by decide +kernel
theorem dX6_checkNewName_13 : decode cX6_checkNewName 13 = .ok (.goto 24, 3) := by decide +kernel
theorem dX6_checkNewName_16 : decode cX6_checkNewName 16 = .ok (.aload_n 0, 1) := by decide +kernel
theorem dX6_checkNewName_17 : decode cX6_checkNewName 17 = .ok (.invokevirtual 151, 3) := by decide +kernel
theorem dX6_checkNewName_20 : decode cX6_checkNewName 20 = .ok (.iconst (-1), 1) := by decide +kernel
theorem dX6_checkNewName_21 : decode cX6_checkNewName 21 = .ok (.if_icmp .ne 11, 3) := by decide +kernel
theorem dX6_checkNewName_24 : decode cX6_checkNewName 24 = .ok (.aload_n 0, 1) := by decide +kernel
theorem dX6_checkNewName_25 : decode cX6_checkNewName 25 = .ok (.invokevirtual 154, 3) := by decide +kernel
theorem dX6_checkNewName_28 : decode cX6_checkNewName 28 = .ok (.iconst (-1), 1) := by decide +kernel
theorem dX6_checkNewName_29 : decode cX6_checkNewName 29 = .ok (.if_icmp .eq 8, 3) := by decide +kernel
theorem dX6_checkNewName_32 : decode cX6_checkNewName 32 = .ok (.aload_n 0, 1) := by decide +kernel
theorem dX6_checkNewName_33 : decode cX6_checkNewName 33 = .ok (.iconst 3, 1) := by decide +kernel
theorem dX6_checkNewName_34 : decode cX6_checkNewName 34 = .ok (.invokevirtual 88, 3) := by decide +kernel
theorem dX6_checkNewName_37 : decode cX6_checkNewName 37 = .ok (.return_, 1) := by decide +kernel
theorem dX6_fail_0 : decode cX6_fail 0 = .ok (.aload_n 0, 1) := by decide +kernel
theorem dX6_fail_1 : decode cX6_fail 1 = .ok (.getfield 55, 3) := by decide +kernel
theorem dX6_fail_4 : decode cX6_fail 4 = .ok (.ifCond .ne 16, 3) := by decide +kernel
theorem dX6_fail_7 : decode cX6_fail 7 = .ok (.aload_n 0, 1) := by decide +kernel
theorem dX6_fail_8 : decode cX6_fail 8 = .ok (.iload_n 1, 1) := by decide +kernel
theorem dX6_fail_9 : decode cX6_fail 9 = .ok (.putfield 55, 3) := by decide +kernel
theorem dX6_fail_12 : decode cX6_fail 12 = .ok (.aload_n 0, 1) := by decide +kernel
theorem dX6_fail_13 : decode cX6_fail 13 = .ok (.aload_n 0, 1) := by decide +kernel
theorem dX6_fail_14 : decode cX6_fail 14 = .ok (.getfield 101, 3) := by decide +kernel
theorem dX6_fail_17 : decode cX6_fail 17 = .ok (.putfield 9, 3) := by decide +kernel
theorem dX6_fail_20 : decode cX6_fail 20 = .ok (.return_, 1) := by decide +kernel
theorem dX6_failIfSame_0 : decode cX6_failIfSame 0 = .ok (.iload_n 1, 1) := by decide +kernel
theorem dX6_failIfSame_1 : decode cX6_failIfSame 1 = .ok (.iload_n 2, 1) := by decide +kernel
theorem dX6_failIfSame_2 : decode cX6_failIfSame 2 = .ok (.if_icmp .ne 8, 3) := by decide +kernel
theorem dX6_failIfSame_5 : decode cX6_failIfSame 5 = .ok (.aload_n 0, 1) := by decide +kernel
theorem dX6_failIfSame_6 : decode cX6_failIfSame 6 = .ok (.iconst 5, 1) := by decide +kernel
theorem dX6_failIfSame_7 : decode cX6_failIfSame 7 = .ok (.invokevirtual 88, 3) := by decide +kernel
theorem dX6_failIfSame_10 : decode cX6_failIfSame 10 = .ok (.return_, 1) := by decide +kernel
theorem dX6_isDigit_0 : decode cX6_isDigit 0 = .ok (.iload_n 0, 1) := by decide +kernel
theorem dX6_isDigit_1 : decode cX6_isDigit 1 = .ok (.bipush 48, 2) := by decide +kernel
theorem dX6_isDigit_3 : decode cX6_isDigit 3 = .ok (.if_icmp .lt 13, 3) := by decide +kernel
theorem dX6_isDigit_6 : decode cX6_isDigit 6 = .ok (.iload_n 0, 1) := by decide +kernel
theorem dX6_isDigit_7 : decode cX6_isDigit 7 = .ok (.bipush 57, 2) := by decide +kernel
theorem dX6_isDigit_9 : decode cX6_isDigit 9 = .ok (.if_icmp .gt 7, 3) := by decide +kernel
theorem dX6_isDigit_12 : decode cX6_isDigit 12 = .ok (.iconst 1, 1) := by decide +kernel
theorem dX6_isDigit_13 : decode cX6_isDigit 13 = .ok (.goto 4, 3) := by decide +kernel
theorem dX6_isDigit_16 : decode cX6_isDigit 16 = .ok (.iconst 0, 1) := by decide +kernel
theorem dX6_isDigit_17 : decode cX6_isDigit 17 = .ok (.ireturn, 1) := by decide +kernel
theorem dX6_isLetter_0 : decode cX6_isLetter 0 = .ok (.iload_n 0, 1) := by decide +kernel
theorem dX6_isLetter_1 : decode cX6_isLetter 1 = .ok (.bipush 97, 2) := by decide +kernel
theorem dX6_isLetter_3 : decode cX6_isLetter 3 = .ok (.if_icmp .lt 13, 3) := by decide +kernel
theorem dX6_isLetter_6 : decode cX6_isLetter 6 = .ok (.iload_n 0, 1) := by decide +kernel
theorem dX6_isLetter_7 : decode cX6_isLetter 7 = .ok (.bipush 122, 2) := by decide +kernel
theorem dX6_isLetter_9 : decode cX6_isLetter 9 = .ok (.if_icmp .gt 7, 3) := by decide +kernel
theorem dX6_isLetter_12 : decode cX6_isLetter 12 = .ok (.iconst 1, 1) := by decide +kernel
theorem dX6_isLetter_13 : decode cX6_isLetter 13 = .ok (.goto 4, 3) := by decide +kernel
theorem dX6_isLetter_16 : decode cX6_isLetter 16 = .ok (.iconst 0, 1) := by decide +kernel
theorem dX6_isLetter_17 : decode cX6_isLetter 17 = .ok (.ireturn, 1) := by decide +kernel
theorem dX6_isWord_0 : decode cX6_isWord 0 = .ok (.aload_n 0, 1) := by decide +kernel
theorem dX6_isWord_1 : decode cX6_isWord 1 = .ok (.getfield 58, 3) := by decide +kernel
theorem dX6_isWord_4 : decode cX6_isWord 4 = .ok (.aload_n 0, 1) := by decide +kernel
theorem dX6_isWord_5 : decode cX6_isWord 5 = .ok (.getfield 101, 3) := by decide +kernel
theorem dX6_isWord_8 : decode cX6_isWord 8 = .ok (.isub, 1) := by decide +kernel
theorem dX6_isWord_9 : decode cX6_isWord 9 = .ok (.aload_n 1, 1) := by decide +kernel
theorem dX6_isWord_10 : decode cX6_isWord 10 = .ok (.invokevirtual 161, 3) := by decide +kernel
theorem dX6_isWord_13 : decode cX6_isWord 13 = .ok (.if_icmp .eq 5, 3) := by decide +kernel
theorem dX6_isWord_16 : decode cX6_isWord 16 = .ok (.iconst 0, 1) := by decide +kernel
theorem dX6_isWord_17 : decode cX6_isWord 17 = .ok (.ireturn, 1) := by decide +kernel
theorem dX6_isWord_18 : decode cX6_isWord 18 = .ok (.iconst 0, 1) := by decide +kernel
theorem dX6_isWord_19 : decode cX6_isWord 19 = .ok (.istore_n 2, 1) := by decide +kernel
theorem dX6_isWord_20 : decode cX6_isWord 20 = .ok (.iload_n 2, 1) := by decide +kernel
theorem dX6_isWord_21 : decode cX6_isWord 21 = .ok (.aload_n 1, 1) := by decide +kernel
theorem dX6_isWord_22 : decode cX6_isWord 22 = .ok (.invokevirtual 161, 3) := by decide +kernel
theorem dX6_isWord_25 : decode cX6_isWord 25 = .ok (.if_icmp .ge 30, 3) := by decide +kernel
theorem dX6_isWord_28 : decode cX6_isWord 28 = .ok (.aload_n 0, 1) := by decide +kernel
theorem dX6_isWord_29 : decode cX6_isWord 29 = .ok (.getfield 35, 3) := by decide +kernel
theorem dX6_isWord_32 : decode cX6_isWord 32 = .ok (.aload_n 0, 1) := by decide +kernel
theorem dX6_isWord_33 : decode cX6_isWord 33 = .ok (.getfield 101, 3) := by decide +kernel
theorem dX6_isWord_36 : decode cX6_isWord 36 = .ok (.iload_n 2, 1) := by decide +kernel
theorem dX6_isWord_37 : decode cX6_isWord 37 = .ok (.iadd, 1) := by decide +kernel
theorem dX6_isWord_38 : decode cX6_isWord 38 = .ok (.baload, 1) := by decide +kernel
theorem dX6_isWord_39 : decode cX6_isWord 39 = .ok (.aload_n 1, 1) := by decide +kernel
theorem dX6_isWord_40 : decode cX6_isWord 40 = .ok (.iload_n 2, 1) := by decide +kernel
theorem dX6_isWord_41 : decode cX6_isWord 41 = .ok (.invokevirtual 166, 3) := by decide +kernel
theorem dX6_isWord_44 : decode cX6_isWord 44 = .ok (.if_icmp .eq 5, 3) := by decide +kernel
theorem dX6_isWord_47 : decode cX6_isWord 47 = .ok (.iconst 0, 1) := by decide +kernel
theorem dX6_isWord_48 : decode cX6_isWord 48 = .ok (.ireturn, 1) := by decide +kernel
theorem dX6_isWord_49 : decode cX6_isWord 49 = .ok (.iinc 2 1, 3) := by decide +kernel
theorem dX6_isWord_52 : decode cX6_isWord 52 = .ok (.goto (-32), 3) := by decide +kernel
theorem dX6_isWord_55 : decode cX6_isWord 55 = .ok (.iconst 1, 1) := by decide +kernel
theorem dX6_isWord_56 : decode cX6_isWord 56 = .ok (.ireturn, 1) := by decide +kernel
theorem dX6_kindHere_0 : decode cX6_kindHere 0 = .ok (.aload_n 0, 1) := by decide +kernel
theorem dX6_kindHere_1 : decode cX6_kindHere 1 = .ok (.getfield 18, 3) := by decide +kernel
theorem dX6_kindHere_4 : decode cX6_kindHere 4 = .ok (.bipush 8, 2) := by decide +kernel
theorem dX6_kindHere_6 : decode cX6_kindHere 6 = .ok (.aload_n 0, 1) := by decide +kernel
theorem dX6_kindHere_7 : decode cX6_kindHere 7 = .ok (.getfield 18, 3) := by decide +kernel
theorem dX6_kindHere_10 : decode cX6_kindHere 10 = .ok (.getfield 108, 3) := by decide +kernel
theorem dX6_kindHere_13 : decode cX6_kindHere 13 = .ok (.aload_n 0, 1) := by decide +kernel
theorem dX6_kindHere_14 : decode cX6_kindHere 14 = .ok (.getfield 35, 3) := by decide +kernel
theorem dX6_kindHere_17 : decode cX6_kindHere 17 = .ok (.aload_n 0, 1) := by decide +kernel
theorem dX6_kindHere_18 : decode cX6_kindHere 18 = .ok (.getfield 101, 3) := by decide +kernel
theorem dX6_kindHere_21 : decode cX6_kindHere 21 = .ok (.aload_n 0, 1) := by decide +kernel
theorem dX6_kindHere_22 : decode cX6_kindHere 22 = .ok (.getfield 58, 3) := by decide +kernel
theorem dX6_kindHere_25 : decode cX6_kindHere 25 = .ok (.aload_n 0, 1) := by decide +kernel
theorem dX6_kindHere_26 : decode cX6_kindHere 26 = .ok (.getfield 101, 3) := by decide +kernel
theorem dX6_kindHere_29 : decode cX6_kindHere 29 = .ok (.isub, 1) := by decide +kernel
theorem dX6_kindHere_30 : decode cX6_kindHere 30 = .ok (.invokevirtual 157, 3) := by decide +kernel
theorem dX6_kindHere_33 : decode cX6_kindHere 33 = .ok (.ireturn, 1) := by decide +kernel
theorem dX6_knownKind_0 : decode cX6_knownKind 0 = .ok (.aload_n 0, 1) := by decide +kernel
theorem dX6_knownKind_1 : decode cX6_knownKind 1 = .ok (.getfield 64, 3) := by decide +kernel
theorem dX6_knownKind_4 : decode cX6_knownKind 4 = .ok (.iconst 4, 1) := by decide +kernel
theorem dX6_knownKind_5 : decode cX6_knownKind 5 = .ok (.if_icmp .eq 10, 3) := by decide +kernel
theorem dX6_knownKind_8 : decode cX6_knownKind 8 = .ok (.aload_n 0, 1) := by decide +kernel
theorem dX6_knownKind_9 : decode cX6_knownKind 9 = .ok (.iconst 1, 1) := by decide +kernel
theorem dX6_knownKind_10 : decode cX6_knownKind 10 = .ok (.invokevirtual 88, 3) := by decide +kernel
theorem dX6_knownKind_13 : decode cX6_knownKind 13 = .ok (.iconst (-1), 1) := by decide +kernel
theorem dX6_knownKind_14 : decode cX6_knownKind 14 = .ok (.ireturn, 1) := by decide +kernel
theorem dX6_knownKind_15 : decode cX6_knownKind 15 = .ok (.aload_n 0, 1) := by decide +kernel
theorem dX6_knownKind_16 : decode cX6_knownKind 16 = .ok (.invokevirtual 154, 3) := by decide +kernel
theorem dX6_knownKind_19 : decode cX6_knownKind 19 = .ok (.istore_n 1, 1) := by decide +kernel
theorem dX6_knownKind_20 : decode cX6_knownKind 20 = .ok (.iload_n 1, 1) := by decide +kernel
theorem dX6_knownKind_21 : decode cX6_knownKind 21 = .ok (.iconst (-1), 1) := by decide +kernel
theorem dX6_knownKind_22 : decode cX6_knownKind 22 = .ok (.if_icmp .ne 8, 3) := by decide +kernel
theorem dX6_knownKind_25 : decode cX6_knownKind 25 = .ok (.aload_n 0, 1) := by decide +kernel
theorem dX6_knownKind_26 : decode cX6_knownKind 26 = .ok (.iconst 3, 1) := by decide +kernel
theorem dX6_knownKind_27 : decode cX6_knownKind 27 = .ok (.invokevirtual 88, 3) := by decide +kernel
theorem dX6_knownKind_30 : decode cX6_knownKind 30 = .ok (.iload_n 1, 1) := by decide +kernel
theorem dX6_knownKind_31 : decode cX6_knownKind 31 = .ok (.ireturn, 1) := by decide +kernel
theorem dX6_knownParty_0 : decode cX6_knownParty 0 = .ok (.aload_n 0, 1) := by decide +kernel
theorem dX6_knownParty_1 : decode cX6_knownParty 1 = .ok (.getfield 64, 3) := by decide +kernel
theorem dX6_knownParty_4 : decode cX6_knownParty 4 = .ok (.iconst 4, 1) := by decide +kernel
theorem dX6_knownParty_5 : decode cX6_knownParty 5 = .ok (.if_icmp .eq 10, 3) := by decide +kernel
theorem dX6_knownParty_8 : decode cX6_knownParty 8 = .ok (.aload_n 0, 1) := by decide +kernel
theorem dX6_knownParty_9 : decode cX6_knownParty 9 = .ok (.iconst 1, 1) := by decide +kernel
theorem dX6_knownParty_10 : decode cX6_knownParty 10 = .ok (.invokevirtual 88, 3) := by decide +kernel
theorem dX6_knownParty_13 : decode cX6_knownParty 13 = .ok (.iconst (-1), 1) := by decide +kernel
theorem dX6_knownParty_14 : decode cX6_knownParty 14 = .ok (.ireturn, 1) := by decide +kernel
theorem dX6_knownParty_15 : decode cX6_knownParty 15 = .ok (.aload_n 0, 1) := by decide +kernel
theorem dX6_knownParty_16 : decode cX6_knownParty 16 = .ok (.invokevirtual 151, 3) := by decide +kernel
theorem dX6_knownParty_19 : decode cX6_knownParty 19 = .ok (.istore_n 1, 1) := by decide +kernel
theorem dX6_knownParty_20 : decode cX6_knownParty 20 = .ok (.iload_n 1, 1) := by decide +kernel
theorem dX6_knownParty_21 : decode cX6_knownParty 21 = .ok (.iconst (-1), 1) := by decide +kernel
theorem dX6_knownParty_22 : decode cX6_knownParty 22 = .ok (.if_icmp .ne 8, 3) := by decide +kernel
theorem dX6_knownParty_25 : decode cX6_knownParty 25 = .ok (.aload_n 0, 1) := by decide +kernel
theorem dX6_knownParty_26 : decode cX6_knownParty 26 = .ok (.iconst 3, 1) := by decide +kernel
theorem dX6_knownParty_27 : decode cX6_knownParty 27 = .ok (.invokevirtual 88, 3) := by decide +kernel
theorem dX6_knownParty_30 : decode cX6_knownParty 30 = .ok (.iload_n 1, 1) := by decide +kernel
theorem dX6_knownParty_31 : decode cX6_knownParty 31 = .ok (.ireturn, 1) := by decide +kernel
theorem dX6_next_0 : decode cX6_next 0 = .ok (.aload_n 0, 1) := by decide +kernel
theorem dX6_next_1 : decode cX6_next 1 = .ok (.aload_n 0, 1) := by decide +kernel
theorem dX6_next_2 : decode cX6_next 2 = .ok (.getfield 58, 3) := by decide +kernel
theorem dX6_next_5 : decode cX6_next 5 = .ok (.putfield 101, 3) := by decide +kernel
theorem dX6_next_8 : decode cX6_next 8 = .ok (.aload_n 0, 1) := by decide +kernel
theorem dX6_next_9 : decode cX6_next 9 = .ok (.getfield 101, 3) := by decide +kernel
theorem dX6_next_12 : decode cX6_next 12 = .ok (.aload_n 0, 1) := by decide +kernel
theorem dX6_next_13 : decode cX6_next 13 = .ok (.getfield 44, 3) := by decide +kernel
theorem dX6_next_16 : decode cX6_next 16 = .ok (.if_icmp .ge 30, 3) := by decide +kernel
theorem dX6_next_19 : decode cX6_next 19 = .ok (.aload_n 0, 1) := by decide +kernel
theorem dX6_next_20 : decode cX6_next 20 = .ok (.getfield 35, 3) := by decide +kernel
theorem dX6_next_23 : decode cX6_next 23 = .ok (.aload_n 0, 1) := by decide +kernel
theorem dX6_next_24 : decode cX6_next 24 = .ok (.getfield 101, 3) := by decide +kernel
theorem dX6_next_27 : decode cX6_next 27 = .ok (.baload, 1) := by decide +kernel
theorem dX6_next_28 : decode cX6_next 28 = .ok (.bipush 32, 2) := by decide +kernel
theorem dX6_next_30 : decode cX6_next 30 = .ok (.if_icmp .ne 16, 3) := by decide +kernel
theorem dX6_next_33 : decode cX6_next 33 = .ok (.aload_n 0, 1) := by decide +kernel
theorem dX6_next_34 : decode cX6_next 34 = .ok (.dup, 1) := by decide +kernel
theorem dX6_next_35 : decode cX6_next 35 = .ok (.getfield 101, 3) := by decide +kernel
theorem dX6_next_38 : decode cX6_next 38 = .ok (.iconst 1, 1) := by decide +kernel
theorem dX6_next_39 : decode cX6_next 39 = .ok (.iadd, 1) := by decide +kernel
theorem dX6_next_40 : decode cX6_next 40 = .ok (.putfield 101, 3) := by decide +kernel
theorem dX6_next_43 : decode cX6_next 43 = .ok (.goto (-35), 3) := by decide +kernel
theorem dX6_next_46 : decode cX6_next 46 = .ok (.aload_n 0, 1) := by decide +kernel
theorem dX6_next_47 : decode cX6_next 47 = .ok (.aload_n 0, 1) := by decide +kernel
theorem dX6_next_48 : decode cX6_next 48 = .ok (.getfield 101, 3) := by decide +kernel
theorem dX6_next_51 : decode cX6_next 51 = .ok (.putfield 58, 3) := by decide +kernel
theorem dX6_next_54 : decode cX6_next 54 = .ok (.aload_n 0, 1) := by decide +kernel
theorem dX6_next_55 : decode cX6_next 55 = .ok (.getfield 101, 3) := by decide +kernel
theorem dX6_next_58 : decode cX6_next 58 = .ok (.aload_n 0, 1) := by decide +kernel
theorem dX6_next_59 : decode cX6_next 59 = .ok (.getfield 44, 3) := by decide +kernel
theorem dX6_next_62 : decode cX6_next 62 = .ok (.if_icmp .lt 11, 3) := by decide +kernel
theorem dX6_next_65 : decode cX6_next 65 = .ok (.aload_n 0, 1) := by decide +kernel
theorem dX6_next_66 : decode cX6_next 66 = .ok (.iconst 0, 1) := by decide +kernel
theorem dX6_next_67 : decode cX6_next 67 = .ok (.putfield 64, 3) := by decide +kernel
theorem dX6_next_70 : decode cX6_next 70 = .ok (.goto 160, 3) := by decide +kernel
theorem dX6_next_73 : decode cX6_next 73 = .ok (.aload_n 0, 1) := by decide +kernel
theorem dX6_next_74 : decode cX6_next 74 = .ok (.getfield 35, 3) := by decide +kernel
theorem dX6_next_77 : decode cX6_next 77 = .ok (.aload_n 0, 1) := by decide +kernel
theorem dX6_next_78 : decode cX6_next 78 = .ok (.getfield 101, 3) := by decide +kernel
theorem dX6_next_81 : decode cX6_next 81 = .ok (.baload, 1) := by decide +kernel
theorem dX6_next_82 : decode cX6_next 82 = .ok (.invokestatic 170, 3) := by decide +kernel
theorem dX6_next_85 : decode cX6_next 85 = .ok (.ifCond .eq 53, 3) := by decide +kernel
theorem dX6_next_88 : decode cX6_next 88 = .ok (.aload_n 0, 1) := by decide +kernel
theorem dX6_next_89 : decode cX6_next 89 = .ok (.getfield 58, 3) := by decide +kernel
theorem dX6_next_92 : decode cX6_next 92 = .ok (.aload_n 0, 1) := by decide +kernel
theorem dX6_next_93 : decode cX6_next 93 = .ok (.getfield 44, 3) := by decide +kernel
theorem dX6_next_96 : decode cX6_next 96 = .ok (.if_icmp .ge 31, 3) := by decide +kernel
theorem dX6_next_99 : decode cX6_next 99 = .ok (.aload_n 0, 1) := by decide +kernel
theorem dX6_next_100 : decode cX6_next 100 = .ok (.getfield 35, 3) := by decide +kernel
theorem dX6_next_103 : decode cX6_next 103 = .ok (.aload_n 0, 1) := by decide +kernel
theorem dX6_next_104 : decode cX6_next 104 = .ok (.getfield 58, 3) := by decide +kernel
theorem dX6_next_107 : decode cX6_next 107 = .ok (.baload, 1) := by decide +kernel
theorem dX6_next_108 : decode cX6_next 108 = .ok (.invokestatic 170, 3) := by decide +kernel
theorem dX6_next_111 : decode cX6_next 111 = .ok (.ifCond .eq 16, 3) := by decide +kernel
theorem dX6_next_114 : decode cX6_next 114 = .ok (.aload_n 0, 1) := by decide +kernel
theorem dX6_next_115 : decode cX6_next 115 = .ok (.dup, 1) := by decide +kernel
theorem dX6_next_116 : decode cX6_next 116 = .ok (.getfield 58, 3) := by decide +kernel
theorem dX6_next_119 : decode cX6_next 119 = .ok (.iconst 1, 1) := by decide +kernel
theorem dX6_next_120 : decode cX6_next 120 = .ok (.iadd, 1) := by decide +kernel
theorem dX6_next_121 : decode cX6_next 121 = .ok (.putfield 58, 3) := by decide +kernel
theorem dX6_next_124 : decode cX6_next 124 = .ok (.goto (-36), 3) := by decide +kernel
theorem dX6_next_127 : decode cX6_next 127 = .ok (.aload_n 0, 1) := by decide +kernel
theorem dX6_next_128 : decode cX6_next 128 = .ok (.aload_n 0, 1) := by decide +kernel
theorem dX6_next_129 : decode cX6_next 129 = .ok (.invokevirtual 174, 3) := by decide +kernel
theorem dX6_next_132 : decode cX6_next 132 = .ok (.putfield 64, 3) := by decide +kernel
theorem dX6_next_135 : decode cX6_next 135 = .ok (.goto 95, 3) := by decide +kernel
theorem dX6_next_138 : decode cX6_next 138 = .ok (.aload_n 0, 1) := by decide +kernel
theorem dX6_next_139 : decode cX6_next 139 = .ok (.getfield 35, 3) := by decide +kernel
theorem dX6_next_142 : decode cX6_next 142 = .ok (.aload_n 0, 1) := by decide +kernel
theorem dX6_next_143 : decode cX6_next 143 = .ok (.getfield 101, 3) := by decide +kernel
theorem dX6_next_146 : decode cX6_next 146 = .ok (.baload, 1) := by decide +kernel
theorem dX6_next_147 : decode cX6_next 147 = .ok (.invokestatic 177, 3) := by decide +kernel
theorem dX6_next_150 : decode cX6_next 150 = .ok (.ifCond .eq 47, 3) := by decide +kernel
theorem dX6_next_153 : decode cX6_next 153 = .ok (.aload_n 0, 1) := by decide +kernel
theorem dX6_next_154 : decode cX6_next 154 = .ok (.iconst 3, 1) := by decide +kernel
theorem dX6_next_155 : decode cX6_next 155 = .ok (.putfield 64, 3) := by decide +kernel
theorem dX6_next_158 : decode cX6_next 158 = .ok (.aload_n 0, 1) := by decide +kernel
theorem dX6_next_159 : decode cX6_next 159 = .ok (.getfield 58, 3) := by decide +kernel
theorem dX6_next_162 : decode cX6_next 162 = .ok (.aload_n 0, 1) := by decide +kernel
theorem dX6_next_163 : decode cX6_next 163 = .ok (.getfield 44, 3) := by decide +kernel
theorem dX6_next_166 : decode cX6_next 166 = .ok (.if_icmp .ge 64, 3) := by decide +kernel
theorem dX6_next_169 : decode cX6_next 169 = .ok (.aload_n 0, 1) := by decide +kernel
theorem dX6_next_170 : decode cX6_next 170 = .ok (.getfield 35, 3) := by decide +kernel
theorem dX6_next_173 : decode cX6_next 173 = .ok (.aload_n 0, 1) := by decide +kernel
theorem dX6_next_174 : decode cX6_next 174 = .ok (.getfield 58, 3) := by decide +kernel
theorem dX6_next_177 : decode cX6_next 177 = .ok (.baload, 1) := by decide +kernel
theorem dX6_next_178 : decode cX6_next 178 = .ok (.invokestatic 177, 3) := by decide +kernel
theorem dX6_next_181 : decode cX6_next 181 = .ok (.ifCond .eq 49, 3) := by decide +kernel
theorem dX6_next_184 : decode cX6_next 184 = .ok (.aload_n 0, 1) := by decide +kernel
theorem dX6_next_185 : decode cX6_next 185 = .ok (.dup, 1) := by decide +kernel
theorem dX6_next_186 : decode cX6_next 186 = .ok (.getfield 58, 3) := by decide +kernel
theorem dX6_next_189 : decode cX6_next 189 = .ok (.iconst 1, 1) := by decide +kernel
theorem dX6_next_190 : decode cX6_next 190 = .ok (.iadd, 1) := by decide +kernel
theorem dX6_next_191 : decode cX6_next 191 = .ok (.putfield 58, 3) := by decide +kernel
theorem dX6_next_194 : decode cX6_next 194 = .ok (.goto (-36), 3) := by decide +kernel
theorem dX6_next_197 : decode cX6_next 197 = .ok (.aload_n 0, 1) := by decide +kernel
theorem dX6_next_198 : decode cX6_next 198 = .ok (.aload_n 0, 1) := by decide +kernel
theorem dX6_next_199 : decode cX6_next 199 = .ok (.getfield 35, 3) := by decide +kernel
theorem dX6_next_202 : decode cX6_next 202 = .ok (.aload_n 0, 1) := by decide +kernel
theorem dX6_next_203 : decode cX6_next 203 = .ok (.getfield 101, 3) := by decide +kernel
theorem dX6_next_206 : decode cX6_next 206 = .ok (.baload, 1) := by decide +kernel
theorem dX6_next_207 : decode cX6_next 207 = .ok (.bipush 59, 2) := by decide +kernel
theorem dX6_next_209 : decode cX6_next 209 = .ok (.if_icmp .ne 7, 3) := by decide +kernel
theorem dX6_next_212 : decode cX6_next 212 = .ok (.iconst 2, 1) := by decide +kernel
theorem dX6_next_213 : decode cX6_next 213 = .ok (.goto 4, 3) := by decide +kernel
theorem dX6_next_216 : decode cX6_next 216 = .ok (.iconst 1, 1) := by decide +kernel
theorem dX6_next_217 : decode cX6_next 217 = .ok (.putfield 64, 3) := by decide +kernel
theorem dX6_next_220 : decode cX6_next 220 = .ok (.aload_n 0, 1) := by decide +kernel
theorem dX6_next_221 : decode cX6_next 221 = .ok (.dup, 1) := by decide +kernel
theorem dX6_next_222 : decode cX6_next 222 = .ok (.getfield 58, 3) := by decide +kernel
theorem dX6_next_225 : decode cX6_next 225 = .ok (.iconst 1, 1) := by decide +kernel
theorem dX6_next_226 : decode cX6_next 226 = .ok (.iadd, 1) := by decide +kernel
theorem dX6_next_227 : decode cX6_next 227 = .ok (.putfield 58, 3) := by decide +kernel
theorem dX6_next_230 : decode cX6_next 230 = .ok (.return_, 1) := by decide +kernel
theorem dX6_numberWithin_0 : decode cX6_numberWithin 0 = .ok (.aload_n 0, 1) := by decide +kernel
theorem dX6_numberWithin_1 : decode cX6_numberWithin 1 = .ok (.getfield 64, 3) := by decide +kernel
theorem dX6_numberWithin_4 : decode cX6_numberWithin 4 = .ok (.iconst 3, 1) := by decide +kernel
theorem dX6_numberWithin_5 : decode cX6_numberWithin 5 = .ok (.if_icmp .eq 10, 3) := by decide +kernel
theorem dX6_numberWithin_8 : decode cX6_numberWithin 8 = .ok (.aload_n 0, 1) := by decide +kernel
theorem dX6_numberWithin_9 : decode cX6_numberWithin 9 = .ok (.iconst 1, 1) := by decide +kernel
theorem dX6_numberWithin_10 : decode cX6_numberWithin 10 = .ok (.invokevirtual 88, 3) := by decide +kernel
theorem dX6_numberWithin_13 : decode cX6_numberWithin 13 = .ok (.iconst 0, 1) := by decide +kernel
theorem dX6_numberWithin_14 : decode cX6_numberWithin 14 = .ok (.ireturn, 1) := by decide +kernel
theorem dX6_numberWithin_15 : decode cX6_numberWithin 15 = .ok (.aload_n 0, 1) := by decide +kernel
theorem dX6_numberWithin_16 : decode cX6_numberWithin 16 = .ok (.getfield 58, 3) := by decide +kernel
theorem dX6_numberWithin_19 : decode cX6_numberWithin 19 = .ok (.aload_n 0, 1) := by decide +kernel
theorem dX6_numberWithin_20 : decode cX6_numberWithin 20 = .ok (.getfield 101, 3) := by decide +kernel
theorem dX6_numberWithin_23 : decode cX6_numberWithin 23 = .ok (.isub, 1) := by decide +kernel
theorem dX6_numberWithin_24 : decode cX6_numberWithin 24 = .ok (.bipush 8, 2) := by decide +kernel
theorem dX6_numberWithin_26 : decode cX6_numberWithin 26 = .ok (.if_icmp .le 10, 3) := by decide +kernel
theorem dX6_numberWithin_29 : decode cX6_numberWithin 29 = .ok (.aload_n 0, 1) := by decide +kernel
theorem dX6_numberWithin_30 : decode cX6_numberWithin 30 = .ok (.iconst 2, 1) := by decide +kernel
theorem dX6_numberWithin_31 : decode cX6_numberWithin 31 = .ok (.invokevirtual 88, 3) := by decide +kernel
theorem dX6_numberWithin_34 : decode cX6_numberWithin 34 = .ok (.iconst 0, 1) := by decide +kernel
theorem dX6_numberWithin_35 : decode cX6_numberWithin 35 = .ok (.ireturn, 1) := by decide +kernel
theorem dX6_numberWithin_36 : decode cX6_numberWithin 36 = .ok (.iconst 0, 1) := by decide +kernel
theorem dX6_numberWithin_37 : decode cX6_numberWithin 37 = .ok (.istore_n 3, 1) := by decide +kernel
theorem dX6_numberWithin_38 : decode cX6_numberWithin 38 = .ok (.aload_n 0, 1) := by decide +kernel
theorem dX6_numberWithin_39 : decode cX6_numberWithin 39 = .ok (.getfield 101, 3) := by decide +kernel
theorem dX6_numberWithin_42 : decode cX6_numberWithin 42 = .ok (.istore 4, 2) := by decide +kernel
theorem dX6_numberWithin_44 : decode cX6_numberWithin 44 = .ok (.iload 4, 2) := by decide +kernel
theorem dX6_numberWithin_46 : decode cX6_numberWithin 46 = .ok (.aload_n 0, 1) := by decide +kernel
theorem dX6_numberWithin_47 : decode cX6_numberWithin 47 = .ok (.getfield 58, 3) := by decide +kernel
theorem dX6_numberWithin_50 : decode cX6_numberWithin 50 = .ok (.if_icmp .ge 25, 3) := by decide +kernel
theorem dX6_numberWithin_53 : decode cX6_numberWithin 53 = .ok (.iload_n 3, 1) := by decide +kernel
theorem dX6_numberWithin_54 : decode cX6_numberWithin 54 = .ok (.bipush 10, 2) := by decide +kernel
theorem dX6_numberWithin_56 : decode cX6_numberWithin 56 = .ok (.imul, 1) := by decide +kernel
theorem dX6_numberWithin_57 : decode cX6_numberWithin 57 = .ok (.aload_n 0, 1) := by decide +kernel
theorem dX6_numberWithin_58 : decode cX6_numberWithin 58 = .ok (.getfield 35, 3) := by decide +kernel
theorem dX6_numberWithin_61 : decode cX6_numberWithin 61 = .ok (.iload 4, 2) := by decide +kernel
theorem dX6_numberWithin_63 : decode cX6_numberWithin 63 = .ok (.baload, 1) := by decide +kernel
theorem dX6_numberWithin_64 : decode cX6_numberWithin 64 = .ok (.bipush 48, 2) := by decide +kernel
theorem dX6_numberWithin_66 : decode cX6_numberWithin 66 = .ok (.isub, 1) := by decide +kernel
theorem dX6_numberWithin_67 : decode cX6_numberWithin 67 = .ok (.iadd, 1) := by decide +kernel
theorem dX6_numberWithin_68 : decode cX6_numberWithin 68 = .ok (.istore_n 3, 1) := by decide +kernel
theorem dX6_numberWithin_69 : decode cX6_numberWithin 69 = .ok (.iinc 4 1, 3) := by decide +kernel
theorem dX6_numberWithin_72 : decode cX6_numberWithin 72 = .ok (.goto (-28), 3) := by decide +kernel
theorem dX6_numberWithin_75 : decode cX6_numberWithin 75 = .ok (.iload_n 3, 1) := by decide +kernel
theorem dX6_numberWithin_76 : decode cX6_numberWithin 76 = .ok (.iload_n 1, 1) := by decide +kernel
theorem dX6_numberWithin_77 : decode cX6_numberWithin 77 = .ok (.if_icmp .lt 8, 3) := by decide +kernel
theorem dX6_numberWithin_80 : decode cX6_numberWithin 80 = .ok (.iload_n 3, 1) := by decide +kernel
theorem dX6_numberWithin_81 : decode cX6_numberWithin 81 = .ok (.iload_n 2, 1) := by decide +kernel
theorem dX6_numberWithin_82 : decode cX6_numberWithin 82 = .ok (.if_icmp .le 8, 3) := by decide +kernel
theorem dX6_numberWithin_85 : decode cX6_numberWithin 85 = .ok (.aload_n 0, 1) := by decide +kernel
theorem dX6_numberWithin_86 : decode cX6_numberWithin 86 = .ok (.iconst 2, 1) := by decide +kernel
theorem dX6_numberWithin_87 : decode cX6_numberWithin 87 = .ok (.invokevirtual 88, 3) := by decide +kernel
theorem dX6_numberWithin_90 : decode cX6_numberWithin 90 = .ok (.iload_n 3, 1) := by decide +kernel
theorem dX6_numberWithin_91 : decode cX6_numberWithin 91 = .ok (.ireturn, 1) := by decide +kernel
theorem dX6_partyHere_0 : decode cX6_partyHere 0 = .ok (.aload_n 0, 1) := by decide +kernel
theorem dX6_partyHere_1 : decode cX6_partyHere 1 = .ok (.getfield 18, 3) := by decide +kernel
theorem dX6_partyHere_4 : decode cX6_partyHere 4 = .ok (.iconst 0, 1) := by decide +kernel
theorem dX6_partyHere_5 : decode cX6_partyHere 5 = .ok (.aload_n 0, 1) := by decide +kernel
theorem dX6_partyHere_6 : decode cX6_partyHere 6 = .ok (.getfield 18, 3) := by decide +kernel
theorem dX6_partyHere_9 : decode cX6_partyHere 9 = .ok (.getfield 95, 3) := by decide +kernel
theorem dX6_partyHere_12 : decode cX6_partyHere 12 = .ok (.aload_n 0, 1) := by decide +kernel
theorem dX6_partyHere_13 : decode cX6_partyHere 13 = .ok (.getfield 35, 3) := by decide +kernel
theorem dX6_partyHere_16 : decode cX6_partyHere 16 = .ok (.aload_n 0, 1) := by decide +kernel
theorem dX6_partyHere_17 : decode cX6_partyHere 17 = .ok (.getfield 101, 3) := by decide +kernel
theorem dX6_partyHere_20 : decode cX6_partyHere 20 = .ok (.aload_n 0, 1) := by decide +kernel
theorem dX6_partyHere_21 : decode cX6_partyHere 21 = .ok (.getfield 58, 3) := by decide +kernel
theorem dX6_partyHere_24 : decode cX6_partyHere 24 = .ok (.aload_n 0, 1) := by decide +kernel
theorem dX6_partyHere_25 : decode cX6_partyHere 25 = .ok (.getfield 101, 3) := by decide +kernel
theorem dX6_partyHere_28 : decode cX6_partyHere 28 = .ok (.isub, 1) := by decide +kernel
theorem dX6_partyHere_29 : decode cX6_partyHere 29 = .ok (.invokevirtual 157, 3) := by decide +kernel
theorem dX6_partyHere_32 : decode cX6_partyHere 32 = .ok (.ireturn, 1) := by decide +kernel
theorem dX6_read_0 : decode cX6_read 0 = .ok (.aload_n 0, 1) := by decide +kernel
theorem dX6_read_1 : decode cX6_read 1 = .ok (.iload_n 1, 1) := by decide +kernel
theorem dX6_read_2 : decode cX6_read 2 = .ok (.aload_n 0, 1) := by decide +kernel
theorem dX6_read_3 : decode cX6_read 3 = .ok (.getfield 35, 3) := by decide +kernel
theorem dX6_read_6 : decode cX6_read 6 = .ok (.arraylength, 1) := by decide +kernel
theorem dX6_read_7 : decode cX6_read 7 = .ok (.invokestatic 38, 3) := by decide +kernel
theorem dX6_read_10 : decode cX6_read 10 = .ok (.putfield 44, 3) := by decide +kernel
theorem dX6_read_13 : decode cX6_read 13 = .ok (.aload_n 0, 1) := by decide +kernel
theorem dX6_read_14 : decode cX6_read 14 = .ok (.getfield 18, 3) := by decide +kernel
theorem dX6_read_17 : decode cX6_read 17 = .ok (.invokevirtual 47, 3) := by decide +kernel
theorem dX6_read_20 : decode cX6_read 20 = .ok (.aload_n 0, 1) := by decide +kernel
theorem dX6_read_21 : decode cX6_read 21 = .ok (.getfield 25, 3) := by decide +kernel
theorem dX6_read_24 : decode cX6_read 24 = .ok (.invokevirtual 50, 3) := by decide +kernel
theorem dX6_read_27 : decode cX6_read 27 = .ok (.aload_n 0, 1) := by decide +kernel
theorem dX6_read_28 : decode cX6_read 28 = .ok (.iconst 0, 1) := by decide +kernel
theorem dX6_read_29 : decode cX6_read 29 = .ok (.putfield 51, 3) := by decide +kernel
theorem dX6_read_32 : decode cX6_read 32 = .ok (.aload_n 0, 1) := by decide +kernel
theorem dX6_read_33 : decode cX6_read 33 = .ok (.iconst 0, 1) := by decide +kernel
theorem dX6_read_34 : decode cX6_read 34 = .ok (.putfield 55, 3) := by decide +kernel
theorem dX6_read_37 : decode cX6_read 37 = .ok (.aload_n 0, 1) := by decide +kernel
theorem dX6_read_38 : decode cX6_read 38 = .ok (.iconst (-1), 1) := by decide +kernel
theorem dX6_read_39 : decode cX6_read 39 = .ok (.putfield 9, 3) := by decide +kernel
theorem dX6_read_42 : decode cX6_read 42 = .ok (.aload_n 0, 1) := by decide +kernel
theorem dX6_read_43 : decode cX6_read 43 = .ok (.iconst 0, 1) := by decide +kernel
theorem dX6_read_44 : decode cX6_read 44 = .ok (.putfield 58, 3) := by decide +kernel
theorem dX6_read_47 : decode cX6_read 47 = .ok (.aload_n 0, 1) := by decide +kernel
theorem dX6_read_48 : decode cX6_read 48 = .ok (.invokevirtual 61, 3) := by decide +kernel
theorem dX6_read_51 : decode cX6_read 51 = .ok (.iconst 0, 1) := by decide +kernel
theorem dX6_read_52 : decode cX6_read 52 = .ok (.istore_n 2, 1) := by decide +kernel
theorem dX6_read_53 : decode cX6_read 53 = .ok (.iload_n 2, 1) := by decide +kernel
theorem dX6_read_54 : decode cX6_read 54 = .ok (.sipush 900, 3) := by decide +kernel
theorem dX6_read_57 : decode cX6_read 57 = .ok (.if_icmp .ge 27, 3) := by decide +kernel
theorem dX6_read_60 : decode cX6_read 60 = .ok (.aload_n 0, 1) := by decide +kernel
theorem dX6_read_61 : decode cX6_read 61 = .ok (.getfield 55, 3) := by decide +kernel
theorem dX6_read_64 : decode cX6_read 64 = .ok (.ifCond .ne 20, 3) := by decide +kernel
theorem dX6_read_67 : decode cX6_read 67 = .ok (.aload_n 0, 1) := by decide +kernel
theorem dX6_read_68 : decode cX6_read 68 = .ok (.getfield 64, 3) := by decide +kernel
theorem dX6_read_71 : decode cX6_read 71 = .ok (.ifCond .eq 13, 3) := by decide +kernel
theorem dX6_read_74 : decode cX6_read 74 = .ok (.aload_n 0, 1) := by decide +kernel
theorem dX6_read_75 : decode cX6_read 75 = .ok (.invokevirtual 67, 3) := by decide +kernel
theorem dX6_read_78 : decode cX6_read 78 = .ok (.iinc 2 1, 3) := by decide +kernel
theorem dX6_read_81 : decode cX6_read 81 = .ok (.goto (-28), 3) := by decide +kernel
theorem dX6_read_84 : decode cX6_read 84 = .ok (.return_, 1) := by decide +kernel
theorem dX6_readCap_0 : decode cX6_readCap 0 = .ok (.aload_n 0, 1) := by decide +kernel
theorem dX6_readCap_1 : decode cX6_readCap 1 = .ok (.invokevirtual 61, 3) := by decide +kernel
theorem dX6_readCap_4 : decode cX6_readCap 4 = .ok (.aload_n 0, 1) := by decide +kernel
theorem dX6_readCap_5 : decode cX6_readCap 5 = .ok (.invokevirtual 117, 3) := by decide +kernel
theorem dX6_readCap_8 : decode cX6_readCap 8 = .ok (.istore_n 1, 1) := by decide +kernel
theorem dX6_readCap_9 : decode cX6_readCap 9 = .ok (.aload_n 0, 1) := by decide +kernel
theorem dX6_readCap_10 : decode cX6_readCap 10 = .ok (.invokevirtual 61, 3) := by decide +kernel
theorem dX6_readCap_13 : decode cX6_readCap 13 = .ok (.aload_n 0, 1) := by decide +kernel
theorem dX6_readCap_14 : decode cX6_readCap 14 = .ok (.invokevirtual 117, 3) := by decide +kernel
theorem dX6_readCap_17 : decode cX6_readCap 17 = .ok (.istore_n 2, 1) := by decide +kernel
theorem dX6_readCap_18 : decode cX6_readCap 18 = .ok (.aload_n 0, 1) := by decide +kernel
theorem dX6_readCap_19 : decode cX6_readCap 19 = .ok (.iload_n 1, 1) := by decide +kernel
theorem dX6_readCap_20 : decode cX6_readCap 20 = .ok (.iload_n 2, 1) := by decide +kernel
theorem dX6_readCap_21 : decode cX6_readCap 21 = .ok (.invokevirtual 121, 3) := by decide +kernel
theorem dX6_readCap_24 : decode cX6_readCap 24 = .ok (.aload_n 0, 1) := by decide +kernel
theorem dX6_readCap_25 : decode cX6_readCap 25 = .ok (.invokevirtual 61, 3) := by decide +kernel
theorem dX6_readCap_28 : decode cX6_readCap 28 = .ok (.aload_n 0, 1) := by decide +kernel
theorem dX6_readCap_29 : decode cX6_readCap 29 = .ok (.iconst 0, 1) := by decide +kernel
theorem dX6_readCap_30 : decode cX6_readCap 30 = .ok (.ldc 140, 2) := by decide +kernel
theorem dX6_readCap_32 : decode cX6_readCap 32 = .ok (.invokevirtual 126, 3) := by decide +kernel
theorem dX6_readCap_35 : decode cX6_readCap 35 = .ok (.istore_n 3, 1) := by decide +kernel
theorem dX6_readCap_36 : decode cX6_readCap 36 = .ok (.aload_n 0, 1) := by decide +kernel
theorem dX6_readCap_37 : decode cX6_readCap 37 = .ok (.getfield 55, 3) := by decide +kernel
theorem dX6_readCap_40 : decode cX6_readCap 40 = .ok (.ifCond .ne 17, 3) := by decide +kernel
theorem dX6_readCap_43 : decode cX6_readCap 43 = .ok (.aload_n 0, 1) := by decide +kernel
theorem dX6_readCap_44 : decode cX6_readCap 44 = .ok (.getfield 25, 3) := by decide +kernel
theorem dX6_readCap_47 : decode cX6_readCap 47 = .ok (.getfield 141, 3) := by decide +kernel
theorem dX6_readCap_50 : decode cX6_readCap 50 = .ok (.iload_n 1, 1) := by decide +kernel
theorem dX6_readCap_51 : decode cX6_readCap 51 = .ok (.iload_n 2, 1) := by decide +kernel
theorem dX6_readCap_52 : decode cX6_readCap 52 = .ok (.invokestatic 145, 3) := by decide +kernel
theorem dX6_readCap_55 : decode cX6_readCap 55 = .ok (.iload_n 3, 1) := by decide +kernel
theorem dX6_readCap_56 : decode cX6_readCap 56 = .ok (.iastore, 1) := by decide +kernel
theorem dX6_readCap_57 : decode cX6_readCap 57 = .ok (.aload_n 0, 1) := by decide +kernel
theorem dX6_readCap_58 : decode cX6_readCap 58 = .ok (.invokevirtual 61, 3) := by decide +kernel
theorem dX6_readCap_61 : decode cX6_readCap 61 = .ok (.return_, 1) := by decide +kernel
theorem dX6_readKeep_0 : decode cX6_readKeep 0 = .ok (.aload_n 0, 1) := by decide +kernel
theorem dX6_readKeep_1 : decode cX6_readKeep 1 = .ok (.invokevirtual 61, 3) := by decide +kernel
theorem dX6_readKeep_4 : decode cX6_readKeep 4 = .ok (.aload_n 0, 1) := by decide +kernel
theorem dX6_readKeep_5 : decode cX6_readKeep 5 = .ok (.iconst 0, 1) := by decide +kernel
theorem dX6_readKeep_6 : decode cX6_readKeep 6 = .ok (.aload_n 0, 1) := by decide +kernel
theorem dX6_readKeep_7 : decode cX6_readKeep 7 = .ok (.getfield 25, 3) := by decide +kernel
theorem dX6_readKeep_10 : decode cX6_readKeep 10 = .ok (.getfield 114, 3) := by decide +kernel
theorem dX6_readKeep_13 : decode cX6_readKeep 13 = .ok (.iconst 1, 1) := by decide +kernel
theorem dX6_readKeep_14 : decode cX6_readKeep 14 = .ok (.isub, 1) := by decide +kernel
theorem dX6_readKeep_15 : decode cX6_readKeep 15 = .ok (.invokevirtual 126, 3) := by decide +kernel
theorem dX6_readKeep_18 : decode cX6_readKeep 18 = .ok (.istore_n 1, 1) := by decide +kernel
theorem dX6_readKeep_19 : decode cX6_readKeep 19 = .ok (.aload_n 0, 1) := by decide +kernel
theorem dX6_readKeep_20 : decode cX6_readKeep 20 = .ok (.getfield 55, 3) := by decide +kernel
theorem dX6_readKeep_23 : decode cX6_readKeep 23 = .ok (.ifCond .ne 20, 3) := by decide +kernel
theorem dX6_readKeep_26 : decode cX6_readKeep 26 = .ok (.aload_n 0, 1) := by decide +kernel
theorem dX6_readKeep_27 : decode cX6_readKeep 27 = .ok (.getfield 25, 3) := by decide +kernel
theorem dX6_readKeep_30 : decode cX6_readKeep 30 = .ok (.getfield 136, 3) := by decide +kernel
theorem dX6_readKeep_33 : decode cX6_readKeep 33 = .ok (.iload_n 1, 1) := by decide +kernel
theorem dX6_readKeep_34 : decode cX6_readKeep 34 = .ok (.baload, 1) := by decide +kernel
theorem dX6_readKeep_35 : decode cX6_readKeep 35 = .ok (.ifCond .eq 8, 3) := by decide +kernel
theorem dX6_readKeep_38 : decode cX6_readKeep 38 = .ok (.aload_n 0, 1) := by decide +kernel
theorem dX6_readKeep_39 : decode cX6_readKeep 39 = .ok (.iconst 5, 1) := by decide +kernel
theorem dX6_readKeep_40 : decode cX6_readKeep 40 = .ok (.invokevirtual 88, 3) := by decide +kernel
theorem dX6_readKeep_43 : decode cX6_readKeep 43 = .ok (.aload_n 0, 1) := by decide +kernel
theorem dX6_readKeep_44 : decode cX6_readKeep 44 = .ok (.getfield 55, 3) := by decide +kernel
theorem dX6_readKeep_47 : decode cX6_readKeep 47 = .ok (.ifCond .ne 13, 3) := by decide +kernel
theorem dX6_readKeep_50 : decode cX6_readKeep 50 = .ok (.aload_n 0, 1) := by decide +kernel
theorem dX6_readKeep_51 : decode cX6_readKeep 51 = .ok (.getfield 25, 3) := by decide +kernel
theorem dX6_readKeep_54 : decode cX6_readKeep 54 = .ok (.getfield 136, 3) := by decide +kernel
theorem dX6_readKeep_57 : decode cX6_readKeep 57 = .ok (.iload_n 1, 1) := by decide +kernel
theorem dX6_readKeep_58 : decode cX6_readKeep 58 = .ok (.iconst 1, 1) := by decide +kernel
theorem dX6_readKeep_59 : decode cX6_readKeep 59 = .ok (.bastore, 1) := by decide +kernel
theorem dX6_readKeep_60 : decode cX6_readKeep 60 = .ok (.aload_n 0, 1) := by decide +kernel
theorem dX6_readKeep_61 : decode cX6_readKeep 61 = .ok (.invokevirtual 61, 3) := by decide +kernel
theorem dX6_readKeep_64 : decode cX6_readKeep 64 = .ok (.return_, 1) := by decide +kernel
theorem dX6_readKind_0 : decode cX6_readKind 0 = .ok (.aload_n 0, 1) := by decide +kernel
theorem dX6_readKind_1 : decode cX6_readKind 1 = .ok (.getfield 18, 3) := by decide +kernel
theorem dX6_readKind_4 : decode cX6_readKind 4 = .ok (.getfield 108, 3) := by decide +kernel
theorem dX6_readKind_7 : decode cX6_readKind 7 = .ok (.iconst 4, 1) := by decide +kernel
theorem dX6_readKind_8 : decode cX6_readKind 8 = .ok (.if_icmp .lt 8, 3) := by decide +kernel
theorem dX6_readKind_11 : decode cX6_readKind 11 = .ok (.aload_n 0, 1) := by decide +kernel
theorem dX6_readKind_12 : decode cX6_readKind 12 = .ok (.iconst 4, 1) := by decide +kernel
theorem dX6_readKind_13 : decode cX6_readKind 13 = .ok (.invokevirtual 88, 3) := by decide +kernel
theorem dX6_readKind_16 : decode cX6_readKind 16 = .ok (.aload_n 0, 1) := by decide +kernel
theorem dX6_readKind_17 : decode cX6_readKind 17 = .ok (.invokevirtual 61, 3) := by decide +kernel
theorem dX6_readKind_20 : decode cX6_readKind 20 = .ok (.aload_n 0, 1) := by decide +kernel
theorem dX6_readKind_21 : decode cX6_readKind 21 = .ok (.invokevirtual 98, 3) := by decide +kernel
theorem dX6_readKind_24 : decode cX6_readKind 24 = .ok (.aload_n 0, 1) := by decide +kernel
theorem dX6_readKind_25 : decode cX6_readKind 25 = .ok (.getfield 55, 3) := by decide +kernel
theorem dX6_readKind_28 : decode cX6_readKind 28 = .ok (.ifCond .ne 27, 3) := by decide +kernel
theorem dX6_readKind_31 : decode cX6_readKind 31 = .ok (.aload_n 0, 1) := by decide +kernel
theorem dX6_readKind_32 : decode cX6_readKind 32 = .ok (.getfield 18, 3) := by decide +kernel
theorem dX6_readKind_35 : decode cX6_readKind 35 = .ok (.aload_n 0, 1) := by decide +kernel
theorem dX6_readKind_36 : decode cX6_readKind 36 = .ok (.getfield 35, 3) := by decide +kernel
theorem dX6_readKind_39 : decode cX6_readKind 39 = .ok (.aload_n 0, 1) := by decide +kernel
theorem dX6_readKind_40 : decode cX6_readKind 40 = .ok (.getfield 101, 3) := by decide +kernel
theorem dX6_readKind_43 : decode cX6_readKind 43 = .ok (.aload_n 0, 1) := by decide +kernel
theorem dX6_readKind_44 : decode cX6_readKind 44 = .ok (.getfield 58, 3) := by decide +kernel
theorem dX6_readKind_47 : decode cX6_readKind 47 = .ok (.aload_n 0, 1) := by decide +kernel
theorem dX6_readKind_48 : decode cX6_readKind 48 = .ok (.getfield 101, 3) := by decide +kernel
theorem dX6_readKind_51 : decode cX6_readKind 51 = .ok (.isub, 1) := by decide +kernel
theorem dX6_readKind_52 : decode cX6_readKind 52 = .ok (.invokevirtual 111, 3) := by decide +kernel
theorem dX6_readKind_55 : decode cX6_readKind 55 = .ok (.aload_n 0, 1) := by decide +kernel
theorem dX6_readKind_56 : decode cX6_readKind 56 = .ok (.invokevirtual 61, 3) := by decide +kernel
theorem dX6_readKind_59 : decode cX6_readKind 59 = .ok (.return_, 1) := by decide +kernel
theorem dX6_readLine_0 : decode cX6_readLine 0 = .ok (.aload_n 0, 1) := by decide +kernel
theorem dX6_readLine_1 : decode cX6_readLine 1 = .ok (.getfield 64, 3) := by decide +kernel
theorem dX6_readLine_4 : decode cX6_readLine 4 = .ok (.tableswitch 82 5 10 #[40, 47, 54, 61, 68, 75], 40) := by decide +kernel
theorem dX6_readLine_44 : decode cX6_readLine 44 = .ok (.aload_n 0, 1) := by decide +kernel
theorem dX6_readLine_45 : decode cX6_readLine 45 = .ok (.invokevirtual 70, 3) := by decide +kernel
theorem dX6_readLine_48 : decode cX6_readLine 48 = .ok (.goto 43, 3) := by decide +kernel
theorem dX6_readLine_51 : decode cX6_readLine 51 = .ok (.aload_n 0, 1) := by decide +kernel
theorem dX6_readLine_52 : decode cX6_readLine 52 = .ok (.invokevirtual 73, 3) := by decide +kernel
theorem dX6_readLine_55 : decode cX6_readLine 55 = .ok (.goto 36, 3) := by decide +kernel
theorem dX6_readLine_58 : decode cX6_readLine 58 = .ok (.aload_n 0, 1) := by decide +kernel
theorem dX6_readLine_59 : decode cX6_readLine 59 = .ok (.invokevirtual 76, 3) := by decide +kernel
theorem dX6_readLine_62 : decode cX6_readLine 62 = .ok (.goto 29, 3) := by decide +kernel
theorem dX6_readLine_65 : decode cX6_readLine 65 = .ok (.aload_n 0, 1) := by decide +kernel
theorem dX6_readLine_66 : decode cX6_readLine 66 = .ok (.invokevirtual 79, 3) := by decide +kernel
theorem dX6_readLine_69 : decode cX6_readLine 69 = .ok (.goto 22, 3) := by decide +kernel
theorem dX6_readLine_72 : decode cX6_readLine 72 = .ok (.aload_n 0, 1) := by decide +kernel
theorem dX6_readLine_73 : decode cX6_readLine 73 = .ok (.invokevirtual 82, 3) := by decide +kernel
theorem dX6_readLine_76 : decode cX6_readLine 76 = .ok (.goto 15, 3) := by decide +kernel
theorem dX6_readLine_79 : decode cX6_readLine 79 = .ok (.aload_n 0, 1) := by decide +kernel
theorem dX6_readLine_80 : decode cX6_readLine 80 = .ok (.invokevirtual 85, 3) := by decide +kernel
theorem dX6_readLine_83 : decode cX6_readLine 83 = .ok (.goto 8, 3) := by decide +kernel
theorem dX6_readLine_86 : decode cX6_readLine 86 = .ok (.aload_n 0, 1) := by decide +kernel
theorem dX6_readLine_87 : decode cX6_readLine 87 = .ok (.iconst 1, 1) := by decide +kernel
theorem dX6_readLine_88 : decode cX6_readLine 88 = .ok (.invokevirtual 88, 3) := by decide +kernel
theorem dX6_readLine_91 : decode cX6_readLine 91 = .ok (.aload_n 0, 1) := by decide +kernel
theorem dX6_readLine_92 : decode cX6_readLine 92 = .ok (.invokevirtual 92, 3) := by decide +kernel
theorem dX6_readLine_95 : decode cX6_readLine 95 = .ok (.return_, 1) := by decide +kernel
theorem dX6_readMode_0 : decode cX6_readMode 0 = .ok (.aload_n 0, 1) := by decide +kernel
theorem dX6_readMode_1 : decode cX6_readMode 1 = .ok (.getfield 51, 3) := by decide +kernel
theorem dX6_readMode_4 : decode cX6_readMode 4 = .ok (.ifCond .eq 8, 3) := by decide +kernel
theorem dX6_readMode_7 : decode cX6_readMode 7 = .ok (.aload_n 0, 1) := by decide +kernel
theorem dX6_readMode_8 : decode cX6_readMode 8 = .ok (.iconst 1, 1) := by decide +kernel
theorem dX6_readMode_9 : decode cX6_readMode 9 = .ok (.invokevirtual 88, 3) := by decide +kernel
theorem dX6_readMode_12 : decode cX6_readMode 12 = .ok (.aload_n 0, 1) := by decide +kernel
theorem dX6_readMode_13 : decode cX6_readMode 13 = .ok (.iconst 1, 1) := by decide +kernel
theorem dX6_readMode_14 : decode cX6_readMode 14 = .ok (.putfield 51, 3) := by decide +kernel
theorem dX6_readMode_17 : decode cX6_readMode 17 = .ok (.aload_n 0, 1) := by decide +kernel
theorem dX6_readMode_18 : decode cX6_readMode 18 = .ok (.invokevirtual 61, 3) := by decide +kernel
theorem dX6_readMode_21 : decode cX6_readMode 21 = .ok (.aload_n 0, 1) := by decide +kernel
theorem dX6_readMode_22 : decode cX6_readMode 22 = .ok (.iconst 0, 1) := by decide +kernel
theorem dX6_readMode_23 : decode cX6_readMode 23 = .ok (.iconst 3, 1) := by decide +kernel
theorem dX6_readMode_24 : decode cX6_readMode 24 = .ok (.invokevirtual 126, 3) := by decide +kernel
theorem dX6_readMode_27 : decode cX6_readMode 27 = .ok (.istore_n 1, 1) := by decide +kernel
theorem dX6_readMode_28 : decode cX6_readMode 28 = .ok (.aload_n 0, 1) := by decide +kernel
theorem dX6_readMode_29 : decode cX6_readMode 29 = .ok (.getfield 55, 3) := by decide +kernel
theorem dX6_readMode_32 : decode cX6_readMode 32 = .ok (.ifCond .ne 11, 3) := by decide +kernel
theorem dX6_readMode_35 : decode cX6_readMode 35 = .ok (.aload_n 0, 1) := by decide +kernel
theorem dX6_readMode_36 : decode cX6_readMode 36 = .ok (.getfield 25, 3) := by decide +kernel
theorem dX6_readMode_39 : decode cX6_readMode 39 = .ok (.iload_n 1, 1) := by decide +kernel
theorem dX6_readMode_40 : decode cX6_readMode 40 = .ok (.putfield 148, 3) := by decide +kernel
theorem dX6_readMode_43 : decode cX6_readMode 43 = .ok (.aload_n 0, 1) := by decide +kernel
theorem dX6_readMode_44 : decode cX6_readMode 44 = .ok (.invokevirtual 61, 3) := by decide +kernel
theorem dX6_readMode_47 : decode cX6_readMode 47 = .ok (.return_, 1) := by decide +kernel
theorem dX6_readParty_0 : decode cX6_readParty 0 = .ok (.aload_n 0, 1) := by decide +kernel
theorem dX6_readParty_1 : decode cX6_readParty 1 = .ok (.getfield 18, 3) := by decide +kernel
theorem dX6_readParty_4 : decode cX6_readParty 4 = .ok (.getfield 95, 3) := by decide +kernel
theorem dX6_readParty_7 : decode cX6_readParty 7 = .ok (.bipush 8, 2) := by decide +kernel
theorem dX6_readParty_9 : decode cX6_readParty 9 = .ok (.if_icmp .lt 8, 3) := by decide +kernel
theorem dX6_readParty_12 : decode cX6_readParty 12 = .ok (.aload_n 0, 1) := by decide +kernel
theorem dX6_readParty_13 : decode cX6_readParty 13 = .ok (.iconst 4, 1) := by decide +kernel
theorem dX6_readParty_14 : decode cX6_readParty 14 = .ok (.invokevirtual 88, 3) := by decide +kernel
theorem dX6_readParty_17 : decode cX6_readParty 17 = .ok (.aload_n 0, 1) := by decide +kernel
theorem dX6_readParty_18 : decode cX6_readParty 18 = .ok (.invokevirtual 61, 3) := by decide +kernel
theorem dX6_readParty_21 : decode cX6_readParty 21 = .ok (.aload_n 0, 1) := by decide +kernel
theorem dX6_readParty_22 : decode cX6_readParty 22 = .ok (.invokevirtual 98, 3) := by decide +kernel
theorem dX6_readParty_25 : decode cX6_readParty 25 = .ok (.aload_n 0, 1) := by decide +kernel
theorem dX6_readParty_26 : decode cX6_readParty 26 = .ok (.getfield 55, 3) := by decide +kernel
theorem dX6_readParty_29 : decode cX6_readParty 29 = .ok (.ifCond .ne 27, 3) := by decide +kernel
theorem dX6_readParty_32 : decode cX6_readParty 32 = .ok (.aload_n 0, 1) := by decide +kernel
theorem dX6_readParty_33 : decode cX6_readParty 33 = .ok (.getfield 18, 3) := by decide +kernel
theorem dX6_readParty_36 : decode cX6_readParty 36 = .ok (.aload_n 0, 1) := by decide +kernel
theorem dX6_readParty_37 : decode cX6_readParty 37 = .ok (.getfield 35, 3) := by decide +kernel
theorem dX6_readParty_40 : decode cX6_readParty 40 = .ok (.aload_n 0, 1) := by decide +kernel
theorem dX6_readParty_41 : decode cX6_readParty 41 = .ok (.getfield 101, 3) := by decide +kernel
theorem dX6_readParty_44 : decode cX6_readParty 44 = .ok (.aload_n 0, 1) := by decide +kernel
theorem dX6_readParty_45 : decode cX6_readParty 45 = .ok (.getfield 58, 3) := by decide +kernel
theorem dX6_readParty_48 : decode cX6_readParty 48 = .ok (.aload_n 0, 1) := by decide +kernel
theorem dX6_readParty_49 : decode cX6_readParty 49 = .ok (.getfield 101, 3) := by decide +kernel
theorem dX6_readParty_52 : decode cX6_readParty 52 = .ok (.isub, 1) := by decide +kernel
theorem dX6_readParty_53 : decode cX6_readParty 53 = .ok (.invokevirtual 104, 3) := by decide +kernel
theorem dX6_readParty_56 : decode cX6_readParty 56 = .ok (.aload_n 0, 1) := by decide +kernel
theorem dX6_readParty_57 : decode cX6_readParty 57 = .ok (.invokevirtual 61, 3) := by decide +kernel
theorem dX6_readParty_60 : decode cX6_readParty 60 = .ok (.return_, 1) := by decide +kernel
theorem dX6_readSemicolon_0 : decode cX6_readSemicolon 0 = .ok (.aload_n 0, 1) := by decide +kernel
theorem dX6_readSemicolon_1 : decode cX6_readSemicolon 1 = .ok (.getfield 64, 3) := by decide +kernel
theorem dX6_readSemicolon_4 : decode cX6_readSemicolon 4 = .ok (.iconst 2, 1) := by decide +kernel
theorem dX6_readSemicolon_5 : decode cX6_readSemicolon 5 = .ok (.if_icmp .eq 8, 3) := by decide +kernel
theorem dX6_readSemicolon_8 : decode cX6_readSemicolon 8 = .ok (.aload_n 0, 1) := by decide +kernel
theorem dX6_readSemicolon_9 : decode cX6_readSemicolon 9 = .ok (.iconst 1, 1) := by decide +kernel
theorem dX6_readSemicolon_10 : decode cX6_readSemicolon 10 = .ok (.invokevirtual 88, 3) := by decide +kernel
theorem dX6_readSemicolon_13 : decode cX6_readSemicolon 13 = .ok (.aload_n 0, 1) := by decide +kernel
theorem dX6_readSemicolon_14 : decode cX6_readSemicolon 14 = .ok (.invokevirtual 61, 3) := by decide +kernel
theorem dX6_readSemicolon_17 : decode cX6_readSemicolon 17 = .ok (.return_, 1) := by decide +kernel
theorem dX6_readTrade_0 : decode cX6_readTrade 0 = .ok (.aload_n 0, 1) := by decide +kernel
theorem dX6_readTrade_1 : decode cX6_readTrade 1 = .ok (.getfield 25, 3) := by decide +kernel
theorem dX6_readTrade_4 : decode cX6_readTrade 4 = .ok (.getfield 114, 3) := by decide +kernel
theorem dX6_readTrade_7 : decode cX6_readTrade 7 = .ok (.bipush 40, 2) := by decide +kernel
theorem dX6_readTrade_9 : decode cX6_readTrade 9 = .ok (.if_icmp .lt 8, 3) := by decide +kernel
theorem dX6_readTrade_12 : decode cX6_readTrade 12 = .ok (.aload_n 0, 1) := by decide +kernel
theorem dX6_readTrade_13 : decode cX6_readTrade 13 = .ok (.iconst 4, 1) := by decide +kernel
theorem dX6_readTrade_14 : decode cX6_readTrade 14 = .ok (.invokevirtual 88, 3) := by decide +kernel
theorem dX6_readTrade_17 : decode cX6_readTrade 17 = .ok (.aload_n 0, 1) := by decide +kernel
theorem dX6_readTrade_18 : decode cX6_readTrade 18 = .ok (.invokevirtual 61, 3) := by decide +kernel
theorem dX6_readTrade_21 : decode cX6_readTrade 21 = .ok (.aload_n 0, 1) := by decide +kernel
theorem dX6_readTrade_22 : decode cX6_readTrade 22 = .ok (.invokevirtual 117, 3) := by decide +kernel
theorem dX6_readTrade_25 : decode cX6_readTrade 25 = .ok (.istore_n 1, 1) := by decide +kernel
theorem dX6_readTrade_26 : decode cX6_readTrade 26 = .ok (.aload_n 0, 1) := by decide +kernel
theorem dX6_readTrade_27 : decode cX6_readTrade 27 = .ok (.invokevirtual 61, 3) := by decide +kernel
theorem dX6_readTrade_30 : decode cX6_readTrade 30 = .ok (.aload_n 0, 1) := by decide +kernel
theorem dX6_readTrade_31 : decode cX6_readTrade 31 = .ok (.invokevirtual 117, 3) := by decide +kernel
theorem dX6_readTrade_34 : decode cX6_readTrade 34 = .ok (.istore_n 2, 1) := by decide +kernel
theorem dX6_readTrade_35 : decode cX6_readTrade 35 = .ok (.aload_n 0, 1) := by decide +kernel
theorem dX6_readTrade_36 : decode cX6_readTrade 36 = .ok (.iload_n 1, 1) := by decide +kernel
theorem dX6_readTrade_37 : decode cX6_readTrade 37 = .ok (.iload_n 2, 1) := by decide +kernel
theorem dX6_readTrade_38 : decode cX6_readTrade 38 = .ok (.invokevirtual 121, 3) := by decide +kernel
theorem dX6_readTrade_41 : decode cX6_readTrade 41 = .ok (.aload_n 0, 1) := by decide +kernel
theorem dX6_readTrade_42 : decode cX6_readTrade 42 = .ok (.invokevirtual 61, 3) := by decide +kernel
theorem dX6_readTrade_45 : decode cX6_readTrade 45 = .ok (.aload_n 0, 1) := by decide +kernel
theorem dX6_readTrade_46 : decode cX6_readTrade 46 = .ok (.iconst 1, 1) := by decide +kernel
theorem dX6_readTrade_47 : decode cX6_readTrade 47 = .ok (.ldc 125, 2) := by decide +kernel
theorem dX6_readTrade_49 : decode cX6_readTrade 49 = .ok (.invokevirtual 126, 3) := by decide +kernel
theorem dX6_readTrade_52 : decode cX6_readTrade 52 = .ok (.istore_n 3, 1) := by decide +kernel
theorem dX6_readTrade_53 : decode cX6_readTrade 53 = .ok (.aload_n 0, 1) := by decide +kernel
theorem dX6_readTrade_54 : decode cX6_readTrade 54 = .ok (.invokevirtual 61, 3) := by decide +kernel
theorem dX6_readTrade_57 : decode cX6_readTrade 57 = .ok (.aload_n 0, 1) := by decide +kernel
theorem dX6_readTrade_58 : decode cX6_readTrade 58 = .ok (.invokevirtual 129, 3) := by decide +kernel
theorem dX6_readTrade_61 : decode cX6_readTrade 61 = .ok (.istore 4, 2) := by decide +kernel
theorem dX6_readTrade_63 : decode cX6_readTrade 63 = .ok (.aload_n 0, 1) := by decide +kernel
theorem dX6_readTrade_64 : decode cX6_readTrade 64 = .ok (.invokevirtual 61, 3) := by decide +kernel
theorem dX6_readTrade_67 : decode cX6_readTrade 67 = .ok (.aload_n 0, 1) := by decide +kernel
theorem dX6_readTrade_68 : decode cX6_readTrade 68 = .ok (.getfield 55, 3) := by decide +kernel
theorem dX6_readTrade_71 : decode cX6_readTrade 71 = .ok (.ifCond .ne 16, 3) := by decide +kernel
theorem dX6_readTrade_74 : decode cX6_readTrade 74 = .ok (.aload_n 0, 1) := by decide +kernel
theorem dX6_readTrade_75 : decode cX6_readTrade 75 = .ok (.getfield 25, 3) := by decide +kernel
theorem dX6_readTrade_78 : decode cX6_readTrade 78 = .ok (.iload_n 1, 1) := by decide +kernel
theorem dX6_readTrade_79 : decode cX6_readTrade 79 = .ok (.iload_n 2, 1) := by decide +kernel
theorem dX6_readTrade_80 : decode cX6_readTrade 80 = .ok (.iload_n 3, 1) := by decide +kernel
theorem dX6_readTrade_81 : decode cX6_readTrade 81 = .ok (.i2l, 1) := by decide +kernel
theorem dX6_readTrade_82 : decode cX6_readTrade 82 = .ok (.iload 4, 2) := by decide +kernel
theorem dX6_readTrade_84 : decode cX6_readTrade 84 = .ok (.invokevirtual 132, 3) := by decide +kernel
theorem dX6_readTrade_87 : decode cX6_readTrade 87 = .ok (.return_, 1) := by decide +kernel
theorem dX6_wordToken_0 : decode cX6_wordToken 0 = .ok (.aload_n 0, 1) := by decide +kernel
theorem dX6_wordToken_1 : decode cX6_wordToken 1 = .ok (.ldc 180, 2) := by decide +kernel
theorem dX6_wordToken_3 : decode cX6_wordToken 3 = .ok (.invokevirtual 182, 3) := by decide +kernel
theorem dX6_wordToken_6 : decode cX6_wordToken 6 = .ok (.ifCond .eq 5, 3) := by decide +kernel
theorem dX6_wordToken_9 : decode cX6_wordToken 9 = .ok (.iconst 5, 1) := by decide +kernel
theorem dX6_wordToken_10 : decode cX6_wordToken 10 = .ok (.ireturn, 1) := by decide +kernel
theorem dX6_wordToken_11 : decode cX6_wordToken 11 = .ok (.aload_n 0, 1) := by decide +kernel
theorem dX6_wordToken_12 : decode cX6_wordToken 12 = .ok (.ldc 186, 2) := by decide +kernel
theorem dX6_wordToken_14 : decode cX6_wordToken 14 = .ok (.invokevirtual 182, 3) := by decide +kernel
theorem dX6_wordToken_17 : decode cX6_wordToken 17 = .ok (.ifCond .eq 6, 3) := by decide +kernel
theorem dX6_wordToken_20 : decode cX6_wordToken 20 = .ok (.bipush 6, 2) := by decide +kernel
theorem dX6_wordToken_22 : decode cX6_wordToken 22 = .ok (.ireturn, 1) := by decide +kernel
theorem dX6_wordToken_23 : decode cX6_wordToken 23 = .ok (.aload_n 0, 1) := by decide +kernel
theorem dX6_wordToken_24 : decode cX6_wordToken 24 = .ok (.ldc 188, 2) := by decide +kernel
theorem dX6_wordToken_26 : decode cX6_wordToken 26 = .ok (.invokevirtual 182, 3) := by decide +kernel
theorem dX6_wordToken_29 : decode cX6_wordToken 29 = .ok (.ifCond .eq 6, 3) := by decide +kernel
theorem dX6_wordToken_32 : decode cX6_wordToken 32 = .ok (.bipush 7, 2) := by decide +kernel
theorem dX6_wordToken_34 : decode cX6_wordToken 34 = .ok (.ireturn, 1) := by decide +kernel
theorem dX6_wordToken_35 : decode cX6_wordToken 35 = .ok (.aload_n 0, 1) := by decide +kernel
theorem dX6_wordToken_36 : decode cX6_wordToken 36 = .ok (.ldc 190, 2) := by decide +kernel
theorem dX6_wordToken_38 : decode cX6_wordToken 38 = .ok (.invokevirtual 182, 3) := by decide +kernel
theorem dX6_wordToken_41 : decode cX6_wordToken 41 = .ok (.ifCond .eq 6, 3) := by decide +kernel
theorem dX6_wordToken_44 : decode cX6_wordToken 44 = .ok (.bipush 8, 2) := by decide +kernel
theorem dX6_wordToken_46 : decode cX6_wordToken 46 = .ok (.ireturn, 1) := by decide +kernel
theorem dX6_wordToken_47 : decode cX6_wordToken 47 = .ok (.aload_n 0, 1) := by decide +kernel
theorem dX6_wordToken_48 : decode cX6_wordToken 48 = .ok (.ldc 192, 2) := by decide +kernel
theorem dX6_wordToken_50 : decode cX6_wordToken 50 = .ok (.invokevirtual 182, 3) := by decide +kernel
theorem dX6_wordToken_53 : decode cX6_wordToken 53 = .ok (.ifCond .eq 6, 3) := by decide +kernel
theorem dX6_wordToken_56 : decode cX6_wordToken 56 = .ok (.bipush 9, 2) := by decide +kernel
theorem dX6_wordToken_58 : decode cX6_wordToken 58 = .ok (.ireturn, 1) := by decide +kernel
theorem dX6_wordToken_59 : decode cX6_wordToken 59 = .ok (.aload_n 0, 1) := by decide +kernel
theorem dX6_wordToken_60 : decode cX6_wordToken 60 = .ok (.ldc 194, 2) := by decide +kernel
theorem dX6_wordToken_62 : decode cX6_wordToken 62 = .ok (.invokevirtual 182, 3) := by decide +kernel
theorem dX6_wordToken_65 : decode cX6_wordToken 65 = .ok (.ifCond .eq 6, 3) := by decide +kernel
theorem dX6_wordToken_68 : decode cX6_wordToken 68 = .ok (.bipush 10, 2) := by decide +kernel
theorem dX6_wordToken_70 : decode cX6_wordToken 70 = .ok (.ireturn, 1) := by decide +kernel
theorem dX6_wordToken_71 : decode cX6_wordToken 71 = .ok (.aload_n 0, 1) := by decide +kernel
theorem dX6_wordToken_72 : decode cX6_wordToken 72 = .ok (.getfield 58, 3) := by decide +kernel
theorem dX6_wordToken_75 : decode cX6_wordToken 75 = .ok (.aload_n 0, 1) := by decide +kernel
theorem dX6_wordToken_76 : decode cX6_wordToken 76 = .ok (.getfield 101, 3) := by decide +kernel
theorem dX6_wordToken_79 : decode cX6_wordToken 79 = .ok (.isub, 1) := by decide +kernel
theorem dX6_wordToken_80 : decode cX6_wordToken 80 = .ok (.bipush 8, 2) := by decide +kernel
theorem dX6_wordToken_82 : decode cX6_wordToken 82 = .ok (.if_icmp .gt 7, 3) := by decide +kernel
theorem dX6_wordToken_85 : decode cX6_wordToken 85 = .ok (.iconst 4, 1) := by decide +kernel
theorem dX6_wordToken_86 : decode cX6_wordToken 86 = .ok (.goto 4, 3) := by decide +kernel
theorem dX6_wordToken_89 : decode cX6_wordToken 89 = .ok (.iconst 1, 1) := by decide +kernel
theorem dX6_wordToken_90 : decode cX6_wordToken 90 = .ok (.ireturn, 1) := by decide +kernel
def RK (S : Nat → va_E) (o : Nat) (f : Int32) (rn rb rt : Nat) : Prop := ∃ (pl : Int32) (en : Nat) (mt tk : Int32) (ta te : Nat), S o = .inr (6, [.int f, .int pl, .ref rn, .ref rb, .ref rt, .int (nI en), .int mt, .int tk, .int (nI ta), .int (nI te)]) ∧ en ≤ 900 ∧ te ≤ 900 ∧ ta ≤ 900 ∧ ta ≤ te
def RW (S : Nat → va_E) (o : Nat) (f : Int32) (rn rb rt : Nat) : Prop := ∃ (pl : Int32) (en : Nat) (mt tk : Int32) (ta te : Nat), S o = .inr (6, [.int f, .int pl, .ref rn, .ref rb, .ref rt, .int (nI en), .int mt, .int tk, .int (nI ta), .int (nI te)]) ∧ en ≤ 900 ∧ te ≤ 900 ∧ ta ≤ 900
theorem RKr {cy : Nat → ClassId} {L : List Nat} {kap : Nat → Nat} {pr : Pr} {S : Nat → va_E} {o rn rb rt : Nat} {f : Int32} {k9 : Int32} {vs : List Value} (h : Ty cy L kap pr S) (ho : TK L kap o 6) (e : S o = .inr (6, .int f :: .int k9 :: .ref rn :: .ref rb :: .ref rt :: vs)) : TK L kap rn 3 ∧ TK L kap rb 0 ∧ TK L kap rt 27 := by
  obtain ⟨y0, y1, y2, y3, y4, y5, y6, y7, y8, y9, hS, h2, h3, h4, -⟩ := h.k6 ho
  have e := hS.symm.trans e
  simp only [Sum.inr.injEq, Prod.mk.injEq, List.cons.injEq, Value.ref.injEq, true_and] at e
  obtain ⟨-, -, rfl, rfl, rfl, -⟩ := e
  exact ⟨h2, h3, h4⟩
theorem RKk {cy : Nat → ClassId} {L : List Nat} {kap : Nat → Nat} {pr : Pr} {S : Nat → va_E} {o rn rb rt : Nat} {f : Int32} (h : Ty cy L kap pr S) (ho : TK L kap o 6) (hR : RK S o f rn rb rt) : ∃ (pl : Int32) (en : Nat) (mt tk : Int32) (ta te : Nat), S o = .inr (6, [.int f, .int pl, .ref rn, .ref rb, .ref rt, .int (nI en), .int mt, .int tk, .int (nI ta), .int (nI te)]) ∧ TK L kap rn 3 ∧ TK L kap rb 0 ∧ TK L kap rt 27 ∧ en ≤ 900 ∧ te ≤ 900 ∧ ta ≤ 900 ∧ ta ≤ te := by
  obtain ⟨pl, en, mt, tk, ta, te, hS, h1, h2, h3, h4⟩ := hR
  obtain ⟨t1, t2, t3⟩ := RKr h ho hS
  exact ⟨pl, en, mt, tk, ta, te, hS, t1, t2, t3, h1, h2, h3, h4⟩
theorem RWk {cy : Nat → ClassId} {L : List Nat} {kap : Nat → Nat} {pr : Pr} {S : Nat → va_E} {o rn rb rt : Nat} {f : Int32} (h : Ty cy L kap pr S) (ho : TK L kap o 6) (hR : RW S o f rn rb rt) : ∃ (pl : Int32) (en : Nat) (mt tk : Int32) (ta te : Nat), S o = .inr (6, [.int f, .int pl, .ref rn, .ref rb, .ref rt, .int (nI en), .int mt, .int tk, .int (nI ta), .int (nI te)]) ∧ TK L kap rn 3 ∧ TK L kap rb 0 ∧ TK L kap rt 27 ∧ en ≤ 900 ∧ te ≤ 900 ∧ ta ≤ 900 := by
  obtain ⟨pl, en, mt, tk, ta, te, hS, h1, h2, h3⟩ := hR
  obtain ⟨t1, t2, t3⟩ := RKr h ho hS
  exact ⟨pl, en, mt, tk, ta, te, hS, t1, t2, t3, h1, h2, h3⟩
theorem min900 {n : Nat} (h : n ≤ 900) : (if (900 : Int32) < nI n then 900 else nI n) = nI n := by
  rw [if_neg]
  intro z
  have := (nI_ltI (a := 900) (by omega) (by omega)).mp z
  omega
theorem kbel {r : Int32} {n : Nat} (h1 : ¬ r < 0) (h2 : r ≤ pd n) (hn : n ≤ 40) : ∃ k, k < n ∧ r = nI k := by
  obtain ⟨k, hk, rfl⟩ := nI_of h1
  refine ⟨k, ?_, rfl⟩
  rw [Int32.le_iff_toInt_le, nI_toInt hk, pd_toInt (by omega)] at h2
  omega
theorem hereb {r : Int32} {q m : Nat} (h : r = -1 ∨ ∃ k, k < q ∧ r = nI k) (hq : q ≤ m) : r = -1 ∨ ∃ k, k < m ∧ r = nI k := h.elim Or.inl (fun ⟨k, hk, e⟩ => Or.inr ⟨k, by omega, e⟩)
theorem swout_5_10 {x : Int32} (h5 : ¬ x = 5) (h6 : ¬ x = 6) (h7 : ¬ x = 7) (h8 : ¬ x = 8) (h9 : ¬ x = 9) (h10 : ¬ x = 10) : x.toInt < 5 ∨ 10 < x.toInt := by
  have g5 := lv_neT (a := 5) h5 (by decide)
  have g6 := lv_neT (a := 6) h6 (by decide)
  have g7 := lv_neT (a := 7) h7 (by decide)
  have g8 := lv_neT (a := 8) h8 (by decide)
  have g9 := lv_neT (a := 9) h9 (by decide)
  have g10 := lv_neT (a := 10) h10 (by decide)
  omega
set_option maxHeartbeats 4000000 in
set_option maxRecDepth 100000 in
theorem r_isLetter (l : Launch) (dC : Nat → ClassId) (dI : Nat → Nat → Nat) (sz : Nat) (v : Int32) : Met l yX6_isLetter (wT yX6_isLetter cX6_isLetter 1 (some .boolean)) ({ frames := 0, cells := 0, slots := 0, locals := 0 }) (pcW dC dI [.int v] sz [] []) (vp_Si (fun r => r = 0 ∨ r = 1)) 0 0 (fun _ => False) := by
  refine Met.ofW (cc := cX6_isLetter) (maxL := 1) (ret := (some .boolean)) (by decide) rfl ?_
  intro p e s m args below meth c s₁ B hml hv
  obtain ⟨rfl, hsz, hP, hK, hD0⟩ := hv
  have hx := B.exec
  have hb := B.bytes
  have hr := B.returns
  have hT : ∀ wd ∈ TB, wd.before [.int v].toArray s = true := fun wd h => atoms_spec (ws := wT yX6_isLetter cX6_isLetter 1 (some .boolean)) B.pre wd (List.mem_cons_of_mem _ h)
  have hown : s.vm.findClass RX6 = some m.cls := findClass_of_methodNamed B.named
  have hlocks := B.notSynchronized
  subst hsz
  have hl := lv_entry ([.int v]) (n := 1) (Nat.le_of_ble_eq_true rfl)
  rw [lg_entry_eq]
  generalize (lg_sl ([.int v]) ++ List.replicate (1 - (lg_sl ([.int v])).length) Slot.unset).toArray = ls at hl ⊢
  have hl : lv_has ls 1 [(0, .int v)] := hl
  refine lv_iload_n hx hb dX6_isLetter_0 rfl (lv_at hl 0 rfl) ?_
  refine lv_bipush (v := 97) hx hb dX6_isLetter_1 (by decide) ?_
  refine lv_icmp_lt (tgt := 16) hx hb dX6_isLetter_3 (by decide) (fun c_3 => ?_) (fun c_3 => ?_)
  · refine lv_iconst (v := 0) hx hb dX6_isLetter_16 (by decide) ?_
    exact W.zret (ty := .boolean) (v := 0) hx hb hr (by decide) (fun t ht h9 => ⟨0, rfl, Or.inl rfl, ht⟩) (fun q h => by cases h) dX6_isLetter_17
  · refine lv_iload_n hx hb dX6_isLetter_6 rfl (lv_at hl 0 rfl) ?_
    refine lv_bipush (v := 122) hx hb dX6_isLetter_7 (by decide) ?_
    refine lv_icmp_gt (tgt := 16) hx hb dX6_isLetter_9 (by decide) (fun c_9 => ?_) (fun c_9 => ?_)
    · refine lv_iconst (v := 0) hx hb dX6_isLetter_16 (by decide) ?_
      exact W.zret (ty := .boolean) (v := 0) hx hb hr (by decide) (fun t ht h9 => ⟨0, rfl, Or.inl rfl, ht⟩) (fun q h => by cases h) dX6_isLetter_17
    · refine lv_iconst (v := 1) hx hb dX6_isLetter_12 (by decide) ?_
      refine lv_goto (tgt := 17) hx hb dX6_isLetter_13 (by decide) ?_
      exact W.zret (ty := .boolean) (v := 1) hx hb hr (by decide) (fun t ht h9 => ⟨1, rfl, Or.inr rfl, ht⟩) (fun q h => by cases h) dX6_isLetter_17

set_option maxHeartbeats 4000000 in
set_option maxRecDepth 100000 in
theorem r_isDigit (l : Launch) (dC : Nat → ClassId) (dI : Nat → Nat → Nat) (sz : Nat) (v : Int32) : Met l yX6_isDigit (wT yX6_isDigit cX6_isDigit 1 (some .boolean)) ({ frames := 0, cells := 0, slots := 0, locals := 0 }) (pcW dC dI [.int v] sz [] []) (vp_Si (fun r => r = 0 ∨ r = 1)) 0 0 (fun _ => False) := by
  refine Met.ofW (cc := cX6_isDigit) (maxL := 1) (ret := (some .boolean)) (by decide) rfl ?_
  intro p e s m args below meth c s₁ B hml hv
  obtain ⟨rfl, hsz, hP, hK, hD0⟩ := hv
  have hx := B.exec
  have hb := B.bytes
  have hr := B.returns
  have hT : ∀ wd ∈ TB, wd.before [.int v].toArray s = true := fun wd h => atoms_spec (ws := wT yX6_isDigit cX6_isDigit 1 (some .boolean)) B.pre wd (List.mem_cons_of_mem _ h)
  have hown : s.vm.findClass RX6 = some m.cls := findClass_of_methodNamed B.named
  have hlocks := B.notSynchronized
  subst hsz
  have hl := lv_entry ([.int v]) (n := 1) (Nat.le_of_ble_eq_true rfl)
  rw [lg_entry_eq]
  generalize (lg_sl ([.int v]) ++ List.replicate (1 - (lg_sl ([.int v])).length) Slot.unset).toArray = ls at hl ⊢
  have hl : lv_has ls 1 [(0, .int v)] := hl
  refine lv_iload_n hx hb dX6_isDigit_0 rfl (lv_at hl 0 rfl) ?_
  refine lv_bipush (v := 48) hx hb dX6_isDigit_1 (by decide) ?_
  refine lv_icmp_lt (tgt := 16) hx hb dX6_isDigit_3 (by decide) (fun c_3 => ?_) (fun c_3 => ?_)
  · refine lv_iconst (v := 0) hx hb dX6_isDigit_16 (by decide) ?_
    exact W.zret (ty := .boolean) (v := 0) hx hb hr (by decide) (fun t ht h9 => ⟨0, rfl, Or.inl rfl, ht⟩) (fun q h => by cases h) dX6_isDigit_17
  · refine lv_iload_n hx hb dX6_isDigit_6 rfl (lv_at hl 0 rfl) ?_
    refine lv_bipush (v := 57) hx hb dX6_isDigit_7 (by decide) ?_
    refine lv_icmp_gt (tgt := 16) hx hb dX6_isDigit_9 (by decide) (fun c_9 => ?_) (fun c_9 => ?_)
    · refine lv_iconst (v := 0) hx hb dX6_isDigit_16 (by decide) ?_
      exact W.zret (ty := .boolean) (v := 0) hx hb hr (by decide) (fun t ht h9 => ⟨0, rfl, Or.inl rfl, ht⟩) (fun q h => by cases h) dX6_isDigit_17
    · refine lv_iconst (v := 1) hx hb dX6_isDigit_12 (by decide) ?_
      refine lv_goto (tgt := 17) hx hb dX6_isDigit_13 (by decide) ?_
      exact W.zret (ty := .boolean) (v := 1) hx hb hr (by decide) (fun t ht h9 => ⟨1, rfl, Or.inr rfl, ht⟩) (fun q h => by cases h) dX6_isDigit_17

set_option maxHeartbeats 4000000 in
set_option maxRecDepth 100000 in
theorem r_fail (l : Launch) (dC : Nat → ClassId) (dI : Nat → Nat → Nat) (cy : Nat → ClassId) (L : List Nat) (kap : Nat → Nat) (pr : Pr) (S : Nat → va_E) (sz : Nat) (o : Nat) (cd : Int32) (hTy : Ty cy L kap pr S) (hT_o : TK L kap o 6) (f : Int32) (rn : Nat) (rb : Nat) (rt : Nat) (hR : RK S o f rn rb rt) (hc : cd ≠ 0) : Met l yX6_fail (wT yX6_fail cX6_fail 2 none) ({ frames := 0, cells := 0, slots := 0, locals := 0 }) (pcN dC dI [.ref o, .int cd] sz (va_pl L S) (cyT cy) NLs []) (va_Qv (fun S' => Ty cy L kap pr S' ∧ Fr kap [6] S S' ∧ (∃ f', RK S' o f' rn rb rt ∧ f' ≠ 0)) (fun S' t => pB dC dI (AL L sz) (va_pl L S') (cyT cy) t) (AL L sz)) 0 0 (AL L sz) := by
  refine Met.ofW (cc := cX6_fail) (maxL := 2) (ret := none) (by decide) rfl ?_
  intro p e s m args below meth c s₁ B hml hv
  obtain ⟨rfl, hsz, hP, hK, hD0, hN, -⟩ := hv
  have hx := B.exec
  have hb := B.bytes
  have hr := B.returns
  have hT : ∀ wd ∈ TB, wd.before [.ref o, .int cd].toArray s = true := fun wd h => atoms_spec (ws := wT yX6_fail cX6_fail 2 none) B.pre wd (List.mem_cons_of_mem _ h)
  have hown : s.vm.findClass RX6 = some m.cls := findClass_of_methodNamed B.named
  have hlocks := B.notSynchronized
  subst hsz
  have hW : PW dC dI L (AL L s.heap.size) s.heap S s.heap [] := ⟨hP, pl_self hD0, va_S.rf⟩
  have hA0 : ∀ q, q ∈ L → AL L s.heap.size q := fun _ h => Or.inl h
  have hA : ∀ q, s.heap.size ≤ q → AL L s.heap.size q := fun _ h => Or.inr h
  have hFr : Fr kap [6] S S := Fr.rf
  have hl := lv_entry ([.ref o, .int cd]) (n := 2) (Nat.le_of_ble_eq_true rfl)
  rw [lg_entry_eq]
  generalize (lg_sl ([.ref o, .int cd]) ++ List.replicate (2 - (lg_sl ([.ref o, .int cd])).length) Slot.unset).toArray = ls at hl ⊢
  have hl : lv_has ls 2 [(0, .ref o), (1, .int cd)] := hl
  obtain ⟨pl1, en1, mt1, tk1, ta1, te1, hS_o, hT_rn, hT_rb, hT_rt, hen1, hte1, hta1, hab1⟩ := RKk hTy hT_o hR
  refine lv_aload_n hx hb dX6_fail_0 rfl (lv_at hl 0 rfl) ?_
  refine pl_get (ci := 6) (v := .int f) (C := RX6) (T := TX6) (N := 10) hx hb hT iX6 hown hK hW hT_o.1 hS_o rfl 0 (by decide) w139 rfl dX6_fail_1 ?_
  refine lv_if_ne (tgt := 20) hx hb dX6_fail_4 (by decide) (fun c_4 => ?_) (fun c_4 => ?_)
  · exact W.vret hx hb hr (fun t ht h9 => ⟨⟨S, rfl, ⟨hTy, hFr, ⟨_, ⟨_, en1, _, _, ta1, te1, hS_o, by omega, by omega, by omega, by omega⟩, c_4⟩⟩, by rw [ht]; exact hW.1, va_K.moved h9.alike hK, hW.2.1⟩, hW.2.2.F ht⟩) hW.2.2.2.2 dX6_fail_20
  · refine lv_aload_n hx hb dX6_fail_7 rfl (lv_at hl 0 rfl) ?_
    refine lv_iload_n hx hb dX6_fail_8 rfl (lv_at hl 1 rfl) ?_
    refine pl_put (ci := 6) (v := .int cd) (ty := .int) (C := RX6) (T := TX6) (N := 10) (fs' := [.int cd, .int pl1, .ref rn, .ref rb, .ref rt, .int (nI en1), .int mt1, .int tk1, .int (nI ta1), .int (nI te1)]) hx hb hT iX6 tyX6 tyX6_ok nmX6 hown hK hW hT_o.1 hS_o rfl 0 (by decide) w139 rfl (by decide +kernel) rfl rfl (Nat.le_of_ble_eq_true rfl) rfl dX6_fail_9 (fun H locs S_2 e1 hW => ?_)
    have hTy := hTy.u6 e1 hT_o ⟨cd, pl1, rn, rb, rt, en1, mt1, tk1, ta1, te1, rfl, hT_rn, hT_rb, hT_rt, (by omega), (by omega), (by omega)⟩
    have hFr := uf hFr e1 hT_o (by decide) (by decide)
    have hS_o := us e1
    refine lv_aload_n hx hb dX6_fail_12 rfl (lv_at hl 0 rfl) ?_
    refine lv_aload_n hx hb dX6_fail_13 rfl (lv_at hl 0 rfl) ?_
    refine pl_get (ci := 6) (v := .int (nI ta1)) (C := RX6) (T := TX6) (N := 10) hx hb hT iX6 hown hK hW hT_o.1 hS_o rfl 8 (by decide) w151 rfl dX6_fail_14 ?_
    refine pl_put (ci := 6) (v := .int (nI ta1)) (ty := .int) (C := RX6) (T := TX6) (N := 10) (fs' := [.int cd, .int (nI ta1), .ref rn, .ref rb, .ref rt, .int (nI en1), .int mt1, .int tk1, .int (nI ta1), .int (nI te1)]) hx hb hT iX6 tyX6 tyX6_ok nmX6 hown hK hW hT_o.1 hS_o rfl 1 (by decide) w141 rfl (by decide +kernel) rfl rfl (Nat.le_of_ble_eq_true rfl) rfl dX6_fail_17 (fun H locs S_3 e1 hW => ?_)
    have hTy := hTy.u6 e1 hT_o ⟨cd, nI ta1, rn, rb, rt, en1, mt1, tk1, ta1, te1, rfl, hT_rn, hT_rb, hT_rt, (by omega), (by omega), (by omega)⟩
    have hFr := uf hFr e1 hT_o (by decide) (by decide)
    have hS_o := us e1
    exact W.vret hx hb hr (fun t ht h9 => ⟨⟨S_3, rfl, ⟨hTy, hFr, ⟨_, ⟨_, en1, _, _, ta1, te1, hS_o, by omega, by omega, by omega, by omega⟩, hc⟩⟩, by rw [ht]; exact hW.1, va_K.moved h9.alike hK, hW.2.1⟩, hW.2.2.F ht⟩) hW.2.2.2.2 dX6_fail_20

set_option maxHeartbeats 4000000 in
set_option maxRecDepth 100000 in
theorem r_isWord (l : Launch) (dC : Nat → ClassId) (dI : Nat → Nat → Nat) (cy : Nat → ClassId) (L : List Nat) (kap : Nat → Nat) (pr : Pr) (ad : (Nat → Nat) × (Nat → Nat)) (S : Nat → va_E) (sz : Nat) (o : Nat) (li : Nat) (hTy : Ty cy L kap pr S) (hT_o : TK L kap o 6) (hb_li : li < 7) (f : Int32) (rn : Nat) (rb : Nat) (rt : Nat) (hR : RK S o f rn rb rt) : Met l yX6_isWord (wT yX6_isWord cX6_isWord 3 (some .boolean)) ({ frames := 4, cells := 0, slots := 0, locals := 85 }) (pcS dC dI [.ref o, .ref (ad.1 li)] sz L S (cyT cy) NLs ad) (vp_Si (fun r => r = 0 ∨ r = 1)) 0 0 (fun _ => False) := by
  refine Met.ofW (cc := cX6_isWord) (maxL := 3) (ret := (some .boolean)) (by decide) rfl ?_
  intro p e s m args below meth c s₁ B hml hv
  obtain ⟨rfl, hsz, hP, hK, hD0, hN, hSTR⟩ := hv
  have hx := B.exec
  have hb := B.bytes
  have hr := B.returns
  have hT : ∀ wd ∈ TB, wd.before [.ref o, .ref (ad.1 li)].toArray s = true := fun wd h => atoms_spec (ws := wT yX6_isWord cX6_isWord 3 (some .boolean)) B.pre wd (List.mem_cons_of_mem _ h)
  have hown : s.vm.findClass RX6 = some m.cls := findClass_of_methodNamed B.named
  have hlocks := B.notSynchronized
  subst hsz
  have hW : PW dC dI L (AL L s.heap.size) s.heap S s.heap [] := ⟨hP, pl_self hD0, va_S.rf⟩
  have hFr : Fr kap [] S S := Fr.rf
  have hl := lv_entry ([.ref o, .ref (ad.1 li)]) (n := 3) (Nat.le_of_ble_eq_true rfl)
  rw [lg_entry_eq]
  generalize (lg_sl ([.ref o, .ref (ad.1 li)]) ++ List.replicate (3 - (lg_sl ([.ref o, .ref (ad.1 li)])).length) Slot.unset).toArray = ls at hl ⊢
  have hl : lv_has ls 3 [(0, .ref o), (1, .ref (ad.1 li))] := hl
  obtain ⟨pl1, en1, mt1, tk1, ta1, te1, hS_o, hT_rn, hT_rb, hT_rt, hen1, hte1, hta1, hab1⟩ := RKk hTy hT_o hR
  have hle := sc_le li hb_li
  refine lv_aload_n hx hb dX6_isWord_0 rfl (lv_at hl 0 rfl) ?_
  refine pl_get (ci := 6) (v := .int (nI te1)) (C := RX6) (T := TX6) (N := 10) hx hb hT iX6 hown hK hW hT_o.1 hS_o rfl 9 (by decide) w152 rfl dX6_isWord_1 ?_
  refine lv_aload_n hx hb dX6_isWord_4 rfl (lv_at hl 0 rfl) ?_
  refine pl_get (ci := 6) (v := .int (nI ta1)) (C := RX6) (T := TX6) (N := 10) hx hb hT iX6 hown hK hW hT_o.1 hS_o rfl 8 (by decide) w151 rfl dX6_isWord_5 ?_
  refine lv_isub hx hb dX6_isWord_8 ?_
  refine lv_topi (fun z_2 ez_2 => ?_)
  obtain rfl : z_2 = nI (te1 - ta1) := ez_2.trans (pk_sub (a := te1) (b := ta1) (by omega))
  refine lv_aload_n hx hb dX6_isWord_9 rfl (lv_at hl 1 rfl) ?_
  refine vp_callSi (va_Run.run (va_runV (As := []) (rest := [.int (nI (te1 - ta1))]) ⟨hx, hb, hml, hown, hT⟩ (j_length l ad (AL L s.heap.size) s.heap.size li (by omega)) (cwV 0 hT (gV w436 w437 w438 w16 w439) rfl rfl rfl (by decide +kernel) ⟨(Nat.le_of_ble_eq_true rfl), (Nat.le_of_ble_eq_true rfl)⟩) ⟨pcT.blind, vk_recv hSTR.1 (i := li) (by omega) hW.2.2, pcT.pre hSTR hW.2.2⟩ rfl rfl hl.1 rfl (lv_room (Nat.le_of_ble_eq_true rfl)) dX6_isWord_10 ⟨(Nat.le_of_ble_eq_true rfl), (Nat.le_of_ble_eq_true rfl)⟩)) (fun r_3 hr_3 => ?_)
  obtain rfl : r_3 = nI (lenJS.getD li 0) := hr_3
  refine lv_icmp_eq (tgt := 18) hx hb dX6_isWord_13 (by decide) (fun c_13 => ?_) (fun c_13 => ?_)
  · have c_13 : (te1 - ta1) = (lenJS.getD li 0) := (nI_eq (a := te1 - ta1) (b := lenJS.getD li 0) (by omega) (by omega)).mp c_13
    refine lv_iconst (v := 0) hx hb dX6_isWord_18 (by decide) ?_
    refine lv_istore_n (lv' := [(2, .int 0), (0, .ref o), (1, .ref (ad.1 li))]) hx hb dX6_isWord_19 rfl hl (by decide) rfl (fun ls hl => ?_)
    have loop : ∀ (fuel : Nat) (i : Nat) (ls : Array Slot), 33 - i < fuel → (i ≤ 32) → lv_has ls 3 [(2, .int (nI i)), (0, .ref o), (1, .ref (ad.1 li))] → W p l e (headSpec (wT yX6_isWord cX6_isWord 3 (some .boolean)) { frames := 4, cells := 0, slots := 0, locals := 85 }).room s m [.ref o, .ref (ad.1 li)].toArray below meth c s.heap [] 0 0 (MQ below (vp_Si (fun r => r = 0 ∨ r = 1)) [.ref o, .ref (ad.1 li)].toArray s 0 0 (fun _ => False)) (F0 m 20 ls []) := by
      intro fuel
      induction fuel with
      | zero => intro i ls h; exact absurd h (Nat.not_lt_zero _)
      | succ fu20 ih20 =>
        intro i ls hm20 hb_i hl
        refine lv_iload_n hx hb dX6_isWord_20 rfl (lv_at hl 0 rfl) ?_
        refine lv_aload_n hx hb dX6_isWord_21 rfl (lv_at hl 2 rfl) ?_
        refine vp_callSi (va_Run.run (va_runV (As := []) (rest := [.int (nI i)]) ⟨hx, hb, hml, hown, hT⟩ (j_length l ad (AL L s.heap.size) s.heap.size li (by omega)) (cwV 0 hT (gV w436 w437 w438 w16 w439) rfl rfl rfl (by decide +kernel) ⟨(Nat.le_of_ble_eq_true rfl), (Nat.le_of_ble_eq_true rfl)⟩) ⟨pcT.blind, vk_recv hSTR.1 (i := li) (by omega) hW.2.2, pcT.pre hSTR hW.2.2⟩ rfl rfl hl.1 rfl (lv_room (Nat.le_of_ble_eq_true rfl)) dX6_isWord_22 ⟨(Nat.le_of_ble_eq_true rfl), (Nat.le_of_ble_eq_true rfl)⟩)) (fun r_4 hr_4 => ?_)
        obtain rfl : r_4 = nI (lenJS.getD li 0) := hr_4
        refine lv_icmp_ge (tgt := 55) hx hb dX6_isWord_25 (by decide) (fun c_25 => ?_) (fun c_25 => ?_)
        · have c_25 : (lenJS.getD li 0) ≤ i := (nI_leI (a := lenJS.getD li 0) (b := i) (by omega) (by omega)).mp c_25
          refine lv_iconst (v := 1) hx hb dX6_isWord_55 (by decide) ?_
          exact W.zret (ty := .boolean) (v := 1) hx hb hr (by decide) (fun t ht h9 => ⟨1, rfl, Or.inr rfl, ht⟩) (fun q h => by cases h) dX6_isWord_56
        · have c_25 : ¬ ((lenJS.getD li 0) ≤ i) := fun hh9 => c_25 ((nI_leI (a := lenJS.getD li 0) (b := i) (by omega) (by omega)).mpr hh9)
          refine lv_aload_n hx hb dX6_isWord_28 rfl (lv_at hl 1 rfl) ?_
          refine pl_get (ci := 6) (v := .ref rt) (C := RX6) (T := TX6) (N := 10) hx hb hT iX6 hown hK hW hT_o.1 hS_o rfl 4 (by decide) w147 rfl dX6_isWord_29 ?_
          refine lv_aload_n hx hb dX6_isWord_32 rfl (lv_at hl 1 rfl) ?_
          refine pl_get (ci := 6) (v := .int (nI ta1)) (C := RX6) (T := TX6) (N := 10) hx hb hT iX6 hown hK hW hT_o.1 hS_o rfl 8 (by decide) w151 rfl dX6_isWord_33 ?_
          refine lv_iload_n hx hb dX6_isWord_36 rfl (lv_at hl 0 rfl) ?_
          refine lv_iadd hx hb dX6_isWord_37 ?_
          refine lv_topi (fun z_5 ez_5 => ?_)
          obtain rfl : z_5 = nI (ta1 + i) := ez_5.trans (nI_add (ta1) (i))
          obtain ⟨f_6, hS_rt⟩ := hTy.k27 hT_rt
          refine pl_bald hx hb hK hW hT_rt.1 hS_rt (vp_in_nI (n := ta1 + i) (N := 900) (by omega) (by omega)) dX6_isWord_38 ?_
          refine lv_topi (fun y_7 ey_7 => ?_)
          refine lv_aload_n hx hb dX6_isWord_39 rfl (lv_at hl 2 rfl) ?_
          refine lv_iload_n hx hb dX6_isWord_40 rfl (lv_at hl 0 rfl) ?_
          refine vp_callSi (va_Run.run (va_runV (As := [.int (nI i)]) (rest := [.int y_7]) ⟨hx, hb, hml, hown, hT⟩ (j_charAt l ad (AL L s.heap.size) s.heap.size li i (by omega) (by omega)) (cwV 1 hT (gV w446 w447 w448 w16 w449) rfl rfl rfl (by decide +kernel) ⟨(Nat.le_of_ble_eq_true rfl), (Nat.le_of_ble_eq_true rfl)⟩) ⟨pcT.blind, vk_recv hSTR.1 (i := li) (by omega) hW.2.2, pcT.pre hSTR hW.2.2⟩ rfl rfl hl.1 rfl (lv_room (Nat.le_of_ble_eq_true rfl)) dX6_isWord_41 ⟨(Nat.le_of_ble_eq_true rfl), (Nat.le_of_ble_eq_true rfl)⟩)) (fun r_8 hr_8 => ?_)
          refine lv_icmp_eq (tgt := 49) hx hb dX6_isWord_44 (by decide) (fun c_44 => ?_) (fun c_44 => ?_)
          · refine lv_iinc (v := nI (i + 1)) (lv' := [(2, .int (nI (i + 1))), (0, .ref o), (1, .ref (ad.1 li))]) hx hb dX6_isWord_49 hl (k := 0) rfl (nI_add (i) 1) (by decide) rfl (fun ls hl => ?_)
            refine lv_goto (tgt := 20) hx hb dX6_isWord_52 (by decide) ?_
            exact ih20 (i + 1) ls (by omega) (by omega) (lv_sub hl [0, 1, 2] rfl)
          · refine lv_iconst (v := 0) hx hb dX6_isWord_47 (by decide) ?_
            exact W.zret (ty := .boolean) (v := 0) hx hb hr (by decide) (fun t ht h9 => ⟨0, rfl, Or.inl rfl, ht⟩) (fun q h => by cases h) dX6_isWord_48
    exact loop ((33 - 0) + 1) 0 ls (Nat.lt_succ_self _) (by omega) (lv_sub hl [0, 1, 2] rfl)
  · have c_13 : ¬ ((te1 - ta1) = (lenJS.getD li 0)) := fun hh9 => c_13 ((nI_eq (a := te1 - ta1) (b := lenJS.getD li 0) (by omega) (by omega)).mpr hh9)
    refine lv_iconst (v := 0) hx hb dX6_isWord_16 (by decide) ?_
    exact W.zret (ty := .boolean) (v := 0) hx hb hr (by decide) (fun t ht h9 => ⟨0, rfl, Or.inl rfl, ht⟩) (fun q h => by cases h) dX6_isWord_17

set_option maxHeartbeats 4000000 in
set_option maxRecDepth 100000 in
theorem r_wordToken (l : Launch) (dC : Nat → ClassId) (dI : Nat → Nat → Nat) (cy : Nat → ClassId) (L : List Nat) (kap : Nat → Nat) (pr : Pr) (ad : (Nat → Nat) × (Nat → Nat)) (S : Nat → va_E) (sz : Nat) (o : Nat) (hTy : Ty cy L kap pr S) (hT_o : TK L kap o 6) (f : Int32) (rn : Nat) (rb : Nat) (rt : Nat) (hR : RK S o f rn rb rt) : Met l yX6_wordToken (wT yX6_wordToken cX6_wordToken 1 (some .int)) ({ frames := 5, cells := 0, slots := 0, locals := 107 }) (pcS dC dI [.ref o] sz L S (cyT cy) NLs ad) (vp_Si (fun r => True)) 0 0 (fun _ => False) := by
  refine Met.ofW (cc := cX6_wordToken) (maxL := 1) (ret := (some .int)) (by decide) rfl ?_
  intro p e s m args below meth c s₁ B hml hv
  obtain ⟨rfl, hsz, hP, hK, hD0, hN, hSTR⟩ := hv
  have hx := B.exec
  have hb := B.bytes
  have hr := B.returns
  have hT : ∀ wd ∈ TB, wd.before [.ref o].toArray s = true := fun wd h => atoms_spec (ws := wT yX6_wordToken cX6_wordToken 1 (some .int)) B.pre wd (List.mem_cons_of_mem _ h)
  have hown : s.vm.findClass RX6 = some m.cls := findClass_of_methodNamed B.named
  have hlocks := B.notSynchronized
  subst hsz
  have hW : PW dC dI L (AL L s.heap.size) s.heap S s.heap [] := ⟨hP, pl_self hD0, va_S.rf⟩
  have hFr : Fr kap [] S S := Fr.rf
  have hl := lv_entry ([.ref o]) (n := 1) (Nat.le_of_ble_eq_true rfl)
  rw [lg_entry_eq]
  generalize (lg_sl ([.ref o]) ++ List.replicate (1 - (lg_sl ([.ref o])).length) Slot.unset).toArray = ls at hl ⊢
  have hl : lv_has ls 1 [(0, .ref o)] := hl
  obtain ⟨pl1, en1, mt1, tk1, ta1, te1, hS_o, hT_rn, hT_rb, hT_rt, hen1, hte1, hta1, hab1⟩ := RKk hTy hT_o hR
  refine lv_aload_n hx hb dX6_wordToken_0 rfl (lv_at hl 0 rfl) ?_
  refine va_ldcS hx hb hown (hSTR.2.2.2 0 (by decide)) dX6_wordToken_1 ?_
  refine vp_callSi (va_Run.run (va_runV (As := [.ref (ad.1 0)]) (rest := []) ⟨hx, hb, hml, hown, hT⟩ (r_isWord l dC dI cy L kap pr ad S s.heap.size o 0 hTy hT_o (by omega) f rn rb rt ⟨_, en1, _, _, ta1, te1, hS_o, by omega, by omega, by omega, by omega⟩) (cwV 1 hT (gV w432 w434 ws2 w3 w435) rfl rfl rfl (by decide +kernel) ⟨(Nat.le_of_ble_eq_true rfl), (Nat.le_of_ble_eq_true rfl)⟩) ⟨pcS.blind, pl_recv hK hW hT_o.1 hS_o rfl, pcS.pre hW.1 hK hW.2.1 hN hSTR hW.2.2⟩ rfl rfl hl.1 rfl (lv_room (Nat.le_of_ble_eq_true rfl)) dX6_wordToken_3 ⟨(Nat.le_of_ble_eq_true rfl), (Nat.le_of_ble_eq_true rfl)⟩)) (fun r_2 hr_2 => ?_)
  refine lv_if_eq (tgt := 11) hx hb dX6_wordToken_6 (by decide) (fun c_6 => ?_) (fun c_6 => ?_)
  · refine lv_aload_n hx hb dX6_wordToken_11 rfl (lv_at hl 0 rfl) ?_
    refine va_ldcS hx hb hown (hSTR.2.2.2 1 (by decide)) dX6_wordToken_12 ?_
    refine vp_callSi (va_Run.run (va_runV (As := [.ref (ad.1 1)]) (rest := []) ⟨hx, hb, hml, hown, hT⟩ (r_isWord l dC dI cy L kap pr ad S s.heap.size o 1 hTy hT_o (by omega) f rn rb rt ⟨_, en1, _, _, ta1, te1, hS_o, by omega, by omega, by omega, by omega⟩) (cwV 1 hT (gV w432 w434 ws2 w3 w435) rfl rfl rfl (by decide +kernel) ⟨(Nat.le_of_ble_eq_true rfl), (Nat.le_of_ble_eq_true rfl)⟩) ⟨pcS.blind, pl_recv hK hW hT_o.1 hS_o rfl, pcS.pre hW.1 hK hW.2.1 hN hSTR hW.2.2⟩ rfl rfl hl.1 rfl (lv_room (Nat.le_of_ble_eq_true rfl)) dX6_wordToken_14 ⟨(Nat.le_of_ble_eq_true rfl), (Nat.le_of_ble_eq_true rfl)⟩)) (fun r_3 hr_3 => ?_)
    refine lv_if_eq (tgt := 23) hx hb dX6_wordToken_17 (by decide) (fun c_17 => ?_) (fun c_17 => ?_)
    · refine lv_aload_n hx hb dX6_wordToken_23 rfl (lv_at hl 0 rfl) ?_
      refine va_ldcS hx hb hown (hSTR.2.2.2 2 (by decide)) dX6_wordToken_24 ?_
      refine vp_callSi (va_Run.run (va_runV (As := [.ref (ad.1 2)]) (rest := []) ⟨hx, hb, hml, hown, hT⟩ (r_isWord l dC dI cy L kap pr ad S s.heap.size o 2 hTy hT_o (by omega) f rn rb rt ⟨_, en1, _, _, ta1, te1, hS_o, by omega, by omega, by omega, by omega⟩) (cwV 1 hT (gV w432 w434 ws2 w3 w435) rfl rfl rfl (by decide +kernel) ⟨(Nat.le_of_ble_eq_true rfl), (Nat.le_of_ble_eq_true rfl)⟩) ⟨pcS.blind, pl_recv hK hW hT_o.1 hS_o rfl, pcS.pre hW.1 hK hW.2.1 hN hSTR hW.2.2⟩ rfl rfl hl.1 rfl (lv_room (Nat.le_of_ble_eq_true rfl)) dX6_wordToken_26 ⟨(Nat.le_of_ble_eq_true rfl), (Nat.le_of_ble_eq_true rfl)⟩)) (fun r_4 hr_4 => ?_)
      refine lv_if_eq (tgt := 35) hx hb dX6_wordToken_29 (by decide) (fun c_29 => ?_) (fun c_29 => ?_)
      · refine lv_aload_n hx hb dX6_wordToken_35 rfl (lv_at hl 0 rfl) ?_
        refine va_ldcS hx hb hown (hSTR.2.2.2 3 (by decide)) dX6_wordToken_36 ?_
        refine vp_callSi (va_Run.run (va_runV (As := [.ref (ad.1 3)]) (rest := []) ⟨hx, hb, hml, hown, hT⟩ (r_isWord l dC dI cy L kap pr ad S s.heap.size o 3 hTy hT_o (by omega) f rn rb rt ⟨_, en1, _, _, ta1, te1, hS_o, by omega, by omega, by omega, by omega⟩) (cwV 1 hT (gV w432 w434 ws2 w3 w435) rfl rfl rfl (by decide +kernel) ⟨(Nat.le_of_ble_eq_true rfl), (Nat.le_of_ble_eq_true rfl)⟩) ⟨pcS.blind, pl_recv hK hW hT_o.1 hS_o rfl, pcS.pre hW.1 hK hW.2.1 hN hSTR hW.2.2⟩ rfl rfl hl.1 rfl (lv_room (Nat.le_of_ble_eq_true rfl)) dX6_wordToken_38 ⟨(Nat.le_of_ble_eq_true rfl), (Nat.le_of_ble_eq_true rfl)⟩)) (fun r_5 hr_5 => ?_)
        refine lv_if_eq (tgt := 47) hx hb dX6_wordToken_41 (by decide) (fun c_41 => ?_) (fun c_41 => ?_)
        · refine lv_aload_n hx hb dX6_wordToken_47 rfl (lv_at hl 0 rfl) ?_
          refine va_ldcS hx hb hown (hSTR.2.2.2 4 (by decide)) dX6_wordToken_48 ?_
          refine vp_callSi (va_Run.run (va_runV (As := [.ref (ad.1 4)]) (rest := []) ⟨hx, hb, hml, hown, hT⟩ (r_isWord l dC dI cy L kap pr ad S s.heap.size o 4 hTy hT_o (by omega) f rn rb rt ⟨_, en1, _, _, ta1, te1, hS_o, by omega, by omega, by omega, by omega⟩) (cwV 1 hT (gV w432 w434 ws2 w3 w435) rfl rfl rfl (by decide +kernel) ⟨(Nat.le_of_ble_eq_true rfl), (Nat.le_of_ble_eq_true rfl)⟩) ⟨pcS.blind, pl_recv hK hW hT_o.1 hS_o rfl, pcS.pre hW.1 hK hW.2.1 hN hSTR hW.2.2⟩ rfl rfl hl.1 rfl (lv_room (Nat.le_of_ble_eq_true rfl)) dX6_wordToken_50 ⟨(Nat.le_of_ble_eq_true rfl), (Nat.le_of_ble_eq_true rfl)⟩)) (fun r_6 hr_6 => ?_)
          refine lv_if_eq (tgt := 59) hx hb dX6_wordToken_53 (by decide) (fun c_53 => ?_) (fun c_53 => ?_)
          · refine lv_aload_n hx hb dX6_wordToken_59 rfl (lv_at hl 0 rfl) ?_
            refine va_ldcS hx hb hown (hSTR.2.2.2 5 (by decide)) dX6_wordToken_60 ?_
            refine vp_callSi (va_Run.run (va_runV (As := [.ref (ad.1 5)]) (rest := []) ⟨hx, hb, hml, hown, hT⟩ (r_isWord l dC dI cy L kap pr ad S s.heap.size o 5 hTy hT_o (by omega) f rn rb rt ⟨_, en1, _, _, ta1, te1, hS_o, by omega, by omega, by omega, by omega⟩) (cwV 1 hT (gV w432 w434 ws2 w3 w435) rfl rfl rfl (by decide +kernel) ⟨(Nat.le_of_ble_eq_true rfl), (Nat.le_of_ble_eq_true rfl)⟩) ⟨pcS.blind, pl_recv hK hW hT_o.1 hS_o rfl, pcS.pre hW.1 hK hW.2.1 hN hSTR hW.2.2⟩ rfl rfl hl.1 rfl (lv_room (Nat.le_of_ble_eq_true rfl)) dX6_wordToken_62 ⟨(Nat.le_of_ble_eq_true rfl), (Nat.le_of_ble_eq_true rfl)⟩)) (fun r_7 hr_7 => ?_)
            refine lv_if_eq (tgt := 71) hx hb dX6_wordToken_65 (by decide) (fun c_65 => ?_) (fun c_65 => ?_)
            · refine lv_aload_n hx hb dX6_wordToken_71 rfl (lv_at hl 0 rfl) ?_
              refine pl_get (ci := 6) (v := .int (nI te1)) (C := RX6) (T := TX6) (N := 10) hx hb hT iX6 hown hK hW hT_o.1 hS_o rfl 9 (by decide) w152 rfl dX6_wordToken_72 ?_
              refine lv_aload_n hx hb dX6_wordToken_75 rfl (lv_at hl 0 rfl) ?_
              refine pl_get (ci := 6) (v := .int (nI ta1)) (C := RX6) (T := TX6) (N := 10) hx hb hT iX6 hown hK hW hT_o.1 hS_o rfl 8 (by decide) w151 rfl dX6_wordToken_76 ?_
              refine lv_isub hx hb dX6_wordToken_79 ?_
              refine lv_topi (fun z_8 ez_8 => ?_)
              obtain rfl : z_8 = nI (te1 - ta1) := ez_8.trans (pk_sub (a := te1) (b := ta1) (by omega))
              refine lv_bipush (v := 8) hx hb dX6_wordToken_80 (by decide) ?_
              refine lv_icmp_gt (tgt := 89) hx hb dX6_wordToken_82 (by decide) (fun c_82 => ?_) (fun c_82 => ?_)
              · have c_82 : 8 < (te1 - ta1) := (nI_ltI (a := 8) (b := te1 - ta1) (by omega) (by omega)).mp c_82
                refine lv_iconst (v := 1) hx hb dX6_wordToken_89 (by decide) ?_
                exact W.iret (v := 1) hx hb hr (fun t ht h9 => ⟨1, rfl, trivial, ht⟩) (fun q h => by cases h) dX6_wordToken_90
              · have c_82 : ¬ (8 < (te1 - ta1)) := fun hh9 => c_82 ((nI_ltI (a := 8) (b := te1 - ta1) (by omega) (by omega)).mpr hh9)
                refine lv_iconst (v := 4) hx hb dX6_wordToken_85 (by decide) ?_
                refine lv_goto (tgt := 90) hx hb dX6_wordToken_86 (by decide) ?_
                exact W.iret (v := 4) hx hb hr (fun t ht h9 => ⟨4, rfl, trivial, ht⟩) (fun q h => by cases h) dX6_wordToken_90
            · refine lv_bipush (v := 10) hx hb dX6_wordToken_68 (by decide) ?_
              exact W.iret (v := 10) hx hb hr (fun t ht h9 => ⟨10, rfl, trivial, ht⟩) (fun q h => by cases h) dX6_wordToken_70
          · refine lv_bipush (v := 9) hx hb dX6_wordToken_56 (by decide) ?_
            exact W.iret (v := 9) hx hb hr (fun t ht h9 => ⟨9, rfl, trivial, ht⟩) (fun q h => by cases h) dX6_wordToken_58
        · refine lv_bipush (v := 8) hx hb dX6_wordToken_44 (by decide) ?_
          exact W.iret (v := 8) hx hb hr (fun t ht h9 => ⟨8, rfl, trivial, ht⟩) (fun q h => by cases h) dX6_wordToken_46
      · refine lv_bipush (v := 7) hx hb dX6_wordToken_32 (by decide) ?_
        exact W.iret (v := 7) hx hb hr (fun t ht h9 => ⟨7, rfl, trivial, ht⟩) (fun q h => by cases h) dX6_wordToken_34
    · refine lv_bipush (v := 6) hx hb dX6_wordToken_20 (by decide) ?_
      exact W.iret (v := 6) hx hb hr (fun t ht h9 => ⟨6, rfl, trivial, ht⟩) (fun q h => by cases h) dX6_wordToken_22
  · refine lv_iconst (v := 5) hx hb dX6_wordToken_9 (by decide) ?_
    exact W.iret (v := 5) hx hb hr (fun t ht h9 => ⟨5, rfl, trivial, ht⟩) (fun q h => by cases h) dX6_wordToken_10

set_option maxHeartbeats 4000000 in
set_option maxRecDepth 100000 in
theorem r_next (l : Launch) (dC : Nat → ClassId) (dI : Nat → Nat → Nat) (cy : Nat → ClassId) (L : List Nat) (kap : Nat → Nat) (pr : Pr) (ad : (Nat → Nat) × (Nat → Nat)) (S : Nat → va_E) (sz : Nat) (o : Nat) (hTy : Ty cy L kap pr S) (hT_o : TK L kap o 6) (f : Int32) (rn : Nat) (rb : Nat) (rt : Nat) (hR : RW S o f rn rb rt) : Met l yX6_next (wT yX6_next cX6_next 1 none) ({ frames := 6, cells := 0, slots := 0, locals := 127 }) (pcS dC dI [.ref o] sz L S (cyT cy) NLs ad) (va_Qv (fun S' => Ty cy L kap pr S' ∧ Fr kap [6] S S' ∧ (RK S' o f rn rb rt)) (fun S' t => pB dC dI (AL L sz) (va_pl L S') (cyT cy) t) (AL L sz)) 0 0 (AL L sz) := by
  refine Met.ofW (cc := cX6_next) (maxL := 1) (ret := none) (by decide) rfl ?_
  intro p e s m args below meth c s₁ B hml hv
  obtain ⟨rfl, hsz, hP, hK, hD0, hN, hSTR⟩ := hv
  have hx := B.exec
  have hb := B.bytes
  have hr := B.returns
  have hT : ∀ wd ∈ TB, wd.before [.ref o].toArray s = true := fun wd h => atoms_spec (ws := wT yX6_next cX6_next 1 none) B.pre wd (List.mem_cons_of_mem _ h)
  have hown : s.vm.findClass RX6 = some m.cls := findClass_of_methodNamed B.named
  have hlocks := B.notSynchronized
  subst hsz
  have hW : PW dC dI L (AL L s.heap.size) s.heap S s.heap [] := ⟨hP, pl_self hD0, va_S.rf⟩
  have hA0 : ∀ q, q ∈ L → AL L s.heap.size q := fun _ h => Or.inl h
  have hA : ∀ q, s.heap.size ≤ q → AL L s.heap.size q := fun _ h => Or.inr h
  have hFr : Fr kap [6] S S := Fr.rf
  have hl := lv_entry ([.ref o]) (n := 1) (Nat.le_of_ble_eq_true rfl)
  rw [lg_entry_eq]
  generalize (lg_sl ([.ref o]) ++ List.replicate (1 - (lg_sl ([.ref o])).length) Slot.unset).toArray = ls at hl ⊢
  have hl : lv_has ls 1 [(0, .ref o)] := hl
  obtain ⟨pl1, en1, mt1, tk1, ta1, te1, hS_o, hT_rn, hT_rb, hT_rt, hen1, hte1, hta1⟩ := RWk hTy hT_o hR
  refine lv_aload_n hx hb dX6_next_0 rfl (lv_at hl 0 rfl) ?_
  refine lv_aload_n hx hb dX6_next_1 rfl (lv_at hl 0 rfl) ?_
  refine pl_get (ci := 6) (v := .int (nI te1)) (C := RX6) (T := TX6) (N := 10) hx hb hT iX6 hown hK hW hT_o.1 hS_o rfl 9 (by decide) w152 rfl dX6_next_2 ?_
  refine pl_put (ci := 6) (v := .int (nI te1)) (ty := .int) (C := RX6) (T := TX6) (N := 10) (fs' := [.int f, .int pl1, .ref rn, .ref rb, .ref rt, .int (nI en1), .int mt1, .int tk1, .int (nI te1), .int (nI te1)]) hx hb hT iX6 tyX6 tyX6_ok nmX6 hown hK hW hT_o.1 hS_o rfl 8 (by decide) w151 rfl (by decide +kernel) rfl rfl (Nat.le_of_ble_eq_true rfl) rfl dX6_next_5 (fun H locs S_2 e1 hW => ?_)
  have hTy := hTy.u6 e1 hT_o ⟨f, pl1, rn, rb, rt, en1, mt1, tk1, te1, te1, rfl, hT_rn, hT_rb, hT_rt, (by omega), (by omega), (by omega)⟩
  have hFr := uf hFr e1 hT_o (by decide) (by decide)
  have hS_o := us e1
  have loop : ∀ (fuel : Nat) (ga : Nat) (SS : Nat → va_E) (H : Heap) (locs : List Loc) (ls : Array Slot), 901 - ga < fuel → (SS o = .inr (6, [.int f, .int pl1, .ref rn, .ref rb, .ref rt, .int (nI en1), .int mt1, .int tk1, .int (nI ga), .int (nI te1)])) → (ga ≤ 900) → Ty cy L kap pr SS → Fr kap [6] S SS → Fr kap [6] S_2 SS → PW dC dI L (AL L s.heap.size) s.heap SS H locs → lv_has ls 1 [(0, .ref o)] → W p l e (headSpec (wT yX6_next cX6_next 1 none) { frames := 6, cells := 0, slots := 0, locals := 127 }).room s m [.ref o].toArray below meth c H locs 0 0 (MQ below (va_Qv (fun S' => Ty cy L kap pr S' ∧ Fr kap [6] S S' ∧ (RK S' o f rn rb rt)) (fun S' t => pB dC dI (AL L s.heap.size) (va_pl L S') (cyT cy) t) (AL L s.heap.size)) [.ref o].toArray s 0 0 (AL L s.heap.size)) (F0 m 8 ls []) := by
    intro fuel
    induction fuel with
    | zero => intro ga SS H locs ls h; exact absurd h (Nat.not_lt_zero _)
    | succ fu8 ih8 =>
      intro ga S_3 H locs ls hm8 hSlga hxga hTy hFr hFl8 hW hl
      refine lv_aload_n hx hb dX6_next_8 rfl (lv_at hl 0 rfl) ?_
      refine pl_get (ci := 6) (v := .int (nI ga)) (C := RX6) (T := TX6) (N := 10) hx hb hT iX6 hown hK hW hT_o.1 hSlga rfl 8 (by decide) w151 rfl dX6_next_9 ?_
      refine lv_aload_n hx hb dX6_next_12 rfl (lv_at hl 0 rfl) ?_
      refine pl_get (ci := 6) (v := .int (nI en1)) (C := RX6) (T := TX6) (N := 10) hx hb hT iX6 hown hK hW hT_o.1 hSlga rfl 5 (by decide) w148 rfl dX6_next_13 ?_
      refine lv_icmp_ge (tgt := 46) hx hb dX6_next_16 (by decide) (fun c_16 => ?_) (fun c_16 => ?_)
      · have c_16 : en1 ≤ ga := (nI_leI (a := en1) (b := ga) (by omega) (by omega)).mp c_16
        refine lv_aload_n hx hb dX6_next_46 rfl (lv_at hl 0 rfl) ?_
        refine lv_aload_n hx hb dX6_next_47 rfl (lv_at hl 0 rfl) ?_
        refine pl_get (ci := 6) (v := .int (nI ga)) (C := RX6) (T := TX6) (N := 10) hx hb hT iX6 hown hK hW hT_o.1 hSlga rfl 8 (by decide) w151 rfl dX6_next_48 ?_
        refine pl_put (ci := 6) (v := .int (nI ga)) (ty := .int) (C := RX6) (T := TX6) (N := 10) (fs' := [.int f, .int pl1, .ref rn, .ref rb, .ref rt, .int (nI en1), .int mt1, .int tk1, .int (nI ga), .int (nI ga)]) hx hb hT iX6 tyX6 tyX6_ok nmX6 hown hK hW hT_o.1 hSlga rfl 9 (by decide) w152 rfl (by decide +kernel) rfl rfl (Nat.le_of_ble_eq_true rfl) rfl dX6_next_51 (fun H locs S_4 e1 hW => ?_)
        have hTy := hTy.u6 e1 hT_o ⟨f, pl1, rn, rb, rt, en1, mt1, tk1, ga, ga, rfl, hT_rn, hT_rb, hT_rt, (by omega), (by omega), (by omega)⟩
        have hFr := uf hFr e1 hT_o (by decide) (by decide)
        have hFl8 := uf hFl8 e1 hT_o (by decide) (by decide)
        have hSlga := us e1
        refine lv_aload_n hx hb dX6_next_54 rfl (lv_at hl 0 rfl) ?_
        refine pl_get (ci := 6) (v := .int (nI ga)) (C := RX6) (T := TX6) (N := 10) hx hb hT iX6 hown hK hW hT_o.1 hSlga rfl 8 (by decide) w151 rfl dX6_next_55 ?_
        refine lv_aload_n hx hb dX6_next_58 rfl (lv_at hl 0 rfl) ?_
        refine pl_get (ci := 6) (v := .int (nI en1)) (C := RX6) (T := TX6) (N := 10) hx hb hT iX6 hown hK hW hT_o.1 hSlga rfl 5 (by decide) w148 rfl dX6_next_59 ?_
        refine lv_icmp_lt (tgt := 73) hx hb dX6_next_62 (by decide) (fun c_62 => ?_) (fun c_62 => ?_)
        · have c_62 : ga < en1 := (nI_ltI (a := ga) (b := en1) (by omega) (by omega)).mp c_62
          refine lv_aload_n hx hb dX6_next_73 rfl (lv_at hl 0 rfl) ?_
          refine pl_get (ci := 6) (v := .ref rt) (C := RX6) (T := TX6) (N := 10) hx hb hT iX6 hown hK hW hT_o.1 hSlga rfl 4 (by decide) w147 rfl dX6_next_74 ?_
          refine lv_aload_n hx hb dX6_next_77 rfl (lv_at hl 0 rfl) ?_
          refine pl_get (ci := 6) (v := .int (nI ga)) (C := RX6) (T := TX6) (N := 10) hx hb hT iX6 hown hK hW hT_o.1 hSlga rfl 8 (by decide) w151 rfl dX6_next_78 ?_
          obtain ⟨f_5, hS_rt⟩ := hTy.k27 hT_rt
          refine pl_bald hx hb hK hW hT_rt.1 hS_rt (vp_in_nI (n := ga) (N := 900) (by omega) (by omega)) dX6_next_81 ?_
          refine lv_topi (fun y_6 ey_6 => ?_)
          refine vp_callSi (va_Run.run (va_runS (As := [.int y_6]) (rest := []) ⟨hx, hb, hml, hown, hT⟩ (r_isLetter l dC dI H.size y_6) (va_cwS 1 hT (gS w424 w425 w3 w426) rfl rfl rfl (by decide +kernel) ⟨(Nat.le_of_ble_eq_true rfl), (Nat.le_of_ble_eq_true rfl)⟩) ⟨pcW.blind, pcW.pre (va_P0 _ _ _) (hK.sub (tys' := []) [] rfl) (va_D0 (fun _ => True))⟩ rfl rfl hl.1 rfl (lv_room (Nat.le_of_ble_eq_true rfl)) dX6_next_82 ⟨(Nat.le_of_ble_eq_true rfl), (Nat.le_of_ble_eq_true rfl)⟩)) (fun r_7 hr_7 => ?_)
          refine lv_if_eq (tgt := 138) hx hb dX6_next_85 (by decide) (fun c_85 => ?_) (fun c_85 => ?_)
          · refine lv_aload_n hx hb dX6_next_138 rfl (lv_at hl 0 rfl) ?_
            refine pl_get (ci := 6) (v := .ref rt) (C := RX6) (T := TX6) (N := 10) hx hb hT iX6 hown hK hW hT_o.1 hSlga rfl 4 (by decide) w147 rfl dX6_next_139 ?_
            refine lv_aload_n hx hb dX6_next_142 rfl (lv_at hl 0 rfl) ?_
            refine pl_get (ci := 6) (v := .int (nI ga)) (C := RX6) (T := TX6) (N := 10) hx hb hT iX6 hown hK hW hT_o.1 hSlga rfl 8 (by decide) w151 rfl dX6_next_143 ?_
            refine pl_bald hx hb hK hW hT_rt.1 hS_rt (vp_in_nI (n := ga) (N := 900) (by omega) (by omega)) dX6_next_146 ?_
            refine lv_topi (fun y_8 ey_8 => ?_)
            refine vp_callSi (va_Run.run (va_runS (As := [.int y_8]) (rest := []) ⟨hx, hb, hml, hown, hT⟩ (r_isDigit l dC dI H.size y_8) (va_cwS 1 hT (gS w489 w490 w3 w491) rfl rfl rfl (by decide +kernel) ⟨(Nat.le_of_ble_eq_true rfl), (Nat.le_of_ble_eq_true rfl)⟩) ⟨pcW.blind, pcW.pre (va_P0 _ _ _) (hK.sub (tys' := []) [] rfl) (va_D0 (fun _ => True))⟩ rfl rfl hl.1 rfl (lv_room (Nat.le_of_ble_eq_true rfl)) dX6_next_147 ⟨(Nat.le_of_ble_eq_true rfl), (Nat.le_of_ble_eq_true rfl)⟩)) (fun r_9 hr_9 => ?_)
            refine lv_if_eq (tgt := 197) hx hb dX6_next_150 (by decide) (fun c_150 => ?_) (fun c_150 => ?_)
            · refine lv_aload_n hx hb dX6_next_197 rfl (lv_at hl 0 rfl) ?_
              refine lv_aload_n hx hb dX6_next_198 rfl (lv_at hl 0 rfl) ?_
              refine pl_get (ci := 6) (v := .ref rt) (C := RX6) (T := TX6) (N := 10) hx hb hT iX6 hown hK hW hT_o.1 hSlga rfl 4 (by decide) w147 rfl dX6_next_199 ?_
              refine lv_aload_n hx hb dX6_next_202 rfl (lv_at hl 0 rfl) ?_
              refine pl_get (ci := 6) (v := .int (nI ga)) (C := RX6) (T := TX6) (N := 10) hx hb hT iX6 hown hK hW hT_o.1 hSlga rfl 8 (by decide) w151 rfl dX6_next_203 ?_
              refine pl_bald hx hb hK hW hT_rt.1 hS_rt (vp_in_nI (n := ga) (N := 900) (by omega) (by omega)) dX6_next_206 ?_
              refine lv_topi (fun y_10 ey_10 => ?_)
              refine lv_bipush (v := 59) hx hb dX6_next_207 (by decide) ?_
              refine lv_icmp_ne (tgt := 216) hx hb dX6_next_209 (by decide) (fun c_209 => ?_) (fun c_209 => ?_)
              · refine lv_iconst (v := 1) hx hb dX6_next_216 (by decide) ?_
                refine pl_put (ci := 6) (v := .int 1) (ty := .int) (C := RX6) (T := TX6) (N := 10) (fs' := [.int f, .int pl1, .ref rn, .ref rb, .ref rt, .int (nI en1), .int mt1, .int 1, .int (nI ga), .int (nI ga)]) hx hb hT iX6 tyX6 tyX6_ok nmX6 hown hK hW hT_o.1 hSlga rfl 7 (by decide) w150 rfl (by decide +kernel) rfl rfl (Nat.le_of_ble_eq_true rfl) rfl dX6_next_217 (fun H locs S_11 e1 hW => ?_)
                have hTy := hTy.u6 e1 hT_o ⟨f, pl1, rn, rb, rt, en1, mt1, 1, ga, ga, rfl, hT_rn, hT_rb, hT_rt, (by omega), (by omega), (by omega)⟩
                have hS_rt := un e1 hT_rt hT_o (by decide) hS_rt
                have hFr := uf hFr e1 hT_o (by decide) (by decide)
                have hFl8 := uf hFl8 e1 hT_o (by decide) (by decide)
                have hSlga := us e1
                refine lv_aload_n hx hb dX6_next_220 rfl (lv_at hl 0 rfl) ?_
                refine lv_dup hx hb dX6_next_221 rfl ?_
                refine pl_get (ci := 6) (v := .int (nI ga)) (C := RX6) (T := TX6) (N := 10) hx hb hT iX6 hown hK hW hT_o.1 hSlga rfl 9 (by decide) w152 rfl dX6_next_222 ?_
                refine lv_iconst (v := 1) hx hb dX6_next_225 (by decide) ?_
                refine lv_iadd hx hb dX6_next_226 ?_
                refine lv_topi (fun z_12 ez_12 => ?_)
                obtain rfl : z_12 = nI (ga + 1) := ez_12.trans (nI_add (ga) (1))
                refine pl_put (ci := 6) (v := .int (nI (ga + 1))) (ty := .int) (C := RX6) (T := TX6) (N := 10) (fs' := [.int f, .int pl1, .ref rn, .ref rb, .ref rt, .int (nI en1), .int mt1, .int 1, .int (nI ga), .int (nI (ga + 1))]) hx hb hT iX6 tyX6 tyX6_ok nmX6 hown hK hW hT_o.1 hSlga rfl 9 (by decide) w152 rfl (by decide +kernel) rfl rfl (Nat.le_of_ble_eq_true rfl) rfl dX6_next_227 (fun H locs S_13 e1 hW => ?_)
                have hTy := hTy.u6 e1 hT_o ⟨f, pl1, rn, rb, rt, en1, mt1, 1, ga, ga + 1, rfl, hT_rn, hT_rb, hT_rt, (by omega), (by omega), (by omega)⟩
                have hS_rt := un e1 hT_rt hT_o (by decide) hS_rt
                have hFr := uf hFr e1 hT_o (by decide) (by decide)
                have hFl8 := uf hFl8 e1 hT_o (by decide) (by decide)
                have hSlga := us e1
                exact W.vret hx hb hr (fun t ht h9 => ⟨⟨S_13, rfl, ⟨hTy, hFr, ⟨_, en1, _, _, ga, ga + 1, hSlga, by omega, by omega, by omega, by omega⟩⟩, by rw [ht]; exact hW.1, va_K.moved h9.alike hK, hW.2.1⟩, hW.2.2.F ht⟩) hW.2.2.2.2 dX6_next_230
              · refine lv_iconst (v := 2) hx hb dX6_next_212 (by decide) ?_
                refine lv_goto (tgt := 217) hx hb dX6_next_213 (by decide) ?_
                refine pl_put (ci := 6) (v := .int 2) (ty := .int) (C := RX6) (T := TX6) (N := 10) (fs' := [.int f, .int pl1, .ref rn, .ref rb, .ref rt, .int (nI en1), .int mt1, .int 2, .int (nI ga), .int (nI ga)]) hx hb hT iX6 tyX6 tyX6_ok nmX6 hown hK hW hT_o.1 hSlga rfl 7 (by decide) w150 rfl (by decide +kernel) rfl rfl (Nat.le_of_ble_eq_true rfl) rfl dX6_next_217 (fun H locs S_14 e1 hW => ?_)
                have hTy := hTy.u6 e1 hT_o ⟨f, pl1, rn, rb, rt, en1, mt1, 2, ga, ga, rfl, hT_rn, hT_rb, hT_rt, (by omega), (by omega), (by omega)⟩
                have hS_rt := un e1 hT_rt hT_o (by decide) hS_rt
                have hFr := uf hFr e1 hT_o (by decide) (by decide)
                have hFl8 := uf hFl8 e1 hT_o (by decide) (by decide)
                have hSlga := us e1
                refine lv_aload_n hx hb dX6_next_220 rfl (lv_at hl 0 rfl) ?_
                refine lv_dup hx hb dX6_next_221 rfl ?_
                refine pl_get (ci := 6) (v := .int (nI ga)) (C := RX6) (T := TX6) (N := 10) hx hb hT iX6 hown hK hW hT_o.1 hSlga rfl 9 (by decide) w152 rfl dX6_next_222 ?_
                refine lv_iconst (v := 1) hx hb dX6_next_225 (by decide) ?_
                refine lv_iadd hx hb dX6_next_226 ?_
                refine lv_topi (fun z_15 ez_15 => ?_)
                obtain rfl : z_15 = nI (ga + 1) := ez_15.trans (nI_add (ga) (1))
                refine pl_put (ci := 6) (v := .int (nI (ga + 1))) (ty := .int) (C := RX6) (T := TX6) (N := 10) (fs' := [.int f, .int pl1, .ref rn, .ref rb, .ref rt, .int (nI en1), .int mt1, .int 2, .int (nI ga), .int (nI (ga + 1))]) hx hb hT iX6 tyX6 tyX6_ok nmX6 hown hK hW hT_o.1 hSlga rfl 9 (by decide) w152 rfl (by decide +kernel) rfl rfl (Nat.le_of_ble_eq_true rfl) rfl dX6_next_227 (fun H locs S_16 e1 hW => ?_)
                have hTy := hTy.u6 e1 hT_o ⟨f, pl1, rn, rb, rt, en1, mt1, 2, ga, ga + 1, rfl, hT_rn, hT_rb, hT_rt, (by omega), (by omega), (by omega)⟩
                have hS_rt := un e1 hT_rt hT_o (by decide) hS_rt
                have hFr := uf hFr e1 hT_o (by decide) (by decide)
                have hFl8 := uf hFl8 e1 hT_o (by decide) (by decide)
                have hSlga := us e1
                exact W.vret hx hb hr (fun t ht h9 => ⟨⟨S_16, rfl, ⟨hTy, hFr, ⟨_, en1, _, _, ga, ga + 1, hSlga, by omega, by omega, by omega, by omega⟩⟩, by rw [ht]; exact hW.1, va_K.moved h9.alike hK, hW.2.1⟩, hW.2.2.F ht⟩) hW.2.2.2.2 dX6_next_230
            · refine lv_aload_n hx hb dX6_next_153 rfl (lv_at hl 0 rfl) ?_
              refine lv_iconst (v := 3) hx hb dX6_next_154 (by decide) ?_
              refine pl_put (ci := 6) (v := .int 3) (ty := .int) (C := RX6) (T := TX6) (N := 10) (fs' := [.int f, .int pl1, .ref rn, .ref rb, .ref rt, .int (nI en1), .int mt1, .int 3, .int (nI ga), .int (nI ga)]) hx hb hT iX6 tyX6 tyX6_ok nmX6 hown hK hW hT_o.1 hSlga rfl 7 (by decide) w150 rfl (by decide +kernel) rfl rfl (Nat.le_of_ble_eq_true rfl) rfl dX6_next_155 (fun H locs S_17 e1 hW => ?_)
              have hTy := hTy.u6 e1 hT_o ⟨f, pl1, rn, rb, rt, en1, mt1, 3, ga, ga, rfl, hT_rn, hT_rb, hT_rt, (by omega), (by omega), (by omega)⟩
              have hS_rt := un e1 hT_rt hT_o (by decide) hS_rt
              have hFr := uf hFr e1 hT_o (by decide) (by decide)
              have hFl8 := uf hFl8 e1 hT_o (by decide) (by decide)
              have hSlga := us e1
              have loop : ∀ (fuel : Nat) (gc : Nat) (SS : Nat → va_E) (H : Heap) (locs : List Loc) (ls : Array Slot), 901 - gc < fuel → (SS o = .inr (6, [.int f, .int pl1, .ref rn, .ref rb, .ref rt, .int (nI en1), .int mt1, .int 3, .int (nI ga), .int (nI gc)])) → (gc ≤ 900) → (ga ≤ gc) → Ty cy L kap pr SS → Fr kap [6] S SS → Fr kap [6] S_17 SS → PW dC dI L (AL L s.heap.size) s.heap SS H locs → lv_has ls 1 [(0, .ref o)] → W p l e (headSpec (wT yX6_next cX6_next 1 none) { frames := 6, cells := 0, slots := 0, locals := 127 }).room s m [.ref o].toArray below meth c H locs 0 0 (MQ below (va_Qv (fun S' => Ty cy L kap pr S' ∧ Fr kap [6] S S' ∧ (RK S' o f rn rb rt)) (fun S' t => pB dC dI (AL L s.heap.size) (va_pl L S') (cyT cy) t) (AL L s.heap.size)) [.ref o].toArray s 0 0 (AL L s.heap.size)) (F0 m 158 ls []) := by
                intro fuel
                induction fuel with
                | zero => intro gc SS H locs ls h; exact absurd h (Nat.not_lt_zero _)
                | succ fu158 ih158 =>
                  intro gc S_18 H locs ls hm158 hSlgc hxgc hygc hTy hFr hFl158 hW hl
                  have hS_rt := hFl158.at hT_rt (by decide) hS_rt
                  have hFl8 := hFl8.tr hFl158 (by decide)
                  refine lv_aload_n hx hb dX6_next_158 rfl (lv_at hl 0 rfl) ?_
                  refine pl_get (ci := 6) (v := .int (nI gc)) (C := RX6) (T := TX6) (N := 10) hx hb hT iX6 hown hK hW hT_o.1 hSlgc rfl 9 (by decide) w152 rfl dX6_next_159 ?_
                  refine lv_aload_n hx hb dX6_next_162 rfl (lv_at hl 0 rfl) ?_
                  refine pl_get (ci := 6) (v := .int (nI en1)) (C := RX6) (T := TX6) (N := 10) hx hb hT iX6 hown hK hW hT_o.1 hSlgc rfl 5 (by decide) w148 rfl dX6_next_163 ?_
                  refine lv_icmp_ge (tgt := 230) hx hb dX6_next_166 (by decide) (fun c_166 => ?_) (fun c_166 => ?_)
                  · have c_166 : en1 ≤ gc := (nI_leI (a := en1) (b := gc) (by omega) (by omega)).mp c_166
                    exact W.vret hx hb hr (fun t ht h9 => ⟨⟨S_18, rfl, ⟨hTy, hFr, ⟨_, en1, _, _, ga, gc, hSlgc, by omega, by omega, by omega, by omega⟩⟩, by rw [ht]; exact hW.1, va_K.moved h9.alike hK, hW.2.1⟩, hW.2.2.F ht⟩) hW.2.2.2.2 dX6_next_230
                  · have c_166 : ¬ (en1 ≤ gc) := fun hh9 => c_166 ((nI_leI (a := en1) (b := gc) (by omega) (by omega)).mpr hh9)
                    refine lv_aload_n hx hb dX6_next_169 rfl (lv_at hl 0 rfl) ?_
                    refine pl_get (ci := 6) (v := .ref rt) (C := RX6) (T := TX6) (N := 10) hx hb hT iX6 hown hK hW hT_o.1 hSlgc rfl 4 (by decide) w147 rfl dX6_next_170 ?_
                    refine lv_aload_n hx hb dX6_next_173 rfl (lv_at hl 0 rfl) ?_
                    refine pl_get (ci := 6) (v := .int (nI gc)) (C := RX6) (T := TX6) (N := 10) hx hb hT iX6 hown hK hW hT_o.1 hSlgc rfl 9 (by decide) w152 rfl dX6_next_174 ?_
                    refine pl_bald hx hb hK hW hT_rt.1 hS_rt (vp_in_nI (n := gc) (N := 900) (by omega) (by omega)) dX6_next_177 ?_
                    refine lv_topi (fun y_19 ey_19 => ?_)
                    refine vp_callSi (va_Run.run (va_runS (As := [.int y_19]) (rest := []) ⟨hx, hb, hml, hown, hT⟩ (r_isDigit l dC dI H.size y_19) (va_cwS 1 hT (gS w489 w490 w3 w491) rfl rfl rfl (by decide +kernel) ⟨(Nat.le_of_ble_eq_true rfl), (Nat.le_of_ble_eq_true rfl)⟩) ⟨pcW.blind, pcW.pre (va_P0 _ _ _) (hK.sub (tys' := []) [] rfl) (va_D0 (fun _ => True))⟩ rfl rfl hl.1 rfl (lv_room (Nat.le_of_ble_eq_true rfl)) dX6_next_178 ⟨(Nat.le_of_ble_eq_true rfl), (Nat.le_of_ble_eq_true rfl)⟩)) (fun r_20 hr_20 => ?_)
                    refine lv_if_eq (tgt := 230) hx hb dX6_next_181 (by decide) (fun c_181 => ?_) (fun c_181 => ?_)
                    · exact W.vret hx hb hr (fun t ht h9 => ⟨⟨S_18, rfl, ⟨hTy, hFr, ⟨_, en1, _, _, ga, gc, hSlgc, by omega, by omega, by omega, by omega⟩⟩, by rw [ht]; exact hW.1, va_K.moved h9.alike hK, hW.2.1⟩, hW.2.2.F ht⟩) hW.2.2.2.2 dX6_next_230
                    · refine lv_aload_n hx hb dX6_next_184 rfl (lv_at hl 0 rfl) ?_
                      refine lv_dup hx hb dX6_next_185 rfl ?_
                      refine pl_get (ci := 6) (v := .int (nI gc)) (C := RX6) (T := TX6) (N := 10) hx hb hT iX6 hown hK hW hT_o.1 hSlgc rfl 9 (by decide) w152 rfl dX6_next_186 ?_
                      refine lv_iconst (v := 1) hx hb dX6_next_189 (by decide) ?_
                      refine lv_iadd hx hb dX6_next_190 ?_
                      refine lv_topi (fun z_21 ez_21 => ?_)
                      obtain rfl : z_21 = nI (gc + 1) := ez_21.trans (nI_add (gc) (1))
                      refine pl_put (ci := 6) (v := .int (nI (gc + 1))) (ty := .int) (C := RX6) (T := TX6) (N := 10) (fs' := [.int f, .int pl1, .ref rn, .ref rb, .ref rt, .int (nI en1), .int mt1, .int 3, .int (nI ga), .int (nI (gc + 1))]) hx hb hT iX6 tyX6 tyX6_ok nmX6 hown hK hW hT_o.1 hSlgc rfl 9 (by decide) w152 rfl (by decide +kernel) rfl rfl (Nat.le_of_ble_eq_true rfl) rfl dX6_next_191 (fun H locs S_22 e1 hW => ?_)
                      have hTy := hTy.u6 e1 hT_o ⟨f, pl1, rn, rb, rt, en1, mt1, 3, ga, gc + 1, rfl, hT_rn, hT_rb, hT_rt, (by omega), (by omega), (by omega)⟩
                      have hS_rt := un e1 hT_rt hT_o (by decide) hS_rt
                      have hFr := uf hFr e1 hT_o (by decide) (by decide)
                      have hFl8 := uf hFl8 e1 hT_o (by decide) (by decide)
                      have hFl158 := uf hFl158 e1 hT_o (by decide) (by decide)
                      have hSlgc := us e1
                      refine lv_goto (tgt := 158) hx hb dX6_next_194 (by decide) ?_
                      exact ih158 (gc + 1) _ _ _ ls (by omega) hSlgc (by omega) (by omega) hTy hFr hFl158 hW (lv_sub hl [0] rfl)
              exact loop ((901 - ga) + 1) ga _ _ _ ls (Nat.lt_succ_self _) hSlga (by omega) (by omega) hTy hFr Fr.rf hW (lv_sub hl [0] rfl)
          · have loop : ∀ (fuel : Nat) (gb : Nat) (SS : Nat → va_E) (H : Heap) (locs : List Loc) (ls : Array Slot), 901 - gb < fuel → (SS o = .inr (6, [.int f, .int pl1, .ref rn, .ref rb, .ref rt, .int (nI en1), .int mt1, .int tk1, .int (nI ga), .int (nI gb)])) → (gb ≤ 900) → (ga ≤ gb) → Ty cy L kap pr SS → Fr kap [6] S SS → Fr kap [6] S_4 SS → PW dC dI L (AL L s.heap.size) s.heap SS H locs → lv_has ls 1 [(0, .ref o)] → W p l e (headSpec (wT yX6_next cX6_next 1 none) { frames := 6, cells := 0, slots := 0, locals := 127 }).room s m [.ref o].toArray below meth c H locs 0 0 (MQ below (va_Qv (fun S' => Ty cy L kap pr S' ∧ Fr kap [6] S S' ∧ (RK S' o f rn rb rt)) (fun S' t => pB dC dI (AL L s.heap.size) (va_pl L S') (cyT cy) t) (AL L s.heap.size)) [.ref o].toArray s 0 0 (AL L s.heap.size)) (F0 m 88 ls []) := by
              intro fuel
              induction fuel with
              | zero => intro gb SS H locs ls h; exact absurd h (Nat.not_lt_zero _)
              | succ fu88 ih88 =>
                intro gb S_23 H locs ls hm88 hSlgb hxgb hygb hTy hFr hFl88 hW hl
                have hS_rt := hFl88.at hT_rt (by decide) hS_rt
                have hFl8 := hFl8.tr hFl88 (by decide)
                refine lv_aload_n hx hb dX6_next_88 rfl (lv_at hl 0 rfl) ?_
                refine pl_get (ci := 6) (v := .int (nI gb)) (C := RX6) (T := TX6) (N := 10) hx hb hT iX6 hown hK hW hT_o.1 hSlgb rfl 9 (by decide) w152 rfl dX6_next_89 ?_
                refine lv_aload_n hx hb dX6_next_92 rfl (lv_at hl 0 rfl) ?_
                refine pl_get (ci := 6) (v := .int (nI en1)) (C := RX6) (T := TX6) (N := 10) hx hb hT iX6 hown hK hW hT_o.1 hSlgb rfl 5 (by decide) w148 rfl dX6_next_93 ?_
                refine lv_icmp_ge (tgt := 127) hx hb dX6_next_96 (by decide) (fun c_96 => ?_) (fun c_96 => ?_)
                · have c_96 : en1 ≤ gb := (nI_leI (a := en1) (b := gb) (by omega) (by omega)).mp c_96
                  refine lv_aload_n hx hb dX6_next_127 rfl (lv_at hl 0 rfl) ?_
                  refine lv_aload_n hx hb dX6_next_128 rfl (lv_at hl 0 rfl) ?_
                  refine vp_callSi (va_Run.run (va_runV (As := []) (rest := [.ref o]) ⟨hx, hb, hml, hown, hT⟩ (r_wordToken l dC dI cy L kap pr ad S_23 H.size o hTy hT_o f rn rb rt ⟨_, en1, _, _, ga, gb, hSlgb, by omega, by omega, by omega, by omega⟩) (cwV 0 hT (gV w427 w429 ws1 w3 w430) rfl rfl rfl (by decide +kernel) ⟨(Nat.le_of_ble_eq_true rfl), (Nat.le_of_ble_eq_true rfl)⟩) ⟨pcS.blind, pl_recv hK hW hT_o.1 hSlgb rfl, pcS.pre hW.1 hK hW.2.1 hN hSTR hW.2.2⟩ rfl rfl hl.1 rfl (lv_room (Nat.le_of_ble_eq_true rfl)) dX6_next_129 ⟨(Nat.le_of_ble_eq_true rfl), (Nat.le_of_ble_eq_true rfl)⟩)) (fun r_24 hr_24 => ?_)
                  refine pl_put (ci := 6) (v := .int r_24) (ty := .int) (C := RX6) (T := TX6) (N := 10) (fs' := [.int f, .int pl1, .ref rn, .ref rb, .ref rt, .int (nI en1), .int mt1, .int r_24, .int (nI ga), .int (nI gb)]) hx hb hT iX6 tyX6 tyX6_ok nmX6 hown hK hW hT_o.1 hSlgb rfl 7 (by decide) w150 rfl (by decide +kernel) rfl rfl (Nat.le_of_ble_eq_true rfl) rfl dX6_next_132 (fun H locs S_25 e1 hW => ?_)
                  have hTy := hTy.u6 e1 hT_o ⟨f, pl1, rn, rb, rt, en1, mt1, r_24, ga, gb, rfl, hT_rn, hT_rb, hT_rt, (by omega), (by omega), (by omega)⟩
                  have hS_rt := un e1 hT_rt hT_o (by decide) hS_rt
                  have hFr := uf hFr e1 hT_o (by decide) (by decide)
                  have hFl8 := uf hFl8 e1 hT_o (by decide) (by decide)
                  have hFl88 := uf hFl88 e1 hT_o (by decide) (by decide)
                  have hSlgb := us e1
                  refine lv_goto (tgt := 230) hx hb dX6_next_135 (by decide) ?_
                  exact W.vret hx hb hr (fun t ht h9 => ⟨⟨S_25, rfl, ⟨hTy, hFr, ⟨_, en1, _, _, ga, gb, hSlgb, by omega, by omega, by omega, by omega⟩⟩, by rw [ht]; exact hW.1, va_K.moved h9.alike hK, hW.2.1⟩, hW.2.2.F ht⟩) hW.2.2.2.2 dX6_next_230
                · have c_96 : ¬ (en1 ≤ gb) := fun hh9 => c_96 ((nI_leI (a := en1) (b := gb) (by omega) (by omega)).mpr hh9)
                  refine lv_aload_n hx hb dX6_next_99 rfl (lv_at hl 0 rfl) ?_
                  refine pl_get (ci := 6) (v := .ref rt) (C := RX6) (T := TX6) (N := 10) hx hb hT iX6 hown hK hW hT_o.1 hSlgb rfl 4 (by decide) w147 rfl dX6_next_100 ?_
                  refine lv_aload_n hx hb dX6_next_103 rfl (lv_at hl 0 rfl) ?_
                  refine pl_get (ci := 6) (v := .int (nI gb)) (C := RX6) (T := TX6) (N := 10) hx hb hT iX6 hown hK hW hT_o.1 hSlgb rfl 9 (by decide) w152 rfl dX6_next_104 ?_
                  refine pl_bald hx hb hK hW hT_rt.1 hS_rt (vp_in_nI (n := gb) (N := 900) (by omega) (by omega)) dX6_next_107 ?_
                  refine lv_topi (fun y_26 ey_26 => ?_)
                  refine vp_callSi (va_Run.run (va_runS (As := [.int y_26]) (rest := []) ⟨hx, hb, hml, hown, hT⟩ (r_isLetter l dC dI H.size y_26) (va_cwS 1 hT (gS w424 w425 w3 w426) rfl rfl rfl (by decide +kernel) ⟨(Nat.le_of_ble_eq_true rfl), (Nat.le_of_ble_eq_true rfl)⟩) ⟨pcW.blind, pcW.pre (va_P0 _ _ _) (hK.sub (tys' := []) [] rfl) (va_D0 (fun _ => True))⟩ rfl rfl hl.1 rfl (lv_room (Nat.le_of_ble_eq_true rfl)) dX6_next_108 ⟨(Nat.le_of_ble_eq_true rfl), (Nat.le_of_ble_eq_true rfl)⟩)) (fun r_27 hr_27 => ?_)
                  refine lv_if_eq (tgt := 127) hx hb dX6_next_111 (by decide) (fun c_111 => ?_) (fun c_111 => ?_)
                  · refine lv_aload_n hx hb dX6_next_127 rfl (lv_at hl 0 rfl) ?_
                    refine lv_aload_n hx hb dX6_next_128 rfl (lv_at hl 0 rfl) ?_
                    refine vp_callSi (va_Run.run (va_runV (As := []) (rest := [.ref o]) ⟨hx, hb, hml, hown, hT⟩ (r_wordToken l dC dI cy L kap pr ad S_23 H.size o hTy hT_o f rn rb rt ⟨_, en1, _, _, ga, gb, hSlgb, by omega, by omega, by omega, by omega⟩) (cwV 0 hT (gV w427 w429 ws1 w3 w430) rfl rfl rfl (by decide +kernel) ⟨(Nat.le_of_ble_eq_true rfl), (Nat.le_of_ble_eq_true rfl)⟩) ⟨pcS.blind, pl_recv hK hW hT_o.1 hSlgb rfl, pcS.pre hW.1 hK hW.2.1 hN hSTR hW.2.2⟩ rfl rfl hl.1 rfl (lv_room (Nat.le_of_ble_eq_true rfl)) dX6_next_129 ⟨(Nat.le_of_ble_eq_true rfl), (Nat.le_of_ble_eq_true rfl)⟩)) (fun r_28 hr_28 => ?_)
                    refine pl_put (ci := 6) (v := .int r_28) (ty := .int) (C := RX6) (T := TX6) (N := 10) (fs' := [.int f, .int pl1, .ref rn, .ref rb, .ref rt, .int (nI en1), .int mt1, .int r_28, .int (nI ga), .int (nI gb)]) hx hb hT iX6 tyX6 tyX6_ok nmX6 hown hK hW hT_o.1 hSlgb rfl 7 (by decide) w150 rfl (by decide +kernel) rfl rfl (Nat.le_of_ble_eq_true rfl) rfl dX6_next_132 (fun H locs S_29 e1 hW => ?_)
                    have hTy := hTy.u6 e1 hT_o ⟨f, pl1, rn, rb, rt, en1, mt1, r_28, ga, gb, rfl, hT_rn, hT_rb, hT_rt, (by omega), (by omega), (by omega)⟩
                    have hS_rt := un e1 hT_rt hT_o (by decide) hS_rt
                    have hFr := uf hFr e1 hT_o (by decide) (by decide)
                    have hFl8 := uf hFl8 e1 hT_o (by decide) (by decide)
                    have hFl88 := uf hFl88 e1 hT_o (by decide) (by decide)
                    have hSlgb := us e1
                    refine lv_goto (tgt := 230) hx hb dX6_next_135 (by decide) ?_
                    exact W.vret hx hb hr (fun t ht h9 => ⟨⟨S_29, rfl, ⟨hTy, hFr, ⟨_, en1, _, _, ga, gb, hSlgb, by omega, by omega, by omega, by omega⟩⟩, by rw [ht]; exact hW.1, va_K.moved h9.alike hK, hW.2.1⟩, hW.2.2.F ht⟩) hW.2.2.2.2 dX6_next_230
                  · refine lv_aload_n hx hb dX6_next_114 rfl (lv_at hl 0 rfl) ?_
                    refine lv_dup hx hb dX6_next_115 rfl ?_
                    refine pl_get (ci := 6) (v := .int (nI gb)) (C := RX6) (T := TX6) (N := 10) hx hb hT iX6 hown hK hW hT_o.1 hSlgb rfl 9 (by decide) w152 rfl dX6_next_116 ?_
                    refine lv_iconst (v := 1) hx hb dX6_next_119 (by decide) ?_
                    refine lv_iadd hx hb dX6_next_120 ?_
                    refine lv_topi (fun z_30 ez_30 => ?_)
                    obtain rfl : z_30 = nI (gb + 1) := ez_30.trans (nI_add (gb) (1))
                    refine pl_put (ci := 6) (v := .int (nI (gb + 1))) (ty := .int) (C := RX6) (T := TX6) (N := 10) (fs' := [.int f, .int pl1, .ref rn, .ref rb, .ref rt, .int (nI en1), .int mt1, .int tk1, .int (nI ga), .int (nI (gb + 1))]) hx hb hT iX6 tyX6 tyX6_ok nmX6 hown hK hW hT_o.1 hSlgb rfl 9 (by decide) w152 rfl (by decide +kernel) rfl rfl (Nat.le_of_ble_eq_true rfl) rfl dX6_next_121 (fun H locs S_31 e1 hW => ?_)
                    have hTy := hTy.u6 e1 hT_o ⟨f, pl1, rn, rb, rt, en1, mt1, tk1, ga, gb + 1, rfl, hT_rn, hT_rb, hT_rt, (by omega), (by omega), (by omega)⟩
                    have hS_rt := un e1 hT_rt hT_o (by decide) hS_rt
                    have hFr := uf hFr e1 hT_o (by decide) (by decide)
                    have hFl8 := uf hFl8 e1 hT_o (by decide) (by decide)
                    have hFl88 := uf hFl88 e1 hT_o (by decide) (by decide)
                    have hSlgb := us e1
                    refine lv_goto (tgt := 88) hx hb dX6_next_124 (by decide) ?_
                    exact ih88 (gb + 1) _ _ _ ls (by omega) hSlgb (by omega) (by omega) hTy hFr hFl88 hW (lv_sub hl [0] rfl)
            exact loop ((901 - ga) + 1) ga _ _ _ ls (Nat.lt_succ_self _) hSlga (by omega) (by omega) hTy hFr Fr.rf hW (lv_sub hl [0] rfl)
        · have c_62 : ¬ (ga < en1) := fun hh9 => c_62 ((nI_ltI (a := ga) (b := en1) (by omega) (by omega)).mpr hh9)
          refine lv_aload_n hx hb dX6_next_65 rfl (lv_at hl 0 rfl) ?_
          refine lv_iconst (v := 0) hx hb dX6_next_66 (by decide) ?_
          refine pl_put (ci := 6) (v := .int 0) (ty := .int) (C := RX6) (T := TX6) (N := 10) (fs' := [.int f, .int pl1, .ref rn, .ref rb, .ref rt, .int (nI en1), .int mt1, .int 0, .int (nI ga), .int (nI ga)]) hx hb hT iX6 tyX6 tyX6_ok nmX6 hown hK hW hT_o.1 hSlga rfl 7 (by decide) w150 rfl (by decide +kernel) rfl rfl (Nat.le_of_ble_eq_true rfl) rfl dX6_next_67 (fun H locs S_32 e1 hW => ?_)
          have hTy := hTy.u6 e1 hT_o ⟨f, pl1, rn, rb, rt, en1, mt1, 0, ga, ga, rfl, hT_rn, hT_rb, hT_rt, (by omega), (by omega), (by omega)⟩
          have hFr := uf hFr e1 hT_o (by decide) (by decide)
          have hFl8 := uf hFl8 e1 hT_o (by decide) (by decide)
          have hSlga := us e1
          refine lv_goto (tgt := 230) hx hb dX6_next_70 (by decide) ?_
          exact W.vret hx hb hr (fun t ht h9 => ⟨⟨S_32, rfl, ⟨hTy, hFr, ⟨_, en1, _, _, ga, ga, hSlga, by omega, by omega, by omega, by omega⟩⟩, by rw [ht]; exact hW.1, va_K.moved h9.alike hK, hW.2.1⟩, hW.2.2.F ht⟩) hW.2.2.2.2 dX6_next_230
      · have c_16 : ¬ (en1 ≤ ga) := fun hh9 => c_16 ((nI_leI (a := en1) (b := ga) (by omega) (by omega)).mpr hh9)
        refine lv_aload_n hx hb dX6_next_19 rfl (lv_at hl 0 rfl) ?_
        refine pl_get (ci := 6) (v := .ref rt) (C := RX6) (T := TX6) (N := 10) hx hb hT iX6 hown hK hW hT_o.1 hSlga rfl 4 (by decide) w147 rfl dX6_next_20 ?_
        refine lv_aload_n hx hb dX6_next_23 rfl (lv_at hl 0 rfl) ?_
        refine pl_get (ci := 6) (v := .int (nI ga)) (C := RX6) (T := TX6) (N := 10) hx hb hT iX6 hown hK hW hT_o.1 hSlga rfl 8 (by decide) w151 rfl dX6_next_24 ?_
        obtain ⟨f_33, hS_rt⟩ := hTy.k27 hT_rt
        refine pl_bald hx hb hK hW hT_rt.1 hS_rt (vp_in_nI (n := ga) (N := 900) (by omega) (by omega)) dX6_next_27 ?_
        refine lv_topi (fun y_34 ey_34 => ?_)
        refine lv_bipush (v := 32) hx hb dX6_next_28 (by decide) ?_
        refine lv_icmp_ne (tgt := 46) hx hb dX6_next_30 (by decide) (fun c_30 => ?_) (fun c_30 => ?_)
        · refine lv_aload_n hx hb dX6_next_46 rfl (lv_at hl 0 rfl) ?_
          refine lv_aload_n hx hb dX6_next_47 rfl (lv_at hl 0 rfl) ?_
          refine pl_get (ci := 6) (v := .int (nI ga)) (C := RX6) (T := TX6) (N := 10) hx hb hT iX6 hown hK hW hT_o.1 hSlga rfl 8 (by decide) w151 rfl dX6_next_48 ?_
          refine pl_put (ci := 6) (v := .int (nI ga)) (ty := .int) (C := RX6) (T := TX6) (N := 10) (fs' := [.int f, .int pl1, .ref rn, .ref rb, .ref rt, .int (nI en1), .int mt1, .int tk1, .int (nI ga), .int (nI ga)]) hx hb hT iX6 tyX6 tyX6_ok nmX6 hown hK hW hT_o.1 hSlga rfl 9 (by decide) w152 rfl (by decide +kernel) rfl rfl (Nat.le_of_ble_eq_true rfl) rfl dX6_next_51 (fun H locs S_35 e1 hW => ?_)
          have hTy := hTy.u6 e1 hT_o ⟨f, pl1, rn, rb, rt, en1, mt1, tk1, ga, ga, rfl, hT_rn, hT_rb, hT_rt, (by omega), (by omega), (by omega)⟩
          have hS_rt := un e1 hT_rt hT_o (by decide) hS_rt
          have hFr := uf hFr e1 hT_o (by decide) (by decide)
          have hFl8 := uf hFl8 e1 hT_o (by decide) (by decide)
          have hSlga := us e1
          refine lv_aload_n hx hb dX6_next_54 rfl (lv_at hl 0 rfl) ?_
          refine pl_get (ci := 6) (v := .int (nI ga)) (C := RX6) (T := TX6) (N := 10) hx hb hT iX6 hown hK hW hT_o.1 hSlga rfl 8 (by decide) w151 rfl dX6_next_55 ?_
          refine lv_aload_n hx hb dX6_next_58 rfl (lv_at hl 0 rfl) ?_
          refine pl_get (ci := 6) (v := .int (nI en1)) (C := RX6) (T := TX6) (N := 10) hx hb hT iX6 hown hK hW hT_o.1 hSlga rfl 5 (by decide) w148 rfl dX6_next_59 ?_
          refine lv_icmp_lt (tgt := 73) hx hb dX6_next_62 (by decide) (fun c_62 => ?_) (fun c_62 => ?_)
          · have c_62 : ga < en1 := (nI_ltI (a := ga) (b := en1) (by omega) (by omega)).mp c_62
            refine lv_aload_n hx hb dX6_next_73 rfl (lv_at hl 0 rfl) ?_
            refine pl_get (ci := 6) (v := .ref rt) (C := RX6) (T := TX6) (N := 10) hx hb hT iX6 hown hK hW hT_o.1 hSlga rfl 4 (by decide) w147 rfl dX6_next_74 ?_
            refine lv_aload_n hx hb dX6_next_77 rfl (lv_at hl 0 rfl) ?_
            refine pl_get (ci := 6) (v := .int (nI ga)) (C := RX6) (T := TX6) (N := 10) hx hb hT iX6 hown hK hW hT_o.1 hSlga rfl 8 (by decide) w151 rfl dX6_next_78 ?_
            refine pl_bald hx hb hK hW hT_rt.1 hS_rt (vp_in_nI (n := ga) (N := 900) (by omega) (by omega)) dX6_next_81 ?_
            refine lv_topi (fun y_36 ey_36 => ?_)
            refine vp_callSi (va_Run.run (va_runS (As := [.int y_36]) (rest := []) ⟨hx, hb, hml, hown, hT⟩ (r_isLetter l dC dI H.size y_36) (va_cwS 1 hT (gS w424 w425 w3 w426) rfl rfl rfl (by decide +kernel) ⟨(Nat.le_of_ble_eq_true rfl), (Nat.le_of_ble_eq_true rfl)⟩) ⟨pcW.blind, pcW.pre (va_P0 _ _ _) (hK.sub (tys' := []) [] rfl) (va_D0 (fun _ => True))⟩ rfl rfl hl.1 rfl (lv_room (Nat.le_of_ble_eq_true rfl)) dX6_next_82 ⟨(Nat.le_of_ble_eq_true rfl), (Nat.le_of_ble_eq_true rfl)⟩)) (fun r_37 hr_37 => ?_)
            refine lv_if_eq (tgt := 138) hx hb dX6_next_85 (by decide) (fun c_85 => ?_) (fun c_85 => ?_)
            · refine lv_aload_n hx hb dX6_next_138 rfl (lv_at hl 0 rfl) ?_
              refine pl_get (ci := 6) (v := .ref rt) (C := RX6) (T := TX6) (N := 10) hx hb hT iX6 hown hK hW hT_o.1 hSlga rfl 4 (by decide) w147 rfl dX6_next_139 ?_
              refine lv_aload_n hx hb dX6_next_142 rfl (lv_at hl 0 rfl) ?_
              refine pl_get (ci := 6) (v := .int (nI ga)) (C := RX6) (T := TX6) (N := 10) hx hb hT iX6 hown hK hW hT_o.1 hSlga rfl 8 (by decide) w151 rfl dX6_next_143 ?_
              refine pl_bald hx hb hK hW hT_rt.1 hS_rt (vp_in_nI (n := ga) (N := 900) (by omega) (by omega)) dX6_next_146 ?_
              refine lv_topi (fun y_38 ey_38 => ?_)
              refine vp_callSi (va_Run.run (va_runS (As := [.int y_38]) (rest := []) ⟨hx, hb, hml, hown, hT⟩ (r_isDigit l dC dI H.size y_38) (va_cwS 1 hT (gS w489 w490 w3 w491) rfl rfl rfl (by decide +kernel) ⟨(Nat.le_of_ble_eq_true rfl), (Nat.le_of_ble_eq_true rfl)⟩) ⟨pcW.blind, pcW.pre (va_P0 _ _ _) (hK.sub (tys' := []) [] rfl) (va_D0 (fun _ => True))⟩ rfl rfl hl.1 rfl (lv_room (Nat.le_of_ble_eq_true rfl)) dX6_next_147 ⟨(Nat.le_of_ble_eq_true rfl), (Nat.le_of_ble_eq_true rfl)⟩)) (fun r_39 hr_39 => ?_)
              refine lv_if_eq (tgt := 197) hx hb dX6_next_150 (by decide) (fun c_150 => ?_) (fun c_150 => ?_)
              · refine lv_aload_n hx hb dX6_next_197 rfl (lv_at hl 0 rfl) ?_
                refine lv_aload_n hx hb dX6_next_198 rfl (lv_at hl 0 rfl) ?_
                refine pl_get (ci := 6) (v := .ref rt) (C := RX6) (T := TX6) (N := 10) hx hb hT iX6 hown hK hW hT_o.1 hSlga rfl 4 (by decide) w147 rfl dX6_next_199 ?_
                refine lv_aload_n hx hb dX6_next_202 rfl (lv_at hl 0 rfl) ?_
                refine pl_get (ci := 6) (v := .int (nI ga)) (C := RX6) (T := TX6) (N := 10) hx hb hT iX6 hown hK hW hT_o.1 hSlga rfl 8 (by decide) w151 rfl dX6_next_203 ?_
                refine pl_bald hx hb hK hW hT_rt.1 hS_rt (vp_in_nI (n := ga) (N := 900) (by omega) (by omega)) dX6_next_206 ?_
                refine lv_topi (fun y_40 ey_40 => ?_)
                refine lv_bipush (v := 59) hx hb dX6_next_207 (by decide) ?_
                refine lv_icmp_ne (tgt := 216) hx hb dX6_next_209 (by decide) (fun c_209 => ?_) (fun c_209 => ?_)
                · refine lv_iconst (v := 1) hx hb dX6_next_216 (by decide) ?_
                  refine pl_put (ci := 6) (v := .int 1) (ty := .int) (C := RX6) (T := TX6) (N := 10) (fs' := [.int f, .int pl1, .ref rn, .ref rb, .ref rt, .int (nI en1), .int mt1, .int 1, .int (nI ga), .int (nI ga)]) hx hb hT iX6 tyX6 tyX6_ok nmX6 hown hK hW hT_o.1 hSlga rfl 7 (by decide) w150 rfl (by decide +kernel) rfl rfl (Nat.le_of_ble_eq_true rfl) rfl dX6_next_217 (fun H locs S_41 e1 hW => ?_)
                  have hTy := hTy.u6 e1 hT_o ⟨f, pl1, rn, rb, rt, en1, mt1, 1, ga, ga, rfl, hT_rn, hT_rb, hT_rt, (by omega), (by omega), (by omega)⟩
                  have hS_rt := un e1 hT_rt hT_o (by decide) hS_rt
                  have hFr := uf hFr e1 hT_o (by decide) (by decide)
                  have hFl8 := uf hFl8 e1 hT_o (by decide) (by decide)
                  have hSlga := us e1
                  refine lv_aload_n hx hb dX6_next_220 rfl (lv_at hl 0 rfl) ?_
                  refine lv_dup hx hb dX6_next_221 rfl ?_
                  refine pl_get (ci := 6) (v := .int (nI ga)) (C := RX6) (T := TX6) (N := 10) hx hb hT iX6 hown hK hW hT_o.1 hSlga rfl 9 (by decide) w152 rfl dX6_next_222 ?_
                  refine lv_iconst (v := 1) hx hb dX6_next_225 (by decide) ?_
                  refine lv_iadd hx hb dX6_next_226 ?_
                  refine lv_topi (fun z_42 ez_42 => ?_)
                  obtain rfl : z_42 = nI (ga + 1) := ez_42.trans (nI_add (ga) (1))
                  refine pl_put (ci := 6) (v := .int (nI (ga + 1))) (ty := .int) (C := RX6) (T := TX6) (N := 10) (fs' := [.int f, .int pl1, .ref rn, .ref rb, .ref rt, .int (nI en1), .int mt1, .int 1, .int (nI ga), .int (nI (ga + 1))]) hx hb hT iX6 tyX6 tyX6_ok nmX6 hown hK hW hT_o.1 hSlga rfl 9 (by decide) w152 rfl (by decide +kernel) rfl rfl (Nat.le_of_ble_eq_true rfl) rfl dX6_next_227 (fun H locs S_43 e1 hW => ?_)
                  have hTy := hTy.u6 e1 hT_o ⟨f, pl1, rn, rb, rt, en1, mt1, 1, ga, ga + 1, rfl, hT_rn, hT_rb, hT_rt, (by omega), (by omega), (by omega)⟩
                  have hS_rt := un e1 hT_rt hT_o (by decide) hS_rt
                  have hFr := uf hFr e1 hT_o (by decide) (by decide)
                  have hFl8 := uf hFl8 e1 hT_o (by decide) (by decide)
                  have hSlga := us e1
                  exact W.vret hx hb hr (fun t ht h9 => ⟨⟨S_43, rfl, ⟨hTy, hFr, ⟨_, en1, _, _, ga, ga + 1, hSlga, by omega, by omega, by omega, by omega⟩⟩, by rw [ht]; exact hW.1, va_K.moved h9.alike hK, hW.2.1⟩, hW.2.2.F ht⟩) hW.2.2.2.2 dX6_next_230
                · refine lv_iconst (v := 2) hx hb dX6_next_212 (by decide) ?_
                  refine lv_goto (tgt := 217) hx hb dX6_next_213 (by decide) ?_
                  refine pl_put (ci := 6) (v := .int 2) (ty := .int) (C := RX6) (T := TX6) (N := 10) (fs' := [.int f, .int pl1, .ref rn, .ref rb, .ref rt, .int (nI en1), .int mt1, .int 2, .int (nI ga), .int (nI ga)]) hx hb hT iX6 tyX6 tyX6_ok nmX6 hown hK hW hT_o.1 hSlga rfl 7 (by decide) w150 rfl (by decide +kernel) rfl rfl (Nat.le_of_ble_eq_true rfl) rfl dX6_next_217 (fun H locs S_44 e1 hW => ?_)
                  have hTy := hTy.u6 e1 hT_o ⟨f, pl1, rn, rb, rt, en1, mt1, 2, ga, ga, rfl, hT_rn, hT_rb, hT_rt, (by omega), (by omega), (by omega)⟩
                  have hS_rt := un e1 hT_rt hT_o (by decide) hS_rt
                  have hFr := uf hFr e1 hT_o (by decide) (by decide)
                  have hFl8 := uf hFl8 e1 hT_o (by decide) (by decide)
                  have hSlga := us e1
                  refine lv_aload_n hx hb dX6_next_220 rfl (lv_at hl 0 rfl) ?_
                  refine lv_dup hx hb dX6_next_221 rfl ?_
                  refine pl_get (ci := 6) (v := .int (nI ga)) (C := RX6) (T := TX6) (N := 10) hx hb hT iX6 hown hK hW hT_o.1 hSlga rfl 9 (by decide) w152 rfl dX6_next_222 ?_
                  refine lv_iconst (v := 1) hx hb dX6_next_225 (by decide) ?_
                  refine lv_iadd hx hb dX6_next_226 ?_
                  refine lv_topi (fun z_45 ez_45 => ?_)
                  obtain rfl : z_45 = nI (ga + 1) := ez_45.trans (nI_add (ga) (1))
                  refine pl_put (ci := 6) (v := .int (nI (ga + 1))) (ty := .int) (C := RX6) (T := TX6) (N := 10) (fs' := [.int f, .int pl1, .ref rn, .ref rb, .ref rt, .int (nI en1), .int mt1, .int 2, .int (nI ga), .int (nI (ga + 1))]) hx hb hT iX6 tyX6 tyX6_ok nmX6 hown hK hW hT_o.1 hSlga rfl 9 (by decide) w152 rfl (by decide +kernel) rfl rfl (Nat.le_of_ble_eq_true rfl) rfl dX6_next_227 (fun H locs S_46 e1 hW => ?_)
                  have hTy := hTy.u6 e1 hT_o ⟨f, pl1, rn, rb, rt, en1, mt1, 2, ga, ga + 1, rfl, hT_rn, hT_rb, hT_rt, (by omega), (by omega), (by omega)⟩
                  have hS_rt := un e1 hT_rt hT_o (by decide) hS_rt
                  have hFr := uf hFr e1 hT_o (by decide) (by decide)
                  have hFl8 := uf hFl8 e1 hT_o (by decide) (by decide)
                  have hSlga := us e1
                  exact W.vret hx hb hr (fun t ht h9 => ⟨⟨S_46, rfl, ⟨hTy, hFr, ⟨_, en1, _, _, ga, ga + 1, hSlga, by omega, by omega, by omega, by omega⟩⟩, by rw [ht]; exact hW.1, va_K.moved h9.alike hK, hW.2.1⟩, hW.2.2.F ht⟩) hW.2.2.2.2 dX6_next_230
              · refine lv_aload_n hx hb dX6_next_153 rfl (lv_at hl 0 rfl) ?_
                refine lv_iconst (v := 3) hx hb dX6_next_154 (by decide) ?_
                refine pl_put (ci := 6) (v := .int 3) (ty := .int) (C := RX6) (T := TX6) (N := 10) (fs' := [.int f, .int pl1, .ref rn, .ref rb, .ref rt, .int (nI en1), .int mt1, .int 3, .int (nI ga), .int (nI ga)]) hx hb hT iX6 tyX6 tyX6_ok nmX6 hown hK hW hT_o.1 hSlga rfl 7 (by decide) w150 rfl (by decide +kernel) rfl rfl (Nat.le_of_ble_eq_true rfl) rfl dX6_next_155 (fun H locs S_47 e1 hW => ?_)
                have hTy := hTy.u6 e1 hT_o ⟨f, pl1, rn, rb, rt, en1, mt1, 3, ga, ga, rfl, hT_rn, hT_rb, hT_rt, (by omega), (by omega), (by omega)⟩
                have hS_rt := un e1 hT_rt hT_o (by decide) hS_rt
                have hFr := uf hFr e1 hT_o (by decide) (by decide)
                have hFl8 := uf hFl8 e1 hT_o (by decide) (by decide)
                have hSlga := us e1
                have loop : ∀ (fuel : Nat) (gc : Nat) (SS : Nat → va_E) (H : Heap) (locs : List Loc) (ls : Array Slot), 901 - gc < fuel → (SS o = .inr (6, [.int f, .int pl1, .ref rn, .ref rb, .ref rt, .int (nI en1), .int mt1, .int 3, .int (nI ga), .int (nI gc)])) → (gc ≤ 900) → (ga ≤ gc) → Ty cy L kap pr SS → Fr kap [6] S SS → Fr kap [6] S_47 SS → PW dC dI L (AL L s.heap.size) s.heap SS H locs → lv_has ls 1 [(0, .ref o)] → W p l e (headSpec (wT yX6_next cX6_next 1 none) { frames := 6, cells := 0, slots := 0, locals := 127 }).room s m [.ref o].toArray below meth c H locs 0 0 (MQ below (va_Qv (fun S' => Ty cy L kap pr S' ∧ Fr kap [6] S S' ∧ (RK S' o f rn rb rt)) (fun S' t => pB dC dI (AL L s.heap.size) (va_pl L S') (cyT cy) t) (AL L s.heap.size)) [.ref o].toArray s 0 0 (AL L s.heap.size)) (F0 m 158 ls []) := by
                  intro fuel
                  induction fuel with
                  | zero => intro gc SS H locs ls h; exact absurd h (Nat.not_lt_zero _)
                  | succ fu158 ih158 =>
                    intro gc S_48 H locs ls hm158 hSlgc hxgc hygc hTy hFr hFl158 hW hl
                    have hS_rt := hFl158.at hT_rt (by decide) hS_rt
                    have hFl8 := hFl8.tr hFl158 (by decide)
                    refine lv_aload_n hx hb dX6_next_158 rfl (lv_at hl 0 rfl) ?_
                    refine pl_get (ci := 6) (v := .int (nI gc)) (C := RX6) (T := TX6) (N := 10) hx hb hT iX6 hown hK hW hT_o.1 hSlgc rfl 9 (by decide) w152 rfl dX6_next_159 ?_
                    refine lv_aload_n hx hb dX6_next_162 rfl (lv_at hl 0 rfl) ?_
                    refine pl_get (ci := 6) (v := .int (nI en1)) (C := RX6) (T := TX6) (N := 10) hx hb hT iX6 hown hK hW hT_o.1 hSlgc rfl 5 (by decide) w148 rfl dX6_next_163 ?_
                    refine lv_icmp_ge (tgt := 230) hx hb dX6_next_166 (by decide) (fun c_166 => ?_) (fun c_166 => ?_)
                    · have c_166 : en1 ≤ gc := (nI_leI (a := en1) (b := gc) (by omega) (by omega)).mp c_166
                      exact W.vret hx hb hr (fun t ht h9 => ⟨⟨S_48, rfl, ⟨hTy, hFr, ⟨_, en1, _, _, ga, gc, hSlgc, by omega, by omega, by omega, by omega⟩⟩, by rw [ht]; exact hW.1, va_K.moved h9.alike hK, hW.2.1⟩, hW.2.2.F ht⟩) hW.2.2.2.2 dX6_next_230
                    · have c_166 : ¬ (en1 ≤ gc) := fun hh9 => c_166 ((nI_leI (a := en1) (b := gc) (by omega) (by omega)).mpr hh9)
                      refine lv_aload_n hx hb dX6_next_169 rfl (lv_at hl 0 rfl) ?_
                      refine pl_get (ci := 6) (v := .ref rt) (C := RX6) (T := TX6) (N := 10) hx hb hT iX6 hown hK hW hT_o.1 hSlgc rfl 4 (by decide) w147 rfl dX6_next_170 ?_
                      refine lv_aload_n hx hb dX6_next_173 rfl (lv_at hl 0 rfl) ?_
                      refine pl_get (ci := 6) (v := .int (nI gc)) (C := RX6) (T := TX6) (N := 10) hx hb hT iX6 hown hK hW hT_o.1 hSlgc rfl 9 (by decide) w152 rfl dX6_next_174 ?_
                      refine pl_bald hx hb hK hW hT_rt.1 hS_rt (vp_in_nI (n := gc) (N := 900) (by omega) (by omega)) dX6_next_177 ?_
                      refine lv_topi (fun y_49 ey_49 => ?_)
                      refine vp_callSi (va_Run.run (va_runS (As := [.int y_49]) (rest := []) ⟨hx, hb, hml, hown, hT⟩ (r_isDigit l dC dI H.size y_49) (va_cwS 1 hT (gS w489 w490 w3 w491) rfl rfl rfl (by decide +kernel) ⟨(Nat.le_of_ble_eq_true rfl), (Nat.le_of_ble_eq_true rfl)⟩) ⟨pcW.blind, pcW.pre (va_P0 _ _ _) (hK.sub (tys' := []) [] rfl) (va_D0 (fun _ => True))⟩ rfl rfl hl.1 rfl (lv_room (Nat.le_of_ble_eq_true rfl)) dX6_next_178 ⟨(Nat.le_of_ble_eq_true rfl), (Nat.le_of_ble_eq_true rfl)⟩)) (fun r_50 hr_50 => ?_)
                      refine lv_if_eq (tgt := 230) hx hb dX6_next_181 (by decide) (fun c_181 => ?_) (fun c_181 => ?_)
                      · exact W.vret hx hb hr (fun t ht h9 => ⟨⟨S_48, rfl, ⟨hTy, hFr, ⟨_, en1, _, _, ga, gc, hSlgc, by omega, by omega, by omega, by omega⟩⟩, by rw [ht]; exact hW.1, va_K.moved h9.alike hK, hW.2.1⟩, hW.2.2.F ht⟩) hW.2.2.2.2 dX6_next_230
                      · refine lv_aload_n hx hb dX6_next_184 rfl (lv_at hl 0 rfl) ?_
                        refine lv_dup hx hb dX6_next_185 rfl ?_
                        refine pl_get (ci := 6) (v := .int (nI gc)) (C := RX6) (T := TX6) (N := 10) hx hb hT iX6 hown hK hW hT_o.1 hSlgc rfl 9 (by decide) w152 rfl dX6_next_186 ?_
                        refine lv_iconst (v := 1) hx hb dX6_next_189 (by decide) ?_
                        refine lv_iadd hx hb dX6_next_190 ?_
                        refine lv_topi (fun z_51 ez_51 => ?_)
                        obtain rfl : z_51 = nI (gc + 1) := ez_51.trans (nI_add (gc) (1))
                        refine pl_put (ci := 6) (v := .int (nI (gc + 1))) (ty := .int) (C := RX6) (T := TX6) (N := 10) (fs' := [.int f, .int pl1, .ref rn, .ref rb, .ref rt, .int (nI en1), .int mt1, .int 3, .int (nI ga), .int (nI (gc + 1))]) hx hb hT iX6 tyX6 tyX6_ok nmX6 hown hK hW hT_o.1 hSlgc rfl 9 (by decide) w152 rfl (by decide +kernel) rfl rfl (Nat.le_of_ble_eq_true rfl) rfl dX6_next_191 (fun H locs S_52 e1 hW => ?_)
                        have hTy := hTy.u6 e1 hT_o ⟨f, pl1, rn, rb, rt, en1, mt1, 3, ga, gc + 1, rfl, hT_rn, hT_rb, hT_rt, (by omega), (by omega), (by omega)⟩
                        have hS_rt := un e1 hT_rt hT_o (by decide) hS_rt
                        have hFr := uf hFr e1 hT_o (by decide) (by decide)
                        have hFl8 := uf hFl8 e1 hT_o (by decide) (by decide)
                        have hFl158 := uf hFl158 e1 hT_o (by decide) (by decide)
                        have hSlgc := us e1
                        refine lv_goto (tgt := 158) hx hb dX6_next_194 (by decide) ?_
                        exact ih158 (gc + 1) _ _ _ ls (by omega) hSlgc (by omega) (by omega) hTy hFr hFl158 hW (lv_sub hl [0] rfl)
                exact loop ((901 - ga) + 1) ga _ _ _ ls (Nat.lt_succ_self _) hSlga (by omega) (by omega) hTy hFr Fr.rf hW (lv_sub hl [0] rfl)
            · have loop : ∀ (fuel : Nat) (gb : Nat) (SS : Nat → va_E) (H : Heap) (locs : List Loc) (ls : Array Slot), 901 - gb < fuel → (SS o = .inr (6, [.int f, .int pl1, .ref rn, .ref rb, .ref rt, .int (nI en1), .int mt1, .int tk1, .int (nI ga), .int (nI gb)])) → (gb ≤ 900) → (ga ≤ gb) → Ty cy L kap pr SS → Fr kap [6] S SS → Fr kap [6] S_35 SS → PW dC dI L (AL L s.heap.size) s.heap SS H locs → lv_has ls 1 [(0, .ref o)] → W p l e (headSpec (wT yX6_next cX6_next 1 none) { frames := 6, cells := 0, slots := 0, locals := 127 }).room s m [.ref o].toArray below meth c H locs 0 0 (MQ below (va_Qv (fun S' => Ty cy L kap pr S' ∧ Fr kap [6] S S' ∧ (RK S' o f rn rb rt)) (fun S' t => pB dC dI (AL L s.heap.size) (va_pl L S') (cyT cy) t) (AL L s.heap.size)) [.ref o].toArray s 0 0 (AL L s.heap.size)) (F0 m 88 ls []) := by
                intro fuel
                induction fuel with
                | zero => intro gb SS H locs ls h; exact absurd h (Nat.not_lt_zero _)
                | succ fu88 ih88 =>
                  intro gb S_53 H locs ls hm88 hSlgb hxgb hygb hTy hFr hFl88 hW hl
                  have hS_rt := hFl88.at hT_rt (by decide) hS_rt
                  have hFl8 := hFl8.tr hFl88 (by decide)
                  refine lv_aload_n hx hb dX6_next_88 rfl (lv_at hl 0 rfl) ?_
                  refine pl_get (ci := 6) (v := .int (nI gb)) (C := RX6) (T := TX6) (N := 10) hx hb hT iX6 hown hK hW hT_o.1 hSlgb rfl 9 (by decide) w152 rfl dX6_next_89 ?_
                  refine lv_aload_n hx hb dX6_next_92 rfl (lv_at hl 0 rfl) ?_
                  refine pl_get (ci := 6) (v := .int (nI en1)) (C := RX6) (T := TX6) (N := 10) hx hb hT iX6 hown hK hW hT_o.1 hSlgb rfl 5 (by decide) w148 rfl dX6_next_93 ?_
                  refine lv_icmp_ge (tgt := 127) hx hb dX6_next_96 (by decide) (fun c_96 => ?_) (fun c_96 => ?_)
                  · have c_96 : en1 ≤ gb := (nI_leI (a := en1) (b := gb) (by omega) (by omega)).mp c_96
                    refine lv_aload_n hx hb dX6_next_127 rfl (lv_at hl 0 rfl) ?_
                    refine lv_aload_n hx hb dX6_next_128 rfl (lv_at hl 0 rfl) ?_
                    refine vp_callSi (va_Run.run (va_runV (As := []) (rest := [.ref o]) ⟨hx, hb, hml, hown, hT⟩ (r_wordToken l dC dI cy L kap pr ad S_53 H.size o hTy hT_o f rn rb rt ⟨_, en1, _, _, ga, gb, hSlgb, by omega, by omega, by omega, by omega⟩) (cwV 0 hT (gV w427 w429 ws1 w3 w430) rfl rfl rfl (by decide +kernel) ⟨(Nat.le_of_ble_eq_true rfl), (Nat.le_of_ble_eq_true rfl)⟩) ⟨pcS.blind, pl_recv hK hW hT_o.1 hSlgb rfl, pcS.pre hW.1 hK hW.2.1 hN hSTR hW.2.2⟩ rfl rfl hl.1 rfl (lv_room (Nat.le_of_ble_eq_true rfl)) dX6_next_129 ⟨(Nat.le_of_ble_eq_true rfl), (Nat.le_of_ble_eq_true rfl)⟩)) (fun r_54 hr_54 => ?_)
                    refine pl_put (ci := 6) (v := .int r_54) (ty := .int) (C := RX6) (T := TX6) (N := 10) (fs' := [.int f, .int pl1, .ref rn, .ref rb, .ref rt, .int (nI en1), .int mt1, .int r_54, .int (nI ga), .int (nI gb)]) hx hb hT iX6 tyX6 tyX6_ok nmX6 hown hK hW hT_o.1 hSlgb rfl 7 (by decide) w150 rfl (by decide +kernel) rfl rfl (Nat.le_of_ble_eq_true rfl) rfl dX6_next_132 (fun H locs S_55 e1 hW => ?_)
                    have hTy := hTy.u6 e1 hT_o ⟨f, pl1, rn, rb, rt, en1, mt1, r_54, ga, gb, rfl, hT_rn, hT_rb, hT_rt, (by omega), (by omega), (by omega)⟩
                    have hS_rt := un e1 hT_rt hT_o (by decide) hS_rt
                    have hFr := uf hFr e1 hT_o (by decide) (by decide)
                    have hFl8 := uf hFl8 e1 hT_o (by decide) (by decide)
                    have hFl88 := uf hFl88 e1 hT_o (by decide) (by decide)
                    have hSlgb := us e1
                    refine lv_goto (tgt := 230) hx hb dX6_next_135 (by decide) ?_
                    exact W.vret hx hb hr (fun t ht h9 => ⟨⟨S_55, rfl, ⟨hTy, hFr, ⟨_, en1, _, _, ga, gb, hSlgb, by omega, by omega, by omega, by omega⟩⟩, by rw [ht]; exact hW.1, va_K.moved h9.alike hK, hW.2.1⟩, hW.2.2.F ht⟩) hW.2.2.2.2 dX6_next_230
                  · have c_96 : ¬ (en1 ≤ gb) := fun hh9 => c_96 ((nI_leI (a := en1) (b := gb) (by omega) (by omega)).mpr hh9)
                    refine lv_aload_n hx hb dX6_next_99 rfl (lv_at hl 0 rfl) ?_
                    refine pl_get (ci := 6) (v := .ref rt) (C := RX6) (T := TX6) (N := 10) hx hb hT iX6 hown hK hW hT_o.1 hSlgb rfl 4 (by decide) w147 rfl dX6_next_100 ?_
                    refine lv_aload_n hx hb dX6_next_103 rfl (lv_at hl 0 rfl) ?_
                    refine pl_get (ci := 6) (v := .int (nI gb)) (C := RX6) (T := TX6) (N := 10) hx hb hT iX6 hown hK hW hT_o.1 hSlgb rfl 9 (by decide) w152 rfl dX6_next_104 ?_
                    refine pl_bald hx hb hK hW hT_rt.1 hS_rt (vp_in_nI (n := gb) (N := 900) (by omega) (by omega)) dX6_next_107 ?_
                    refine lv_topi (fun y_56 ey_56 => ?_)
                    refine vp_callSi (va_Run.run (va_runS (As := [.int y_56]) (rest := []) ⟨hx, hb, hml, hown, hT⟩ (r_isLetter l dC dI H.size y_56) (va_cwS 1 hT (gS w424 w425 w3 w426) rfl rfl rfl (by decide +kernel) ⟨(Nat.le_of_ble_eq_true rfl), (Nat.le_of_ble_eq_true rfl)⟩) ⟨pcW.blind, pcW.pre (va_P0 _ _ _) (hK.sub (tys' := []) [] rfl) (va_D0 (fun _ => True))⟩ rfl rfl hl.1 rfl (lv_room (Nat.le_of_ble_eq_true rfl)) dX6_next_108 ⟨(Nat.le_of_ble_eq_true rfl), (Nat.le_of_ble_eq_true rfl)⟩)) (fun r_57 hr_57 => ?_)
                    refine lv_if_eq (tgt := 127) hx hb dX6_next_111 (by decide) (fun c_111 => ?_) (fun c_111 => ?_)
                    · refine lv_aload_n hx hb dX6_next_127 rfl (lv_at hl 0 rfl) ?_
                      refine lv_aload_n hx hb dX6_next_128 rfl (lv_at hl 0 rfl) ?_
                      refine vp_callSi (va_Run.run (va_runV (As := []) (rest := [.ref o]) ⟨hx, hb, hml, hown, hT⟩ (r_wordToken l dC dI cy L kap pr ad S_53 H.size o hTy hT_o f rn rb rt ⟨_, en1, _, _, ga, gb, hSlgb, by omega, by omega, by omega, by omega⟩) (cwV 0 hT (gV w427 w429 ws1 w3 w430) rfl rfl rfl (by decide +kernel) ⟨(Nat.le_of_ble_eq_true rfl), (Nat.le_of_ble_eq_true rfl)⟩) ⟨pcS.blind, pl_recv hK hW hT_o.1 hSlgb rfl, pcS.pre hW.1 hK hW.2.1 hN hSTR hW.2.2⟩ rfl rfl hl.1 rfl (lv_room (Nat.le_of_ble_eq_true rfl)) dX6_next_129 ⟨(Nat.le_of_ble_eq_true rfl), (Nat.le_of_ble_eq_true rfl)⟩)) (fun r_58 hr_58 => ?_)
                      refine pl_put (ci := 6) (v := .int r_58) (ty := .int) (C := RX6) (T := TX6) (N := 10) (fs' := [.int f, .int pl1, .ref rn, .ref rb, .ref rt, .int (nI en1), .int mt1, .int r_58, .int (nI ga), .int (nI gb)]) hx hb hT iX6 tyX6 tyX6_ok nmX6 hown hK hW hT_o.1 hSlgb rfl 7 (by decide) w150 rfl (by decide +kernel) rfl rfl (Nat.le_of_ble_eq_true rfl) rfl dX6_next_132 (fun H locs S_59 e1 hW => ?_)
                      have hTy := hTy.u6 e1 hT_o ⟨f, pl1, rn, rb, rt, en1, mt1, r_58, ga, gb, rfl, hT_rn, hT_rb, hT_rt, (by omega), (by omega), (by omega)⟩
                      have hS_rt := un e1 hT_rt hT_o (by decide) hS_rt
                      have hFr := uf hFr e1 hT_o (by decide) (by decide)
                      have hFl8 := uf hFl8 e1 hT_o (by decide) (by decide)
                      have hFl88 := uf hFl88 e1 hT_o (by decide) (by decide)
                      have hSlgb := us e1
                      refine lv_goto (tgt := 230) hx hb dX6_next_135 (by decide) ?_
                      exact W.vret hx hb hr (fun t ht h9 => ⟨⟨S_59, rfl, ⟨hTy, hFr, ⟨_, en1, _, _, ga, gb, hSlgb, by omega, by omega, by omega, by omega⟩⟩, by rw [ht]; exact hW.1, va_K.moved h9.alike hK, hW.2.1⟩, hW.2.2.F ht⟩) hW.2.2.2.2 dX6_next_230
                    · refine lv_aload_n hx hb dX6_next_114 rfl (lv_at hl 0 rfl) ?_
                      refine lv_dup hx hb dX6_next_115 rfl ?_
                      refine pl_get (ci := 6) (v := .int (nI gb)) (C := RX6) (T := TX6) (N := 10) hx hb hT iX6 hown hK hW hT_o.1 hSlgb rfl 9 (by decide) w152 rfl dX6_next_116 ?_
                      refine lv_iconst (v := 1) hx hb dX6_next_119 (by decide) ?_
                      refine lv_iadd hx hb dX6_next_120 ?_
                      refine lv_topi (fun z_60 ez_60 => ?_)
                      obtain rfl : z_60 = nI (gb + 1) := ez_60.trans (nI_add (gb) (1))
                      refine pl_put (ci := 6) (v := .int (nI (gb + 1))) (ty := .int) (C := RX6) (T := TX6) (N := 10) (fs' := [.int f, .int pl1, .ref rn, .ref rb, .ref rt, .int (nI en1), .int mt1, .int tk1, .int (nI ga), .int (nI (gb + 1))]) hx hb hT iX6 tyX6 tyX6_ok nmX6 hown hK hW hT_o.1 hSlgb rfl 9 (by decide) w152 rfl (by decide +kernel) rfl rfl (Nat.le_of_ble_eq_true rfl) rfl dX6_next_121 (fun H locs S_61 e1 hW => ?_)
                      have hTy := hTy.u6 e1 hT_o ⟨f, pl1, rn, rb, rt, en1, mt1, tk1, ga, gb + 1, rfl, hT_rn, hT_rb, hT_rt, (by omega), (by omega), (by omega)⟩
                      have hS_rt := un e1 hT_rt hT_o (by decide) hS_rt
                      have hFr := uf hFr e1 hT_o (by decide) (by decide)
                      have hFl8 := uf hFl8 e1 hT_o (by decide) (by decide)
                      have hFl88 := uf hFl88 e1 hT_o (by decide) (by decide)
                      have hSlgb := us e1
                      refine lv_goto (tgt := 88) hx hb dX6_next_124 (by decide) ?_
                      exact ih88 (gb + 1) _ _ _ ls (by omega) hSlgb (by omega) (by omega) hTy hFr hFl88 hW (lv_sub hl [0] rfl)
              exact loop ((901 - ga) + 1) ga _ _ _ ls (Nat.lt_succ_self _) hSlga (by omega) (by omega) hTy hFr Fr.rf hW (lv_sub hl [0] rfl)
          · have c_62 : ¬ (ga < en1) := fun hh9 => c_62 ((nI_ltI (a := ga) (b := en1) (by omega) (by omega)).mpr hh9)
            refine lv_aload_n hx hb dX6_next_65 rfl (lv_at hl 0 rfl) ?_
            refine lv_iconst (v := 0) hx hb dX6_next_66 (by decide) ?_
            refine pl_put (ci := 6) (v := .int 0) (ty := .int) (C := RX6) (T := TX6) (N := 10) (fs' := [.int f, .int pl1, .ref rn, .ref rb, .ref rt, .int (nI en1), .int mt1, .int 0, .int (nI ga), .int (nI ga)]) hx hb hT iX6 tyX6 tyX6_ok nmX6 hown hK hW hT_o.1 hSlga rfl 7 (by decide) w150 rfl (by decide +kernel) rfl rfl (Nat.le_of_ble_eq_true rfl) rfl dX6_next_67 (fun H locs S_62 e1 hW => ?_)
            have hTy := hTy.u6 e1 hT_o ⟨f, pl1, rn, rb, rt, en1, mt1, 0, ga, ga, rfl, hT_rn, hT_rb, hT_rt, (by omega), (by omega), (by omega)⟩
            have hS_rt := un e1 hT_rt hT_o (by decide) hS_rt
            have hFr := uf hFr e1 hT_o (by decide) (by decide)
            have hFl8 := uf hFl8 e1 hT_o (by decide) (by decide)
            have hSlga := us e1
            refine lv_goto (tgt := 230) hx hb dX6_next_70 (by decide) ?_
            exact W.vret hx hb hr (fun t ht h9 => ⟨⟨S_62, rfl, ⟨hTy, hFr, ⟨_, en1, _, _, ga, ga, hSlga, by omega, by omega, by omega, by omega⟩⟩, by rw [ht]; exact hW.1, va_K.moved h9.alike hK, hW.2.1⟩, hW.2.2.F ht⟩) hW.2.2.2.2 dX6_next_230
        · refine lv_aload_n hx hb dX6_next_33 rfl (lv_at hl 0 rfl) ?_
          refine lv_dup hx hb dX6_next_34 rfl ?_
          refine pl_get (ci := 6) (v := .int (nI ga)) (C := RX6) (T := TX6) (N := 10) hx hb hT iX6 hown hK hW hT_o.1 hSlga rfl 8 (by decide) w151 rfl dX6_next_35 ?_
          refine lv_iconst (v := 1) hx hb dX6_next_38 (by decide) ?_
          refine lv_iadd hx hb dX6_next_39 ?_
          refine lv_topi (fun z_63 ez_63 => ?_)
          obtain rfl : z_63 = nI (ga + 1) := ez_63.trans (nI_add (ga) (1))
          refine pl_put (ci := 6) (v := .int (nI (ga + 1))) (ty := .int) (C := RX6) (T := TX6) (N := 10) (fs' := [.int f, .int pl1, .ref rn, .ref rb, .ref rt, .int (nI en1), .int mt1, .int tk1, .int (nI (ga + 1)), .int (nI te1)]) hx hb hT iX6 tyX6 tyX6_ok nmX6 hown hK hW hT_o.1 hSlga rfl 8 (by decide) w151 rfl (by decide +kernel) rfl rfl (Nat.le_of_ble_eq_true rfl) rfl dX6_next_40 (fun H locs S_64 e1 hW => ?_)
          have hTy := hTy.u6 e1 hT_o ⟨f, pl1, rn, rb, rt, en1, mt1, tk1, ga + 1, te1, rfl, hT_rn, hT_rb, hT_rt, (by omega), (by omega), (by omega)⟩
          have hS_rt := un e1 hT_rt hT_o (by decide) hS_rt
          have hFr := uf hFr e1 hT_o (by decide) (by decide)
          have hFl8 := uf hFl8 e1 hT_o (by decide) (by decide)
          have hSlga := us e1
          refine lv_goto (tgt := 8) hx hb dX6_next_43 (by decide) ?_
          exact ih8 (ga + 1) _ _ _ ls (by omega) hSlga (by omega) hTy hFr hFl8 hW (lv_sub hl [0] rfl)
  exact loop ((901 - te1) + 1) te1 _ _ _ ls (Nat.lt_succ_self _) hS_o (by omega) hTy hFr Fr.rf hW (lv_sub hl [0] rfl)

set_option maxHeartbeats 4000000 in
set_option maxRecDepth 100000 in
theorem r_partyHere (l : Launch) (dC : Nat → ClassId) (dI : Nat → Nat → Nat) (cy : Nat → ClassId) (L : List Nat) (kap : Nat → Nat) (pr : Pr) (S : Nat → va_E) (sz : Nat) (o : Nat) (hTy : Ty cy L kap pr S) (hT_o : TK L kap o 6) (f : Int32) (rn : Nat) (rb : Nat) (rt : Nat) (hR : RK S o f rn rb rt) : Met l yX6_partyHere (wT yX6_partyHere cX6_partyHere 1 (some .int)) ({ frames := 2, cells := 0, slots := 0, locals := 51 }) (pcN dC dI [.ref o] sz (va_pl L S) (cyT cy) NLs []) (vp_Si (fun r => r = -1 ∨ ∃ k, k < 8 ∧ r = nI k)) 0 0 (fun _ => False) := by
  refine Met.ofW (cc := cX6_partyHere) (maxL := 1) (ret := (some .int)) (by decide) rfl ?_
  intro p e s m args below meth c s₁ B hml hv
  obtain ⟨rfl, hsz, hP, hK, hD0, hN, -⟩ := hv
  have hx := B.exec
  have hb := B.bytes
  have hr := B.returns
  have hT : ∀ wd ∈ TB, wd.before [.ref o].toArray s = true := fun wd h => atoms_spec (ws := wT yX6_partyHere cX6_partyHere 1 (some .int)) B.pre wd (List.mem_cons_of_mem _ h)
  have hown : s.vm.findClass RX6 = some m.cls := findClass_of_methodNamed B.named
  have hlocks := B.notSynchronized
  subst hsz
  have hW : PW dC dI L (AL L s.heap.size) s.heap S s.heap [] := ⟨hP, pl_self hD0, va_S.rf⟩
  have hFr : Fr kap [] S S := Fr.rf
  have hl := lv_entry ([.ref o]) (n := 1) (Nat.le_of_ble_eq_true rfl)
  rw [lg_entry_eq]
  generalize (lg_sl ([.ref o]) ++ List.replicate (1 - (lg_sl ([.ref o])).length) Slot.unset).toArray = ls at hl ⊢
  have hl : lv_has ls 1 [(0, .ref o)] := hl
  obtain ⟨pl1, en1, mt1, tk1, ta1, te1, hS_o, hT_rn, hT_rb, hT_rt, hen1, hte1, hta1, hab1⟩ := RKk hTy hT_o hR
  refine lv_aload_n hx hb dX6_partyHere_0 rfl (lv_at hl 0 rfl) ?_
  refine pl_get (ci := 6) (v := .ref rn) (C := RX6) (T := TX6) (N := 10) hx hb hT iX6 hown hK hW hT_o.1 hS_o rfl 2 (by decide) w143 rfl dX6_partyHere_1 ?_
  refine lv_iconst (v := 0) hx hb dX6_partyHere_4 (by decide) ?_
  refine lv_aload_n hx hb dX6_partyHere_5 rfl (lv_at hl 0 rfl) ?_
  refine pl_get (ci := 6) (v := .ref rn) (C := RX6) (T := TX6) (N := 10) hx hb hT iX6 hown hK hW hT_o.1 hS_o rfl 2 (by decide) w143 rfl dX6_partyHere_6 ?_
  obtain ⟨x_2, x_3, x_4, x_5, hS_rn, hT_x_2, hT_x_3, hb_x_4, hb_x_5⟩ := hTy.k3 hT_rn
  refine pl_get (ci := 3) (v := .int (nI x_4)) (C := RX3) (T := TX3) (N := 4) hx hb hT iX3 hown hK hW hT_rn.1 hS_rn rfl 2 (by decide) w63 rfl dX6_partyHere_9 ?_
  refine lv_aload_n hx hb dX6_partyHere_12 rfl (lv_at hl 0 rfl) ?_
  refine pl_get (ci := 6) (v := .ref rt) (C := RX6) (T := TX6) (N := 10) hx hb hT iX6 hown hK hW hT_o.1 hS_o rfl 4 (by decide) w147 rfl dX6_partyHere_13 ?_
  refine lv_aload_n hx hb dX6_partyHere_16 rfl (lv_at hl 0 rfl) ?_
  refine pl_get (ci := 6) (v := .int (nI ta1)) (C := RX6) (T := TX6) (N := 10) hx hb hT iX6 hown hK hW hT_o.1 hS_o rfl 8 (by decide) w151 rfl dX6_partyHere_17 ?_
  refine lv_aload_n hx hb dX6_partyHere_20 rfl (lv_at hl 0 rfl) ?_
  refine pl_get (ci := 6) (v := .int (nI te1)) (C := RX6) (T := TX6) (N := 10) hx hb hT iX6 hown hK hW hT_o.1 hS_o rfl 9 (by decide) w152 rfl dX6_partyHere_21 ?_
  refine lv_aload_n hx hb dX6_partyHere_24 rfl (lv_at hl 0 rfl) ?_
  refine pl_get (ci := 6) (v := .int (nI ta1)) (C := RX6) (T := TX6) (N := 10) hx hb hT iX6 hown hK hW hT_o.1 hS_o rfl 8 (by decide) w151 rfl dX6_partyHere_25 ?_
  refine lv_isub hx hb dX6_partyHere_28 ?_
  refine lv_topi (fun z_6 ez_6 => ?_)
  obtain rfl : z_6 = nI (te1 - ta1) := ez_6.trans (pk_sub (a := te1) (b := ta1) (by omega))
  refine vp_callSi (va_Run.run (va_runV (As := [.int 0, .int (nI x_4), .ref rt, .int (nI ta1), .int (nI (te1 - ta1))]) (rest := []) ⟨hx, hb, hml, hown, hT⟩ (s_find l dC dI cy L kap pr S s.heap.size rn 0 x_4 rt ta1 (te1 - ta1) hTy hT_rn (by omega) (by omega) hT_rt (by omega) (by omega)) (cwV 5 hT (gV w512 w513 w514 w4 w515) rfl rfl rfl (by decide +kernel) ⟨(Nat.le_of_ble_eq_true rfl), (Nat.le_of_ble_eq_true rfl)⟩) ⟨pcN.blind, pl_recv hK hW hT_rn.1 hS_rn rfl, pcN.pre hW.1 hK hW.2.1 hN (fun q h => absurd h List.not_mem_nil)⟩ rfl rfl hl.1 rfl (lv_room (Nat.le_of_ble_eq_true rfl)) dX6_partyHere_29 ⟨(Nat.le_of_ble_eq_true rfl), (Nat.le_of_ble_eq_true rfl)⟩)) (fun r_7 hr_7 => ?_)
  exact W.iret (v := r_7) hx hb hr (fun t ht h9 => ⟨r_7, rfl, (hereb hr_7 (by omega)), ht⟩) (fun q h => by cases h) dX6_partyHere_32

set_option maxHeartbeats 4000000 in
set_option maxRecDepth 100000 in
theorem r_kindHere (l : Launch) (dC : Nat → ClassId) (dI : Nat → Nat → Nat) (cy : Nat → ClassId) (L : List Nat) (kap : Nat → Nat) (pr : Pr) (S : Nat → va_E) (sz : Nat) (o : Nat) (hTy : Ty cy L kap pr S) (hT_o : TK L kap o 6) (f : Int32) (rn : Nat) (rb : Nat) (rt : Nat) (hR : RK S o f rn rb rt) : Met l yX6_kindHere (wT yX6_kindHere cX6_kindHere 1 (some .int)) ({ frames := 2, cells := 0, slots := 0, locals := 51 }) (pcN dC dI [.ref o] sz (va_pl L S) (cyT cy) NLs []) (vp_Si (fun r => r = -1 ∨ ∃ k, k < 4 ∧ r = nI k)) 0 0 (fun _ => False) := by
  refine Met.ofW (cc := cX6_kindHere) (maxL := 1) (ret := (some .int)) (by decide) rfl ?_
  intro p e s m args below meth c s₁ B hml hv
  obtain ⟨rfl, hsz, hP, hK, hD0, hN, -⟩ := hv
  have hx := B.exec
  have hb := B.bytes
  have hr := B.returns
  have hT : ∀ wd ∈ TB, wd.before [.ref o].toArray s = true := fun wd h => atoms_spec (ws := wT yX6_kindHere cX6_kindHere 1 (some .int)) B.pre wd (List.mem_cons_of_mem _ h)
  have hown : s.vm.findClass RX6 = some m.cls := findClass_of_methodNamed B.named
  have hlocks := B.notSynchronized
  subst hsz
  have hW : PW dC dI L (AL L s.heap.size) s.heap S s.heap [] := ⟨hP, pl_self hD0, va_S.rf⟩
  have hFr : Fr kap [] S S := Fr.rf
  have hl := lv_entry ([.ref o]) (n := 1) (Nat.le_of_ble_eq_true rfl)
  rw [lg_entry_eq]
  generalize (lg_sl ([.ref o]) ++ List.replicate (1 - (lg_sl ([.ref o])).length) Slot.unset).toArray = ls at hl ⊢
  have hl : lv_has ls 1 [(0, .ref o)] := hl
  obtain ⟨pl1, en1, mt1, tk1, ta1, te1, hS_o, hT_rn, hT_rb, hT_rt, hen1, hte1, hta1, hab1⟩ := RKk hTy hT_o hR
  refine lv_aload_n hx hb dX6_kindHere_0 rfl (lv_at hl 0 rfl) ?_
  refine pl_get (ci := 6) (v := .ref rn) (C := RX6) (T := TX6) (N := 10) hx hb hT iX6 hown hK hW hT_o.1 hS_o rfl 2 (by decide) w143 rfl dX6_kindHere_1 ?_
  refine lv_bipush (v := 8) hx hb dX6_kindHere_4 (by decide) ?_
  refine lv_aload_n hx hb dX6_kindHere_6 rfl (lv_at hl 0 rfl) ?_
  refine pl_get (ci := 6) (v := .ref rn) (C := RX6) (T := TX6) (N := 10) hx hb hT iX6 hown hK hW hT_o.1 hS_o rfl 2 (by decide) w143 rfl dX6_kindHere_7 ?_
  obtain ⟨x_2, x_3, x_4, x_5, hS_rn, hT_x_2, hT_x_3, hb_x_4, hb_x_5⟩ := hTy.k3 hT_rn
  refine pl_get (ci := 3) (v := .int (nI x_5)) (C := RX3) (T := TX3) (N := 4) hx hb hT iX3 hown hK hW hT_rn.1 hS_rn rfl 3 (by decide) w66 rfl dX6_kindHere_10 ?_
  refine lv_aload_n hx hb dX6_kindHere_13 rfl (lv_at hl 0 rfl) ?_
  refine pl_get (ci := 6) (v := .ref rt) (C := RX6) (T := TX6) (N := 10) hx hb hT iX6 hown hK hW hT_o.1 hS_o rfl 4 (by decide) w147 rfl dX6_kindHere_14 ?_
  refine lv_aload_n hx hb dX6_kindHere_17 rfl (lv_at hl 0 rfl) ?_
  refine pl_get (ci := 6) (v := .int (nI ta1)) (C := RX6) (T := TX6) (N := 10) hx hb hT iX6 hown hK hW hT_o.1 hS_o rfl 8 (by decide) w151 rfl dX6_kindHere_18 ?_
  refine lv_aload_n hx hb dX6_kindHere_21 rfl (lv_at hl 0 rfl) ?_
  refine pl_get (ci := 6) (v := .int (nI te1)) (C := RX6) (T := TX6) (N := 10) hx hb hT iX6 hown hK hW hT_o.1 hS_o rfl 9 (by decide) w152 rfl dX6_kindHere_22 ?_
  refine lv_aload_n hx hb dX6_kindHere_25 rfl (lv_at hl 0 rfl) ?_
  refine pl_get (ci := 6) (v := .int (nI ta1)) (C := RX6) (T := TX6) (N := 10) hx hb hT iX6 hown hK hW hT_o.1 hS_o rfl 8 (by decide) w151 rfl dX6_kindHere_26 ?_
  refine lv_isub hx hb dX6_kindHere_29 ?_
  refine lv_topi (fun z_6 ez_6 => ?_)
  obtain rfl : z_6 = nI (te1 - ta1) := ez_6.trans (pk_sub (a := te1) (b := ta1) (by omega))
  refine vp_callSi (va_Run.run (va_runV (As := [.int 8, .int (nI x_5), .ref rt, .int (nI ta1), .int (nI (te1 - ta1))]) (rest := []) ⟨hx, hb, hml, hown, hT⟩ (s_find l dC dI cy L kap pr S s.heap.size rn 8 x_5 rt ta1 (te1 - ta1) hTy hT_rn (by omega) (by omega) hT_rt (by omega) (by omega)) (cwV 5 hT (gV w512 w513 w514 w4 w515) rfl rfl rfl (by decide +kernel) ⟨(Nat.le_of_ble_eq_true rfl), (Nat.le_of_ble_eq_true rfl)⟩) ⟨pcN.blind, pl_recv hK hW hT_rn.1 hS_rn rfl, pcN.pre hW.1 hK hW.2.1 hN (fun q h => absurd h List.not_mem_nil)⟩ rfl rfl hl.1 rfl (lv_room (Nat.le_of_ble_eq_true rfl)) dX6_kindHere_30 ⟨(Nat.le_of_ble_eq_true rfl), (Nat.le_of_ble_eq_true rfl)⟩)) (fun r_7 hr_7 => ?_)
  exact W.iret (v := r_7) hx hb hr (fun t ht h9 => ⟨r_7, rfl, (hereb hr_7 (by omega)), ht⟩) (fun q h => by cases h) dX6_kindHere_33

set_option maxHeartbeats 4000000 in
set_option maxRecDepth 100000 in
theorem r_checkNewName (l : Launch) (dC : Nat → ClassId) (dI : Nat → Nat → Nat) (cy : Nat → ClassId) (L : List Nat) (kap : Nat → Nat) (pr : Pr) (S : Nat → va_E) (sz : Nat) (o : Nat) (hTy : Ty cy L kap pr S) (hT_o : TK L kap o 6) (f : Int32) (rn : Nat) (rb : Nat) (rt : Nat) (hR : RK S o f rn rb rt) : Met l yX6_checkNewName (wT yX6_checkNewName cX6_checkNewName 1 none) ({ frames := 3, cells := 0, slots := 0, locals := 71 }) (pcN dC dI [.ref o] sz (va_pl L S) (cyT cy) NLs []) (va_Qv (fun S' => Ty cy L kap pr S' ∧ Fr kap [6] S S' ∧ (∃ f', RK S' o f' rn rb rt ∧ (f ≠ 0 → f' ≠ 0))) (fun S' t => pB dC dI (AL L sz) (va_pl L S') (cyT cy) t) (AL L sz)) 0 0 (AL L sz) := by
  refine Met.ofW (cc := cX6_checkNewName) (maxL := 1) (ret := none) (by decide) rfl ?_
  intro p e s m args below meth c s₁ B hml hv
  obtain ⟨rfl, hsz, hP, hK, hD0, hN, -⟩ := hv
  have hx := B.exec
  have hb := B.bytes
  have hr := B.returns
  have hT : ∀ wd ∈ TB, wd.before [.ref o].toArray s = true := fun wd h => atoms_spec (ws := wT yX6_checkNewName cX6_checkNewName 1 none) B.pre wd (List.mem_cons_of_mem _ h)
  have hown : s.vm.findClass RX6 = some m.cls := findClass_of_methodNamed B.named
  have hlocks := B.notSynchronized
  subst hsz
  have hW : PW dC dI L (AL L s.heap.size) s.heap S s.heap [] := ⟨hP, pl_self hD0, va_S.rf⟩
  have hA0 : ∀ q, q ∈ L → AL L s.heap.size q := fun _ h => Or.inl h
  have hA : ∀ q, s.heap.size ≤ q → AL L s.heap.size q := fun _ h => Or.inr h
  have hFr : Fr kap [6] S S := Fr.rf
  have hl := lv_entry ([.ref o]) (n := 1) (Nat.le_of_ble_eq_true rfl)
  rw [lg_entry_eq]
  generalize (lg_sl ([.ref o]) ++ List.replicate (1 - (lg_sl ([.ref o])).length) Slot.unset).toArray = ls at hl ⊢
  have hl : lv_has ls 1 [(0, .ref o)] := hl
  obtain ⟨pl1, en1, mt1, tk1, ta1, te1, hS_o, hT_rn, hT_rb, hT_rt, hen1, hte1, hta1, hab1⟩ := RKk hTy hT_o hR
  refine lv_aload_n hx hb dX6_checkNewName_0 rfl (lv_at hl 0 rfl) ?_
  refine pl_get (ci := 6) (v := .int tk1) (C := RX6) (T := TX6) (N := 10) hx hb hT iX6 hown hK hW hT_o.1 hS_o rfl 7 (by decide) w150 rfl dX6_checkNewName_1 ?_
  refine lv_iconst (v := 4) hx hb dX6_checkNewName_4 (by decide) ?_
  refine lv_icmp_eq (tgt := 16) hx hb dX6_checkNewName_5 (by decide) (fun c_5 => ?_) (fun c_5 => ?_)
  · refine lv_aload_n hx hb dX6_checkNewName_16 rfl (lv_at hl 0 rfl) ?_
    refine vp_callSi (va_Run.run (va_runV (As := []) (rest := []) ⟨hx, hb, hml, hown, hT⟩ (r_partyHere l dC dI cy L kap pr S s.heap.size o hTy hT_o f rn rb rt ⟨_, en1, _, _, ta1, te1, hS_o, by omega, by omega, by omega, by omega⟩) (cwV 0 hT (gV w508 w510 ws7 w3 w511) rfl rfl rfl (by decide +kernel) ⟨(Nat.le_of_ble_eq_true rfl), (Nat.le_of_ble_eq_true rfl)⟩) ⟨pcN.blind, pl_recv hK hW hT_o.1 hS_o rfl, pcN.pre hW.1 hK hW.2.1 hN (fun q h => absurd h List.not_mem_nil)⟩ rfl rfl hl.1 rfl (lv_room (Nat.le_of_ble_eq_true rfl)) dX6_checkNewName_17 ⟨(Nat.le_of_ble_eq_true rfl), (Nat.le_of_ble_eq_true rfl)⟩)) (fun r_2 hr_2 => ?_)
    refine lv_iconst (v := (-1)) hx hb dX6_checkNewName_20 (by decide) ?_
    refine lv_icmp_ne (tgt := 32) hx hb dX6_checkNewName_21 (by decide) (fun c_21 => ?_) (fun c_21 => ?_)
    · refine lv_aload_n hx hb dX6_checkNewName_32 rfl (lv_at hl 0 rfl) ?_
      refine lv_iconst (v := 3) hx hb dX6_checkNewName_33 (by decide) ?_
      refine pl_callv (va_runV (As := [.int 3]) (rest := []) ⟨hx, hb, hml, hown, hT⟩ (r_fail l dC dI cy L kap pr S s.heap.size o 3 hTy hT_o f rn rb rt ⟨_, en1, _, _, ta1, te1, hS_o, by omega, by omega, by omega, by omega⟩ (by decide)) (cwV 1 hT (gV w500 w502 ws5 w3 w503) rfl rfl rfl (by decide +kernel) ⟨(Nat.le_of_ble_eq_true rfl), (Nat.le_of_ble_eq_true rfl)⟩) ⟨pcN.blind, pl_recv hK hW hT_o.1 hS_o rfl, pcN.pre hW.1 hK hW.2.1 hN (fun q h => absurd h List.not_mem_nil)⟩ rfl rfl hl.1 rfl (lv_room (Nat.le_of_ble_eq_true rfl)) dX6_checkNewName_34 ⟨(Nat.le_of_ble_eq_true rfl), (Nat.le_of_ble_eq_true rfl)⟩) hW hA0 hA (fun S_3 H locs hrel hW => ?_)
      obtain ⟨hTy, hF1, hx1⟩ := hrel
      have hFr := hFr.tr hF1 (by decide)
      obtain ⟨f4, hR4, hf4⟩ := hx1
      obtain ⟨pl5, en5, mt5, tk5, ta5, te5, hS_o, hT_rn, hT_rb, hT_rt, hen5, hte5, hta5, hab5⟩ := RKk hTy hT_o hR4
      exact W.vret hx hb hr (fun t ht h9 => ⟨⟨S_3, rfl, ⟨hTy, hFr, ⟨_, ⟨_, en5, _, _, ta5, te5, hS_o, by omega, by omega, by omega, by omega⟩, (fun h => (fun _ => hf4) ((fun h => h) h))⟩⟩, by rw [ht]; exact hW.1, va_K.moved h9.alike hK, hW.2.1⟩, hW.2.2.F ht⟩) hW.2.2.2.2 dX6_checkNewName_37
    · refine lv_aload_n hx hb dX6_checkNewName_24 rfl (lv_at hl 0 rfl) ?_
      refine vp_callSi (va_Run.run (va_runV (As := []) (rest := []) ⟨hx, hb, hml, hown, hT⟩ (r_kindHere l dC dI cy L kap pr S s.heap.size o hTy hT_o f rn rb rt ⟨_, en1, _, _, ta1, te1, hS_o, by omega, by omega, by omega, by omega⟩) (cwV 0 hT (gV w520 w522 ws9 w3 w523) rfl rfl rfl (by decide +kernel) ⟨(Nat.le_of_ble_eq_true rfl), (Nat.le_of_ble_eq_true rfl)⟩) ⟨pcN.blind, pl_recv hK hW hT_o.1 hS_o rfl, pcN.pre hW.1 hK hW.2.1 hN (fun q h => absurd h List.not_mem_nil)⟩ rfl rfl hl.1 rfl (lv_room (Nat.le_of_ble_eq_true rfl)) dX6_checkNewName_25 ⟨(Nat.le_of_ble_eq_true rfl), (Nat.le_of_ble_eq_true rfl)⟩)) (fun r_6 hr_6 => ?_)
      refine lv_iconst (v := (-1)) hx hb dX6_checkNewName_28 (by decide) ?_
      refine lv_icmp_eq (tgt := 37) hx hb dX6_checkNewName_29 (by decide) (fun c_29 => ?_) (fun c_29 => ?_)
      · exact W.vret hx hb hr (fun t ht h9 => ⟨⟨S, rfl, ⟨hTy, hFr, ⟨_, ⟨_, en1, _, _, ta1, te1, hS_o, by omega, by omega, by omega, by omega⟩, (fun h => h)⟩⟩, by rw [ht]; exact hW.1, va_K.moved h9.alike hK, hW.2.1⟩, hW.2.2.F ht⟩) hW.2.2.2.2 dX6_checkNewName_37
      · refine lv_aload_n hx hb dX6_checkNewName_32 rfl (lv_at hl 0 rfl) ?_
        refine lv_iconst (v := 3) hx hb dX6_checkNewName_33 (by decide) ?_
        refine pl_callv (va_runV (As := [.int 3]) (rest := []) ⟨hx, hb, hml, hown, hT⟩ (r_fail l dC dI cy L kap pr S s.heap.size o 3 hTy hT_o f rn rb rt ⟨_, en1, _, _, ta1, te1, hS_o, by omega, by omega, by omega, by omega⟩ (by decide)) (cwV 1 hT (gV w500 w502 ws5 w3 w503) rfl rfl rfl (by decide +kernel) ⟨(Nat.le_of_ble_eq_true rfl), (Nat.le_of_ble_eq_true rfl)⟩) ⟨pcN.blind, pl_recv hK hW hT_o.1 hS_o rfl, pcN.pre hW.1 hK hW.2.1 hN (fun q h => absurd h List.not_mem_nil)⟩ rfl rfl hl.1 rfl (lv_room (Nat.le_of_ble_eq_true rfl)) dX6_checkNewName_34 ⟨(Nat.le_of_ble_eq_true rfl), (Nat.le_of_ble_eq_true rfl)⟩) hW hA0 hA (fun S_7 H locs hrel hW => ?_)
        obtain ⟨hTy, hF1, hx1⟩ := hrel
        have hFr := hFr.tr hF1 (by decide)
        obtain ⟨f8, hR8, hf8⟩ := hx1
        obtain ⟨pl9, en9, mt9, tk9, ta9, te9, hS_o, hT_rn, hT_rb, hT_rt, hen9, hte9, hta9, hab9⟩ := RKk hTy hT_o hR8
        exact W.vret hx hb hr (fun t ht h9 => ⟨⟨S_7, rfl, ⟨hTy, hFr, ⟨_, ⟨_, en9, _, _, ta9, te9, hS_o, by omega, by omega, by omega, by omega⟩, (fun h => (fun _ => hf8) ((fun h => h) h))⟩⟩, by rw [ht]; exact hW.1, va_K.moved h9.alike hK, hW.2.1⟩, hW.2.2.F ht⟩) hW.2.2.2.2 dX6_checkNewName_37
  · refine lv_aload_n hx hb dX6_checkNewName_8 rfl (lv_at hl 0 rfl) ?_
    refine lv_iconst (v := 1) hx hb dX6_checkNewName_9 (by decide) ?_
    refine pl_callv (va_runV (As := [.int 1]) (rest := []) ⟨hx, hb, hml, hown, hT⟩ (r_fail l dC dI cy L kap pr S s.heap.size o 1 hTy hT_o f rn rb rt ⟨_, en1, _, _, ta1, te1, hS_o, by omega, by omega, by omega, by omega⟩ (by decide)) (cwV 1 hT (gV w500 w502 ws5 w3 w503) rfl rfl rfl (by decide +kernel) ⟨(Nat.le_of_ble_eq_true rfl), (Nat.le_of_ble_eq_true rfl)⟩) ⟨pcN.blind, pl_recv hK hW hT_o.1 hS_o rfl, pcN.pre hW.1 hK hW.2.1 hN (fun q h => absurd h List.not_mem_nil)⟩ rfl rfl hl.1 rfl (lv_room (Nat.le_of_ble_eq_true rfl)) dX6_checkNewName_10 ⟨(Nat.le_of_ble_eq_true rfl), (Nat.le_of_ble_eq_true rfl)⟩) hW hA0 hA (fun S_10 H locs hrel hW => ?_)
    obtain ⟨hTy, hF1, hx1⟩ := hrel
    have hFr := hFr.tr hF1 (by decide)
    obtain ⟨f11, hR11, hf11⟩ := hx1
    obtain ⟨pl12, en12, mt12, tk12, ta12, te12, hS_o, hT_rn, hT_rb, hT_rt, hen12, hte12, hta12, hab12⟩ := RKk hTy hT_o hR11
    refine lv_goto (tgt := 37) hx hb dX6_checkNewName_13 (by decide) ?_
    exact W.vret hx hb hr (fun t ht h9 => ⟨⟨S_10, rfl, ⟨hTy, hFr, ⟨_, ⟨_, en12, _, _, ta12, te12, hS_o, by omega, by omega, by omega, by omega⟩, (fun h => (fun _ => hf11) ((fun h => h) h))⟩⟩, by rw [ht]; exact hW.1, va_K.moved h9.alike hK, hW.2.1⟩, hW.2.2.F ht⟩) hW.2.2.2.2 dX6_checkNewName_37

set_option maxHeartbeats 4000000 in
set_option maxRecDepth 100000 in
theorem r_failIfSame (l : Launch) (dC : Nat → ClassId) (dI : Nat → Nat → Nat) (cy : Nat → ClassId) (L : List Nat) (kap : Nat → Nat) (pr : Pr) (S : Nat → va_E) (sz : Nat) (o : Nat) (gi : Int32) (ta : Int32) (hTy : Ty cy L kap pr S) (hT_o : TK L kap o 6) (f : Int32) (rn : Nat) (rb : Nat) (rt : Nat) (hR : RK S o f rn rb rt) : Met l yX6_failIfSame (wT yX6_failIfSame cX6_failIfSame 3 none) ({ frames := 1, cells := 0, slots := 0, locals := 21 }) (pcN dC dI [.ref o, .int gi, .int ta] sz (va_pl L S) (cyT cy) NLs []) (va_Qv (fun S' => Ty cy L kap pr S' ∧ Fr kap [6] S S' ∧ (∃ f', RK S' o f' rn rb rt ∧ (f ≠ 0 → f' ≠ 0))) (fun S' t => pB dC dI (AL L sz) (va_pl L S') (cyT cy) t) (AL L sz)) 0 0 (AL L sz) := by
  refine Met.ofW (cc := cX6_failIfSame) (maxL := 3) (ret := none) (by decide) rfl ?_
  intro p e s m args below meth c s₁ B hml hv
  obtain ⟨rfl, hsz, hP, hK, hD0, hN, -⟩ := hv
  have hx := B.exec
  have hb := B.bytes
  have hr := B.returns
  have hT : ∀ wd ∈ TB, wd.before [.ref o, .int gi, .int ta].toArray s = true := fun wd h => atoms_spec (ws := wT yX6_failIfSame cX6_failIfSame 3 none) B.pre wd (List.mem_cons_of_mem _ h)
  have hown : s.vm.findClass RX6 = some m.cls := findClass_of_methodNamed B.named
  have hlocks := B.notSynchronized
  subst hsz
  have hW : PW dC dI L (AL L s.heap.size) s.heap S s.heap [] := ⟨hP, pl_self hD0, va_S.rf⟩
  have hA0 : ∀ q, q ∈ L → AL L s.heap.size q := fun _ h => Or.inl h
  have hA : ∀ q, s.heap.size ≤ q → AL L s.heap.size q := fun _ h => Or.inr h
  have hFr : Fr kap [6] S S := Fr.rf
  have hl := lv_entry ([.ref o, .int gi, .int ta]) (n := 3) (Nat.le_of_ble_eq_true rfl)
  rw [lg_entry_eq]
  generalize (lg_sl ([.ref o, .int gi, .int ta]) ++ List.replicate (3 - (lg_sl ([.ref o, .int gi, .int ta])).length) Slot.unset).toArray = ls at hl ⊢
  have hl : lv_has ls 3 [(0, .ref o), (1, .int gi), (2, .int ta)] := hl
  obtain ⟨pl1, en1, mt1, tk1, ta1, te1, hS_o, hT_rn, hT_rb, hT_rt, hen1, hte1, hta1, hab1⟩ := RKk hTy hT_o hR
  refine lv_iload_n hx hb dX6_failIfSame_0 rfl (lv_at hl 1 rfl) ?_
  refine lv_iload_n hx hb dX6_failIfSame_1 rfl (lv_at hl 2 rfl) ?_
  refine lv_icmp_ne (tgt := 10) hx hb dX6_failIfSame_2 (by decide) (fun c_2 => ?_) (fun c_2 => ?_)
  · exact W.vret hx hb hr (fun t ht h9 => ⟨⟨S, rfl, ⟨hTy, hFr, ⟨_, ⟨_, en1, _, _, ta1, te1, hS_o, by omega, by omega, by omega, by omega⟩, (fun h => h)⟩⟩, by rw [ht]; exact hW.1, va_K.moved h9.alike hK, hW.2.1⟩, hW.2.2.F ht⟩) hW.2.2.2.2 dX6_failIfSame_10
  · refine lv_aload_n hx hb dX6_failIfSame_5 rfl (lv_at hl 0 rfl) ?_
    refine lv_iconst (v := 5) hx hb dX6_failIfSame_6 (by decide) ?_
    refine pl_callv (va_runV (As := [.int 5]) (rest := []) ⟨hx, hb, hml, hown, hT⟩ (r_fail l dC dI cy L kap pr S s.heap.size o 5 hTy hT_o f rn rb rt ⟨_, en1, _, _, ta1, te1, hS_o, by omega, by omega, by omega, by omega⟩ (by decide)) (cwV 1 hT (gV w500 w502 ws5 w3 w503) rfl rfl rfl (by decide +kernel) ⟨(Nat.le_of_ble_eq_true rfl), (Nat.le_of_ble_eq_true rfl)⟩) ⟨pcN.blind, pl_recv hK hW hT_o.1 hS_o rfl, pcN.pre hW.1 hK hW.2.1 hN (fun q h => absurd h List.not_mem_nil)⟩ rfl rfl hl.1 rfl (lv_room (Nat.le_of_ble_eq_true rfl)) dX6_failIfSame_7 ⟨(Nat.le_of_ble_eq_true rfl), (Nat.le_of_ble_eq_true rfl)⟩) hW hA0 hA (fun S_2 H locs hrel hW => ?_)
    obtain ⟨hTy, hF1, hx1⟩ := hrel
    have hFr := hFr.tr hF1 (by decide)
    obtain ⟨f3, hR3, hf3⟩ := hx1
    obtain ⟨pl4, en4, mt4, tk4, ta4, te4, hS_o, hT_rn, hT_rb, hT_rt, hen4, hte4, hta4, hab4⟩ := RKk hTy hT_o hR3
    exact W.vret hx hb hr (fun t ht h9 => ⟨⟨S_2, rfl, ⟨hTy, hFr, ⟨_, ⟨_, en4, _, _, ta4, te4, hS_o, by omega, by omega, by omega, by omega⟩, (fun h => (fun _ => hf3) ((fun h => h) h))⟩⟩, by rw [ht]; exact hW.1, va_K.moved h9.alike hK, hW.2.1⟩, hW.2.2.F ht⟩) hW.2.2.2.2 dX6_failIfSame_10

set_option maxHeartbeats 4000000 in
set_option maxRecDepth 100000 in
theorem r_knownParty (l : Launch) (dC : Nat → ClassId) (dI : Nat → Nat → Nat) (cy : Nat → ClassId) (L : List Nat) (kap : Nat → Nat) (pr : Pr) (S : Nat → va_E) (sz : Nat) (o : Nat) (hTy : Ty cy L kap pr S) (hT_o : TK L kap o 6) (f : Int32) (rn : Nat) (rb : Nat) (rt : Nat) (hR : RK S o f rn rb rt) : Met l yX6_knownParty (wT yX6_knownParty cX6_knownParty 2 (some .int)) ({ frames := 3, cells := 0, slots := 0, locals := 71 }) (pcN dC dI [.ref o] sz (va_pl L S) (cyT cy) NLs []) (va_Qi (fun r S' => Ty cy L kap pr S' ∧ Fr kap [6] S S' ∧ (∃ f', RK S' o f' rn rb rt ∧ (f ≠ 0 → f' ≠ 0) ∧ (f' ≠ 0 ∨ ∃ k, k < 8 ∧ r = nI k))) (fun S' t => pB dC dI (AL L sz) (va_pl L S') (cyT cy) t) (AL L sz)) 0 0 (AL L sz) := by
  refine Met.ofW (cc := cX6_knownParty) (maxL := 2) (ret := (some .int)) (by decide) rfl ?_
  intro p e s m args below meth c s₁ B hml hv
  obtain ⟨rfl, hsz, hP, hK, hD0, hN, -⟩ := hv
  have hx := B.exec
  have hb := B.bytes
  have hr := B.returns
  have hT : ∀ wd ∈ TB, wd.before [.ref o].toArray s = true := fun wd h => atoms_spec (ws := wT yX6_knownParty cX6_knownParty 2 (some .int)) B.pre wd (List.mem_cons_of_mem _ h)
  have hown : s.vm.findClass RX6 = some m.cls := findClass_of_methodNamed B.named
  have hlocks := B.notSynchronized
  subst hsz
  have hW : PW dC dI L (AL L s.heap.size) s.heap S s.heap [] := ⟨hP, pl_self hD0, va_S.rf⟩
  have hA0 : ∀ q, q ∈ L → AL L s.heap.size q := fun _ h => Or.inl h
  have hA : ∀ q, s.heap.size ≤ q → AL L s.heap.size q := fun _ h => Or.inr h
  have hFr : Fr kap [6] S S := Fr.rf
  have hl := lv_entry ([.ref o]) (n := 2) (Nat.le_of_ble_eq_true rfl)
  rw [lg_entry_eq]
  generalize (lg_sl ([.ref o]) ++ List.replicate (2 - (lg_sl ([.ref o])).length) Slot.unset).toArray = ls at hl ⊢
  have hl : lv_has ls 2 [(0, .ref o)] := hl
  obtain ⟨pl1, en1, mt1, tk1, ta1, te1, hS_o, hT_rn, hT_rb, hT_rt, hen1, hte1, hta1, hab1⟩ := RKk hTy hT_o hR
  refine lv_aload_n hx hb dX6_knownParty_0 rfl (lv_at hl 0 rfl) ?_
  refine pl_get (ci := 6) (v := .int tk1) (C := RX6) (T := TX6) (N := 10) hx hb hT iX6 hown hK hW hT_o.1 hS_o rfl 7 (by decide) w150 rfl dX6_knownParty_1 ?_
  refine lv_iconst (v := 4) hx hb dX6_knownParty_4 (by decide) ?_
  refine lv_icmp_eq (tgt := 15) hx hb dX6_knownParty_5 (by decide) (fun c_5 => ?_) (fun c_5 => ?_)
  · refine lv_aload_n hx hb dX6_knownParty_15 rfl (lv_at hl 0 rfl) ?_
    refine vp_callSi (va_Run.run (va_runV (As := []) (rest := []) ⟨hx, hb, hml, hown, hT⟩ (r_partyHere l dC dI cy L kap pr S s.heap.size o hTy hT_o f rn rb rt ⟨_, en1, _, _, ta1, te1, hS_o, by omega, by omega, by omega, by omega⟩) (cwV 0 hT (gV w508 w510 ws7 w3 w511) rfl rfl rfl (by decide +kernel) ⟨(Nat.le_of_ble_eq_true rfl), (Nat.le_of_ble_eq_true rfl)⟩) ⟨pcN.blind, pl_recv hK hW hT_o.1 hS_o rfl, pcN.pre hW.1 hK hW.2.1 hN (fun q h => absurd h List.not_mem_nil)⟩ rfl rfl hl.1 rfl (lv_room (Nat.le_of_ble_eq_true rfl)) dX6_knownParty_16 ⟨(Nat.le_of_ble_eq_true rfl), (Nat.le_of_ble_eq_true rfl)⟩)) (fun r_2 hr_2 => ?_)
    refine lv_istore_n (lv' := [(1, .int r_2), (0, .ref o)]) hx hb dX6_knownParty_19 rfl hl (by decide) rfl (fun ls hl => ?_)
    refine lv_iload_n hx hb dX6_knownParty_20 rfl (lv_at hl 0 rfl) ?_
    refine lv_iconst (v := (-1)) hx hb dX6_knownParty_21 (by decide) ?_
    refine lv_icmp_ne (tgt := 30) hx hb dX6_knownParty_22 (by decide) (fun c_22 => ?_) (fun c_22 => ?_)
    · refine lv_iload_n hx hb dX6_knownParty_30 rfl (lv_at hl 0 rfl) ?_
      exact W.iret (v := r_2) hx hb hr (fun t ht h9 => ⟨⟨r_2, S, rfl, ⟨hTy, hFr, ⟨_, ⟨_, en1, _, _, ta1, te1, hS_o, by omega, by omega, by omega, by omega⟩, (fun h => h), Or.inr (hr_2.resolve_left c_22)⟩⟩, by rw [ht]; exact hW.1, va_K.moved h9.alike hK, hW.2.1⟩, hW.2.2.F ht⟩) hW.2.2.2.2 dX6_knownParty_31
    · refine lv_aload_n hx hb dX6_knownParty_25 rfl (lv_at hl 1 rfl) ?_
      refine lv_iconst (v := 3) hx hb dX6_knownParty_26 (by decide) ?_
      refine pl_callv (va_runV (As := [.int 3]) (rest := []) ⟨hx, hb, hml, hown, hT⟩ (r_fail l dC dI cy L kap pr S s.heap.size o 3 hTy hT_o f rn rb rt ⟨_, en1, _, _, ta1, te1, hS_o, by omega, by omega, by omega, by omega⟩ (by decide)) (cwV 1 hT (gV w500 w502 ws5 w3 w503) rfl rfl rfl (by decide +kernel) ⟨(Nat.le_of_ble_eq_true rfl), (Nat.le_of_ble_eq_true rfl)⟩) ⟨pcN.blind, pl_recv hK hW hT_o.1 hS_o rfl, pcN.pre hW.1 hK hW.2.1 hN (fun q h => absurd h List.not_mem_nil)⟩ rfl rfl hl.1 rfl (lv_room (Nat.le_of_ble_eq_true rfl)) dX6_knownParty_27 ⟨(Nat.le_of_ble_eq_true rfl), (Nat.le_of_ble_eq_true rfl)⟩) hW hA0 hA (fun S_3 H locs hrel hW => ?_)
      obtain ⟨hTy, hF1, hx1⟩ := hrel
      have hFr := hFr.tr hF1 (by decide)
      obtain ⟨f4, hR4, hf4⟩ := hx1
      obtain ⟨pl5, en5, mt5, tk5, ta5, te5, hS_o, hT_rn, hT_rb, hT_rt, hen5, hte5, hta5, hab5⟩ := RKk hTy hT_o hR4
      refine lv_iload_n hx hb dX6_knownParty_30 rfl (lv_at hl 0 rfl) ?_
      exact W.iret (v := r_2) hx hb hr (fun t ht h9 => ⟨⟨r_2, S_3, rfl, ⟨hTy, hFr, ⟨_, ⟨_, en5, _, _, ta5, te5, hS_o, by omega, by omega, by omega, by omega⟩, (fun h => (fun _ => hf4) ((fun h => h) h)), Or.inl hf4⟩⟩, by rw [ht]; exact hW.1, va_K.moved h9.alike hK, hW.2.1⟩, hW.2.2.F ht⟩) hW.2.2.2.2 dX6_knownParty_31
  · refine lv_aload_n hx hb dX6_knownParty_8 rfl (lv_at hl 0 rfl) ?_
    refine lv_iconst (v := 1) hx hb dX6_knownParty_9 (by decide) ?_
    refine pl_callv (va_runV (As := [.int 1]) (rest := []) ⟨hx, hb, hml, hown, hT⟩ (r_fail l dC dI cy L kap pr S s.heap.size o 1 hTy hT_o f rn rb rt ⟨_, en1, _, _, ta1, te1, hS_o, by omega, by omega, by omega, by omega⟩ (by decide)) (cwV 1 hT (gV w500 w502 ws5 w3 w503) rfl rfl rfl (by decide +kernel) ⟨(Nat.le_of_ble_eq_true rfl), (Nat.le_of_ble_eq_true rfl)⟩) ⟨pcN.blind, pl_recv hK hW hT_o.1 hS_o rfl, pcN.pre hW.1 hK hW.2.1 hN (fun q h => absurd h List.not_mem_nil)⟩ rfl rfl hl.1 rfl (lv_room (Nat.le_of_ble_eq_true rfl)) dX6_knownParty_10 ⟨(Nat.le_of_ble_eq_true rfl), (Nat.le_of_ble_eq_true rfl)⟩) hW hA0 hA (fun S_6 H locs hrel hW => ?_)
    obtain ⟨hTy, hF1, hx1⟩ := hrel
    have hFr := hFr.tr hF1 (by decide)
    obtain ⟨f7, hR7, hf7⟩ := hx1
    obtain ⟨pl8, en8, mt8, tk8, ta8, te8, hS_o, hT_rn, hT_rb, hT_rt, hen8, hte8, hta8, hab8⟩ := RKk hTy hT_o hR7
    refine lv_iconst (v := (-1)) hx hb dX6_knownParty_13 (by decide) ?_
    exact W.iret (v := (-1)) hx hb hr (fun t ht h9 => ⟨⟨(-1), S_6, rfl, ⟨hTy, hFr, ⟨_, ⟨_, en8, _, _, ta8, te8, hS_o, by omega, by omega, by omega, by omega⟩, (fun h => (fun _ => hf7) ((fun h => h) h)), Or.inl hf7⟩⟩, by rw [ht]; exact hW.1, va_K.moved h9.alike hK, hW.2.1⟩, hW.2.2.F ht⟩) hW.2.2.2.2 dX6_knownParty_14

set_option maxHeartbeats 4000000 in
set_option maxRecDepth 100000 in
theorem r_knownKind (l : Launch) (dC : Nat → ClassId) (dI : Nat → Nat → Nat) (cy : Nat → ClassId) (L : List Nat) (kap : Nat → Nat) (pr : Pr) (S : Nat → va_E) (sz : Nat) (o : Nat) (hTy : Ty cy L kap pr S) (hT_o : TK L kap o 6) (f : Int32) (rn : Nat) (rb : Nat) (rt : Nat) (hR : RK S o f rn rb rt) : Met l yX6_knownKind (wT yX6_knownKind cX6_knownKind 2 (some .int)) ({ frames := 3, cells := 0, slots := 0, locals := 71 }) (pcN dC dI [.ref o] sz (va_pl L S) (cyT cy) NLs []) (va_Qi (fun r S' => Ty cy L kap pr S' ∧ Fr kap [6] S S' ∧ (∃ f', RK S' o f' rn rb rt ∧ (f ≠ 0 → f' ≠ 0) ∧ (f' ≠ 0 ∨ ∃ k, k < 4 ∧ r = nI k))) (fun S' t => pB dC dI (AL L sz) (va_pl L S') (cyT cy) t) (AL L sz)) 0 0 (AL L sz) := by
  refine Met.ofW (cc := cX6_knownKind) (maxL := 2) (ret := (some .int)) (by decide) rfl ?_
  intro p e s m args below meth c s₁ B hml hv
  obtain ⟨rfl, hsz, hP, hK, hD0, hN, -⟩ := hv
  have hx := B.exec
  have hb := B.bytes
  have hr := B.returns
  have hT : ∀ wd ∈ TB, wd.before [.ref o].toArray s = true := fun wd h => atoms_spec (ws := wT yX6_knownKind cX6_knownKind 2 (some .int)) B.pre wd (List.mem_cons_of_mem _ h)
  have hown : s.vm.findClass RX6 = some m.cls := findClass_of_methodNamed B.named
  have hlocks := B.notSynchronized
  subst hsz
  have hW : PW dC dI L (AL L s.heap.size) s.heap S s.heap [] := ⟨hP, pl_self hD0, va_S.rf⟩
  have hA0 : ∀ q, q ∈ L → AL L s.heap.size q := fun _ h => Or.inl h
  have hA : ∀ q, s.heap.size ≤ q → AL L s.heap.size q := fun _ h => Or.inr h
  have hFr : Fr kap [6] S S := Fr.rf
  have hl := lv_entry ([.ref o]) (n := 2) (Nat.le_of_ble_eq_true rfl)
  rw [lg_entry_eq]
  generalize (lg_sl ([.ref o]) ++ List.replicate (2 - (lg_sl ([.ref o])).length) Slot.unset).toArray = ls at hl ⊢
  have hl : lv_has ls 2 [(0, .ref o)] := hl
  obtain ⟨pl1, en1, mt1, tk1, ta1, te1, hS_o, hT_rn, hT_rb, hT_rt, hen1, hte1, hta1, hab1⟩ := RKk hTy hT_o hR
  refine lv_aload_n hx hb dX6_knownKind_0 rfl (lv_at hl 0 rfl) ?_
  refine pl_get (ci := 6) (v := .int tk1) (C := RX6) (T := TX6) (N := 10) hx hb hT iX6 hown hK hW hT_o.1 hS_o rfl 7 (by decide) w150 rfl dX6_knownKind_1 ?_
  refine lv_iconst (v := 4) hx hb dX6_knownKind_4 (by decide) ?_
  refine lv_icmp_eq (tgt := 15) hx hb dX6_knownKind_5 (by decide) (fun c_5 => ?_) (fun c_5 => ?_)
  · refine lv_aload_n hx hb dX6_knownKind_15 rfl (lv_at hl 0 rfl) ?_
    refine vp_callSi (va_Run.run (va_runV (As := []) (rest := []) ⟨hx, hb, hml, hown, hT⟩ (r_kindHere l dC dI cy L kap pr S s.heap.size o hTy hT_o f rn rb rt ⟨_, en1, _, _, ta1, te1, hS_o, by omega, by omega, by omega, by omega⟩) (cwV 0 hT (gV w520 w522 ws9 w3 w523) rfl rfl rfl (by decide +kernel) ⟨(Nat.le_of_ble_eq_true rfl), (Nat.le_of_ble_eq_true rfl)⟩) ⟨pcN.blind, pl_recv hK hW hT_o.1 hS_o rfl, pcN.pre hW.1 hK hW.2.1 hN (fun q h => absurd h List.not_mem_nil)⟩ rfl rfl hl.1 rfl (lv_room (Nat.le_of_ble_eq_true rfl)) dX6_knownKind_16 ⟨(Nat.le_of_ble_eq_true rfl), (Nat.le_of_ble_eq_true rfl)⟩)) (fun r_2 hr_2 => ?_)
    refine lv_istore_n (lv' := [(1, .int r_2), (0, .ref o)]) hx hb dX6_knownKind_19 rfl hl (by decide) rfl (fun ls hl => ?_)
    refine lv_iload_n hx hb dX6_knownKind_20 rfl (lv_at hl 0 rfl) ?_
    refine lv_iconst (v := (-1)) hx hb dX6_knownKind_21 (by decide) ?_
    refine lv_icmp_ne (tgt := 30) hx hb dX6_knownKind_22 (by decide) (fun c_22 => ?_) (fun c_22 => ?_)
    · refine lv_iload_n hx hb dX6_knownKind_30 rfl (lv_at hl 0 rfl) ?_
      exact W.iret (v := r_2) hx hb hr (fun t ht h9 => ⟨⟨r_2, S, rfl, ⟨hTy, hFr, ⟨_, ⟨_, en1, _, _, ta1, te1, hS_o, by omega, by omega, by omega, by omega⟩, (fun h => h), Or.inr (hr_2.resolve_left c_22)⟩⟩, by rw [ht]; exact hW.1, va_K.moved h9.alike hK, hW.2.1⟩, hW.2.2.F ht⟩) hW.2.2.2.2 dX6_knownKind_31
    · refine lv_aload_n hx hb dX6_knownKind_25 rfl (lv_at hl 1 rfl) ?_
      refine lv_iconst (v := 3) hx hb dX6_knownKind_26 (by decide) ?_
      refine pl_callv (va_runV (As := [.int 3]) (rest := []) ⟨hx, hb, hml, hown, hT⟩ (r_fail l dC dI cy L kap pr S s.heap.size o 3 hTy hT_o f rn rb rt ⟨_, en1, _, _, ta1, te1, hS_o, by omega, by omega, by omega, by omega⟩ (by decide)) (cwV 1 hT (gV w500 w502 ws5 w3 w503) rfl rfl rfl (by decide +kernel) ⟨(Nat.le_of_ble_eq_true rfl), (Nat.le_of_ble_eq_true rfl)⟩) ⟨pcN.blind, pl_recv hK hW hT_o.1 hS_o rfl, pcN.pre hW.1 hK hW.2.1 hN (fun q h => absurd h List.not_mem_nil)⟩ rfl rfl hl.1 rfl (lv_room (Nat.le_of_ble_eq_true rfl)) dX6_knownKind_27 ⟨(Nat.le_of_ble_eq_true rfl), (Nat.le_of_ble_eq_true rfl)⟩) hW hA0 hA (fun S_3 H locs hrel hW => ?_)
      obtain ⟨hTy, hF1, hx1⟩ := hrel
      have hFr := hFr.tr hF1 (by decide)
      obtain ⟨f4, hR4, hf4⟩ := hx1
      obtain ⟨pl5, en5, mt5, tk5, ta5, te5, hS_o, hT_rn, hT_rb, hT_rt, hen5, hte5, hta5, hab5⟩ := RKk hTy hT_o hR4
      refine lv_iload_n hx hb dX6_knownKind_30 rfl (lv_at hl 0 rfl) ?_
      exact W.iret (v := r_2) hx hb hr (fun t ht h9 => ⟨⟨r_2, S_3, rfl, ⟨hTy, hFr, ⟨_, ⟨_, en5, _, _, ta5, te5, hS_o, by omega, by omega, by omega, by omega⟩, (fun h => (fun _ => hf4) ((fun h => h) h)), Or.inl hf4⟩⟩, by rw [ht]; exact hW.1, va_K.moved h9.alike hK, hW.2.1⟩, hW.2.2.F ht⟩) hW.2.2.2.2 dX6_knownKind_31
  · refine lv_aload_n hx hb dX6_knownKind_8 rfl (lv_at hl 0 rfl) ?_
    refine lv_iconst (v := 1) hx hb dX6_knownKind_9 (by decide) ?_
    refine pl_callv (va_runV (As := [.int 1]) (rest := []) ⟨hx, hb, hml, hown, hT⟩ (r_fail l dC dI cy L kap pr S s.heap.size o 1 hTy hT_o f rn rb rt ⟨_, en1, _, _, ta1, te1, hS_o, by omega, by omega, by omega, by omega⟩ (by decide)) (cwV 1 hT (gV w500 w502 ws5 w3 w503) rfl rfl rfl (by decide +kernel) ⟨(Nat.le_of_ble_eq_true rfl), (Nat.le_of_ble_eq_true rfl)⟩) ⟨pcN.blind, pl_recv hK hW hT_o.1 hS_o rfl, pcN.pre hW.1 hK hW.2.1 hN (fun q h => absurd h List.not_mem_nil)⟩ rfl rfl hl.1 rfl (lv_room (Nat.le_of_ble_eq_true rfl)) dX6_knownKind_10 ⟨(Nat.le_of_ble_eq_true rfl), (Nat.le_of_ble_eq_true rfl)⟩) hW hA0 hA (fun S_6 H locs hrel hW => ?_)
    obtain ⟨hTy, hF1, hx1⟩ := hrel
    have hFr := hFr.tr hF1 (by decide)
    obtain ⟨f7, hR7, hf7⟩ := hx1
    obtain ⟨pl8, en8, mt8, tk8, ta8, te8, hS_o, hT_rn, hT_rb, hT_rt, hen8, hte8, hta8, hab8⟩ := RKk hTy hT_o hR7
    refine lv_iconst (v := (-1)) hx hb dX6_knownKind_13 (by decide) ?_
    exact W.iret (v := (-1)) hx hb hr (fun t ht h9 => ⟨⟨(-1), S_6, rfl, ⟨hTy, hFr, ⟨_, ⟨_, en8, _, _, ta8, te8, hS_o, by omega, by omega, by omega, by omega⟩, (fun h => (fun _ => hf7) ((fun h => h) h)), Or.inl hf7⟩⟩, by rw [ht]; exact hW.1, va_K.moved h9.alike hK, hW.2.1⟩, hW.2.2.F ht⟩) hW.2.2.2.2 dX6_knownKind_14

set_option maxHeartbeats 4000000 in
set_option maxRecDepth 100000 in
theorem r_numberWithin (l : Launch) (dC : Nat → ClassId) (dI : Nat → Nat → Nat) (cy : Nat → ClassId) (L : List Nat) (kap : Nat → Nat) (pr : Pr) (S : Nat → va_E) (sz : Nat) (o : Nat) (lo : Int32) (hi : Int32) (hTy : Ty cy L kap pr S) (hT_o : TK L kap o 6) (f : Int32) (rn : Nat) (rb : Nat) (rt : Nat) (hR : RK S o f rn rb rt) : Met l yX6_numberWithin (wT yX6_numberWithin cX6_numberWithin 5 (some .int)) ({ frames := 1, cells := 0, slots := 0, locals := 21 }) (pcN dC dI [.ref o, .int lo, .int hi] sz (va_pl L S) (cyT cy) NLs []) (va_Qi (fun r S' => Ty cy L kap pr S' ∧ Fr kap [6] S S' ∧ (∃ f', RK S' o f' rn rb rt ∧ (f ≠ 0 → f' ≠ 0) ∧ (f' ≠ 0 ∨ (¬ r < lo ∧ r ≤ hi)))) (fun S' t => pB dC dI (AL L sz) (va_pl L S') (cyT cy) t) (AL L sz)) 0 0 (AL L sz) := by
  refine Met.ofW (cc := cX6_numberWithin) (maxL := 5) (ret := (some .int)) (by decide) rfl ?_
  intro p e s m args below meth c s₁ B hml hv
  obtain ⟨rfl, hsz, hP, hK, hD0, hN, -⟩ := hv
  have hx := B.exec
  have hb := B.bytes
  have hr := B.returns
  have hT : ∀ wd ∈ TB, wd.before [.ref o, .int lo, .int hi].toArray s = true := fun wd h => atoms_spec (ws := wT yX6_numberWithin cX6_numberWithin 5 (some .int)) B.pre wd (List.mem_cons_of_mem _ h)
  have hown : s.vm.findClass RX6 = some m.cls := findClass_of_methodNamed B.named
  have hlocks := B.notSynchronized
  subst hsz
  have hW : PW dC dI L (AL L s.heap.size) s.heap S s.heap [] := ⟨hP, pl_self hD0, va_S.rf⟩
  have hA0 : ∀ q, q ∈ L → AL L s.heap.size q := fun _ h => Or.inl h
  have hA : ∀ q, s.heap.size ≤ q → AL L s.heap.size q := fun _ h => Or.inr h
  have hFr : Fr kap [6] S S := Fr.rf
  have hl := lv_entry ([.ref o, .int lo, .int hi]) (n := 5) (Nat.le_of_ble_eq_true rfl)
  rw [lg_entry_eq]
  generalize (lg_sl ([.ref o, .int lo, .int hi]) ++ List.replicate (5 - (lg_sl ([.ref o, .int lo, .int hi])).length) Slot.unset).toArray = ls at hl ⊢
  have hl : lv_has ls 5 [(0, .ref o), (1, .int lo), (2, .int hi)] := hl
  obtain ⟨pl1, en1, mt1, tk1, ta1, te1, hS_o, hT_rn, hT_rb, hT_rt, hen1, hte1, hta1, hab1⟩ := RKk hTy hT_o hR
  refine lv_aload_n hx hb dX6_numberWithin_0 rfl (lv_at hl 0 rfl) ?_
  refine pl_get (ci := 6) (v := .int tk1) (C := RX6) (T := TX6) (N := 10) hx hb hT iX6 hown hK hW hT_o.1 hS_o rfl 7 (by decide) w150 rfl dX6_numberWithin_1 ?_
  refine lv_iconst (v := 3) hx hb dX6_numberWithin_4 (by decide) ?_
  refine lv_icmp_eq (tgt := 15) hx hb dX6_numberWithin_5 (by decide) (fun c_5 => ?_) (fun c_5 => ?_)
  · refine lv_aload_n hx hb dX6_numberWithin_15 rfl (lv_at hl 0 rfl) ?_
    refine pl_get (ci := 6) (v := .int (nI te1)) (C := RX6) (T := TX6) (N := 10) hx hb hT iX6 hown hK hW hT_o.1 hS_o rfl 9 (by decide) w152 rfl dX6_numberWithin_16 ?_
    refine lv_aload_n hx hb dX6_numberWithin_19 rfl (lv_at hl 0 rfl) ?_
    refine pl_get (ci := 6) (v := .int (nI ta1)) (C := RX6) (T := TX6) (N := 10) hx hb hT iX6 hown hK hW hT_o.1 hS_o rfl 8 (by decide) w151 rfl dX6_numberWithin_20 ?_
    refine lv_isub hx hb dX6_numberWithin_23 ?_
    refine lv_topi (fun z_2 ez_2 => ?_)
    obtain rfl : z_2 = nI (te1 - ta1) := ez_2.trans (pk_sub (a := te1) (b := ta1) (by omega))
    refine lv_bipush (v := 8) hx hb dX6_numberWithin_24 (by decide) ?_
    refine lv_icmp_le (tgt := 36) hx hb dX6_numberWithin_26 (by decide) (fun c_26 => ?_) (fun c_26 => ?_)
    · have c_26 : (te1 - ta1) ≤ 8 := (nI_leI (a := te1 - ta1) (b := 8) (by omega) (by omega)).mp c_26
      refine lv_iconst (v := 0) hx hb dX6_numberWithin_36 (by decide) ?_
      refine lv_istore_n (lv' := [(3, .int 0), (0, .ref o), (1, .int lo), (2, .int hi)]) hx hb dX6_numberWithin_37 rfl hl (by decide) rfl (fun ls hl => ?_)
      refine lv_aload_n hx hb dX6_numberWithin_38 rfl (lv_at hl 1 rfl) ?_
      refine pl_get (ci := 6) (v := .int (nI ta1)) (C := RX6) (T := TX6) (N := 10) hx hb hT iX6 hown hK hW hT_o.1 hS_o rfl 8 (by decide) w151 rfl dX6_numberWithin_39 ?_
      refine lv_istore (lv' := [(4, .int (nI ta1)), (3, .int 0), (0, .ref o), (1, .int lo), (2, .int hi)]) hx hb dX6_numberWithin_42 hl (by decide) rfl (fun ls hl => ?_)
      have loop : ∀ (fuel : Nat) (i : Nat) (vl : Int32) (SS : Nat → va_E) (H : Heap) (locs : List Loc) (ls : Array Slot), 901 - i < fuel → (i ≤ 900) → Ty cy L kap pr SS → Fr kap [6] S SS → Fr kap [] S SS → PW dC dI L (AL L s.heap.size) s.heap SS H locs → lv_has ls 5 [(4, .int (nI i)), (3, .int vl), (0, .ref o), (1, .int lo), (2, .int hi)] → W p l e (headSpec (wT yX6_numberWithin cX6_numberWithin 5 (some .int)) { frames := 1, cells := 0, slots := 0, locals := 21 }).room s m [.ref o, .int lo, .int hi].toArray below meth c H locs 0 0 (MQ below (va_Qi (fun r S' => Ty cy L kap pr S' ∧ Fr kap [6] S S' ∧ (∃ f', RK S' o f' rn rb rt ∧ (f ≠ 0 → f' ≠ 0) ∧ (f' ≠ 0 ∨ (¬ r < lo ∧ r ≤ hi)))) (fun S' t => pB dC dI (AL L s.heap.size) (va_pl L S') (cyT cy) t) (AL L s.heap.size)) [.ref o, .int lo, .int hi].toArray s 0 0 (AL L s.heap.size)) (F0 m 44 ls []) := by
        intro fuel
        induction fuel with
        | zero => intro i vl SS H locs ls h; exact absurd h (Nat.not_lt_zero _)
        | succ fu44 ih44 =>
          intro i vl S_3 H locs ls hm44 hb_i hTy hFr hFl44 hW hl
          have hS_o := hFl44.at hT_o (by decide) hS_o
          refine lv_iload hx hb dX6_numberWithin_44 (lv_at hl 0 rfl) ?_
          refine lv_aload_n hx hb dX6_numberWithin_46 rfl (lv_at hl 2 rfl) ?_
          refine pl_get (ci := 6) (v := .int (nI te1)) (C := RX6) (T := TX6) (N := 10) hx hb hT iX6 hown hK hW hT_o.1 hS_o rfl 9 (by decide) w152 rfl dX6_numberWithin_47 ?_
          refine lv_icmp_ge (tgt := 75) hx hb dX6_numberWithin_50 (by decide) (fun c_50 => ?_) (fun c_50 => ?_)
          · have c_50 : te1 ≤ i := (nI_leI (a := te1) (b := i) (by omega) (by omega)).mp c_50
            refine lv_iload_n hx hb dX6_numberWithin_75 rfl (lv_at hl 1 rfl) ?_
            refine lv_iload_n hx hb dX6_numberWithin_76 rfl (lv_at hl 3 rfl) ?_
            refine lv_icmp_lt (tgt := 85) hx hb dX6_numberWithin_77 (by decide) (fun c_77 => ?_) (fun c_77 => ?_)
            · refine lv_aload_n hx hb dX6_numberWithin_85 rfl (lv_at hl 2 rfl) ?_
              refine lv_iconst (v := 2) hx hb dX6_numberWithin_86 (by decide) ?_
              refine pl_callv (va_runV (As := [.int 2]) (rest := []) ⟨hx, hb, hml, hown, hT⟩ (r_fail l dC dI cy L kap pr S_3 H.size o 2 hTy hT_o f rn rb rt ⟨_, en1, _, _, ta1, te1, hS_o, by omega, by omega, by omega, by omega⟩ (by decide)) (cwV 1 hT (gV w500 w502 ws5 w3 w503) rfl rfl rfl (by decide +kernel) ⟨(Nat.le_of_ble_eq_true rfl), (Nat.le_of_ble_eq_true rfl)⟩) ⟨pcN.blind, pl_recv hK hW hT_o.1 hS_o rfl, pcN.pre hW.1 hK hW.2.1 hN (fun q h => absurd h List.not_mem_nil)⟩ rfl rfl hl.1 rfl (lv_room (Nat.le_of_ble_eq_true rfl)) dX6_numberWithin_87 ⟨(Nat.le_of_ble_eq_true rfl), (Nat.le_of_ble_eq_true rfl)⟩) hW hA0 hA (fun S_4 H locs hrel hW => ?_)
              obtain ⟨hTy, hF1, hx1⟩ := hrel
              have hFr := hFr.tr hF1 (by decide)
              obtain ⟨f5, hR5, hf5⟩ := hx1
              obtain ⟨pl6, en6, mt6, tk6, ta6, te6, hS_o, hT_rn, hT_rb, hT_rt, hen6, hte6, hta6, hab6⟩ := RKk hTy hT_o hR5
              refine lv_iload_n hx hb dX6_numberWithin_90 rfl (lv_at hl 1 rfl) ?_
              exact W.iret (v := vl) hx hb hr (fun t ht h9 => ⟨⟨vl, S_4, rfl, ⟨hTy, hFr, ⟨_, ⟨_, en6, _, _, ta6, te6, hS_o, by omega, by omega, by omega, by omega⟩, (fun h => (fun _ => hf5) ((fun h => h) h)), Or.inl hf5⟩⟩, by rw [ht]; exact hW.1, va_K.moved h9.alike hK, hW.2.1⟩, hW.2.2.F ht⟩) hW.2.2.2.2 dX6_numberWithin_91
            · refine lv_iload_n hx hb dX6_numberWithin_80 rfl (lv_at hl 1 rfl) ?_
              refine lv_iload_n hx hb dX6_numberWithin_81 rfl (lv_at hl 4 rfl) ?_
              refine lv_icmp_le (tgt := 90) hx hb dX6_numberWithin_82 (by decide) (fun c_82 => ?_) (fun c_82 => ?_)
              · refine lv_iload_n hx hb dX6_numberWithin_90 rfl (lv_at hl 1 rfl) ?_
                exact W.iret (v := vl) hx hb hr (fun t ht h9 => ⟨⟨vl, S_3, rfl, ⟨hTy, hFr, ⟨_, ⟨_, en1, _, _, ta1, te1, hS_o, by omega, by omega, by omega, by omega⟩, (fun h => h), Or.inr ⟨c_77, c_82⟩⟩⟩, by rw [ht]; exact hW.1, va_K.moved h9.alike hK, hW.2.1⟩, hW.2.2.F ht⟩) hW.2.2.2.2 dX6_numberWithin_91
              · refine lv_aload_n hx hb dX6_numberWithin_85 rfl (lv_at hl 2 rfl) ?_
                refine lv_iconst (v := 2) hx hb dX6_numberWithin_86 (by decide) ?_
                refine pl_callv (va_runV (As := [.int 2]) (rest := []) ⟨hx, hb, hml, hown, hT⟩ (r_fail l dC dI cy L kap pr S_3 H.size o 2 hTy hT_o f rn rb rt ⟨_, en1, _, _, ta1, te1, hS_o, by omega, by omega, by omega, by omega⟩ (by decide)) (cwV 1 hT (gV w500 w502 ws5 w3 w503) rfl rfl rfl (by decide +kernel) ⟨(Nat.le_of_ble_eq_true rfl), (Nat.le_of_ble_eq_true rfl)⟩) ⟨pcN.blind, pl_recv hK hW hT_o.1 hS_o rfl, pcN.pre hW.1 hK hW.2.1 hN (fun q h => absurd h List.not_mem_nil)⟩ rfl rfl hl.1 rfl (lv_room (Nat.le_of_ble_eq_true rfl)) dX6_numberWithin_87 ⟨(Nat.le_of_ble_eq_true rfl), (Nat.le_of_ble_eq_true rfl)⟩) hW hA0 hA (fun S_7 H locs hrel hW => ?_)
                obtain ⟨hTy, hF1, hx1⟩ := hrel
                have hFr := hFr.tr hF1 (by decide)
                obtain ⟨f8, hR8, hf8⟩ := hx1
                obtain ⟨pl9, en9, mt9, tk9, ta9, te9, hS_o, hT_rn, hT_rb, hT_rt, hen9, hte9, hta9, hab9⟩ := RKk hTy hT_o hR8
                refine lv_iload_n hx hb dX6_numberWithin_90 rfl (lv_at hl 1 rfl) ?_
                exact W.iret (v := vl) hx hb hr (fun t ht h9 => ⟨⟨vl, S_7, rfl, ⟨hTy, hFr, ⟨_, ⟨_, en9, _, _, ta9, te9, hS_o, by omega, by omega, by omega, by omega⟩, (fun h => (fun _ => hf8) ((fun h => h) h)), Or.inl hf8⟩⟩, by rw [ht]; exact hW.1, va_K.moved h9.alike hK, hW.2.1⟩, hW.2.2.F ht⟩) hW.2.2.2.2 dX6_numberWithin_91
          · have c_50 : ¬ (te1 ≤ i) := fun hh9 => c_50 ((nI_leI (a := te1) (b := i) (by omega) (by omega)).mpr hh9)
            refine lv_iload_n hx hb dX6_numberWithin_53 rfl (lv_at hl 1 rfl) ?_
            refine lv_bipush (v := 10) hx hb dX6_numberWithin_54 (by decide) ?_
            refine lv_imul hx hb dX6_numberWithin_56 ?_
            refine lv_topi (fun z_10 ez_10 => ?_)
            refine lv_aload_n hx hb dX6_numberWithin_57 rfl (lv_at hl 2 rfl) ?_
            refine pl_get (ci := 6) (v := .ref rt) (C := RX6) (T := TX6) (N := 10) hx hb hT iX6 hown hK hW hT_o.1 hS_o rfl 4 (by decide) w147 rfl dX6_numberWithin_58 ?_
            refine lv_iload hx hb dX6_numberWithin_61 (lv_at hl 0 rfl) ?_
            obtain ⟨f_11, hS_rt⟩ := hTy.k27 hT_rt
            refine pl_bald hx hb hK hW hT_rt.1 hS_rt (vp_in_nI (n := i) (N := 900) (by omega) (by omega)) dX6_numberWithin_63 ?_
            refine lv_topi (fun y_12 ey_12 => ?_)
            refine lv_bipush (v := 48) hx hb dX6_numberWithin_64 (by decide) ?_
            refine lv_isub hx hb dX6_numberWithin_66 ?_
            refine lv_topi (fun z_13 ez_13 => ?_)
            refine lv_iadd hx hb dX6_numberWithin_67 ?_
            refine lv_topi (fun z_14 ez_14 => ?_)
            refine lv_istore_n (lv' := [(3, .int z_14), (4, .int (nI i)), (0, .ref o), (1, .int lo), (2, .int hi)]) hx hb dX6_numberWithin_68 rfl hl (by decide) rfl (fun ls hl => ?_)
            refine lv_iinc (v := nI (i + 1)) (lv' := [(4, .int (nI (i + 1))), (3, .int z_14), (0, .ref o), (1, .int lo), (2, .int hi)]) hx hb dX6_numberWithin_69 hl (k := 1) rfl (nI_add (i) 1) (by decide) rfl (fun ls hl => ?_)
            refine lv_goto (tgt := 44) hx hb dX6_numberWithin_72 (by decide) ?_
            exact ih44 (i + 1) z_14 _ _ _ ls (by omega) (by omega) hTy hFr hFl44 hW (lv_sub hl [0, 1, 2, 3, 4] rfl)
      exact loop ((901 - ta1) + 1) ta1 0 _ _ _ ls (Nat.lt_succ_self _) (by omega) hTy hFr Fr.rf hW (lv_sub hl [0, 1, 2, 3, 4] rfl)
    · have c_26 : ¬ ((te1 - ta1) ≤ 8) := fun hh9 => c_26 ((nI_leI (a := te1 - ta1) (b := 8) (by omega) (by omega)).mpr hh9)
      refine lv_aload_n hx hb dX6_numberWithin_29 rfl (lv_at hl 0 rfl) ?_
      refine lv_iconst (v := 2) hx hb dX6_numberWithin_30 (by decide) ?_
      refine pl_callv (va_runV (As := [.int 2]) (rest := []) ⟨hx, hb, hml, hown, hT⟩ (r_fail l dC dI cy L kap pr S s.heap.size o 2 hTy hT_o f rn rb rt ⟨_, en1, _, _, ta1, te1, hS_o, by omega, by omega, by omega, by omega⟩ (by decide)) (cwV 1 hT (gV w500 w502 ws5 w3 w503) rfl rfl rfl (by decide +kernel) ⟨(Nat.le_of_ble_eq_true rfl), (Nat.le_of_ble_eq_true rfl)⟩) ⟨pcN.blind, pl_recv hK hW hT_o.1 hS_o rfl, pcN.pre hW.1 hK hW.2.1 hN (fun q h => absurd h List.not_mem_nil)⟩ rfl rfl hl.1 rfl (lv_room (Nat.le_of_ble_eq_true rfl)) dX6_numberWithin_31 ⟨(Nat.le_of_ble_eq_true rfl), (Nat.le_of_ble_eq_true rfl)⟩) hW hA0 hA (fun S_15 H locs hrel hW => ?_)
      obtain ⟨hTy, hF1, hx1⟩ := hrel
      have hFr := hFr.tr hF1 (by decide)
      obtain ⟨f16, hR16, hf16⟩ := hx1
      obtain ⟨pl17, en17, mt17, tk17, ta17, te17, hS_o, hT_rn, hT_rb, hT_rt, hen17, hte17, hta17, hab17⟩ := RKk hTy hT_o hR16
      refine lv_iconst (v := 0) hx hb dX6_numberWithin_34 (by decide) ?_
      exact W.iret (v := 0) hx hb hr (fun t ht h9 => ⟨⟨0, S_15, rfl, ⟨hTy, hFr, ⟨_, ⟨_, en17, _, _, ta17, te17, hS_o, by omega, by omega, by omega, by omega⟩, (fun h => (fun _ => hf16) ((fun h => h) h)), Or.inl hf16⟩⟩, by rw [ht]; exact hW.1, va_K.moved h9.alike hK, hW.2.1⟩, hW.2.2.F ht⟩) hW.2.2.2.2 dX6_numberWithin_35
  · refine lv_aload_n hx hb dX6_numberWithin_8 rfl (lv_at hl 0 rfl) ?_
    refine lv_iconst (v := 1) hx hb dX6_numberWithin_9 (by decide) ?_
    refine pl_callv (va_runV (As := [.int 1]) (rest := []) ⟨hx, hb, hml, hown, hT⟩ (r_fail l dC dI cy L kap pr S s.heap.size o 1 hTy hT_o f rn rb rt ⟨_, en1, _, _, ta1, te1, hS_o, by omega, by omega, by omega, by omega⟩ (by decide)) (cwV 1 hT (gV w500 w502 ws5 w3 w503) rfl rfl rfl (by decide +kernel) ⟨(Nat.le_of_ble_eq_true rfl), (Nat.le_of_ble_eq_true rfl)⟩) ⟨pcN.blind, pl_recv hK hW hT_o.1 hS_o rfl, pcN.pre hW.1 hK hW.2.1 hN (fun q h => absurd h List.not_mem_nil)⟩ rfl rfl hl.1 rfl (lv_room (Nat.le_of_ble_eq_true rfl)) dX6_numberWithin_10 ⟨(Nat.le_of_ble_eq_true rfl), (Nat.le_of_ble_eq_true rfl)⟩) hW hA0 hA (fun S_18 H locs hrel hW => ?_)
    obtain ⟨hTy, hF1, hx1⟩ := hrel
    have hFr := hFr.tr hF1 (by decide)
    obtain ⟨f19, hR19, hf19⟩ := hx1
    obtain ⟨pl20, en20, mt20, tk20, ta20, te20, hS_o, hT_rn, hT_rb, hT_rt, hen20, hte20, hta20, hab20⟩ := RKk hTy hT_o hR19
    refine lv_iconst (v := 0) hx hb dX6_numberWithin_13 (by decide) ?_
    exact W.iret (v := 0) hx hb hr (fun t ht h9 => ⟨⟨0, S_18, rfl, ⟨hTy, hFr, ⟨_, ⟨_, en20, _, _, ta20, te20, hS_o, by omega, by omega, by omega, by omega⟩, (fun h => (fun _ => hf19) ((fun h => h) h)), Or.inl hf19⟩⟩, by rw [ht]; exact hW.1, va_K.moved h9.alike hK, hW.2.1⟩, hW.2.2.F ht⟩) hW.2.2.2.2 dX6_numberWithin_14

set_option maxHeartbeats 4000000 in
set_option maxRecDepth 100000 in
theorem r_readParty (l : Launch) (dC : Nat → ClassId) (dI : Nat → Nat → Nat) (cy : Nat → ClassId) (L : List Nat) (kap : Nat → Nat) (pr : Pr) (ad : (Nat → Nat) × (Nat → Nat)) (S : Nat → va_E) (sz : Nat) (o : Nat) (hTy : Ty cy L kap pr S) (hT_o : TK L kap o 6) (f : Int32) (rn : Nat) (rb : Nat) (rt : Nat) (hR : RK S o f rn rb rt) : Met l yX6_readParty (wT yX6_readParty cX6_readParty 1 none) ({ frames := 7, cells := 0, slots := 0, locals := 147 }) (pcS dC dI [.ref o] sz L S (cyT cy) NLs ad) (va_Qv (fun S' => Ty cy L kap pr S' ∧ Fr kap [3, 6, 25, 26] S S' ∧ (∃ f', RK S' o f' rn rb rt ∧ (f ≠ 0 → f' ≠ 0))) (fun S' t => pB dC dI (AL L sz) (va_pl L S') (cyT cy) t) (AL L sz)) 0 0 (AL L sz) := by
  refine Met.ofW (cc := cX6_readParty) (maxL := 1) (ret := none) (by decide) rfl ?_
  intro p e s m args below meth c s₁ B hml hv
  obtain ⟨rfl, hsz, hP, hK, hD0, hN, hSTR⟩ := hv
  have hx := B.exec
  have hb := B.bytes
  have hr := B.returns
  have hT : ∀ wd ∈ TB, wd.before [.ref o].toArray s = true := fun wd h => atoms_spec (ws := wT yX6_readParty cX6_readParty 1 none) B.pre wd (List.mem_cons_of_mem _ h)
  have hown : s.vm.findClass RX6 = some m.cls := findClass_of_methodNamed B.named
  have hlocks := B.notSynchronized
  subst hsz
  have hW : PW dC dI L (AL L s.heap.size) s.heap S s.heap [] := ⟨hP, pl_self hD0, va_S.rf⟩
  have hA0 : ∀ q, q ∈ L → AL L s.heap.size q := fun _ h => Or.inl h
  have hA : ∀ q, s.heap.size ≤ q → AL L s.heap.size q := fun _ h => Or.inr h
  have hFr : Fr kap [3, 6, 25, 26] S S := Fr.rf
  have hl := lv_entry ([.ref o]) (n := 1) (Nat.le_of_ble_eq_true rfl)
  rw [lg_entry_eq]
  generalize (lg_sl ([.ref o]) ++ List.replicate (1 - (lg_sl ([.ref o])).length) Slot.unset).toArray = ls at hl ⊢
  have hl : lv_has ls 1 [(0, .ref o)] := hl
  obtain ⟨pl1, en1, mt1, tk1, ta1, te1, hS_o, hT_rn, hT_rb, hT_rt, hen1, hte1, hta1, hab1⟩ := RKk hTy hT_o hR
  refine lv_aload_n hx hb dX6_readParty_0 rfl (lv_at hl 0 rfl) ?_
  refine pl_get (ci := 6) (v := .ref rn) (C := RX6) (T := TX6) (N := 10) hx hb hT iX6 hown hK hW hT_o.1 hS_o rfl 2 (by decide) w143 rfl dX6_readParty_1 ?_
  obtain ⟨x_2, x_3, x_4, x_5, hS_rn, hT_x_2, hT_x_3, hb_x_4, hb_x_5⟩ := hTy.k3 hT_rn
  refine pl_get (ci := 3) (v := .int (nI x_4)) (C := RX3) (T := TX3) (N := 4) hx hb hT iX3 hown hK hW hT_rn.1 hS_rn rfl 2 (by decide) w63 rfl dX6_readParty_4 ?_
  refine lv_bipush (v := 8) hx hb dX6_readParty_7 (by decide) ?_
  refine lv_icmp_lt (tgt := 17) hx hb dX6_readParty_9 (by decide) (fun c_9 => ?_) (fun c_9 => ?_)
  · have c_9 : x_4 < 8 := (nI_ltI (a := x_4) (b := 8) (by omega) (by omega)).mp c_9
    refine lv_aload_n hx hb dX6_readParty_17 rfl (lv_at hl 0 rfl) ?_
    refine pl_callv (va_runV (As := []) (rest := []) ⟨hx, hb, hml, hown, hT⟩ (r_next l dC dI cy L kap pr ad S s.heap.size o hTy hT_o f rn rb rt ⟨_, en1, _, _, ta1, te1, hS_o, by omega, by omega, by omega⟩) (cwV 0 hT (gV w420 w422 ws0 w3 w423) rfl rfl rfl (by decide +kernel) ⟨(Nat.le_of_ble_eq_true rfl), (Nat.le_of_ble_eq_true rfl)⟩) ⟨pcS.blind, pl_recv hK hW hT_o.1 hS_o rfl, pcS.pre hW.1 hK hW.2.1 hN hSTR hW.2.2⟩ rfl rfl hl.1 rfl (lv_room (Nat.le_of_ble_eq_true rfl)) dX6_readParty_18 ⟨(Nat.le_of_ble_eq_true rfl), (Nat.le_of_ble_eq_true rfl)⟩) hW hA0 hA (fun S_6 H locs hrel hW => ?_)
    obtain ⟨hTy, hF1, hx1⟩ := hrel
    have hFr := hFr.tr hF1 (by decide)
    have hS_rn := hF1.at hT_rn (by decide) hS_rn
    obtain ⟨pl7, en7, mt7, tk7, ta7, te7, hS_o, hT_rn, hT_rb, hT_rt, hen7, hte7, hta7, hab7⟩ := RKk hTy hT_o hx1
    refine lv_aload_n hx hb dX6_readParty_21 rfl (lv_at hl 0 rfl) ?_
    refine pl_callv (va_runV (As := []) (rest := []) ⟨hx, hb, hml, hown, hT⟩ (r_checkNewName l dC dI cy L kap pr S_6 H.size o hTy hT_o f rn rb rt ⟨_, en7, _, _, ta7, te7, hS_o, by omega, by omega, by omega, by omega⟩) (cwV 0 hT (gV w504 w506 ws6 w3 w507) rfl rfl rfl (by decide +kernel) ⟨(Nat.le_of_ble_eq_true rfl), (Nat.le_of_ble_eq_true rfl)⟩) ⟨pcN.blind, pl_recv hK hW hT_o.1 hS_o rfl, pcN.pre hW.1 hK hW.2.1 hN (fun q h => absurd h List.not_mem_nil)⟩ rfl rfl hl.1 rfl (lv_room (Nat.le_of_ble_eq_true rfl)) dX6_readParty_22 ⟨(Nat.le_of_ble_eq_true rfl), (Nat.le_of_ble_eq_true rfl)⟩) hW hA0 hA (fun S_8 H locs hrel hW => ?_)
    obtain ⟨hTy, hF1, hx1⟩ := hrel
    have hFr := hFr.tr hF1 (by decide)
    have hS_rn := hF1.at hT_rn (by decide) hS_rn
    obtain ⟨f9, hR9, hf9⟩ := hx1
    obtain ⟨pl10, en10, mt10, tk10, ta10, te10, hS_o, hT_rn, hT_rb, hT_rt, hen10, hte10, hta10, hab10⟩ := RKk hTy hT_o hR9
    refine lv_aload_n hx hb dX6_readParty_25 rfl (lv_at hl 0 rfl) ?_
    refine pl_get (ci := 6) (v := .int f9) (C := RX6) (T := TX6) (N := 10) hx hb hT iX6 hown hK hW hT_o.1 hS_o rfl 0 (by decide) w139 rfl dX6_readParty_26 ?_
    refine lv_if_ne (tgt := 56) hx hb dX6_readParty_29 (by decide) (fun c_29 => ?_) (fun c_29 => ?_)
    · refine lv_aload_n hx hb dX6_readParty_56 rfl (lv_at hl 0 rfl) ?_
      refine pl_callv (va_runV (As := []) (rest := []) ⟨hx, hb, hml, hown, hT⟩ (r_next l dC dI cy L kap pr ad S_8 H.size o hTy hT_o f9 rn rb rt ⟨_, en10, _, _, ta10, te10, hS_o, by omega, by omega, by omega⟩) (cwV 0 hT (gV w420 w422 ws0 w3 w423) rfl rfl rfl (by decide +kernel) ⟨(Nat.le_of_ble_eq_true rfl), (Nat.le_of_ble_eq_true rfl)⟩) ⟨pcS.blind, pl_recv hK hW hT_o.1 hS_o rfl, pcS.pre hW.1 hK hW.2.1 hN hSTR hW.2.2⟩ rfl rfl hl.1 rfl (lv_room (Nat.le_of_ble_eq_true rfl)) dX6_readParty_57 ⟨(Nat.le_of_ble_eq_true rfl), (Nat.le_of_ble_eq_true rfl)⟩) hW hA0 hA (fun S_11 H locs hrel hW => ?_)
      obtain ⟨hTy, hF1, hx1⟩ := hrel
      have hFr := hFr.tr hF1 (by decide)
      have hS_rn := hF1.at hT_rn (by decide) hS_rn
      obtain ⟨pl12, en12, mt12, tk12, ta12, te12, hS_o, hT_rn, hT_rb, hT_rt, hen12, hte12, hta12, hab12⟩ := RKk hTy hT_o hx1
      exact W.vret hx hb hr (fun t ht h9 => ⟨⟨S_11, rfl, ⟨hTy, hFr, ⟨_, ⟨_, en12, _, _, ta12, te12, hS_o, by omega, by omega, by omega, by omega⟩, (fun h => hf9 ((fun h => h) h))⟩⟩, by rw [ht]; exact hW.1, va_K.moved h9.alike hK, hW.2.1⟩, hW.2.2.F ht⟩) hW.2.2.2.2 dX6_readParty_60
    · refine lv_aload_n hx hb dX6_readParty_32 rfl (lv_at hl 0 rfl) ?_
      refine pl_get (ci := 6) (v := .ref rn) (C := RX6) (T := TX6) (N := 10) hx hb hT iX6 hown hK hW hT_o.1 hS_o rfl 2 (by decide) w143 rfl dX6_readParty_33 ?_
      refine lv_aload_n hx hb dX6_readParty_36 rfl (lv_at hl 0 rfl) ?_
      refine pl_get (ci := 6) (v := .ref rt) (C := RX6) (T := TX6) (N := 10) hx hb hT iX6 hown hK hW hT_o.1 hS_o rfl 4 (by decide) w147 rfl dX6_readParty_37 ?_
      refine lv_aload_n hx hb dX6_readParty_40 rfl (lv_at hl 0 rfl) ?_
      refine pl_get (ci := 6) (v := .int (nI ta10)) (C := RX6) (T := TX6) (N := 10) hx hb hT iX6 hown hK hW hT_o.1 hS_o rfl 8 (by decide) w151 rfl dX6_readParty_41 ?_
      refine lv_aload_n hx hb dX6_readParty_44 rfl (lv_at hl 0 rfl) ?_
      refine pl_get (ci := 6) (v := .int (nI te10)) (C := RX6) (T := TX6) (N := 10) hx hb hT iX6 hown hK hW hT_o.1 hS_o rfl 9 (by decide) w152 rfl dX6_readParty_45 ?_
      refine lv_aload_n hx hb dX6_readParty_48 rfl (lv_at hl 0 rfl) ?_
      refine pl_get (ci := 6) (v := .int (nI ta10)) (C := RX6) (T := TX6) (N := 10) hx hb hT iX6 hown hK hW hT_o.1 hS_o rfl 8 (by decide) w151 rfl dX6_readParty_49 ?_
      refine lv_isub hx hb dX6_readParty_52 ?_
      refine lv_topi (fun z_13 ez_13 => ?_)
      obtain rfl : z_13 = nI (te10 - ta10) := ez_13.trans (pk_sub (a := te10) (b := ta10) (by omega))
      refine pl_callv (va_runV (As := [.ref rt, .int (nI ta10), .int (nI (te10 - ta10))]) (rest := []) ⟨hx, hb, hml, hown, hT⟩ (s_appendParty l dC dI cy L kap pr S_8 H.size rn rt ta10 (te10 - ta10) hTy hT_rn hT_rt (by omega) (by omega)) (cwV 3 hT (gV w524 w525 w526 w4 w527) rfl rfl rfl (by decide +kernel) ⟨(Nat.le_of_ble_eq_true rfl), (Nat.le_of_ble_eq_true rfl)⟩) ⟨pcN.blind, pl_recv hK hW hT_rn.1 hS_rn rfl, pcN.pre hW.1 hK hW.2.1 hN (fun q h => absurd h List.not_mem_nil)⟩ rfl rfl hl.1 rfl (lv_room (Nat.le_of_ble_eq_true rfl)) dX6_readParty_53 ⟨(Nat.le_of_ble_eq_true rfl), (Nat.le_of_ble_eq_true rfl)⟩) hW hA0 hA (fun S_14 H locs hrel hW => ?_)
      obtain ⟨hTy, hF1⟩ := hrel
      have hFr := hFr.tr hF1 (by decide)
      have hS_o := hF1.at hT_o (by decide) hS_o
      refine lv_aload_n hx hb dX6_readParty_56 rfl (lv_at hl 0 rfl) ?_
      refine pl_callv (va_runV (As := []) (rest := []) ⟨hx, hb, hml, hown, hT⟩ (r_next l dC dI cy L kap pr ad S_14 H.size o hTy hT_o f9 rn rb rt ⟨_, en10, _, _, ta10, te10, hS_o, by omega, by omega, by omega⟩) (cwV 0 hT (gV w420 w422 ws0 w3 w423) rfl rfl rfl (by decide +kernel) ⟨(Nat.le_of_ble_eq_true rfl), (Nat.le_of_ble_eq_true rfl)⟩) ⟨pcS.blind, pl_recv hK hW hT_o.1 hS_o rfl, pcS.pre hW.1 hK hW.2.1 hN hSTR hW.2.2⟩ rfl rfl hl.1 rfl (lv_room (Nat.le_of_ble_eq_true rfl)) dX6_readParty_57 ⟨(Nat.le_of_ble_eq_true rfl), (Nat.le_of_ble_eq_true rfl)⟩) hW hA0 hA (fun S_15 H locs hrel hW => ?_)
      obtain ⟨hTy, hF1, hx1⟩ := hrel
      have hFr := hFr.tr hF1 (by decide)
      obtain ⟨pl16, en16, mt16, tk16, ta16, te16, hS_o, hT_rn, hT_rb, hT_rt, hen16, hte16, hta16, hab16⟩ := RKk hTy hT_o hx1
      exact W.vret hx hb hr (fun t ht h9 => ⟨⟨S_15, rfl, ⟨hTy, hFr, ⟨_, ⟨_, en16, _, _, ta16, te16, hS_o, by omega, by omega, by omega, by omega⟩, (fun h => hf9 ((fun h => h) h))⟩⟩, by rw [ht]; exact hW.1, va_K.moved h9.alike hK, hW.2.1⟩, hW.2.2.F ht⟩) hW.2.2.2.2 dX6_readParty_60
  · have c_9 : ¬ (x_4 < 8) := fun hh9 => c_9 ((nI_ltI (a := x_4) (b := 8) (by omega) (by omega)).mpr hh9)
    refine lv_aload_n hx hb dX6_readParty_12 rfl (lv_at hl 0 rfl) ?_
    refine lv_iconst (v := 4) hx hb dX6_readParty_13 (by decide) ?_
    refine pl_callv (va_runV (As := [.int 4]) (rest := []) ⟨hx, hb, hml, hown, hT⟩ (r_fail l dC dI cy L kap pr S s.heap.size o 4 hTy hT_o f rn rb rt ⟨_, en1, _, _, ta1, te1, hS_o, by omega, by omega, by omega, by omega⟩ (by decide)) (cwV 1 hT (gV w500 w502 ws5 w3 w503) rfl rfl rfl (by decide +kernel) ⟨(Nat.le_of_ble_eq_true rfl), (Nat.le_of_ble_eq_true rfl)⟩) ⟨pcN.blind, pl_recv hK hW hT_o.1 hS_o rfl, pcN.pre hW.1 hK hW.2.1 hN (fun q h => absurd h List.not_mem_nil)⟩ rfl rfl hl.1 rfl (lv_room (Nat.le_of_ble_eq_true rfl)) dX6_readParty_14 ⟨(Nat.le_of_ble_eq_true rfl), (Nat.le_of_ble_eq_true rfl)⟩) hW hA0 hA (fun S_17 H locs hrel hW => ?_)
    obtain ⟨hTy, hF1, hx1⟩ := hrel
    have hFr := hFr.tr hF1 (by decide)
    have hS_rn := hF1.at hT_rn (by decide) hS_rn
    obtain ⟨f18, hR18, hf18⟩ := hx1
    obtain ⟨pl19, en19, mt19, tk19, ta19, te19, hS_o, hT_rn, hT_rb, hT_rt, hen19, hte19, hta19, hab19⟩ := RKk hTy hT_o hR18
    refine lv_aload_n hx hb dX6_readParty_17 rfl (lv_at hl 0 rfl) ?_
    refine pl_callv (va_runV (As := []) (rest := []) ⟨hx, hb, hml, hown, hT⟩ (r_next l dC dI cy L kap pr ad S_17 H.size o hTy hT_o f18 rn rb rt ⟨_, en19, _, _, ta19, te19, hS_o, by omega, by omega, by omega⟩) (cwV 0 hT (gV w420 w422 ws0 w3 w423) rfl rfl rfl (by decide +kernel) ⟨(Nat.le_of_ble_eq_true rfl), (Nat.le_of_ble_eq_true rfl)⟩) ⟨pcS.blind, pl_recv hK hW hT_o.1 hS_o rfl, pcS.pre hW.1 hK hW.2.1 hN hSTR hW.2.2⟩ rfl rfl hl.1 rfl (lv_room (Nat.le_of_ble_eq_true rfl)) dX6_readParty_18 ⟨(Nat.le_of_ble_eq_true rfl), (Nat.le_of_ble_eq_true rfl)⟩) hW hA0 hA (fun S_20 H locs hrel hW => ?_)
    obtain ⟨hTy, hF1, hx1⟩ := hrel
    have hFr := hFr.tr hF1 (by decide)
    have hS_rn := hF1.at hT_rn (by decide) hS_rn
    obtain ⟨pl21, en21, mt21, tk21, ta21, te21, hS_o, hT_rn, hT_rb, hT_rt, hen21, hte21, hta21, hab21⟩ := RKk hTy hT_o hx1
    refine lv_aload_n hx hb dX6_readParty_21 rfl (lv_at hl 0 rfl) ?_
    refine pl_callv (va_runV (As := []) (rest := []) ⟨hx, hb, hml, hown, hT⟩ (r_checkNewName l dC dI cy L kap pr S_20 H.size o hTy hT_o f18 rn rb rt ⟨_, en21, _, _, ta21, te21, hS_o, by omega, by omega, by omega, by omega⟩) (cwV 0 hT (gV w504 w506 ws6 w3 w507) rfl rfl rfl (by decide +kernel) ⟨(Nat.le_of_ble_eq_true rfl), (Nat.le_of_ble_eq_true rfl)⟩) ⟨pcN.blind, pl_recv hK hW hT_o.1 hS_o rfl, pcN.pre hW.1 hK hW.2.1 hN (fun q h => absurd h List.not_mem_nil)⟩ rfl rfl hl.1 rfl (lv_room (Nat.le_of_ble_eq_true rfl)) dX6_readParty_22 ⟨(Nat.le_of_ble_eq_true rfl), (Nat.le_of_ble_eq_true rfl)⟩) hW hA0 hA (fun S_22 H locs hrel hW => ?_)
    obtain ⟨hTy, hF1, hx1⟩ := hrel
    have hFr := hFr.tr hF1 (by decide)
    have hS_rn := hF1.at hT_rn (by decide) hS_rn
    obtain ⟨f23, hR23, hf23⟩ := hx1
    obtain ⟨pl24, en24, mt24, tk24, ta24, te24, hS_o, hT_rn, hT_rb, hT_rt, hen24, hte24, hta24, hab24⟩ := RKk hTy hT_o hR23
    refine lv_aload_n hx hb dX6_readParty_25 rfl (lv_at hl 0 rfl) ?_
    refine pl_get (ci := 6) (v := .int f23) (C := RX6) (T := TX6) (N := 10) hx hb hT iX6 hown hK hW hT_o.1 hS_o rfl 0 (by decide) w139 rfl dX6_readParty_26 ?_
    refine lv_if_ne (tgt := 56) hx hb dX6_readParty_29 (by decide) (fun c_29 => ?_) (fun c_29 => ?_)
    · refine lv_aload_n hx hb dX6_readParty_56 rfl (lv_at hl 0 rfl) ?_
      refine pl_callv (va_runV (As := []) (rest := []) ⟨hx, hb, hml, hown, hT⟩ (r_next l dC dI cy L kap pr ad S_22 H.size o hTy hT_o f23 rn rb rt ⟨_, en24, _, _, ta24, te24, hS_o, by omega, by omega, by omega⟩) (cwV 0 hT (gV w420 w422 ws0 w3 w423) rfl rfl rfl (by decide +kernel) ⟨(Nat.le_of_ble_eq_true rfl), (Nat.le_of_ble_eq_true rfl)⟩) ⟨pcS.blind, pl_recv hK hW hT_o.1 hS_o rfl, pcS.pre hW.1 hK hW.2.1 hN hSTR hW.2.2⟩ rfl rfl hl.1 rfl (lv_room (Nat.le_of_ble_eq_true rfl)) dX6_readParty_57 ⟨(Nat.le_of_ble_eq_true rfl), (Nat.le_of_ble_eq_true rfl)⟩) hW hA0 hA (fun S_25 H locs hrel hW => ?_)
      obtain ⟨hTy, hF1, hx1⟩ := hrel
      have hFr := hFr.tr hF1 (by decide)
      have hS_rn := hF1.at hT_rn (by decide) hS_rn
      obtain ⟨pl26, en26, mt26, tk26, ta26, te26, hS_o, hT_rn, hT_rb, hT_rt, hen26, hte26, hta26, hab26⟩ := RKk hTy hT_o hx1
      exact W.vret hx hb hr (fun t ht h9 => ⟨⟨S_25, rfl, ⟨hTy, hFr, ⟨_, ⟨_, en26, _, _, ta26, te26, hS_o, by omega, by omega, by omega, by omega⟩, (fun h => hf23 ((fun h => (fun _ => hf18) ((fun h => h) h)) h))⟩⟩, by rw [ht]; exact hW.1, va_K.moved h9.alike hK, hW.2.1⟩, hW.2.2.F ht⟩) hW.2.2.2.2 dX6_readParty_60
    · refine lv_aload_n hx hb dX6_readParty_32 rfl (lv_at hl 0 rfl) ?_
      refine pl_get (ci := 6) (v := .ref rn) (C := RX6) (T := TX6) (N := 10) hx hb hT iX6 hown hK hW hT_o.1 hS_o rfl 2 (by decide) w143 rfl dX6_readParty_33 ?_
      refine lv_aload_n hx hb dX6_readParty_36 rfl (lv_at hl 0 rfl) ?_
      refine pl_get (ci := 6) (v := .ref rt) (C := RX6) (T := TX6) (N := 10) hx hb hT iX6 hown hK hW hT_o.1 hS_o rfl 4 (by decide) w147 rfl dX6_readParty_37 ?_
      refine lv_aload_n hx hb dX6_readParty_40 rfl (lv_at hl 0 rfl) ?_
      refine pl_get (ci := 6) (v := .int (nI ta24)) (C := RX6) (T := TX6) (N := 10) hx hb hT iX6 hown hK hW hT_o.1 hS_o rfl 8 (by decide) w151 rfl dX6_readParty_41 ?_
      refine lv_aload_n hx hb dX6_readParty_44 rfl (lv_at hl 0 rfl) ?_
      refine pl_get (ci := 6) (v := .int (nI te24)) (C := RX6) (T := TX6) (N := 10) hx hb hT iX6 hown hK hW hT_o.1 hS_o rfl 9 (by decide) w152 rfl dX6_readParty_45 ?_
      refine lv_aload_n hx hb dX6_readParty_48 rfl (lv_at hl 0 rfl) ?_
      refine pl_get (ci := 6) (v := .int (nI ta24)) (C := RX6) (T := TX6) (N := 10) hx hb hT iX6 hown hK hW hT_o.1 hS_o rfl 8 (by decide) w151 rfl dX6_readParty_49 ?_
      refine lv_isub hx hb dX6_readParty_52 ?_
      refine lv_topi (fun z_27 ez_27 => ?_)
      obtain rfl : z_27 = nI (te24 - ta24) := ez_27.trans (pk_sub (a := te24) (b := ta24) (by omega))
      refine pl_callv (va_runV (As := [.ref rt, .int (nI ta24), .int (nI (te24 - ta24))]) (rest := []) ⟨hx, hb, hml, hown, hT⟩ (s_appendParty l dC dI cy L kap pr S_22 H.size rn rt ta24 (te24 - ta24) hTy hT_rn hT_rt (by omega) (by omega)) (cwV 3 hT (gV w524 w525 w526 w4 w527) rfl rfl rfl (by decide +kernel) ⟨(Nat.le_of_ble_eq_true rfl), (Nat.le_of_ble_eq_true rfl)⟩) ⟨pcN.blind, pl_recv hK hW hT_rn.1 hS_rn rfl, pcN.pre hW.1 hK hW.2.1 hN (fun q h => absurd h List.not_mem_nil)⟩ rfl rfl hl.1 rfl (lv_room (Nat.le_of_ble_eq_true rfl)) dX6_readParty_53 ⟨(Nat.le_of_ble_eq_true rfl), (Nat.le_of_ble_eq_true rfl)⟩) hW hA0 hA (fun S_28 H locs hrel hW => ?_)
      obtain ⟨hTy, hF1⟩ := hrel
      have hFr := hFr.tr hF1 (by decide)
      have hS_o := hF1.at hT_o (by decide) hS_o
      refine lv_aload_n hx hb dX6_readParty_56 rfl (lv_at hl 0 rfl) ?_
      refine pl_callv (va_runV (As := []) (rest := []) ⟨hx, hb, hml, hown, hT⟩ (r_next l dC dI cy L kap pr ad S_28 H.size o hTy hT_o f23 rn rb rt ⟨_, en24, _, _, ta24, te24, hS_o, by omega, by omega, by omega⟩) (cwV 0 hT (gV w420 w422 ws0 w3 w423) rfl rfl rfl (by decide +kernel) ⟨(Nat.le_of_ble_eq_true rfl), (Nat.le_of_ble_eq_true rfl)⟩) ⟨pcS.blind, pl_recv hK hW hT_o.1 hS_o rfl, pcS.pre hW.1 hK hW.2.1 hN hSTR hW.2.2⟩ rfl rfl hl.1 rfl (lv_room (Nat.le_of_ble_eq_true rfl)) dX6_readParty_57 ⟨(Nat.le_of_ble_eq_true rfl), (Nat.le_of_ble_eq_true rfl)⟩) hW hA0 hA (fun S_29 H locs hrel hW => ?_)
      obtain ⟨hTy, hF1, hx1⟩ := hrel
      have hFr := hFr.tr hF1 (by decide)
      obtain ⟨pl30, en30, mt30, tk30, ta30, te30, hS_o, hT_rn, hT_rb, hT_rt, hen30, hte30, hta30, hab30⟩ := RKk hTy hT_o hx1
      exact W.vret hx hb hr (fun t ht h9 => ⟨⟨S_29, rfl, ⟨hTy, hFr, ⟨_, ⟨_, en30, _, _, ta30, te30, hS_o, by omega, by omega, by omega, by omega⟩, (fun h => hf23 ((fun h => (fun _ => hf18) ((fun h => h) h)) h))⟩⟩, by rw [ht]; exact hW.1, va_K.moved h9.alike hK, hW.2.1⟩, hW.2.2.F ht⟩) hW.2.2.2.2 dX6_readParty_60

set_option maxHeartbeats 4000000 in
set_option maxRecDepth 100000 in
theorem r_readKind (l : Launch) (dC : Nat → ClassId) (dI : Nat → Nat → Nat) (cy : Nat → ClassId) (L : List Nat) (kap : Nat → Nat) (pr : Pr) (ad : (Nat → Nat) × (Nat → Nat)) (S : Nat → va_E) (sz : Nat) (o : Nat) (hTy : Ty cy L kap pr S) (hT_o : TK L kap o 6) (f : Int32) (rn : Nat) (rb : Nat) (rt : Nat) (hR : RK S o f rn rb rt) : Met l yX6_readKind (wT yX6_readKind cX6_readKind 1 none) ({ frames := 7, cells := 0, slots := 0, locals := 147 }) (pcS dC dI [.ref o] sz L S (cyT cy) NLs ad) (va_Qv (fun S' => Ty cy L kap pr S' ∧ Fr kap [3, 6, 25, 26] S S' ∧ (∃ f', RK S' o f' rn rb rt ∧ (f ≠ 0 → f' ≠ 0))) (fun S' t => pB dC dI (AL L sz) (va_pl L S') (cyT cy) t) (AL L sz)) 0 0 (AL L sz) := by
  refine Met.ofW (cc := cX6_readKind) (maxL := 1) (ret := none) (by decide) rfl ?_
  intro p e s m args below meth c s₁ B hml hv
  obtain ⟨rfl, hsz, hP, hK, hD0, hN, hSTR⟩ := hv
  have hx := B.exec
  have hb := B.bytes
  have hr := B.returns
  have hT : ∀ wd ∈ TB, wd.before [.ref o].toArray s = true := fun wd h => atoms_spec (ws := wT yX6_readKind cX6_readKind 1 none) B.pre wd (List.mem_cons_of_mem _ h)
  have hown : s.vm.findClass RX6 = some m.cls := findClass_of_methodNamed B.named
  have hlocks := B.notSynchronized
  subst hsz
  have hW : PW dC dI L (AL L s.heap.size) s.heap S s.heap [] := ⟨hP, pl_self hD0, va_S.rf⟩
  have hA0 : ∀ q, q ∈ L → AL L s.heap.size q := fun _ h => Or.inl h
  have hA : ∀ q, s.heap.size ≤ q → AL L s.heap.size q := fun _ h => Or.inr h
  have hFr : Fr kap [3, 6, 25, 26] S S := Fr.rf
  have hl := lv_entry ([.ref o]) (n := 1) (Nat.le_of_ble_eq_true rfl)
  rw [lg_entry_eq]
  generalize (lg_sl ([.ref o]) ++ List.replicate (1 - (lg_sl ([.ref o])).length) Slot.unset).toArray = ls at hl ⊢
  have hl : lv_has ls 1 [(0, .ref o)] := hl
  obtain ⟨pl1, en1, mt1, tk1, ta1, te1, hS_o, hT_rn, hT_rb, hT_rt, hen1, hte1, hta1, hab1⟩ := RKk hTy hT_o hR
  refine lv_aload_n hx hb dX6_readKind_0 rfl (lv_at hl 0 rfl) ?_
  refine pl_get (ci := 6) (v := .ref rn) (C := RX6) (T := TX6) (N := 10) hx hb hT iX6 hown hK hW hT_o.1 hS_o rfl 2 (by decide) w143 rfl dX6_readKind_1 ?_
  obtain ⟨x_2, x_3, x_4, x_5, hS_rn, hT_x_2, hT_x_3, hb_x_4, hb_x_5⟩ := hTy.k3 hT_rn
  refine pl_get (ci := 3) (v := .int (nI x_5)) (C := RX3) (T := TX3) (N := 4) hx hb hT iX3 hown hK hW hT_rn.1 hS_rn rfl 3 (by decide) w66 rfl dX6_readKind_4 ?_
  refine lv_iconst (v := 4) hx hb dX6_readKind_7 (by decide) ?_
  refine lv_icmp_lt (tgt := 16) hx hb dX6_readKind_8 (by decide) (fun c_8 => ?_) (fun c_8 => ?_)
  · have c_8 : x_5 < 4 := (nI_ltI (a := x_5) (b := 4) (by omega) (by omega)).mp c_8
    refine lv_aload_n hx hb dX6_readKind_16 rfl (lv_at hl 0 rfl) ?_
    refine pl_callv (va_runV (As := []) (rest := []) ⟨hx, hb, hml, hown, hT⟩ (r_next l dC dI cy L kap pr ad S s.heap.size o hTy hT_o f rn rb rt ⟨_, en1, _, _, ta1, te1, hS_o, by omega, by omega, by omega⟩) (cwV 0 hT (gV w420 w422 ws0 w3 w423) rfl rfl rfl (by decide +kernel) ⟨(Nat.le_of_ble_eq_true rfl), (Nat.le_of_ble_eq_true rfl)⟩) ⟨pcS.blind, pl_recv hK hW hT_o.1 hS_o rfl, pcS.pre hW.1 hK hW.2.1 hN hSTR hW.2.2⟩ rfl rfl hl.1 rfl (lv_room (Nat.le_of_ble_eq_true rfl)) dX6_readKind_17 ⟨(Nat.le_of_ble_eq_true rfl), (Nat.le_of_ble_eq_true rfl)⟩) hW hA0 hA (fun S_6 H locs hrel hW => ?_)
    obtain ⟨hTy, hF1, hx1⟩ := hrel
    have hFr := hFr.tr hF1 (by decide)
    have hS_rn := hF1.at hT_rn (by decide) hS_rn
    obtain ⟨pl7, en7, mt7, tk7, ta7, te7, hS_o, hT_rn, hT_rb, hT_rt, hen7, hte7, hta7, hab7⟩ := RKk hTy hT_o hx1
    refine lv_aload_n hx hb dX6_readKind_20 rfl (lv_at hl 0 rfl) ?_
    refine pl_callv (va_runV (As := []) (rest := []) ⟨hx, hb, hml, hown, hT⟩ (r_checkNewName l dC dI cy L kap pr S_6 H.size o hTy hT_o f rn rb rt ⟨_, en7, _, _, ta7, te7, hS_o, by omega, by omega, by omega, by omega⟩) (cwV 0 hT (gV w504 w506 ws6 w3 w507) rfl rfl rfl (by decide +kernel) ⟨(Nat.le_of_ble_eq_true rfl), (Nat.le_of_ble_eq_true rfl)⟩) ⟨pcN.blind, pl_recv hK hW hT_o.1 hS_o rfl, pcN.pre hW.1 hK hW.2.1 hN (fun q h => absurd h List.not_mem_nil)⟩ rfl rfl hl.1 rfl (lv_room (Nat.le_of_ble_eq_true rfl)) dX6_readKind_21 ⟨(Nat.le_of_ble_eq_true rfl), (Nat.le_of_ble_eq_true rfl)⟩) hW hA0 hA (fun S_8 H locs hrel hW => ?_)
    obtain ⟨hTy, hF1, hx1⟩ := hrel
    have hFr := hFr.tr hF1 (by decide)
    have hS_rn := hF1.at hT_rn (by decide) hS_rn
    obtain ⟨f9, hR9, hf9⟩ := hx1
    obtain ⟨pl10, en10, mt10, tk10, ta10, te10, hS_o, hT_rn, hT_rb, hT_rt, hen10, hte10, hta10, hab10⟩ := RKk hTy hT_o hR9
    refine lv_aload_n hx hb dX6_readKind_24 rfl (lv_at hl 0 rfl) ?_
    refine pl_get (ci := 6) (v := .int f9) (C := RX6) (T := TX6) (N := 10) hx hb hT iX6 hown hK hW hT_o.1 hS_o rfl 0 (by decide) w139 rfl dX6_readKind_25 ?_
    refine lv_if_ne (tgt := 55) hx hb dX6_readKind_28 (by decide) (fun c_28 => ?_) (fun c_28 => ?_)
    · refine lv_aload_n hx hb dX6_readKind_55 rfl (lv_at hl 0 rfl) ?_
      refine pl_callv (va_runV (As := []) (rest := []) ⟨hx, hb, hml, hown, hT⟩ (r_next l dC dI cy L kap pr ad S_8 H.size o hTy hT_o f9 rn rb rt ⟨_, en10, _, _, ta10, te10, hS_o, by omega, by omega, by omega⟩) (cwV 0 hT (gV w420 w422 ws0 w3 w423) rfl rfl rfl (by decide +kernel) ⟨(Nat.le_of_ble_eq_true rfl), (Nat.le_of_ble_eq_true rfl)⟩) ⟨pcS.blind, pl_recv hK hW hT_o.1 hS_o rfl, pcS.pre hW.1 hK hW.2.1 hN hSTR hW.2.2⟩ rfl rfl hl.1 rfl (lv_room (Nat.le_of_ble_eq_true rfl)) dX6_readKind_56 ⟨(Nat.le_of_ble_eq_true rfl), (Nat.le_of_ble_eq_true rfl)⟩) hW hA0 hA (fun S_11 H locs hrel hW => ?_)
      obtain ⟨hTy, hF1, hx1⟩ := hrel
      have hFr := hFr.tr hF1 (by decide)
      have hS_rn := hF1.at hT_rn (by decide) hS_rn
      obtain ⟨pl12, en12, mt12, tk12, ta12, te12, hS_o, hT_rn, hT_rb, hT_rt, hen12, hte12, hta12, hab12⟩ := RKk hTy hT_o hx1
      exact W.vret hx hb hr (fun t ht h9 => ⟨⟨S_11, rfl, ⟨hTy, hFr, ⟨_, ⟨_, en12, _, _, ta12, te12, hS_o, by omega, by omega, by omega, by omega⟩, (fun h => hf9 ((fun h => h) h))⟩⟩, by rw [ht]; exact hW.1, va_K.moved h9.alike hK, hW.2.1⟩, hW.2.2.F ht⟩) hW.2.2.2.2 dX6_readKind_59
    · refine lv_aload_n hx hb dX6_readKind_31 rfl (lv_at hl 0 rfl) ?_
      refine pl_get (ci := 6) (v := .ref rn) (C := RX6) (T := TX6) (N := 10) hx hb hT iX6 hown hK hW hT_o.1 hS_o rfl 2 (by decide) w143 rfl dX6_readKind_32 ?_
      refine lv_aload_n hx hb dX6_readKind_35 rfl (lv_at hl 0 rfl) ?_
      refine pl_get (ci := 6) (v := .ref rt) (C := RX6) (T := TX6) (N := 10) hx hb hT iX6 hown hK hW hT_o.1 hS_o rfl 4 (by decide) w147 rfl dX6_readKind_36 ?_
      refine lv_aload_n hx hb dX6_readKind_39 rfl (lv_at hl 0 rfl) ?_
      refine pl_get (ci := 6) (v := .int (nI ta10)) (C := RX6) (T := TX6) (N := 10) hx hb hT iX6 hown hK hW hT_o.1 hS_o rfl 8 (by decide) w151 rfl dX6_readKind_40 ?_
      refine lv_aload_n hx hb dX6_readKind_43 rfl (lv_at hl 0 rfl) ?_
      refine pl_get (ci := 6) (v := .int (nI te10)) (C := RX6) (T := TX6) (N := 10) hx hb hT iX6 hown hK hW hT_o.1 hS_o rfl 9 (by decide) w152 rfl dX6_readKind_44 ?_
      refine lv_aload_n hx hb dX6_readKind_47 rfl (lv_at hl 0 rfl) ?_
      refine pl_get (ci := 6) (v := .int (nI ta10)) (C := RX6) (T := TX6) (N := 10) hx hb hT iX6 hown hK hW hT_o.1 hS_o rfl 8 (by decide) w151 rfl dX6_readKind_48 ?_
      refine lv_isub hx hb dX6_readKind_51 ?_
      refine lv_topi (fun z_13 ez_13 => ?_)
      obtain rfl : z_13 = nI (te10 - ta10) := ez_13.trans (pk_sub (a := te10) (b := ta10) (by omega))
      refine pl_callv (va_runV (As := [.ref rt, .int (nI ta10), .int (nI (te10 - ta10))]) (rest := []) ⟨hx, hb, hml, hown, hT⟩ (s_appendKind l dC dI cy L kap pr S_8 H.size rn rt ta10 (te10 - ta10) hTy hT_rn hT_rt (by omega) (by omega)) (cwV 3 hT (gV w537 w538 w539 w4 w540) rfl rfl rfl (by decide +kernel) ⟨(Nat.le_of_ble_eq_true rfl), (Nat.le_of_ble_eq_true rfl)⟩) ⟨pcN.blind, pl_recv hK hW hT_rn.1 hS_rn rfl, pcN.pre hW.1 hK hW.2.1 hN (fun q h => absurd h List.not_mem_nil)⟩ rfl rfl hl.1 rfl (lv_room (Nat.le_of_ble_eq_true rfl)) dX6_readKind_52 ⟨(Nat.le_of_ble_eq_true rfl), (Nat.le_of_ble_eq_true rfl)⟩) hW hA0 hA (fun S_14 H locs hrel hW => ?_)
      obtain ⟨hTy, hF1⟩ := hrel
      have hFr := hFr.tr hF1 (by decide)
      have hS_o := hF1.at hT_o (by decide) hS_o
      refine lv_aload_n hx hb dX6_readKind_55 rfl (lv_at hl 0 rfl) ?_
      refine pl_callv (va_runV (As := []) (rest := []) ⟨hx, hb, hml, hown, hT⟩ (r_next l dC dI cy L kap pr ad S_14 H.size o hTy hT_o f9 rn rb rt ⟨_, en10, _, _, ta10, te10, hS_o, by omega, by omega, by omega⟩) (cwV 0 hT (gV w420 w422 ws0 w3 w423) rfl rfl rfl (by decide +kernel) ⟨(Nat.le_of_ble_eq_true rfl), (Nat.le_of_ble_eq_true rfl)⟩) ⟨pcS.blind, pl_recv hK hW hT_o.1 hS_o rfl, pcS.pre hW.1 hK hW.2.1 hN hSTR hW.2.2⟩ rfl rfl hl.1 rfl (lv_room (Nat.le_of_ble_eq_true rfl)) dX6_readKind_56 ⟨(Nat.le_of_ble_eq_true rfl), (Nat.le_of_ble_eq_true rfl)⟩) hW hA0 hA (fun S_15 H locs hrel hW => ?_)
      obtain ⟨hTy, hF1, hx1⟩ := hrel
      have hFr := hFr.tr hF1 (by decide)
      obtain ⟨pl16, en16, mt16, tk16, ta16, te16, hS_o, hT_rn, hT_rb, hT_rt, hen16, hte16, hta16, hab16⟩ := RKk hTy hT_o hx1
      exact W.vret hx hb hr (fun t ht h9 => ⟨⟨S_15, rfl, ⟨hTy, hFr, ⟨_, ⟨_, en16, _, _, ta16, te16, hS_o, by omega, by omega, by omega, by omega⟩, (fun h => hf9 ((fun h => h) h))⟩⟩, by rw [ht]; exact hW.1, va_K.moved h9.alike hK, hW.2.1⟩, hW.2.2.F ht⟩) hW.2.2.2.2 dX6_readKind_59
  · have c_8 : ¬ (x_5 < 4) := fun hh9 => c_8 ((nI_ltI (a := x_5) (b := 4) (by omega) (by omega)).mpr hh9)
    refine lv_aload_n hx hb dX6_readKind_11 rfl (lv_at hl 0 rfl) ?_
    refine lv_iconst (v := 4) hx hb dX6_readKind_12 (by decide) ?_
    refine pl_callv (va_runV (As := [.int 4]) (rest := []) ⟨hx, hb, hml, hown, hT⟩ (r_fail l dC dI cy L kap pr S s.heap.size o 4 hTy hT_o f rn rb rt ⟨_, en1, _, _, ta1, te1, hS_o, by omega, by omega, by omega, by omega⟩ (by decide)) (cwV 1 hT (gV w500 w502 ws5 w3 w503) rfl rfl rfl (by decide +kernel) ⟨(Nat.le_of_ble_eq_true rfl), (Nat.le_of_ble_eq_true rfl)⟩) ⟨pcN.blind, pl_recv hK hW hT_o.1 hS_o rfl, pcN.pre hW.1 hK hW.2.1 hN (fun q h => absurd h List.not_mem_nil)⟩ rfl rfl hl.1 rfl (lv_room (Nat.le_of_ble_eq_true rfl)) dX6_readKind_13 ⟨(Nat.le_of_ble_eq_true rfl), (Nat.le_of_ble_eq_true rfl)⟩) hW hA0 hA (fun S_17 H locs hrel hW => ?_)
    obtain ⟨hTy, hF1, hx1⟩ := hrel
    have hFr := hFr.tr hF1 (by decide)
    have hS_rn := hF1.at hT_rn (by decide) hS_rn
    obtain ⟨f18, hR18, hf18⟩ := hx1
    obtain ⟨pl19, en19, mt19, tk19, ta19, te19, hS_o, hT_rn, hT_rb, hT_rt, hen19, hte19, hta19, hab19⟩ := RKk hTy hT_o hR18
    refine lv_aload_n hx hb dX6_readKind_16 rfl (lv_at hl 0 rfl) ?_
    refine pl_callv (va_runV (As := []) (rest := []) ⟨hx, hb, hml, hown, hT⟩ (r_next l dC dI cy L kap pr ad S_17 H.size o hTy hT_o f18 rn rb rt ⟨_, en19, _, _, ta19, te19, hS_o, by omega, by omega, by omega⟩) (cwV 0 hT (gV w420 w422 ws0 w3 w423) rfl rfl rfl (by decide +kernel) ⟨(Nat.le_of_ble_eq_true rfl), (Nat.le_of_ble_eq_true rfl)⟩) ⟨pcS.blind, pl_recv hK hW hT_o.1 hS_o rfl, pcS.pre hW.1 hK hW.2.1 hN hSTR hW.2.2⟩ rfl rfl hl.1 rfl (lv_room (Nat.le_of_ble_eq_true rfl)) dX6_readKind_17 ⟨(Nat.le_of_ble_eq_true rfl), (Nat.le_of_ble_eq_true rfl)⟩) hW hA0 hA (fun S_20 H locs hrel hW => ?_)
    obtain ⟨hTy, hF1, hx1⟩ := hrel
    have hFr := hFr.tr hF1 (by decide)
    have hS_rn := hF1.at hT_rn (by decide) hS_rn
    obtain ⟨pl21, en21, mt21, tk21, ta21, te21, hS_o, hT_rn, hT_rb, hT_rt, hen21, hte21, hta21, hab21⟩ := RKk hTy hT_o hx1
    refine lv_aload_n hx hb dX6_readKind_20 rfl (lv_at hl 0 rfl) ?_
    refine pl_callv (va_runV (As := []) (rest := []) ⟨hx, hb, hml, hown, hT⟩ (r_checkNewName l dC dI cy L kap pr S_20 H.size o hTy hT_o f18 rn rb rt ⟨_, en21, _, _, ta21, te21, hS_o, by omega, by omega, by omega, by omega⟩) (cwV 0 hT (gV w504 w506 ws6 w3 w507) rfl rfl rfl (by decide +kernel) ⟨(Nat.le_of_ble_eq_true rfl), (Nat.le_of_ble_eq_true rfl)⟩) ⟨pcN.blind, pl_recv hK hW hT_o.1 hS_o rfl, pcN.pre hW.1 hK hW.2.1 hN (fun q h => absurd h List.not_mem_nil)⟩ rfl rfl hl.1 rfl (lv_room (Nat.le_of_ble_eq_true rfl)) dX6_readKind_21 ⟨(Nat.le_of_ble_eq_true rfl), (Nat.le_of_ble_eq_true rfl)⟩) hW hA0 hA (fun S_22 H locs hrel hW => ?_)
    obtain ⟨hTy, hF1, hx1⟩ := hrel
    have hFr := hFr.tr hF1 (by decide)
    have hS_rn := hF1.at hT_rn (by decide) hS_rn
    obtain ⟨f23, hR23, hf23⟩ := hx1
    obtain ⟨pl24, en24, mt24, tk24, ta24, te24, hS_o, hT_rn, hT_rb, hT_rt, hen24, hte24, hta24, hab24⟩ := RKk hTy hT_o hR23
    refine lv_aload_n hx hb dX6_readKind_24 rfl (lv_at hl 0 rfl) ?_
    refine pl_get (ci := 6) (v := .int f23) (C := RX6) (T := TX6) (N := 10) hx hb hT iX6 hown hK hW hT_o.1 hS_o rfl 0 (by decide) w139 rfl dX6_readKind_25 ?_
    refine lv_if_ne (tgt := 55) hx hb dX6_readKind_28 (by decide) (fun c_28 => ?_) (fun c_28 => ?_)
    · refine lv_aload_n hx hb dX6_readKind_55 rfl (lv_at hl 0 rfl) ?_
      refine pl_callv (va_runV (As := []) (rest := []) ⟨hx, hb, hml, hown, hT⟩ (r_next l dC dI cy L kap pr ad S_22 H.size o hTy hT_o f23 rn rb rt ⟨_, en24, _, _, ta24, te24, hS_o, by omega, by omega, by omega⟩) (cwV 0 hT (gV w420 w422 ws0 w3 w423) rfl rfl rfl (by decide +kernel) ⟨(Nat.le_of_ble_eq_true rfl), (Nat.le_of_ble_eq_true rfl)⟩) ⟨pcS.blind, pl_recv hK hW hT_o.1 hS_o rfl, pcS.pre hW.1 hK hW.2.1 hN hSTR hW.2.2⟩ rfl rfl hl.1 rfl (lv_room (Nat.le_of_ble_eq_true rfl)) dX6_readKind_56 ⟨(Nat.le_of_ble_eq_true rfl), (Nat.le_of_ble_eq_true rfl)⟩) hW hA0 hA (fun S_25 H locs hrel hW => ?_)
      obtain ⟨hTy, hF1, hx1⟩ := hrel
      have hFr := hFr.tr hF1 (by decide)
      have hS_rn := hF1.at hT_rn (by decide) hS_rn
      obtain ⟨pl26, en26, mt26, tk26, ta26, te26, hS_o, hT_rn, hT_rb, hT_rt, hen26, hte26, hta26, hab26⟩ := RKk hTy hT_o hx1
      exact W.vret hx hb hr (fun t ht h9 => ⟨⟨S_25, rfl, ⟨hTy, hFr, ⟨_, ⟨_, en26, _, _, ta26, te26, hS_o, by omega, by omega, by omega, by omega⟩, (fun h => hf23 ((fun h => (fun _ => hf18) ((fun h => h) h)) h))⟩⟩, by rw [ht]; exact hW.1, va_K.moved h9.alike hK, hW.2.1⟩, hW.2.2.F ht⟩) hW.2.2.2.2 dX6_readKind_59
    · refine lv_aload_n hx hb dX6_readKind_31 rfl (lv_at hl 0 rfl) ?_
      refine pl_get (ci := 6) (v := .ref rn) (C := RX6) (T := TX6) (N := 10) hx hb hT iX6 hown hK hW hT_o.1 hS_o rfl 2 (by decide) w143 rfl dX6_readKind_32 ?_
      refine lv_aload_n hx hb dX6_readKind_35 rfl (lv_at hl 0 rfl) ?_
      refine pl_get (ci := 6) (v := .ref rt) (C := RX6) (T := TX6) (N := 10) hx hb hT iX6 hown hK hW hT_o.1 hS_o rfl 4 (by decide) w147 rfl dX6_readKind_36 ?_
      refine lv_aload_n hx hb dX6_readKind_39 rfl (lv_at hl 0 rfl) ?_
      refine pl_get (ci := 6) (v := .int (nI ta24)) (C := RX6) (T := TX6) (N := 10) hx hb hT iX6 hown hK hW hT_o.1 hS_o rfl 8 (by decide) w151 rfl dX6_readKind_40 ?_
      refine lv_aload_n hx hb dX6_readKind_43 rfl (lv_at hl 0 rfl) ?_
      refine pl_get (ci := 6) (v := .int (nI te24)) (C := RX6) (T := TX6) (N := 10) hx hb hT iX6 hown hK hW hT_o.1 hS_o rfl 9 (by decide) w152 rfl dX6_readKind_44 ?_
      refine lv_aload_n hx hb dX6_readKind_47 rfl (lv_at hl 0 rfl) ?_
      refine pl_get (ci := 6) (v := .int (nI ta24)) (C := RX6) (T := TX6) (N := 10) hx hb hT iX6 hown hK hW hT_o.1 hS_o rfl 8 (by decide) w151 rfl dX6_readKind_48 ?_
      refine lv_isub hx hb dX6_readKind_51 ?_
      refine lv_topi (fun z_27 ez_27 => ?_)
      obtain rfl : z_27 = nI (te24 - ta24) := ez_27.trans (pk_sub (a := te24) (b := ta24) (by omega))
      refine pl_callv (va_runV (As := [.ref rt, .int (nI ta24), .int (nI (te24 - ta24))]) (rest := []) ⟨hx, hb, hml, hown, hT⟩ (s_appendKind l dC dI cy L kap pr S_22 H.size rn rt ta24 (te24 - ta24) hTy hT_rn hT_rt (by omega) (by omega)) (cwV 3 hT (gV w537 w538 w539 w4 w540) rfl rfl rfl (by decide +kernel) ⟨(Nat.le_of_ble_eq_true rfl), (Nat.le_of_ble_eq_true rfl)⟩) ⟨pcN.blind, pl_recv hK hW hT_rn.1 hS_rn rfl, pcN.pre hW.1 hK hW.2.1 hN (fun q h => absurd h List.not_mem_nil)⟩ rfl rfl hl.1 rfl (lv_room (Nat.le_of_ble_eq_true rfl)) dX6_readKind_52 ⟨(Nat.le_of_ble_eq_true rfl), (Nat.le_of_ble_eq_true rfl)⟩) hW hA0 hA (fun S_28 H locs hrel hW => ?_)
      obtain ⟨hTy, hF1⟩ := hrel
      have hFr := hFr.tr hF1 (by decide)
      have hS_o := hF1.at hT_o (by decide) hS_o
      refine lv_aload_n hx hb dX6_readKind_55 rfl (lv_at hl 0 rfl) ?_
      refine pl_callv (va_runV (As := []) (rest := []) ⟨hx, hb, hml, hown, hT⟩ (r_next l dC dI cy L kap pr ad S_28 H.size o hTy hT_o f23 rn rb rt ⟨_, en24, _, _, ta24, te24, hS_o, by omega, by omega, by omega⟩) (cwV 0 hT (gV w420 w422 ws0 w3 w423) rfl rfl rfl (by decide +kernel) ⟨(Nat.le_of_ble_eq_true rfl), (Nat.le_of_ble_eq_true rfl)⟩) ⟨pcS.blind, pl_recv hK hW hT_o.1 hS_o rfl, pcS.pre hW.1 hK hW.2.1 hN hSTR hW.2.2⟩ rfl rfl hl.1 rfl (lv_room (Nat.le_of_ble_eq_true rfl)) dX6_readKind_56 ⟨(Nat.le_of_ble_eq_true rfl), (Nat.le_of_ble_eq_true rfl)⟩) hW hA0 hA (fun S_29 H locs hrel hW => ?_)
      obtain ⟨hTy, hF1, hx1⟩ := hrel
      have hFr := hFr.tr hF1 (by decide)
      obtain ⟨pl30, en30, mt30, tk30, ta30, te30, hS_o, hT_rn, hT_rb, hT_rt, hen30, hte30, hta30, hab30⟩ := RKk hTy hT_o hx1
      exact W.vret hx hb hr (fun t ht h9 => ⟨⟨S_29, rfl, ⟨hTy, hFr, ⟨_, ⟨_, en30, _, _, ta30, te30, hS_o, by omega, by omega, by omega, by omega⟩, (fun h => hf23 ((fun h => (fun _ => hf18) ((fun h => h) h)) h))⟩⟩, by rw [ht]; exact hW.1, va_K.moved h9.alike hK, hW.2.1⟩, hW.2.2.F ht⟩) hW.2.2.2.2 dX6_readKind_59

set_option maxHeartbeats 4000000 in
set_option maxRecDepth 100000 in
theorem r_readTrade (l : Launch) (dC : Nat → ClassId) (dI : Nat → Nat → Nat) (cy : Nat → ClassId) (L : List Nat) (kap : Nat → Nat) (pr : Pr) (ad : (Nat → Nat) × (Nat → Nat)) (S : Nat → va_E) (sz : Nat) (o : Nat) (hTy : Ty cy L kap pr S) (hT_o : TK L kap o 6) (f : Int32) (rn : Nat) (rb : Nat) (rt : Nat) (hR : RK S o f rn rb rt) : Met l yX6_readTrade (wT yX6_readTrade cX6_readTrade 5 none) ({ frames := 7, cells := 0, slots := 0, locals := 147 }) (pcS dC dI [.ref o] sz L S (cyT cy) NLs ad) (va_Qv (fun S' => Ty cy L kap pr S' ∧ Fr kap [0, 6, 20, 21, 22, 23] S S' ∧ (∃ f', RK S' o f' rn rb rt ∧ (f ≠ 0 → f' ≠ 0))) (fun S' t => pB dC dI (AL L sz) (va_pl L S') (cyT cy) t) (AL L sz)) 0 0 (AL L sz) := by
  refine Met.ofW (cc := cX6_readTrade) (maxL := 5) (ret := none) (by decide) rfl ?_
  intro p e s m args below meth c s₁ B hml hv
  obtain ⟨rfl, hsz, hP, hK, hD0, hN, hSTR⟩ := hv
  have hx := B.exec
  have hb := B.bytes
  have hr := B.returns
  have hT : ∀ wd ∈ TB, wd.before [.ref o].toArray s = true := fun wd h => atoms_spec (ws := wT yX6_readTrade cX6_readTrade 5 none) B.pre wd (List.mem_cons_of_mem _ h)
  have hown : s.vm.findClass RX6 = some m.cls := findClass_of_methodNamed B.named
  have hlocks := B.notSynchronized
  subst hsz
  have hW : PW dC dI L (AL L s.heap.size) s.heap S s.heap [] := ⟨hP, pl_self hD0, va_S.rf⟩
  have hA0 : ∀ q, q ∈ L → AL L s.heap.size q := fun _ h => Or.inl h
  have hA : ∀ q, s.heap.size ≤ q → AL L s.heap.size q := fun _ h => Or.inr h
  have hFr : Fr kap [0, 6, 20, 21, 22, 23] S S := Fr.rf
  have hl := lv_entry ([.ref o]) (n := 5) (Nat.le_of_ble_eq_true rfl)
  rw [lg_entry_eq]
  generalize (lg_sl ([.ref o]) ++ List.replicate (5 - (lg_sl ([.ref o])).length) Slot.unset).toArray = ls at hl ⊢
  have hl : lv_has ls 5 [(0, .ref o)] := hl
  obtain ⟨pl1, en1, mt1, tk1, ta1, te1, hS_o, hT_rn, hT_rb, hT_rt, hen1, hte1, hta1, hab1⟩ := RKk hTy hT_o hR
  refine lv_aload_n hx hb dX6_readTrade_0 rfl (lv_at hl 0 rfl) ?_
  refine pl_get (ci := 6) (v := .ref rb) (C := RX6) (T := TX6) (N := 10) hx hb hT iX6 hown hK hW hT_o.1 hS_o rfl 3 (by decide) w145 rfl dX6_readTrade_1 ?_
  obtain ⟨x_2, x_3, x_4, x_5, x_6, x_7, x_8, x_9, hS_rb, hT_x_2, hT_x_3, hT_x_4, hT_x_5, hT_x_6, hT_x_7, hb_x_8⟩ := hTy.k0 hT_rb
  refine pl_get (ci := 0) (v := .int (nI x_8)) (C := RX0) (T := TX0) (N := 8) hx hb hT iX0 hown hK hW hT_rb.1 hS_rb rfl 6 (by decide) w115 rfl dX6_readTrade_4 ?_
  refine lv_bipush (v := 40) hx hb dX6_readTrade_7 (by decide) ?_
  refine lv_icmp_lt (tgt := 17) hx hb dX6_readTrade_9 (by decide) (fun c_9 => ?_) (fun c_9 => ?_)
  · have c_9 : x_8 < 40 := (nI_ltI (a := x_8) (b := 40) (by omega) (by omega)).mp c_9
    refine lv_aload_n hx hb dX6_readTrade_17 rfl (lv_at hl 0 rfl) ?_
    refine pl_callv (va_runV (As := []) (rest := []) ⟨hx, hb, hml, hown, hT⟩ (r_next l dC dI cy L kap pr ad S s.heap.size o hTy hT_o f rn rb rt ⟨_, en1, _, _, ta1, te1, hS_o, by omega, by omega, by omega⟩) (cwV 0 hT (gV w420 w422 ws0 w3 w423) rfl rfl rfl (by decide +kernel) ⟨(Nat.le_of_ble_eq_true rfl), (Nat.le_of_ble_eq_true rfl)⟩) ⟨pcS.blind, pl_recv hK hW hT_o.1 hS_o rfl, pcS.pre hW.1 hK hW.2.1 hN hSTR hW.2.2⟩ rfl rfl hl.1 rfl (lv_room (Nat.le_of_ble_eq_true rfl)) dX6_readTrade_18 ⟨(Nat.le_of_ble_eq_true rfl), (Nat.le_of_ble_eq_true rfl)⟩) hW hA0 hA (fun S_10 H locs hrel hW => ?_)
    obtain ⟨hTy, hF1, hx1⟩ := hrel
    have hFr := hFr.tr hF1 (by decide)
    have hS_rb := hF1.at hT_rb (by decide) hS_rb
    obtain ⟨pl11, en11, mt11, tk11, ta11, te11, hS_o, hT_rn, hT_rb, hT_rt, hen11, hte11, hta11, hab11⟩ := RKk hTy hT_o hx1
    refine lv_aload_n hx hb dX6_readTrade_21 rfl (lv_at hl 0 rfl) ?_
    refine pl_calli (va_runV (As := []) (rest := []) ⟨hx, hb, hml, hown, hT⟩ (r_knownParty l dC dI cy L kap pr S_10 H.size o hTy hT_o f rn rb rt ⟨_, en11, _, _, ta11, te11, hS_o, by omega, by omega, by omega, by omega⟩) (cwV 0 hT (gV w545 w547 ws13 w3 w548) rfl rfl rfl (by decide +kernel) ⟨(Nat.le_of_ble_eq_true rfl), (Nat.le_of_ble_eq_true rfl)⟩) ⟨pcN.blind, pl_recv hK hW hT_o.1 hS_o rfl, pcN.pre hW.1 hK hW.2.1 hN (fun q h => absurd h List.not_mem_nil)⟩ rfl rfl hl.1 rfl (lv_room (Nat.le_of_ble_eq_true rfl)) dX6_readTrade_22 ⟨(Nat.le_of_ble_eq_true rfl), (Nat.le_of_ble_eq_true rfl)⟩) hW hA0 hA (fun r_13 S_12 H locs hrel hW => ?_)
    obtain ⟨hTy, hF1, hx1⟩ := hrel
    have hFr := hFr.tr hF1 (by decide)
    have hS_rb := hF1.at hT_rb (by decide) hS_rb
    obtain ⟨f14, hR14, hf14, hv14⟩ := hx1
    obtain ⟨pl15, en15, mt15, tk15, ta15, te15, hS_o, hT_rn, hT_rb, hT_rt, hen15, hte15, hta15, hab15⟩ := RKk hTy hT_o hR14
    refine lv_istore_n (lv' := [(1, .int r_13), (0, .ref o)]) hx hb dX6_readTrade_25 rfl hl (by decide) rfl (fun ls hl => ?_)
    refine lv_aload_n hx hb dX6_readTrade_26 rfl (lv_at hl 1 rfl) ?_
    refine pl_callv (va_runV (As := []) (rest := []) ⟨hx, hb, hml, hown, hT⟩ (r_next l dC dI cy L kap pr ad S_12 H.size o hTy hT_o f14 rn rb rt ⟨_, en15, _, _, ta15, te15, hS_o, by omega, by omega, by omega⟩) (cwV 0 hT (gV w420 w422 ws0 w3 w423) rfl rfl rfl (by decide +kernel) ⟨(Nat.le_of_ble_eq_true rfl), (Nat.le_of_ble_eq_true rfl)⟩) ⟨pcS.blind, pl_recv hK hW hT_o.1 hS_o rfl, pcS.pre hW.1 hK hW.2.1 hN hSTR hW.2.2⟩ rfl rfl hl.1 rfl (lv_room (Nat.le_of_ble_eq_true rfl)) dX6_readTrade_27 ⟨(Nat.le_of_ble_eq_true rfl), (Nat.le_of_ble_eq_true rfl)⟩) hW hA0 hA (fun S_16 H locs hrel hW => ?_)
    obtain ⟨hTy, hF1, hx1⟩ := hrel
    have hFr := hFr.tr hF1 (by decide)
    have hS_rb := hF1.at hT_rb (by decide) hS_rb
    obtain ⟨pl17, en17, mt17, tk17, ta17, te17, hS_o, hT_rn, hT_rb, hT_rt, hen17, hte17, hta17, hab17⟩ := RKk hTy hT_o hx1
    refine lv_aload_n hx hb dX6_readTrade_30 rfl (lv_at hl 1 rfl) ?_
    refine pl_calli (va_runV (As := []) (rest := []) ⟨hx, hb, hml, hown, hT⟩ (r_knownParty l dC dI cy L kap pr S_16 H.size o hTy hT_o f14 rn rb rt ⟨_, en17, _, _, ta17, te17, hS_o, by omega, by omega, by omega, by omega⟩) (cwV 0 hT (gV w545 w547 ws13 w3 w548) rfl rfl rfl (by decide +kernel) ⟨(Nat.le_of_ble_eq_true rfl), (Nat.le_of_ble_eq_true rfl)⟩) ⟨pcN.blind, pl_recv hK hW hT_o.1 hS_o rfl, pcN.pre hW.1 hK hW.2.1 hN (fun q h => absurd h List.not_mem_nil)⟩ rfl rfl hl.1 rfl (lv_room (Nat.le_of_ble_eq_true rfl)) dX6_readTrade_31 ⟨(Nat.le_of_ble_eq_true rfl), (Nat.le_of_ble_eq_true rfl)⟩) hW hA0 hA (fun r_19 S_18 H locs hrel hW => ?_)
    obtain ⟨hTy, hF1, hx1⟩ := hrel
    have hFr := hFr.tr hF1 (by decide)
    have hS_rb := hF1.at hT_rb (by decide) hS_rb
    obtain ⟨f20, hR20, hf20, hv20⟩ := hx1
    obtain ⟨pl21, en21, mt21, tk21, ta21, te21, hS_o, hT_rn, hT_rb, hT_rt, hen21, hte21, hta21, hab21⟩ := RKk hTy hT_o hR20
    refine lv_istore_n (lv' := [(2, .int r_19), (1, .int r_13), (0, .ref o)]) hx hb dX6_readTrade_34 rfl hl (by decide) rfl (fun ls hl => ?_)
    refine lv_aload_n hx hb dX6_readTrade_35 rfl (lv_at hl 2 rfl) ?_
    refine lv_iload_n hx hb dX6_readTrade_36 rfl (lv_at hl 1 rfl) ?_
    refine lv_iload_n hx hb dX6_readTrade_37 rfl (lv_at hl 0 rfl) ?_
    refine pl_callv (va_runV (As := [.int r_13, .int r_19]) (rest := []) ⟨hx, hb, hml, hown, hT⟩ (r_failIfSame l dC dI cy L kap pr S_18 H.size o r_13 r_19 hTy hT_o f20 rn rb rt ⟨_, en21, _, _, ta21, te21, hS_o, by omega, by omega, by omega, by omega⟩) (cwV 2 hT (gV w549 w551 ws14 w3 w552) rfl rfl rfl (by decide +kernel) ⟨(Nat.le_of_ble_eq_true rfl), (Nat.le_of_ble_eq_true rfl)⟩) ⟨pcN.blind, pl_recv hK hW hT_o.1 hS_o rfl, pcN.pre hW.1 hK hW.2.1 hN (fun q h => absurd h List.not_mem_nil)⟩ rfl rfl hl.1 rfl (lv_room (Nat.le_of_ble_eq_true rfl)) dX6_readTrade_38 ⟨(Nat.le_of_ble_eq_true rfl), (Nat.le_of_ble_eq_true rfl)⟩) hW hA0 hA (fun S_22 H locs hrel hW => ?_)
    obtain ⟨hTy, hF1, hx1⟩ := hrel
    have hFr := hFr.tr hF1 (by decide)
    have hS_rb := hF1.at hT_rb (by decide) hS_rb
    obtain ⟨f23, hR23, hf23⟩ := hx1
    obtain ⟨pl24, en24, mt24, tk24, ta24, te24, hS_o, hT_rn, hT_rb, hT_rt, hen24, hte24, hta24, hab24⟩ := RKk hTy hT_o hR23
    refine lv_aload_n hx hb dX6_readTrade_41 rfl (lv_at hl 2 rfl) ?_
    refine pl_callv (va_runV (As := []) (rest := []) ⟨hx, hb, hml, hown, hT⟩ (r_next l dC dI cy L kap pr ad S_22 H.size o hTy hT_o f23 rn rb rt ⟨_, en24, _, _, ta24, te24, hS_o, by omega, by omega, by omega⟩) (cwV 0 hT (gV w420 w422 ws0 w3 w423) rfl rfl rfl (by decide +kernel) ⟨(Nat.le_of_ble_eq_true rfl), (Nat.le_of_ble_eq_true rfl)⟩) ⟨pcS.blind, pl_recv hK hW hT_o.1 hS_o rfl, pcS.pre hW.1 hK hW.2.1 hN hSTR hW.2.2⟩ rfl rfl hl.1 rfl (lv_room (Nat.le_of_ble_eq_true rfl)) dX6_readTrade_42 ⟨(Nat.le_of_ble_eq_true rfl), (Nat.le_of_ble_eq_true rfl)⟩) hW hA0 hA (fun S_25 H locs hrel hW => ?_)
    obtain ⟨hTy, hF1, hx1⟩ := hrel
    have hFr := hFr.tr hF1 (by decide)
    have hS_rb := hF1.at hT_rb (by decide) hS_rb
    obtain ⟨pl26, en26, mt26, tk26, ta26, te26, hS_o, hT_rn, hT_rb, hT_rt, hen26, hte26, hta26, hab26⟩ := RKk hTy hT_o hx1
    refine lv_aload_n hx hb dX6_readTrade_45 rfl (lv_at hl 2 rfl) ?_
    refine lv_iconst (v := 1) hx hb dX6_readTrade_46 (by decide) ?_
    refine lv_ldc (v := 999999) hx hb hown (hT _ w553) dX6_readTrade_47 ?_
    refine pl_calli (va_runV (As := [.int 1, .int 999999]) (rest := []) ⟨hx, hb, hml, hown, hT⟩ (r_numberWithin l dC dI cy L kap pr S_25 H.size o 1 999999 hTy hT_o f23 rn rb rt ⟨_, en26, _, _, ta26, te26, hS_o, by omega, by omega, by omega, by omega⟩) (cwV 2 hT (gV w554 w556 ws15 w3 w557) rfl rfl rfl (by decide +kernel) ⟨(Nat.le_of_ble_eq_true rfl), (Nat.le_of_ble_eq_true rfl)⟩) ⟨pcN.blind, pl_recv hK hW hT_o.1 hS_o rfl, pcN.pre hW.1 hK hW.2.1 hN (fun q h => absurd h List.not_mem_nil)⟩ rfl rfl hl.1 rfl (lv_room (Nat.le_of_ble_eq_true rfl)) dX6_readTrade_49 ⟨(Nat.le_of_ble_eq_true rfl), (Nat.le_of_ble_eq_true rfl)⟩) hW hA0 hA (fun r_28 S_27 H locs hrel hW => ?_)
    obtain ⟨hTy, hF1, hx1⟩ := hrel
    have hFr := hFr.tr hF1 (by decide)
    have hS_rb := hF1.at hT_rb (by decide) hS_rb
    obtain ⟨f29, hR29, hf29, hv29⟩ := hx1
    obtain ⟨pl30, en30, mt30, tk30, ta30, te30, hS_o, hT_rn, hT_rb, hT_rt, hen30, hte30, hta30, hab30⟩ := RKk hTy hT_o hR29
    refine lv_istore_n (lv' := [(3, .int r_28), (2, .int r_19), (1, .int r_13), (0, .ref o)]) hx hb dX6_readTrade_52 rfl hl (by decide) rfl (fun ls hl => ?_)
    refine lv_aload_n hx hb dX6_readTrade_53 rfl (lv_at hl 3 rfl) ?_
    refine pl_callv (va_runV (As := []) (rest := []) ⟨hx, hb, hml, hown, hT⟩ (r_next l dC dI cy L kap pr ad S_27 H.size o hTy hT_o f29 rn rb rt ⟨_, en30, _, _, ta30, te30, hS_o, by omega, by omega, by omega⟩) (cwV 0 hT (gV w420 w422 ws0 w3 w423) rfl rfl rfl (by decide +kernel) ⟨(Nat.le_of_ble_eq_true rfl), (Nat.le_of_ble_eq_true rfl)⟩) ⟨pcS.blind, pl_recv hK hW hT_o.1 hS_o rfl, pcS.pre hW.1 hK hW.2.1 hN hSTR hW.2.2⟩ rfl rfl hl.1 rfl (lv_room (Nat.le_of_ble_eq_true rfl)) dX6_readTrade_54 ⟨(Nat.le_of_ble_eq_true rfl), (Nat.le_of_ble_eq_true rfl)⟩) hW hA0 hA (fun S_31 H locs hrel hW => ?_)
    obtain ⟨hTy, hF1, hx1⟩ := hrel
    have hFr := hFr.tr hF1 (by decide)
    have hS_rb := hF1.at hT_rb (by decide) hS_rb
    obtain ⟨pl32, en32, mt32, tk32, ta32, te32, hS_o, hT_rn, hT_rb, hT_rt, hen32, hte32, hta32, hab32⟩ := RKk hTy hT_o hx1
    refine lv_aload_n hx hb dX6_readTrade_57 rfl (lv_at hl 3 rfl) ?_
    refine pl_calli (va_runV (As := []) (rest := []) ⟨hx, hb, hml, hown, hT⟩ (r_knownKind l dC dI cy L kap pr S_31 H.size o hTy hT_o f29 rn rb rt ⟨_, en32, _, _, ta32, te32, hS_o, by omega, by omega, by omega, by omega⟩) (cwV 0 hT (gV w558 w560 ws16 w3 w561) rfl rfl rfl (by decide +kernel) ⟨(Nat.le_of_ble_eq_true rfl), (Nat.le_of_ble_eq_true rfl)⟩) ⟨pcN.blind, pl_recv hK hW hT_o.1 hS_o rfl, pcN.pre hW.1 hK hW.2.1 hN (fun q h => absurd h List.not_mem_nil)⟩ rfl rfl hl.1 rfl (lv_room (Nat.le_of_ble_eq_true rfl)) dX6_readTrade_58 ⟨(Nat.le_of_ble_eq_true rfl), (Nat.le_of_ble_eq_true rfl)⟩) hW hA0 hA (fun r_34 S_33 H locs hrel hW => ?_)
    obtain ⟨hTy, hF1, hx1⟩ := hrel
    have hFr := hFr.tr hF1 (by decide)
    have hS_rb := hF1.at hT_rb (by decide) hS_rb
    obtain ⟨f35, hR35, hf35, hv35⟩ := hx1
    obtain ⟨pl36, en36, mt36, tk36, ta36, te36, hS_o, hT_rn, hT_rb, hT_rt, hen36, hte36, hta36, hab36⟩ := RKk hTy hT_o hR35
    refine lv_istore (lv' := [(4, .int r_34), (3, .int r_28), (2, .int r_19), (1, .int r_13), (0, .ref o)]) hx hb dX6_readTrade_61 hl (by decide) rfl (fun ls hl => ?_)
    refine lv_aload_n hx hb dX6_readTrade_63 rfl (lv_at hl 4 rfl) ?_
    refine pl_callv (va_runV (As := []) (rest := []) ⟨hx, hb, hml, hown, hT⟩ (r_next l dC dI cy L kap pr ad S_33 H.size o hTy hT_o f35 rn rb rt ⟨_, en36, _, _, ta36, te36, hS_o, by omega, by omega, by omega⟩) (cwV 0 hT (gV w420 w422 ws0 w3 w423) rfl rfl rfl (by decide +kernel) ⟨(Nat.le_of_ble_eq_true rfl), (Nat.le_of_ble_eq_true rfl)⟩) ⟨pcS.blind, pl_recv hK hW hT_o.1 hS_o rfl, pcS.pre hW.1 hK hW.2.1 hN hSTR hW.2.2⟩ rfl rfl hl.1 rfl (lv_room (Nat.le_of_ble_eq_true rfl)) dX6_readTrade_64 ⟨(Nat.le_of_ble_eq_true rfl), (Nat.le_of_ble_eq_true rfl)⟩) hW hA0 hA (fun S_37 H locs hrel hW => ?_)
    obtain ⟨hTy, hF1, hx1⟩ := hrel
    have hFr := hFr.tr hF1 (by decide)
    have hS_rb := hF1.at hT_rb (by decide) hS_rb
    obtain ⟨pl38, en38, mt38, tk38, ta38, te38, hS_o, hT_rn, hT_rb, hT_rt, hen38, hte38, hta38, hab38⟩ := RKk hTy hT_o hx1
    refine lv_aload_n hx hb dX6_readTrade_67 rfl (lv_at hl 4 rfl) ?_
    refine pl_get (ci := 6) (v := .int f35) (C := RX6) (T := TX6) (N := 10) hx hb hT iX6 hown hK hW hT_o.1 hS_o rfl 0 (by decide) w139 rfl dX6_readTrade_68 ?_
    refine lv_if_ne (tgt := 87) hx hb dX6_readTrade_71 (by decide) (fun c_71 => ?_) (fun c_71 => ?_)
    · exact W.vret hx hb hr (fun t ht h9 => ⟨⟨S_37, rfl, ⟨hTy, hFr, ⟨_, ⟨_, en38, _, _, ta38, te38, hS_o, by omega, by omega, by omega, by omega⟩, (fun h => hf35 ((fun h => hf29 ((fun h => hf23 ((fun h => hf20 ((fun h => hf14 ((fun h => h) h)) h)) h)) h)) h))⟩⟩, by rw [ht]; exact hW.1, va_K.moved h9.alike hK, hW.2.1⟩, hW.2.2.F ht⟩) hW.2.2.2.2 dX6_readTrade_87
    · obtain ⟨k_39, hb_k_39, rfl⟩ := hv14.resolve_left (fun h => (fun h => hf35 ((fun h => hf29 ((fun h => hf23 ((fun h => hf20 ((fun h => h) h)) h)) h)) h)) h c_71)
      obtain ⟨k_40, hb_k_40, rfl⟩ := hv20.resolve_left (fun h => (fun h => hf35 ((fun h => hf29 ((fun h => hf23 ((fun h => h) h)) h)) h)) h c_71)
      obtain ⟨k_41, hb_k_41, rfl⟩ := hv35.resolve_left (fun h => (fun h => h) h c_71)
      refine lv_aload_n hx hb dX6_readTrade_74 rfl (lv_at hl 4 rfl) ?_
      refine pl_get (ci := 6) (v := .ref rb) (C := RX6) (T := TX6) (N := 10) hx hb hT iX6 hown hK hW hT_o.1 hS_o rfl 3 (by decide) w145 rfl dX6_readTrade_75 ?_
      refine lv_iload_n hx hb dX6_readTrade_78 rfl (lv_at hl 3 rfl) ?_
      refine lv_iload_n hx hb dX6_readTrade_79 rfl (lv_at hl 2 rfl) ?_
      refine lv_iload_n hx hb dX6_readTrade_80 rfl (lv_at hl 1 rfl) ?_
      refine lv_i2l hx hb dX6_readTrade_81 rfl ?_
      refine lv_topl (fun z_42 ez_42 => ?_)
      refine lv_iload hx hb dX6_readTrade_82 (lv_at hl 0 rfl) ?_
      refine pl_callv (va_runV (As := [.int (nI k_39), .int (nI k_40), .long z_42, .int (nI k_41)]) (rest := []) ⟨hx, hb, hml, hown, hT⟩ (s_append l dC dI cy L kap pr S_37 H.size rb k_39 k_40 z_42 k_41 hTy hT_rb (by omega) (by omega) (by omega)) (cwV 4 hT (gV w562 w563 w564 w5 w565) rfl rfl rfl (by decide +kernel) ⟨(Nat.le_of_ble_eq_true rfl), (Nat.le_of_ble_eq_true rfl)⟩) ⟨pcN.blind, pl_recv hK hW hT_rb.1 hS_rb rfl, pcN.pre hW.1 hK hW.2.1 hN (fun q h => absurd h List.not_mem_nil)⟩ rfl rfl hl.1 rfl (lv_room (Nat.le_of_ble_eq_true rfl)) dX6_readTrade_84 ⟨(Nat.le_of_ble_eq_true rfl), (Nat.le_of_ble_eq_true rfl)⟩) hW hA0 hA (fun S_43 H locs hrel hW => ?_)
      obtain ⟨hTy, hF1⟩ := hrel
      have hFr := hFr.tr hF1 (by decide)
      have hS_o := hF1.at hT_o (by decide) hS_o
      exact W.vret hx hb hr (fun t ht h9 => ⟨⟨S_43, rfl, ⟨hTy, hFr, ⟨_, ⟨_, en38, _, _, ta38, te38, hS_o, by omega, by omega, by omega, by omega⟩, (fun h => hf35 ((fun h => hf29 ((fun h => hf23 ((fun h => hf20 ((fun h => hf14 ((fun h => h) h)) h)) h)) h)) h))⟩⟩, by rw [ht]; exact hW.1, va_K.moved h9.alike hK, hW.2.1⟩, hW.2.2.F ht⟩) hW.2.2.2.2 dX6_readTrade_87
  · have c_9 : ¬ (x_8 < 40) := fun hh9 => c_9 ((nI_ltI (a := x_8) (b := 40) (by omega) (by omega)).mpr hh9)
    refine lv_aload_n hx hb dX6_readTrade_12 rfl (lv_at hl 0 rfl) ?_
    refine lv_iconst (v := 4) hx hb dX6_readTrade_13 (by decide) ?_
    refine pl_callv (va_runV (As := [.int 4]) (rest := []) ⟨hx, hb, hml, hown, hT⟩ (r_fail l dC dI cy L kap pr S s.heap.size o 4 hTy hT_o f rn rb rt ⟨_, en1, _, _, ta1, te1, hS_o, by omega, by omega, by omega, by omega⟩ (by decide)) (cwV 1 hT (gV w500 w502 ws5 w3 w503) rfl rfl rfl (by decide +kernel) ⟨(Nat.le_of_ble_eq_true rfl), (Nat.le_of_ble_eq_true rfl)⟩) ⟨pcN.blind, pl_recv hK hW hT_o.1 hS_o rfl, pcN.pre hW.1 hK hW.2.1 hN (fun q h => absurd h List.not_mem_nil)⟩ rfl rfl hl.1 rfl (lv_room (Nat.le_of_ble_eq_true rfl)) dX6_readTrade_14 ⟨(Nat.le_of_ble_eq_true rfl), (Nat.le_of_ble_eq_true rfl)⟩) hW hA0 hA (fun S_44 H locs hrel hW => ?_)
    obtain ⟨hTy, hF1, hx1⟩ := hrel
    have hFr := hFr.tr hF1 (by decide)
    have hS_rb := hF1.at hT_rb (by decide) hS_rb
    obtain ⟨f45, hR45, hf45⟩ := hx1
    obtain ⟨pl46, en46, mt46, tk46, ta46, te46, hS_o, hT_rn, hT_rb, hT_rt, hen46, hte46, hta46, hab46⟩ := RKk hTy hT_o hR45
    refine lv_aload_n hx hb dX6_readTrade_17 rfl (lv_at hl 0 rfl) ?_
    refine pl_callv (va_runV (As := []) (rest := []) ⟨hx, hb, hml, hown, hT⟩ (r_next l dC dI cy L kap pr ad S_44 H.size o hTy hT_o f45 rn rb rt ⟨_, en46, _, _, ta46, te46, hS_o, by omega, by omega, by omega⟩) (cwV 0 hT (gV w420 w422 ws0 w3 w423) rfl rfl rfl (by decide +kernel) ⟨(Nat.le_of_ble_eq_true rfl), (Nat.le_of_ble_eq_true rfl)⟩) ⟨pcS.blind, pl_recv hK hW hT_o.1 hS_o rfl, pcS.pre hW.1 hK hW.2.1 hN hSTR hW.2.2⟩ rfl rfl hl.1 rfl (lv_room (Nat.le_of_ble_eq_true rfl)) dX6_readTrade_18 ⟨(Nat.le_of_ble_eq_true rfl), (Nat.le_of_ble_eq_true rfl)⟩) hW hA0 hA (fun S_47 H locs hrel hW => ?_)
    obtain ⟨hTy, hF1, hx1⟩ := hrel
    have hFr := hFr.tr hF1 (by decide)
    have hS_rb := hF1.at hT_rb (by decide) hS_rb
    obtain ⟨pl48, en48, mt48, tk48, ta48, te48, hS_o, hT_rn, hT_rb, hT_rt, hen48, hte48, hta48, hab48⟩ := RKk hTy hT_o hx1
    refine lv_aload_n hx hb dX6_readTrade_21 rfl (lv_at hl 0 rfl) ?_
    refine pl_calli (va_runV (As := []) (rest := []) ⟨hx, hb, hml, hown, hT⟩ (r_knownParty l dC dI cy L kap pr S_47 H.size o hTy hT_o f45 rn rb rt ⟨_, en48, _, _, ta48, te48, hS_o, by omega, by omega, by omega, by omega⟩) (cwV 0 hT (gV w545 w547 ws13 w3 w548) rfl rfl rfl (by decide +kernel) ⟨(Nat.le_of_ble_eq_true rfl), (Nat.le_of_ble_eq_true rfl)⟩) ⟨pcN.blind, pl_recv hK hW hT_o.1 hS_o rfl, pcN.pre hW.1 hK hW.2.1 hN (fun q h => absurd h List.not_mem_nil)⟩ rfl rfl hl.1 rfl (lv_room (Nat.le_of_ble_eq_true rfl)) dX6_readTrade_22 ⟨(Nat.le_of_ble_eq_true rfl), (Nat.le_of_ble_eq_true rfl)⟩) hW hA0 hA (fun r_50 S_49 H locs hrel hW => ?_)
    obtain ⟨hTy, hF1, hx1⟩ := hrel
    have hFr := hFr.tr hF1 (by decide)
    have hS_rb := hF1.at hT_rb (by decide) hS_rb
    obtain ⟨f51, hR51, hf51, hv51⟩ := hx1
    obtain ⟨pl52, en52, mt52, tk52, ta52, te52, hS_o, hT_rn, hT_rb, hT_rt, hen52, hte52, hta52, hab52⟩ := RKk hTy hT_o hR51
    refine lv_istore_n (lv' := [(1, .int r_50), (0, .ref o)]) hx hb dX6_readTrade_25 rfl hl (by decide) rfl (fun ls hl => ?_)
    refine lv_aload_n hx hb dX6_readTrade_26 rfl (lv_at hl 1 rfl) ?_
    refine pl_callv (va_runV (As := []) (rest := []) ⟨hx, hb, hml, hown, hT⟩ (r_next l dC dI cy L kap pr ad S_49 H.size o hTy hT_o f51 rn rb rt ⟨_, en52, _, _, ta52, te52, hS_o, by omega, by omega, by omega⟩) (cwV 0 hT (gV w420 w422 ws0 w3 w423) rfl rfl rfl (by decide +kernel) ⟨(Nat.le_of_ble_eq_true rfl), (Nat.le_of_ble_eq_true rfl)⟩) ⟨pcS.blind, pl_recv hK hW hT_o.1 hS_o rfl, pcS.pre hW.1 hK hW.2.1 hN hSTR hW.2.2⟩ rfl rfl hl.1 rfl (lv_room (Nat.le_of_ble_eq_true rfl)) dX6_readTrade_27 ⟨(Nat.le_of_ble_eq_true rfl), (Nat.le_of_ble_eq_true rfl)⟩) hW hA0 hA (fun S_53 H locs hrel hW => ?_)
    obtain ⟨hTy, hF1, hx1⟩ := hrel
    have hFr := hFr.tr hF1 (by decide)
    have hS_rb := hF1.at hT_rb (by decide) hS_rb
    obtain ⟨pl54, en54, mt54, tk54, ta54, te54, hS_o, hT_rn, hT_rb, hT_rt, hen54, hte54, hta54, hab54⟩ := RKk hTy hT_o hx1
    refine lv_aload_n hx hb dX6_readTrade_30 rfl (lv_at hl 1 rfl) ?_
    refine pl_calli (va_runV (As := []) (rest := []) ⟨hx, hb, hml, hown, hT⟩ (r_knownParty l dC dI cy L kap pr S_53 H.size o hTy hT_o f51 rn rb rt ⟨_, en54, _, _, ta54, te54, hS_o, by omega, by omega, by omega, by omega⟩) (cwV 0 hT (gV w545 w547 ws13 w3 w548) rfl rfl rfl (by decide +kernel) ⟨(Nat.le_of_ble_eq_true rfl), (Nat.le_of_ble_eq_true rfl)⟩) ⟨pcN.blind, pl_recv hK hW hT_o.1 hS_o rfl, pcN.pre hW.1 hK hW.2.1 hN (fun q h => absurd h List.not_mem_nil)⟩ rfl rfl hl.1 rfl (lv_room (Nat.le_of_ble_eq_true rfl)) dX6_readTrade_31 ⟨(Nat.le_of_ble_eq_true rfl), (Nat.le_of_ble_eq_true rfl)⟩) hW hA0 hA (fun r_56 S_55 H locs hrel hW => ?_)
    obtain ⟨hTy, hF1, hx1⟩ := hrel
    have hFr := hFr.tr hF1 (by decide)
    have hS_rb := hF1.at hT_rb (by decide) hS_rb
    obtain ⟨f57, hR57, hf57, hv57⟩ := hx1
    obtain ⟨pl58, en58, mt58, tk58, ta58, te58, hS_o, hT_rn, hT_rb, hT_rt, hen58, hte58, hta58, hab58⟩ := RKk hTy hT_o hR57
    refine lv_istore_n (lv' := [(2, .int r_56), (1, .int r_50), (0, .ref o)]) hx hb dX6_readTrade_34 rfl hl (by decide) rfl (fun ls hl => ?_)
    refine lv_aload_n hx hb dX6_readTrade_35 rfl (lv_at hl 2 rfl) ?_
    refine lv_iload_n hx hb dX6_readTrade_36 rfl (lv_at hl 1 rfl) ?_
    refine lv_iload_n hx hb dX6_readTrade_37 rfl (lv_at hl 0 rfl) ?_
    refine pl_callv (va_runV (As := [.int r_50, .int r_56]) (rest := []) ⟨hx, hb, hml, hown, hT⟩ (r_failIfSame l dC dI cy L kap pr S_55 H.size o r_50 r_56 hTy hT_o f57 rn rb rt ⟨_, en58, _, _, ta58, te58, hS_o, by omega, by omega, by omega, by omega⟩) (cwV 2 hT (gV w549 w551 ws14 w3 w552) rfl rfl rfl (by decide +kernel) ⟨(Nat.le_of_ble_eq_true rfl), (Nat.le_of_ble_eq_true rfl)⟩) ⟨pcN.blind, pl_recv hK hW hT_o.1 hS_o rfl, pcN.pre hW.1 hK hW.2.1 hN (fun q h => absurd h List.not_mem_nil)⟩ rfl rfl hl.1 rfl (lv_room (Nat.le_of_ble_eq_true rfl)) dX6_readTrade_38 ⟨(Nat.le_of_ble_eq_true rfl), (Nat.le_of_ble_eq_true rfl)⟩) hW hA0 hA (fun S_59 H locs hrel hW => ?_)
    obtain ⟨hTy, hF1, hx1⟩ := hrel
    have hFr := hFr.tr hF1 (by decide)
    have hS_rb := hF1.at hT_rb (by decide) hS_rb
    obtain ⟨f60, hR60, hf60⟩ := hx1
    obtain ⟨pl61, en61, mt61, tk61, ta61, te61, hS_o, hT_rn, hT_rb, hT_rt, hen61, hte61, hta61, hab61⟩ := RKk hTy hT_o hR60
    refine lv_aload_n hx hb dX6_readTrade_41 rfl (lv_at hl 2 rfl) ?_
    refine pl_callv (va_runV (As := []) (rest := []) ⟨hx, hb, hml, hown, hT⟩ (r_next l dC dI cy L kap pr ad S_59 H.size o hTy hT_o f60 rn rb rt ⟨_, en61, _, _, ta61, te61, hS_o, by omega, by omega, by omega⟩) (cwV 0 hT (gV w420 w422 ws0 w3 w423) rfl rfl rfl (by decide +kernel) ⟨(Nat.le_of_ble_eq_true rfl), (Nat.le_of_ble_eq_true rfl)⟩) ⟨pcS.blind, pl_recv hK hW hT_o.1 hS_o rfl, pcS.pre hW.1 hK hW.2.1 hN hSTR hW.2.2⟩ rfl rfl hl.1 rfl (lv_room (Nat.le_of_ble_eq_true rfl)) dX6_readTrade_42 ⟨(Nat.le_of_ble_eq_true rfl), (Nat.le_of_ble_eq_true rfl)⟩) hW hA0 hA (fun S_62 H locs hrel hW => ?_)
    obtain ⟨hTy, hF1, hx1⟩ := hrel
    have hFr := hFr.tr hF1 (by decide)
    have hS_rb := hF1.at hT_rb (by decide) hS_rb
    obtain ⟨pl63, en63, mt63, tk63, ta63, te63, hS_o, hT_rn, hT_rb, hT_rt, hen63, hte63, hta63, hab63⟩ := RKk hTy hT_o hx1
    refine lv_aload_n hx hb dX6_readTrade_45 rfl (lv_at hl 2 rfl) ?_
    refine lv_iconst (v := 1) hx hb dX6_readTrade_46 (by decide) ?_
    refine lv_ldc (v := 999999) hx hb hown (hT _ w553) dX6_readTrade_47 ?_
    refine pl_calli (va_runV (As := [.int 1, .int 999999]) (rest := []) ⟨hx, hb, hml, hown, hT⟩ (r_numberWithin l dC dI cy L kap pr S_62 H.size o 1 999999 hTy hT_o f60 rn rb rt ⟨_, en63, _, _, ta63, te63, hS_o, by omega, by omega, by omega, by omega⟩) (cwV 2 hT (gV w554 w556 ws15 w3 w557) rfl rfl rfl (by decide +kernel) ⟨(Nat.le_of_ble_eq_true rfl), (Nat.le_of_ble_eq_true rfl)⟩) ⟨pcN.blind, pl_recv hK hW hT_o.1 hS_o rfl, pcN.pre hW.1 hK hW.2.1 hN (fun q h => absurd h List.not_mem_nil)⟩ rfl rfl hl.1 rfl (lv_room (Nat.le_of_ble_eq_true rfl)) dX6_readTrade_49 ⟨(Nat.le_of_ble_eq_true rfl), (Nat.le_of_ble_eq_true rfl)⟩) hW hA0 hA (fun r_65 S_64 H locs hrel hW => ?_)
    obtain ⟨hTy, hF1, hx1⟩ := hrel
    have hFr := hFr.tr hF1 (by decide)
    have hS_rb := hF1.at hT_rb (by decide) hS_rb
    obtain ⟨f66, hR66, hf66, hv66⟩ := hx1
    obtain ⟨pl67, en67, mt67, tk67, ta67, te67, hS_o, hT_rn, hT_rb, hT_rt, hen67, hte67, hta67, hab67⟩ := RKk hTy hT_o hR66
    refine lv_istore_n (lv' := [(3, .int r_65), (2, .int r_56), (1, .int r_50), (0, .ref o)]) hx hb dX6_readTrade_52 rfl hl (by decide) rfl (fun ls hl => ?_)
    refine lv_aload_n hx hb dX6_readTrade_53 rfl (lv_at hl 3 rfl) ?_
    refine pl_callv (va_runV (As := []) (rest := []) ⟨hx, hb, hml, hown, hT⟩ (r_next l dC dI cy L kap pr ad S_64 H.size o hTy hT_o f66 rn rb rt ⟨_, en67, _, _, ta67, te67, hS_o, by omega, by omega, by omega⟩) (cwV 0 hT (gV w420 w422 ws0 w3 w423) rfl rfl rfl (by decide +kernel) ⟨(Nat.le_of_ble_eq_true rfl), (Nat.le_of_ble_eq_true rfl)⟩) ⟨pcS.blind, pl_recv hK hW hT_o.1 hS_o rfl, pcS.pre hW.1 hK hW.2.1 hN hSTR hW.2.2⟩ rfl rfl hl.1 rfl (lv_room (Nat.le_of_ble_eq_true rfl)) dX6_readTrade_54 ⟨(Nat.le_of_ble_eq_true rfl), (Nat.le_of_ble_eq_true rfl)⟩) hW hA0 hA (fun S_68 H locs hrel hW => ?_)
    obtain ⟨hTy, hF1, hx1⟩ := hrel
    have hFr := hFr.tr hF1 (by decide)
    have hS_rb := hF1.at hT_rb (by decide) hS_rb
    obtain ⟨pl69, en69, mt69, tk69, ta69, te69, hS_o, hT_rn, hT_rb, hT_rt, hen69, hte69, hta69, hab69⟩ := RKk hTy hT_o hx1
    refine lv_aload_n hx hb dX6_readTrade_57 rfl (lv_at hl 3 rfl) ?_
    refine pl_calli (va_runV (As := []) (rest := []) ⟨hx, hb, hml, hown, hT⟩ (r_knownKind l dC dI cy L kap pr S_68 H.size o hTy hT_o f66 rn rb rt ⟨_, en69, _, _, ta69, te69, hS_o, by omega, by omega, by omega, by omega⟩) (cwV 0 hT (gV w558 w560 ws16 w3 w561) rfl rfl rfl (by decide +kernel) ⟨(Nat.le_of_ble_eq_true rfl), (Nat.le_of_ble_eq_true rfl)⟩) ⟨pcN.blind, pl_recv hK hW hT_o.1 hS_o rfl, pcN.pre hW.1 hK hW.2.1 hN (fun q h => absurd h List.not_mem_nil)⟩ rfl rfl hl.1 rfl (lv_room (Nat.le_of_ble_eq_true rfl)) dX6_readTrade_58 ⟨(Nat.le_of_ble_eq_true rfl), (Nat.le_of_ble_eq_true rfl)⟩) hW hA0 hA (fun r_71 S_70 H locs hrel hW => ?_)
    obtain ⟨hTy, hF1, hx1⟩ := hrel
    have hFr := hFr.tr hF1 (by decide)
    have hS_rb := hF1.at hT_rb (by decide) hS_rb
    obtain ⟨f72, hR72, hf72, hv72⟩ := hx1
    obtain ⟨pl73, en73, mt73, tk73, ta73, te73, hS_o, hT_rn, hT_rb, hT_rt, hen73, hte73, hta73, hab73⟩ := RKk hTy hT_o hR72
    refine lv_istore (lv' := [(4, .int r_71), (3, .int r_65), (2, .int r_56), (1, .int r_50), (0, .ref o)]) hx hb dX6_readTrade_61 hl (by decide) rfl (fun ls hl => ?_)
    refine lv_aload_n hx hb dX6_readTrade_63 rfl (lv_at hl 4 rfl) ?_
    refine pl_callv (va_runV (As := []) (rest := []) ⟨hx, hb, hml, hown, hT⟩ (r_next l dC dI cy L kap pr ad S_70 H.size o hTy hT_o f72 rn rb rt ⟨_, en73, _, _, ta73, te73, hS_o, by omega, by omega, by omega⟩) (cwV 0 hT (gV w420 w422 ws0 w3 w423) rfl rfl rfl (by decide +kernel) ⟨(Nat.le_of_ble_eq_true rfl), (Nat.le_of_ble_eq_true rfl)⟩) ⟨pcS.blind, pl_recv hK hW hT_o.1 hS_o rfl, pcS.pre hW.1 hK hW.2.1 hN hSTR hW.2.2⟩ rfl rfl hl.1 rfl (lv_room (Nat.le_of_ble_eq_true rfl)) dX6_readTrade_64 ⟨(Nat.le_of_ble_eq_true rfl), (Nat.le_of_ble_eq_true rfl)⟩) hW hA0 hA (fun S_74 H locs hrel hW => ?_)
    obtain ⟨hTy, hF1, hx1⟩ := hrel
    have hFr := hFr.tr hF1 (by decide)
    have hS_rb := hF1.at hT_rb (by decide) hS_rb
    obtain ⟨pl75, en75, mt75, tk75, ta75, te75, hS_o, hT_rn, hT_rb, hT_rt, hen75, hte75, hta75, hab75⟩ := RKk hTy hT_o hx1
    refine lv_aload_n hx hb dX6_readTrade_67 rfl (lv_at hl 4 rfl) ?_
    refine pl_get (ci := 6) (v := .int f72) (C := RX6) (T := TX6) (N := 10) hx hb hT iX6 hown hK hW hT_o.1 hS_o rfl 0 (by decide) w139 rfl dX6_readTrade_68 ?_
    refine lv_if_ne (tgt := 87) hx hb dX6_readTrade_71 (by decide) (fun c_71 => ?_) (fun c_71 => ?_)
    · exact W.vret hx hb hr (fun t ht h9 => ⟨⟨S_74, rfl, ⟨hTy, hFr, ⟨_, ⟨_, en75, _, _, ta75, te75, hS_o, by omega, by omega, by omega, by omega⟩, (fun h => hf72 ((fun h => hf66 ((fun h => hf60 ((fun h => hf57 ((fun h => hf51 ((fun h => (fun _ => hf45) ((fun h => h) h)) h)) h)) h)) h)) h))⟩⟩, by rw [ht]; exact hW.1, va_K.moved h9.alike hK, hW.2.1⟩, hW.2.2.F ht⟩) hW.2.2.2.2 dX6_readTrade_87
    · obtain ⟨k_76, hb_k_76, rfl⟩ := hv51.resolve_left (fun h => (fun h => hf72 ((fun h => hf66 ((fun h => hf60 ((fun h => hf57 ((fun h => h) h)) h)) h)) h)) h c_71)
      obtain ⟨k_77, hb_k_77, rfl⟩ := hv57.resolve_left (fun h => (fun h => hf72 ((fun h => hf66 ((fun h => hf60 ((fun h => h) h)) h)) h)) h c_71)
      obtain ⟨k_78, hb_k_78, rfl⟩ := hv72.resolve_left (fun h => (fun h => h) h c_71)
      refine lv_aload_n hx hb dX6_readTrade_74 rfl (lv_at hl 4 rfl) ?_
      refine pl_get (ci := 6) (v := .ref rb) (C := RX6) (T := TX6) (N := 10) hx hb hT iX6 hown hK hW hT_o.1 hS_o rfl 3 (by decide) w145 rfl dX6_readTrade_75 ?_
      refine lv_iload_n hx hb dX6_readTrade_78 rfl (lv_at hl 3 rfl) ?_
      refine lv_iload_n hx hb dX6_readTrade_79 rfl (lv_at hl 2 rfl) ?_
      refine lv_iload_n hx hb dX6_readTrade_80 rfl (lv_at hl 1 rfl) ?_
      refine lv_i2l hx hb dX6_readTrade_81 rfl ?_
      refine lv_topl (fun z_79 ez_79 => ?_)
      refine lv_iload hx hb dX6_readTrade_82 (lv_at hl 0 rfl) ?_
      refine pl_callv (va_runV (As := [.int (nI k_76), .int (nI k_77), .long z_79, .int (nI k_78)]) (rest := []) ⟨hx, hb, hml, hown, hT⟩ (s_append l dC dI cy L kap pr S_74 H.size rb k_76 k_77 z_79 k_78 hTy hT_rb (by omega) (by omega) (by omega)) (cwV 4 hT (gV w562 w563 w564 w5 w565) rfl rfl rfl (by decide +kernel) ⟨(Nat.le_of_ble_eq_true rfl), (Nat.le_of_ble_eq_true rfl)⟩) ⟨pcN.blind, pl_recv hK hW hT_rb.1 hS_rb rfl, pcN.pre hW.1 hK hW.2.1 hN (fun q h => absurd h List.not_mem_nil)⟩ rfl rfl hl.1 rfl (lv_room (Nat.le_of_ble_eq_true rfl)) dX6_readTrade_84 ⟨(Nat.le_of_ble_eq_true rfl), (Nat.le_of_ble_eq_true rfl)⟩) hW hA0 hA (fun S_80 H locs hrel hW => ?_)
      obtain ⟨hTy, hF1⟩ := hrel
      have hFr := hFr.tr hF1 (by decide)
      have hS_o := hF1.at hT_o (by decide) hS_o
      exact W.vret hx hb hr (fun t ht h9 => ⟨⟨S_80, rfl, ⟨hTy, hFr, ⟨_, ⟨_, en75, _, _, ta75, te75, hS_o, by omega, by omega, by omega, by omega⟩, (fun h => hf72 ((fun h => hf66 ((fun h => hf60 ((fun h => hf57 ((fun h => hf51 ((fun h => (fun _ => hf45) ((fun h => h) h)) h)) h)) h)) h)) h))⟩⟩, by rw [ht]; exact hW.1, va_K.moved h9.alike hK, hW.2.1⟩, hW.2.2.F ht⟩) hW.2.2.2.2 dX6_readTrade_87

set_option maxHeartbeats 4000000 in
set_option maxRecDepth 100000 in
theorem r_readKeep (l : Launch) (dC : Nat → ClassId) (dI : Nat → Nat → Nat) (cy : Nat → ClassId) (L : List Nat) (kap : Nat → Nat) (pr : Pr) (ad : (Nat → Nat) × (Nat → Nat)) (S : Nat → va_E) (sz : Nat) (o : Nat) (hTy : Ty cy L kap pr S) (hT_o : TK L kap o 6) (f : Int32) (rn : Nat) (rb : Nat) (rt : Nat) (hR : RK S o f rn rb rt) : Met l yX6_readKeep (wT yX6_readKeep cX6_readKeep 2 none) ({ frames := 7, cells := 0, slots := 0, locals := 147 }) (pcS dC dI [.ref o] sz L S (cyT cy) NLs ad) (va_Qv (fun S' => Ty cy L kap pr S' ∧ Fr kap [6, 23] S S' ∧ (∃ f', RK S' o f' rn rb rt ∧ (f ≠ 0 → f' ≠ 0))) (fun S' t => pB dC dI (AL L sz) (va_pl L S') (cyT cy) t) (AL L sz)) 0 0 (AL L sz) := by
  refine Met.ofW (cc := cX6_readKeep) (maxL := 2) (ret := none) (by decide) rfl ?_
  intro p e s m args below meth c s₁ B hml hv
  obtain ⟨rfl, hsz, hP, hK, hD0, hN, hSTR⟩ := hv
  have hx := B.exec
  have hb := B.bytes
  have hr := B.returns
  have hT : ∀ wd ∈ TB, wd.before [.ref o].toArray s = true := fun wd h => atoms_spec (ws := wT yX6_readKeep cX6_readKeep 2 none) B.pre wd (List.mem_cons_of_mem _ h)
  have hown : s.vm.findClass RX6 = some m.cls := findClass_of_methodNamed B.named
  have hlocks := B.notSynchronized
  subst hsz
  have hW : PW dC dI L (AL L s.heap.size) s.heap S s.heap [] := ⟨hP, pl_self hD0, va_S.rf⟩
  have hA0 : ∀ q, q ∈ L → AL L s.heap.size q := fun _ h => Or.inl h
  have hA : ∀ q, s.heap.size ≤ q → AL L s.heap.size q := fun _ h => Or.inr h
  have hFr : Fr kap [6, 23] S S := Fr.rf
  have hl := lv_entry ([.ref o]) (n := 2) (Nat.le_of_ble_eq_true rfl)
  rw [lg_entry_eq]
  generalize (lg_sl ([.ref o]) ++ List.replicate (2 - (lg_sl ([.ref o])).length) Slot.unset).toArray = ls at hl ⊢
  have hl : lv_has ls 2 [(0, .ref o)] := hl
  obtain ⟨pl1, en1, mt1, tk1, ta1, te1, hS_o, hT_rn, hT_rb, hT_rt, hen1, hte1, hta1, hab1⟩ := RKk hTy hT_o hR
  refine lv_aload_n hx hb dX6_readKeep_0 rfl (lv_at hl 0 rfl) ?_
  refine pl_callv (va_runV (As := []) (rest := []) ⟨hx, hb, hml, hown, hT⟩ (r_next l dC dI cy L kap pr ad S s.heap.size o hTy hT_o f rn rb rt ⟨_, en1, _, _, ta1, te1, hS_o, by omega, by omega, by omega⟩) (cwV 0 hT (gV w420 w422 ws0 w3 w423) rfl rfl rfl (by decide +kernel) ⟨(Nat.le_of_ble_eq_true rfl), (Nat.le_of_ble_eq_true rfl)⟩) ⟨pcS.blind, pl_recv hK hW hT_o.1 hS_o rfl, pcS.pre hW.1 hK hW.2.1 hN hSTR hW.2.2⟩ rfl rfl hl.1 rfl (lv_room (Nat.le_of_ble_eq_true rfl)) dX6_readKeep_1 ⟨(Nat.le_of_ble_eq_true rfl), (Nat.le_of_ble_eq_true rfl)⟩) hW hA0 hA (fun S_2 H locs hrel hW => ?_)
  obtain ⟨hTy, hF1, hx1⟩ := hrel
  have hFr := hFr.tr hF1 (by decide)
  obtain ⟨pl3, en3, mt3, tk3, ta3, te3, hS_o, hT_rn, hT_rb, hT_rt, hen3, hte3, hta3, hab3⟩ := RKk hTy hT_o hx1
  refine lv_aload_n hx hb dX6_readKeep_4 rfl (lv_at hl 0 rfl) ?_
  refine lv_iconst (v := 0) hx hb dX6_readKeep_5 (by decide) ?_
  refine lv_aload_n hx hb dX6_readKeep_6 rfl (lv_at hl 0 rfl) ?_
  refine pl_get (ci := 6) (v := .ref rb) (C := RX6) (T := TX6) (N := 10) hx hb hT iX6 hown hK hW hT_o.1 hS_o rfl 3 (by decide) w145 rfl dX6_readKeep_7 ?_
  obtain ⟨x_4, x_5, x_6, x_7, x_8, x_9, x_10, x_11, hS_rb, hT_x_4, hT_x_5, hT_x_6, hT_x_7, hT_x_8, hT_x_9, hb_x_10⟩ := hTy.k0 hT_rb
  refine pl_get (ci := 0) (v := .int (nI x_10)) (C := RX0) (T := TX0) (N := 8) hx hb hT iX0 hown hK hW hT_rb.1 hS_rb rfl 6 (by decide) w115 rfl dX6_readKeep_10 ?_
  refine lv_iconst (v := 1) hx hb dX6_readKeep_13 (by decide) ?_
  refine lv_isub hx hb dX6_readKeep_14 ?_
  refine lv_topi (fun z_12 ez_12 => ?_)
  obtain rfl : z_12 = pd (x_10) := ez_12
  refine pl_calli (va_runV (As := [.int 0, .int (pd x_10)]) (rest := []) ⟨hx, hb, hml, hown, hT⟩ (r_numberWithin l dC dI cy L kap pr S_2 H.size o 0 (pd x_10) hTy hT_o f rn rb rt ⟨_, en3, _, _, ta3, te3, hS_o, by omega, by omega, by omega, by omega⟩) (cwV 2 hT (gV w554 w556 ws15 w3 w557) rfl rfl rfl (by decide +kernel) ⟨(Nat.le_of_ble_eq_true rfl), (Nat.le_of_ble_eq_true rfl)⟩) ⟨pcN.blind, pl_recv hK hW hT_o.1 hS_o rfl, pcN.pre hW.1 hK hW.2.1 hN (fun q h => absurd h List.not_mem_nil)⟩ rfl rfl hl.1 rfl (lv_room (Nat.le_of_ble_eq_true rfl)) dX6_readKeep_15 ⟨(Nat.le_of_ble_eq_true rfl), (Nat.le_of_ble_eq_true rfl)⟩) hW hA0 hA (fun r_14 S_13 H locs hrel hW => ?_)
  obtain ⟨hTy, hF1, hx1⟩ := hrel
  have hFr := hFr.tr hF1 (by decide)
  have hS_rb := hF1.at hT_rb (by decide) hS_rb
  obtain ⟨f15, hR15, hf15, hv15⟩ := hx1
  obtain ⟨pl16, en16, mt16, tk16, ta16, te16, hS_o, hT_rn, hT_rb, hT_rt, hen16, hte16, hta16, hab16⟩ := RKk hTy hT_o hR15
  refine lv_istore_n (lv' := [(1, .int r_14), (0, .ref o)]) hx hb dX6_readKeep_18 rfl hl (by decide) rfl (fun ls hl => ?_)
  refine lv_aload_n hx hb dX6_readKeep_19 rfl (lv_at hl 1 rfl) ?_
  refine pl_get (ci := 6) (v := .int f15) (C := RX6) (T := TX6) (N := 10) hx hb hT iX6 hown hK hW hT_o.1 hS_o rfl 0 (by decide) w139 rfl dX6_readKeep_20 ?_
  refine lv_if_ne (tgt := 43) hx hb dX6_readKeep_23 (by decide) (fun c_23 => ?_) (fun c_23 => ?_)
  · refine lv_aload_n hx hb dX6_readKeep_43 rfl (lv_at hl 1 rfl) ?_
    refine pl_get (ci := 6) (v := .int f15) (C := RX6) (T := TX6) (N := 10) hx hb hT iX6 hown hK hW hT_o.1 hS_o rfl 0 (by decide) w139 rfl dX6_readKeep_44 ?_
    refine lv_if_ne (tgt := 60) hx hb dX6_readKeep_47 (by decide) (fun c_47 => ?_) (fun c_47 => ?_)
    · refine lv_aload_n hx hb dX6_readKeep_60 rfl (lv_at hl 1 rfl) ?_
      refine pl_callv (va_runV (As := []) (rest := []) ⟨hx, hb, hml, hown, hT⟩ (r_next l dC dI cy L kap pr ad S_13 H.size o hTy hT_o f15 rn rb rt ⟨_, en16, _, _, ta16, te16, hS_o, by omega, by omega, by omega⟩) (cwV 0 hT (gV w420 w422 ws0 w3 w423) rfl rfl rfl (by decide +kernel) ⟨(Nat.le_of_ble_eq_true rfl), (Nat.le_of_ble_eq_true rfl)⟩) ⟨pcS.blind, pl_recv hK hW hT_o.1 hS_o rfl, pcS.pre hW.1 hK hW.2.1 hN hSTR hW.2.2⟩ rfl rfl hl.1 rfl (lv_room (Nat.le_of_ble_eq_true rfl)) dX6_readKeep_61 ⟨(Nat.le_of_ble_eq_true rfl), (Nat.le_of_ble_eq_true rfl)⟩) hW hA0 hA (fun S_17 H locs hrel hW => ?_)
      obtain ⟨hTy, hF1, hx1⟩ := hrel
      have hFr := hFr.tr hF1 (by decide)
      have hS_rb := hF1.at hT_rb (by decide) hS_rb
      obtain ⟨pl18, en18, mt18, tk18, ta18, te18, hS_o, hT_rn, hT_rb, hT_rt, hen18, hte18, hta18, hab18⟩ := RKk hTy hT_o hx1
      exact W.vret hx hb hr (fun t ht h9 => ⟨⟨S_17, rfl, ⟨hTy, hFr, ⟨_, ⟨_, en18, _, _, ta18, te18, hS_o, by omega, by omega, by omega, by omega⟩, (fun h => hf15 ((fun h => h) h))⟩⟩, by rw [ht]; exact hW.1, va_K.moved h9.alike hK, hW.2.1⟩, hW.2.2.F ht⟩) hW.2.2.2.2 dX6_readKeep_64
    · have hvv := hv15.resolve_left (fun h => (fun h => h) h c_47)
      obtain ⟨k_19, hb_k_19, rfl⟩ := kbel hvv.1 hvv.2 (by omega)
      refine lv_aload_n hx hb dX6_readKeep_50 rfl (lv_at hl 1 rfl) ?_
      refine pl_get (ci := 6) (v := .ref rb) (C := RX6) (T := TX6) (N := 10) hx hb hT iX6 hown hK hW hT_o.1 hS_o rfl 3 (by decide) w145 rfl dX6_readKeep_51 ?_
      refine pl_get (ci := 0) (v := .ref x_8) (C := RX0) (T := TX0) (N := 8) hx hb hT iX0 hown hK hW hT_rb.1 hS_rb rfl 4 (by decide) w108 rfl dX6_readKeep_54 ?_
      refine lv_iload_n hx hb dX6_readKeep_57 rfl (lv_at hl 0 rfl) ?_
      refine lv_iconst (v := 1) hx hb dX6_readKeep_58 (by decide) ?_
      obtain ⟨f_20, hS_x_8⟩ := hTy.k23 hT_x_8
      refine pl_zast hx hb hK hW hT_x_8.1 hS_x_8 (vp_in_nI (n := k_19) (N := 40) (by omega) (by omega)) dX6_readKeep_59 (fun H locs f_22 S_21 ef_f_22 e1 hW => ?_)
      have hTy := hTy.u23 e1 hT_x_8 ⟨f_22, rfl⟩
      have hS_rb := un e1 hT_rb hT_x_8 (by decide) hS_rb
      have hS_o := un e1 hT_o hT_x_8 (by decide) hS_o
      have hFr := uf hFr e1 hT_x_8 (by decide) (by decide)
      have hS_x_8 := us e1
      refine lv_aload_n hx hb dX6_readKeep_60 rfl (lv_at hl 1 rfl) ?_
      refine pl_callv (va_runV (As := []) (rest := []) ⟨hx, hb, hml, hown, hT⟩ (r_next l dC dI cy L kap pr ad S_21 H.size o hTy hT_o f15 rn rb rt ⟨_, en16, _, _, ta16, te16, hS_o, by omega, by omega, by omega⟩) (cwV 0 hT (gV w420 w422 ws0 w3 w423) rfl rfl rfl (by decide +kernel) ⟨(Nat.le_of_ble_eq_true rfl), (Nat.le_of_ble_eq_true rfl)⟩) ⟨pcS.blind, pl_recv hK hW hT_o.1 hS_o rfl, pcS.pre hW.1 hK hW.2.1 hN hSTR hW.2.2⟩ rfl rfl hl.1 rfl (lv_room (Nat.le_of_ble_eq_true rfl)) dX6_readKeep_61 ⟨(Nat.le_of_ble_eq_true rfl), (Nat.le_of_ble_eq_true rfl)⟩) hW hA0 hA (fun S_23 H locs hrel hW => ?_)
      obtain ⟨hTy, hF1, hx1⟩ := hrel
      have hFr := hFr.tr hF1 (by decide)
      have hS_rb := hF1.at hT_rb (by decide) hS_rb
      have hS_x_8 := hF1.at hT_x_8 (by decide) hS_x_8
      obtain ⟨pl24, en24, mt24, tk24, ta24, te24, hS_o, hT_rn, hT_rb, hT_rt, hen24, hte24, hta24, hab24⟩ := RKk hTy hT_o hx1
      exact W.vret hx hb hr (fun t ht h9 => ⟨⟨S_23, rfl, ⟨hTy, hFr, ⟨_, ⟨_, en24, _, _, ta24, te24, hS_o, by omega, by omega, by omega, by omega⟩, (fun h => hf15 ((fun h => h) h))⟩⟩, by rw [ht]; exact hW.1, va_K.moved h9.alike hK, hW.2.1⟩, hW.2.2.F ht⟩) hW.2.2.2.2 dX6_readKeep_64
  · have hvv := hv15.resolve_left (fun h => (fun h => h) h c_23)
    obtain ⟨k_25, hb_k_25, rfl⟩ := kbel hvv.1 hvv.2 (by omega)
    refine lv_aload_n hx hb dX6_readKeep_26 rfl (lv_at hl 1 rfl) ?_
    refine pl_get (ci := 6) (v := .ref rb) (C := RX6) (T := TX6) (N := 10) hx hb hT iX6 hown hK hW hT_o.1 hS_o rfl 3 (by decide) w145 rfl dX6_readKeep_27 ?_
    refine pl_get (ci := 0) (v := .ref x_8) (C := RX0) (T := TX0) (N := 8) hx hb hT iX0 hown hK hW hT_rb.1 hS_rb rfl 4 (by decide) w108 rfl dX6_readKeep_30 ?_
    refine lv_iload_n hx hb dX6_readKeep_33 rfl (lv_at hl 0 rfl) ?_
    obtain ⟨f_26, hS_x_8⟩ := hTy.k23 hT_x_8
    refine pl_zald hx hb hK hW hT_x_8.1 hS_x_8 (vp_in_nI (n := k_25) (N := 40) (by omega) (by omega)) dX6_readKeep_34 ?_
    refine lv_topi (fun y_27 ey_27 => ?_)
    refine lv_if_eq (tgt := 43) hx hb dX6_readKeep_35 (by decide) (fun c_35 => ?_) (fun c_35 => ?_)
    · refine lv_aload_n hx hb dX6_readKeep_43 rfl (lv_at hl 1 rfl) ?_
      refine pl_get (ci := 6) (v := .int f15) (C := RX6) (T := TX6) (N := 10) hx hb hT iX6 hown hK hW hT_o.1 hS_o rfl 0 (by decide) w139 rfl dX6_readKeep_44 ?_
      refine lv_if_ne (tgt := 60) hx hb dX6_readKeep_47 (by decide) (fun c_47 => ?_) (fun c_47 => ?_)
      · refine lv_aload_n hx hb dX6_readKeep_60 rfl (lv_at hl 1 rfl) ?_
        refine pl_callv (va_runV (As := []) (rest := []) ⟨hx, hb, hml, hown, hT⟩ (r_next l dC dI cy L kap pr ad S_13 H.size o hTy hT_o f15 rn rb rt ⟨_, en16, _, _, ta16, te16, hS_o, by omega, by omega, by omega⟩) (cwV 0 hT (gV w420 w422 ws0 w3 w423) rfl rfl rfl (by decide +kernel) ⟨(Nat.le_of_ble_eq_true rfl), (Nat.le_of_ble_eq_true rfl)⟩) ⟨pcS.blind, pl_recv hK hW hT_o.1 hS_o rfl, pcS.pre hW.1 hK hW.2.1 hN hSTR hW.2.2⟩ rfl rfl hl.1 rfl (lv_room (Nat.le_of_ble_eq_true rfl)) dX6_readKeep_61 ⟨(Nat.le_of_ble_eq_true rfl), (Nat.le_of_ble_eq_true rfl)⟩) hW hA0 hA (fun S_28 H locs hrel hW => ?_)
        obtain ⟨hTy, hF1, hx1⟩ := hrel
        have hFr := hFr.tr hF1 (by decide)
        have hS_rb := hF1.at hT_rb (by decide) hS_rb
        have hS_x_8 := hF1.at hT_x_8 (by decide) hS_x_8
        obtain ⟨pl29, en29, mt29, tk29, ta29, te29, hS_o, hT_rn, hT_rb, hT_rt, hen29, hte29, hta29, hab29⟩ := RKk hTy hT_o hx1
        exact W.vret hx hb hr (fun t ht h9 => ⟨⟨S_28, rfl, ⟨hTy, hFr, ⟨_, ⟨_, en29, _, _, ta29, te29, hS_o, by omega, by omega, by omega, by omega⟩, (fun h => hf15 ((fun h => h) h))⟩⟩, by rw [ht]; exact hW.1, va_K.moved h9.alike hK, hW.2.1⟩, hW.2.2.F ht⟩) hW.2.2.2.2 dX6_readKeep_64
      · refine lv_aload_n hx hb dX6_readKeep_50 rfl (lv_at hl 1 rfl) ?_
        refine pl_get (ci := 6) (v := .ref rb) (C := RX6) (T := TX6) (N := 10) hx hb hT iX6 hown hK hW hT_o.1 hS_o rfl 3 (by decide) w145 rfl dX6_readKeep_51 ?_
        refine pl_get (ci := 0) (v := .ref x_8) (C := RX0) (T := TX0) (N := 8) hx hb hT iX0 hown hK hW hT_rb.1 hS_rb rfl 4 (by decide) w108 rfl dX6_readKeep_54 ?_
        refine lv_iload_n hx hb dX6_readKeep_57 rfl (lv_at hl 0 rfl) ?_
        refine lv_iconst (v := 1) hx hb dX6_readKeep_58 (by decide) ?_
        refine pl_zast hx hb hK hW hT_x_8.1 hS_x_8 (vp_in_nI (n := k_25) (N := 40) (by omega) (by omega)) dX6_readKeep_59 (fun H locs f_31 S_30 ef_f_31 e1 hW => ?_)
        have hTy := hTy.u23 e1 hT_x_8 ⟨f_31, rfl⟩
        have hS_rb := un e1 hT_rb hT_x_8 (by decide) hS_rb
        have hS_o := un e1 hT_o hT_x_8 (by decide) hS_o
        have hFr := uf hFr e1 hT_x_8 (by decide) (by decide)
        have hS_x_8 := us e1
        refine lv_aload_n hx hb dX6_readKeep_60 rfl (lv_at hl 1 rfl) ?_
        refine pl_callv (va_runV (As := []) (rest := []) ⟨hx, hb, hml, hown, hT⟩ (r_next l dC dI cy L kap pr ad S_30 H.size o hTy hT_o f15 rn rb rt ⟨_, en16, _, _, ta16, te16, hS_o, by omega, by omega, by omega⟩) (cwV 0 hT (gV w420 w422 ws0 w3 w423) rfl rfl rfl (by decide +kernel) ⟨(Nat.le_of_ble_eq_true rfl), (Nat.le_of_ble_eq_true rfl)⟩) ⟨pcS.blind, pl_recv hK hW hT_o.1 hS_o rfl, pcS.pre hW.1 hK hW.2.1 hN hSTR hW.2.2⟩ rfl rfl hl.1 rfl (lv_room (Nat.le_of_ble_eq_true rfl)) dX6_readKeep_61 ⟨(Nat.le_of_ble_eq_true rfl), (Nat.le_of_ble_eq_true rfl)⟩) hW hA0 hA (fun S_32 H locs hrel hW => ?_)
        obtain ⟨hTy, hF1, hx1⟩ := hrel
        have hFr := hFr.tr hF1 (by decide)
        have hS_rb := hF1.at hT_rb (by decide) hS_rb
        have hS_x_8 := hF1.at hT_x_8 (by decide) hS_x_8
        obtain ⟨pl33, en33, mt33, tk33, ta33, te33, hS_o, hT_rn, hT_rb, hT_rt, hen33, hte33, hta33, hab33⟩ := RKk hTy hT_o hx1
        exact W.vret hx hb hr (fun t ht h9 => ⟨⟨S_32, rfl, ⟨hTy, hFr, ⟨_, ⟨_, en33, _, _, ta33, te33, hS_o, by omega, by omega, by omega, by omega⟩, (fun h => hf15 ((fun h => h) h))⟩⟩, by rw [ht]; exact hW.1, va_K.moved h9.alike hK, hW.2.1⟩, hW.2.2.F ht⟩) hW.2.2.2.2 dX6_readKeep_64
    · refine lv_aload_n hx hb dX6_readKeep_38 rfl (lv_at hl 1 rfl) ?_
      refine lv_iconst (v := 5) hx hb dX6_readKeep_39 (by decide) ?_
      refine pl_callv (va_runV (As := [.int 5]) (rest := []) ⟨hx, hb, hml, hown, hT⟩ (r_fail l dC dI cy L kap pr S_13 H.size o 5 hTy hT_o f15 rn rb rt ⟨_, en16, _, _, ta16, te16, hS_o, by omega, by omega, by omega, by omega⟩ (by decide)) (cwV 1 hT (gV w500 w502 ws5 w3 w503) rfl rfl rfl (by decide +kernel) ⟨(Nat.le_of_ble_eq_true rfl), (Nat.le_of_ble_eq_true rfl)⟩) ⟨pcN.blind, pl_recv hK hW hT_o.1 hS_o rfl, pcN.pre hW.1 hK hW.2.1 hN (fun q h => absurd h List.not_mem_nil)⟩ rfl rfl hl.1 rfl (lv_room (Nat.le_of_ble_eq_true rfl)) dX6_readKeep_40 ⟨(Nat.le_of_ble_eq_true rfl), (Nat.le_of_ble_eq_true rfl)⟩) hW hA0 hA (fun S_34 H locs hrel hW => ?_)
      obtain ⟨hTy, hF1, hx1⟩ := hrel
      have hFr := hFr.tr hF1 (by decide)
      have hS_rb := hF1.at hT_rb (by decide) hS_rb
      have hS_x_8 := hF1.at hT_x_8 (by decide) hS_x_8
      obtain ⟨f35, hR35, hf35⟩ := hx1
      obtain ⟨pl36, en36, mt36, tk36, ta36, te36, hS_o, hT_rn, hT_rb, hT_rt, hen36, hte36, hta36, hab36⟩ := RKk hTy hT_o hR35
      refine lv_aload_n hx hb dX6_readKeep_43 rfl (lv_at hl 1 rfl) ?_
      refine pl_get (ci := 6) (v := .int f35) (C := RX6) (T := TX6) (N := 10) hx hb hT iX6 hown hK hW hT_o.1 hS_o rfl 0 (by decide) w139 rfl dX6_readKeep_44 ?_
      refine lv_if_ne (tgt := 60) hx hb dX6_readKeep_47 (by decide) (fun c_47 => ?_) (fun c_47 => ?_)
      · refine lv_aload_n hx hb dX6_readKeep_60 rfl (lv_at hl 1 rfl) ?_
        refine pl_callv (va_runV (As := []) (rest := []) ⟨hx, hb, hml, hown, hT⟩ (r_next l dC dI cy L kap pr ad S_34 H.size o hTy hT_o f35 rn rb rt ⟨_, en36, _, _, ta36, te36, hS_o, by omega, by omega, by omega⟩) (cwV 0 hT (gV w420 w422 ws0 w3 w423) rfl rfl rfl (by decide +kernel) ⟨(Nat.le_of_ble_eq_true rfl), (Nat.le_of_ble_eq_true rfl)⟩) ⟨pcS.blind, pl_recv hK hW hT_o.1 hS_o rfl, pcS.pre hW.1 hK hW.2.1 hN hSTR hW.2.2⟩ rfl rfl hl.1 rfl (lv_room (Nat.le_of_ble_eq_true rfl)) dX6_readKeep_61 ⟨(Nat.le_of_ble_eq_true rfl), (Nat.le_of_ble_eq_true rfl)⟩) hW hA0 hA (fun S_37 H locs hrel hW => ?_)
        obtain ⟨hTy, hF1, hx1⟩ := hrel
        have hFr := hFr.tr hF1 (by decide)
        have hS_rb := hF1.at hT_rb (by decide) hS_rb
        have hS_x_8 := hF1.at hT_x_8 (by decide) hS_x_8
        obtain ⟨pl38, en38, mt38, tk38, ta38, te38, hS_o, hT_rn, hT_rb, hT_rt, hen38, hte38, hta38, hab38⟩ := RKk hTy hT_o hx1
        exact W.vret hx hb hr (fun t ht h9 => ⟨⟨S_37, rfl, ⟨hTy, hFr, ⟨_, ⟨_, en38, _, _, ta38, te38, hS_o, by omega, by omega, by omega, by omega⟩, (fun h => (fun _ => hf35) ((fun h => hf15 ((fun h => h) h)) h))⟩⟩, by rw [ht]; exact hW.1, va_K.moved h9.alike hK, hW.2.1⟩, hW.2.2.F ht⟩) hW.2.2.2.2 dX6_readKeep_64
      · refine lv_aload_n hx hb dX6_readKeep_50 rfl (lv_at hl 1 rfl) ?_
        refine pl_get (ci := 6) (v := .ref rb) (C := RX6) (T := TX6) (N := 10) hx hb hT iX6 hown hK hW hT_o.1 hS_o rfl 3 (by decide) w145 rfl dX6_readKeep_51 ?_
        refine pl_get (ci := 0) (v := .ref x_8) (C := RX0) (T := TX0) (N := 8) hx hb hT iX0 hown hK hW hT_rb.1 hS_rb rfl 4 (by decide) w108 rfl dX6_readKeep_54 ?_
        refine lv_iload_n hx hb dX6_readKeep_57 rfl (lv_at hl 0 rfl) ?_
        refine lv_iconst (v := 1) hx hb dX6_readKeep_58 (by decide) ?_
        refine pl_zast hx hb hK hW hT_x_8.1 hS_x_8 (vp_in_nI (n := k_25) (N := 40) (by omega) (by omega)) dX6_readKeep_59 (fun H locs f_40 S_39 ef_f_40 e1 hW => ?_)
        have hTy := hTy.u23 e1 hT_x_8 ⟨f_40, rfl⟩
        have hS_rb := un e1 hT_rb hT_x_8 (by decide) hS_rb
        have hS_o := un e1 hT_o hT_x_8 (by decide) hS_o
        have hFr := uf hFr e1 hT_x_8 (by decide) (by decide)
        have hS_x_8 := us e1
        refine lv_aload_n hx hb dX6_readKeep_60 rfl (lv_at hl 1 rfl) ?_
        refine pl_callv (va_runV (As := []) (rest := []) ⟨hx, hb, hml, hown, hT⟩ (r_next l dC dI cy L kap pr ad S_39 H.size o hTy hT_o f35 rn rb rt ⟨_, en36, _, _, ta36, te36, hS_o, by omega, by omega, by omega⟩) (cwV 0 hT (gV w420 w422 ws0 w3 w423) rfl rfl rfl (by decide +kernel) ⟨(Nat.le_of_ble_eq_true rfl), (Nat.le_of_ble_eq_true rfl)⟩) ⟨pcS.blind, pl_recv hK hW hT_o.1 hS_o rfl, pcS.pre hW.1 hK hW.2.1 hN hSTR hW.2.2⟩ rfl rfl hl.1 rfl (lv_room (Nat.le_of_ble_eq_true rfl)) dX6_readKeep_61 ⟨(Nat.le_of_ble_eq_true rfl), (Nat.le_of_ble_eq_true rfl)⟩) hW hA0 hA (fun S_41 H locs hrel hW => ?_)
        obtain ⟨hTy, hF1, hx1⟩ := hrel
        have hFr := hFr.tr hF1 (by decide)
        have hS_rb := hF1.at hT_rb (by decide) hS_rb
        have hS_x_8 := hF1.at hT_x_8 (by decide) hS_x_8
        obtain ⟨pl42, en42, mt42, tk42, ta42, te42, hS_o, hT_rn, hT_rb, hT_rt, hen42, hte42, hta42, hab42⟩ := RKk hTy hT_o hx1
        exact W.vret hx hb hr (fun t ht h9 => ⟨⟨S_41, rfl, ⟨hTy, hFr, ⟨_, ⟨_, en42, _, _, ta42, te42, hS_o, by omega, by omega, by omega, by omega⟩, (fun h => (fun _ => hf35) ((fun h => hf15 ((fun h => h) h)) h))⟩⟩, by rw [ht]; exact hW.1, va_K.moved h9.alike hK, hW.2.1⟩, hW.2.2.F ht⟩) hW.2.2.2.2 dX6_readKeep_64

set_option maxHeartbeats 4000000 in
set_option maxRecDepth 100000 in
theorem r_readCap (l : Launch) (dC : Nat → ClassId) (dI : Nat → Nat → Nat) (cy : Nat → ClassId) (L : List Nat) (kap : Nat → Nat) (pr : Pr) (ad : (Nat → Nat) × (Nat → Nat)) (S : Nat → va_E) (sz : Nat) (o : Nat) (hTy : Ty cy L kap pr S) (hT_o : TK L kap o 6) (f : Int32) (rn : Nat) (rb : Nat) (rt : Nat) (hR : RK S o f rn rb rt) : Met l yX6_readCap (wT yX6_readCap cX6_readCap 4 none) ({ frames := 7, cells := 0, slots := 0, locals := 147 }) (pcS dC dI [.ref o] sz L S (cyT cy) NLs ad) (va_Qv (fun S' => Ty cy L kap pr S' ∧ Fr kap [6, 24] S S' ∧ (∃ f', RK S' o f' rn rb rt ∧ (f ≠ 0 → f' ≠ 0))) (fun S' t => pB dC dI (AL L sz) (va_pl L S') (cyT cy) t) (AL L sz)) 0 0 (AL L sz) := by
  refine Met.ofW (cc := cX6_readCap) (maxL := 4) (ret := none) (by decide) rfl ?_
  intro p e s m args below meth c s₁ B hml hv
  obtain ⟨rfl, hsz, hP, hK, hD0, hN, hSTR⟩ := hv
  have hx := B.exec
  have hb := B.bytes
  have hr := B.returns
  have hT : ∀ wd ∈ TB, wd.before [.ref o].toArray s = true := fun wd h => atoms_spec (ws := wT yX6_readCap cX6_readCap 4 none) B.pre wd (List.mem_cons_of_mem _ h)
  have hown : s.vm.findClass RX6 = some m.cls := findClass_of_methodNamed B.named
  have hlocks := B.notSynchronized
  subst hsz
  have hW : PW dC dI L (AL L s.heap.size) s.heap S s.heap [] := ⟨hP, pl_self hD0, va_S.rf⟩
  have hA0 : ∀ q, q ∈ L → AL L s.heap.size q := fun _ h => Or.inl h
  have hA : ∀ q, s.heap.size ≤ q → AL L s.heap.size q := fun _ h => Or.inr h
  have hFr : Fr kap [6, 24] S S := Fr.rf
  have hl := lv_entry ([.ref o]) (n := 4) (Nat.le_of_ble_eq_true rfl)
  rw [lg_entry_eq]
  generalize (lg_sl ([.ref o]) ++ List.replicate (4 - (lg_sl ([.ref o])).length) Slot.unset).toArray = ls at hl ⊢
  have hl : lv_has ls 4 [(0, .ref o)] := hl
  obtain ⟨pl1, en1, mt1, tk1, ta1, te1, hS_o, hT_rn, hT_rb, hT_rt, hen1, hte1, hta1, hab1⟩ := RKk hTy hT_o hR
  refine lv_aload_n hx hb dX6_readCap_0 rfl (lv_at hl 0 rfl) ?_
  refine pl_callv (va_runV (As := []) (rest := []) ⟨hx, hb, hml, hown, hT⟩ (r_next l dC dI cy L kap pr ad S s.heap.size o hTy hT_o f rn rb rt ⟨_, en1, _, _, ta1, te1, hS_o, by omega, by omega, by omega⟩) (cwV 0 hT (gV w420 w422 ws0 w3 w423) rfl rfl rfl (by decide +kernel) ⟨(Nat.le_of_ble_eq_true rfl), (Nat.le_of_ble_eq_true rfl)⟩) ⟨pcS.blind, pl_recv hK hW hT_o.1 hS_o rfl, pcS.pre hW.1 hK hW.2.1 hN hSTR hW.2.2⟩ rfl rfl hl.1 rfl (lv_room (Nat.le_of_ble_eq_true rfl)) dX6_readCap_1 ⟨(Nat.le_of_ble_eq_true rfl), (Nat.le_of_ble_eq_true rfl)⟩) hW hA0 hA (fun S_2 H locs hrel hW => ?_)
  obtain ⟨hTy, hF1, hx1⟩ := hrel
  have hFr := hFr.tr hF1 (by decide)
  obtain ⟨pl3, en3, mt3, tk3, ta3, te3, hS_o, hT_rn, hT_rb, hT_rt, hen3, hte3, hta3, hab3⟩ := RKk hTy hT_o hx1
  refine lv_aload_n hx hb dX6_readCap_4 rfl (lv_at hl 0 rfl) ?_
  refine pl_calli (va_runV (As := []) (rest := []) ⟨hx, hb, hml, hown, hT⟩ (r_knownParty l dC dI cy L kap pr S_2 H.size o hTy hT_o f rn rb rt ⟨_, en3, _, _, ta3, te3, hS_o, by omega, by omega, by omega, by omega⟩) (cwV 0 hT (gV w545 w547 ws13 w3 w548) rfl rfl rfl (by decide +kernel) ⟨(Nat.le_of_ble_eq_true rfl), (Nat.le_of_ble_eq_true rfl)⟩) ⟨pcN.blind, pl_recv hK hW hT_o.1 hS_o rfl, pcN.pre hW.1 hK hW.2.1 hN (fun q h => absurd h List.not_mem_nil)⟩ rfl rfl hl.1 rfl (lv_room (Nat.le_of_ble_eq_true rfl)) dX6_readCap_5 ⟨(Nat.le_of_ble_eq_true rfl), (Nat.le_of_ble_eq_true rfl)⟩) hW hA0 hA (fun r_5 S_4 H locs hrel hW => ?_)
  obtain ⟨hTy, hF1, hx1⟩ := hrel
  have hFr := hFr.tr hF1 (by decide)
  obtain ⟨f6, hR6, hf6, hv6⟩ := hx1
  obtain ⟨pl7, en7, mt7, tk7, ta7, te7, hS_o, hT_rn, hT_rb, hT_rt, hen7, hte7, hta7, hab7⟩ := RKk hTy hT_o hR6
  refine lv_istore_n (lv' := [(1, .int r_5), (0, .ref o)]) hx hb dX6_readCap_8 rfl hl (by decide) rfl (fun ls hl => ?_)
  refine lv_aload_n hx hb dX6_readCap_9 rfl (lv_at hl 1 rfl) ?_
  refine pl_callv (va_runV (As := []) (rest := []) ⟨hx, hb, hml, hown, hT⟩ (r_next l dC dI cy L kap pr ad S_4 H.size o hTy hT_o f6 rn rb rt ⟨_, en7, _, _, ta7, te7, hS_o, by omega, by omega, by omega⟩) (cwV 0 hT (gV w420 w422 ws0 w3 w423) rfl rfl rfl (by decide +kernel) ⟨(Nat.le_of_ble_eq_true rfl), (Nat.le_of_ble_eq_true rfl)⟩) ⟨pcS.blind, pl_recv hK hW hT_o.1 hS_o rfl, pcS.pre hW.1 hK hW.2.1 hN hSTR hW.2.2⟩ rfl rfl hl.1 rfl (lv_room (Nat.le_of_ble_eq_true rfl)) dX6_readCap_10 ⟨(Nat.le_of_ble_eq_true rfl), (Nat.le_of_ble_eq_true rfl)⟩) hW hA0 hA (fun S_8 H locs hrel hW => ?_)
  obtain ⟨hTy, hF1, hx1⟩ := hrel
  have hFr := hFr.tr hF1 (by decide)
  obtain ⟨pl9, en9, mt9, tk9, ta9, te9, hS_o, hT_rn, hT_rb, hT_rt, hen9, hte9, hta9, hab9⟩ := RKk hTy hT_o hx1
  refine lv_aload_n hx hb dX6_readCap_13 rfl (lv_at hl 1 rfl) ?_
  refine pl_calli (va_runV (As := []) (rest := []) ⟨hx, hb, hml, hown, hT⟩ (r_knownParty l dC dI cy L kap pr S_8 H.size o hTy hT_o f6 rn rb rt ⟨_, en9, _, _, ta9, te9, hS_o, by omega, by omega, by omega, by omega⟩) (cwV 0 hT (gV w545 w547 ws13 w3 w548) rfl rfl rfl (by decide +kernel) ⟨(Nat.le_of_ble_eq_true rfl), (Nat.le_of_ble_eq_true rfl)⟩) ⟨pcN.blind, pl_recv hK hW hT_o.1 hS_o rfl, pcN.pre hW.1 hK hW.2.1 hN (fun q h => absurd h List.not_mem_nil)⟩ rfl rfl hl.1 rfl (lv_room (Nat.le_of_ble_eq_true rfl)) dX6_readCap_14 ⟨(Nat.le_of_ble_eq_true rfl), (Nat.le_of_ble_eq_true rfl)⟩) hW hA0 hA (fun r_11 S_10 H locs hrel hW => ?_)
  obtain ⟨hTy, hF1, hx1⟩ := hrel
  have hFr := hFr.tr hF1 (by decide)
  obtain ⟨f12, hR12, hf12, hv12⟩ := hx1
  obtain ⟨pl13, en13, mt13, tk13, ta13, te13, hS_o, hT_rn, hT_rb, hT_rt, hen13, hte13, hta13, hab13⟩ := RKk hTy hT_o hR12
  refine lv_istore_n (lv' := [(2, .int r_11), (1, .int r_5), (0, .ref o)]) hx hb dX6_readCap_17 rfl hl (by decide) rfl (fun ls hl => ?_)
  refine lv_aload_n hx hb dX6_readCap_18 rfl (lv_at hl 2 rfl) ?_
  refine lv_iload_n hx hb dX6_readCap_19 rfl (lv_at hl 1 rfl) ?_
  refine lv_iload_n hx hb dX6_readCap_20 rfl (lv_at hl 0 rfl) ?_
  refine pl_callv (va_runV (As := [.int r_5, .int r_11]) (rest := []) ⟨hx, hb, hml, hown, hT⟩ (r_failIfSame l dC dI cy L kap pr S_10 H.size o r_5 r_11 hTy hT_o f12 rn rb rt ⟨_, en13, _, _, ta13, te13, hS_o, by omega, by omega, by omega, by omega⟩) (cwV 2 hT (gV w549 w551 ws14 w3 w552) rfl rfl rfl (by decide +kernel) ⟨(Nat.le_of_ble_eq_true rfl), (Nat.le_of_ble_eq_true rfl)⟩) ⟨pcN.blind, pl_recv hK hW hT_o.1 hS_o rfl, pcN.pre hW.1 hK hW.2.1 hN (fun q h => absurd h List.not_mem_nil)⟩ rfl rfl hl.1 rfl (lv_room (Nat.le_of_ble_eq_true rfl)) dX6_readCap_21 ⟨(Nat.le_of_ble_eq_true rfl), (Nat.le_of_ble_eq_true rfl)⟩) hW hA0 hA (fun S_14 H locs hrel hW => ?_)
  obtain ⟨hTy, hF1, hx1⟩ := hrel
  have hFr := hFr.tr hF1 (by decide)
  obtain ⟨f15, hR15, hf15⟩ := hx1
  obtain ⟨pl16, en16, mt16, tk16, ta16, te16, hS_o, hT_rn, hT_rb, hT_rt, hen16, hte16, hta16, hab16⟩ := RKk hTy hT_o hR15
  refine lv_aload_n hx hb dX6_readCap_24 rfl (lv_at hl 2 rfl) ?_
  refine pl_callv (va_runV (As := []) (rest := []) ⟨hx, hb, hml, hown, hT⟩ (r_next l dC dI cy L kap pr ad S_14 H.size o hTy hT_o f15 rn rb rt ⟨_, en16, _, _, ta16, te16, hS_o, by omega, by omega, by omega⟩) (cwV 0 hT (gV w420 w422 ws0 w3 w423) rfl rfl rfl (by decide +kernel) ⟨(Nat.le_of_ble_eq_true rfl), (Nat.le_of_ble_eq_true rfl)⟩) ⟨pcS.blind, pl_recv hK hW hT_o.1 hS_o rfl, pcS.pre hW.1 hK hW.2.1 hN hSTR hW.2.2⟩ rfl rfl hl.1 rfl (lv_room (Nat.le_of_ble_eq_true rfl)) dX6_readCap_25 ⟨(Nat.le_of_ble_eq_true rfl), (Nat.le_of_ble_eq_true rfl)⟩) hW hA0 hA (fun S_17 H locs hrel hW => ?_)
  obtain ⟨hTy, hF1, hx1⟩ := hrel
  have hFr := hFr.tr hF1 (by decide)
  obtain ⟨pl18, en18, mt18, tk18, ta18, te18, hS_o, hT_rn, hT_rb, hT_rt, hen18, hte18, hta18, hab18⟩ := RKk hTy hT_o hx1
  refine lv_aload_n hx hb dX6_readCap_28 rfl (lv_at hl 2 rfl) ?_
  refine lv_iconst (v := 0) hx hb dX6_readCap_29 (by decide) ?_
  refine lv_ldc (v := 99999999) hx hb hown (hT _ w574) dX6_readCap_30 ?_
  refine pl_calli (va_runV (As := [.int 0, .int 99999999]) (rest := []) ⟨hx, hb, hml, hown, hT⟩ (r_numberWithin l dC dI cy L kap pr S_17 H.size o 0 99999999 hTy hT_o f15 rn rb rt ⟨_, en18, _, _, ta18, te18, hS_o, by omega, by omega, by omega, by omega⟩) (cwV 2 hT (gV w554 w556 ws15 w3 w557) rfl rfl rfl (by decide +kernel) ⟨(Nat.le_of_ble_eq_true rfl), (Nat.le_of_ble_eq_true rfl)⟩) ⟨pcN.blind, pl_recv hK hW hT_o.1 hS_o rfl, pcN.pre hW.1 hK hW.2.1 hN (fun q h => absurd h List.not_mem_nil)⟩ rfl rfl hl.1 rfl (lv_room (Nat.le_of_ble_eq_true rfl)) dX6_readCap_32 ⟨(Nat.le_of_ble_eq_true rfl), (Nat.le_of_ble_eq_true rfl)⟩) hW hA0 hA (fun r_20 S_19 H locs hrel hW => ?_)
  obtain ⟨hTy, hF1, hx1⟩ := hrel
  have hFr := hFr.tr hF1 (by decide)
  obtain ⟨f21, hR21, hf21, hv21⟩ := hx1
  obtain ⟨pl22, en22, mt22, tk22, ta22, te22, hS_o, hT_rn, hT_rb, hT_rt, hen22, hte22, hta22, hab22⟩ := RKk hTy hT_o hR21
  refine lv_istore_n (lv' := [(3, .int r_20), (2, .int r_11), (1, .int r_5), (0, .ref o)]) hx hb dX6_readCap_35 rfl hl (by decide) rfl (fun ls hl => ?_)
  refine lv_aload_n hx hb dX6_readCap_36 rfl (lv_at hl 3 rfl) ?_
  refine pl_get (ci := 6) (v := .int f21) (C := RX6) (T := TX6) (N := 10) hx hb hT iX6 hown hK hW hT_o.1 hS_o rfl 0 (by decide) w139 rfl dX6_readCap_37 ?_
  refine lv_if_ne (tgt := 57) hx hb dX6_readCap_40 (by decide) (fun c_40 => ?_) (fun c_40 => ?_)
  · refine lv_aload_n hx hb dX6_readCap_57 rfl (lv_at hl 3 rfl) ?_
    refine pl_callv (va_runV (As := []) (rest := []) ⟨hx, hb, hml, hown, hT⟩ (r_next l dC dI cy L kap pr ad S_19 H.size o hTy hT_o f21 rn rb rt ⟨_, en22, _, _, ta22, te22, hS_o, by omega, by omega, by omega⟩) (cwV 0 hT (gV w420 w422 ws0 w3 w423) rfl rfl rfl (by decide +kernel) ⟨(Nat.le_of_ble_eq_true rfl), (Nat.le_of_ble_eq_true rfl)⟩) ⟨pcS.blind, pl_recv hK hW hT_o.1 hS_o rfl, pcS.pre hW.1 hK hW.2.1 hN hSTR hW.2.2⟩ rfl rfl hl.1 rfl (lv_room (Nat.le_of_ble_eq_true rfl)) dX6_readCap_58 ⟨(Nat.le_of_ble_eq_true rfl), (Nat.le_of_ble_eq_true rfl)⟩) hW hA0 hA (fun S_23 H locs hrel hW => ?_)
    obtain ⟨hTy, hF1, hx1⟩ := hrel
    have hFr := hFr.tr hF1 (by decide)
    obtain ⟨pl24, en24, mt24, tk24, ta24, te24, hS_o, hT_rn, hT_rb, hT_rt, hen24, hte24, hta24, hab24⟩ := RKk hTy hT_o hx1
    exact W.vret hx hb hr (fun t ht h9 => ⟨⟨S_23, rfl, ⟨hTy, hFr, ⟨_, ⟨_, en24, _, _, ta24, te24, hS_o, by omega, by omega, by omega, by omega⟩, (fun h => hf21 ((fun h => hf15 ((fun h => hf12 ((fun h => hf6 ((fun h => h) h)) h)) h)) h))⟩⟩, by rw [ht]; exact hW.1, va_K.moved h9.alike hK, hW.2.1⟩, hW.2.2.F ht⟩) hW.2.2.2.2 dX6_readCap_61
  · obtain ⟨k_25, hb_k_25, rfl⟩ := hv6.resolve_left (fun h => (fun h => hf21 ((fun h => hf15 ((fun h => hf12 ((fun h => h) h)) h)) h)) h c_40)
    obtain ⟨k_26, hb_k_26, rfl⟩ := hv12.resolve_left (fun h => (fun h => hf21 ((fun h => hf15 ((fun h => h) h)) h)) h c_40)
    refine lv_aload_n hx hb dX6_readCap_43 rfl (lv_at hl 3 rfl) ?_
    refine pl_get (ci := 6) (v := .ref rb) (C := RX6) (T := TX6) (N := 10) hx hb hT iX6 hown hK hW hT_o.1 hS_o rfl 3 (by decide) w145 rfl dX6_readCap_44 ?_
    obtain ⟨x_27, x_28, x_29, x_30, x_31, x_32, x_33, x_34, hS_rb, hT_x_27, hT_x_28, hT_x_29, hT_x_30, hT_x_31, hT_x_32, hb_x_33⟩ := hTy.k0 hT_rb
    refine pl_get (ci := 0) (v := .ref x_32) (C := RX0) (T := TX0) (N := 8) hx hb hT iX0 hown hK hW hT_rb.1 hS_rb rfl 5 (by decide) w110 rfl dX6_readCap_47 ?_
    refine lv_iload_n hx hb dX6_readCap_50 rfl (lv_at hl 2 rfl) ?_
    refine lv_iload_n hx hb dX6_readCap_51 rfl (lv_at hl 1 rfl) ?_
    refine vp_callSi (va_Run.run (va_runSN (As := [.int (nI k_25), .int (nI k_26)]) (rest := [.ref x_32]) ⟨hx, hb, hml, hown, hT⟩ (s_cell l dC dI H.size k_25 k_26 (by omega) (by omega)) ⟨va_cnB 2 hT (gT w577) rfl rfl rfl (hN (RX6, 145, yX11_cell, RX11) (by decide +kernel)) (hT _ w1) (by decide +kernel) ⟨(Nat.le_of_ble_eq_true rfl), (Nat.le_of_ble_eq_true rfl)⟩, (hT _ w576), trivial⟩ ⟨pcW.blind, pcW.pre (va_P0 _ _ _) (hK.sub (tys' := []) [] rfl) (va_D0 (fun _ => True))⟩ rfl rfl hl.1 rfl (lv_room (Nat.le_of_ble_eq_true rfl)) dX6_readCap_52 ⟨(Nat.le_of_ble_eq_true rfl), (Nat.le_of_ble_eq_true rfl)⟩)) (fun r_35 hr_35 => ?_)
    obtain rfl : r_35 = nI (k_25 * 8 + k_26) := hr_35
    refine lv_iload_n hx hb dX6_readCap_55 rfl (lv_at hl 0 rfl) ?_
    obtain ⟨f_36, hS_x_32⟩ := hTy.k24 hT_x_32
    refine pl_iast hx hb hK hW hT_x_32.1 hS_x_32 (vp_in_nI (n := k_25 * 8 + k_26) (N := 64) (by omega) (by omega)) dX6_readCap_56 (fun H locs f_38 S_37 ef_f_38 e1 hW => ?_)
    have hTy := hTy.u24 e1 hT_x_32 ⟨f_38, rfl⟩
    have hS_o := un e1 hT_o hT_x_32 (by decide) hS_o
    have hS_rb := un e1 hT_rb hT_x_32 (by decide) hS_rb
    have hFr := uf hFr e1 hT_x_32 (by decide) (by decide)
    have hS_x_32 := us e1
    refine lv_aload_n hx hb dX6_readCap_57 rfl (lv_at hl 3 rfl) ?_
    refine pl_callv (va_runV (As := []) (rest := []) ⟨hx, hb, hml, hown, hT⟩ (r_next l dC dI cy L kap pr ad S_37 H.size o hTy hT_o f21 rn rb rt ⟨_, en22, _, _, ta22, te22, hS_o, by omega, by omega, by omega⟩) (cwV 0 hT (gV w420 w422 ws0 w3 w423) rfl rfl rfl (by decide +kernel) ⟨(Nat.le_of_ble_eq_true rfl), (Nat.le_of_ble_eq_true rfl)⟩) ⟨pcS.blind, pl_recv hK hW hT_o.1 hS_o rfl, pcS.pre hW.1 hK hW.2.1 hN hSTR hW.2.2⟩ rfl rfl hl.1 rfl (lv_room (Nat.le_of_ble_eq_true rfl)) dX6_readCap_58 ⟨(Nat.le_of_ble_eq_true rfl), (Nat.le_of_ble_eq_true rfl)⟩) hW hA0 hA (fun S_39 H locs hrel hW => ?_)
    obtain ⟨hTy, hF1, hx1⟩ := hrel
    have hFr := hFr.tr hF1 (by decide)
    have hS_rb := hF1.at hT_rb (by decide) hS_rb
    have hS_x_32 := hF1.at hT_x_32 (by decide) hS_x_32
    obtain ⟨pl40, en40, mt40, tk40, ta40, te40, hS_o, hT_rn, hT_rb, hT_rt, hen40, hte40, hta40, hab40⟩ := RKk hTy hT_o hx1
    exact W.vret hx hb hr (fun t ht h9 => ⟨⟨S_39, rfl, ⟨hTy, hFr, ⟨_, ⟨_, en40, _, _, ta40, te40, hS_o, by omega, by omega, by omega, by omega⟩, (fun h => hf21 ((fun h => hf15 ((fun h => hf12 ((fun h => hf6 ((fun h => h) h)) h)) h)) h))⟩⟩, by rw [ht]; exact hW.1, va_K.moved h9.alike hK, hW.2.1⟩, hW.2.2.F ht⟩) hW.2.2.2.2 dX6_readCap_61

set_option maxHeartbeats 4000000 in
set_option maxRecDepth 100000 in
theorem r_readMode (l : Launch) (dC : Nat → ClassId) (dI : Nat → Nat → Nat) (cy : Nat → ClassId) (L : List Nat) (kap : Nat → Nat) (pr : Pr) (ad : (Nat → Nat) × (Nat → Nat)) (S : Nat → va_E) (sz : Nat) (o : Nat) (hTy : Ty cy L kap pr S) (hT_o : TK L kap o 6) (f : Int32) (rn : Nat) (rb : Nat) (rt : Nat) (hR : RK S o f rn rb rt) : Met l yX6_readMode (wT yX6_readMode cX6_readMode 2 none) ({ frames := 7, cells := 0, slots := 0, locals := 147 }) (pcS dC dI [.ref o] sz L S (cyT cy) NLs ad) (va_Qv (fun S' => Ty cy L kap pr S' ∧ Fr kap [0, 6] S S' ∧ (∃ f', RK S' o f' rn rb rt ∧ (f ≠ 0 → f' ≠ 0))) (fun S' t => pB dC dI (AL L sz) (va_pl L S') (cyT cy) t) (AL L sz)) 0 0 (AL L sz) := by
  refine Met.ofW (cc := cX6_readMode) (maxL := 2) (ret := none) (by decide) rfl ?_
  intro p e s m args below meth c s₁ B hml hv
  obtain ⟨rfl, hsz, hP, hK, hD0, hN, hSTR⟩ := hv
  have hx := B.exec
  have hb := B.bytes
  have hr := B.returns
  have hT : ∀ wd ∈ TB, wd.before [.ref o].toArray s = true := fun wd h => atoms_spec (ws := wT yX6_readMode cX6_readMode 2 none) B.pre wd (List.mem_cons_of_mem _ h)
  have hown : s.vm.findClass RX6 = some m.cls := findClass_of_methodNamed B.named
  have hlocks := B.notSynchronized
  subst hsz
  have hW : PW dC dI L (AL L s.heap.size) s.heap S s.heap [] := ⟨hP, pl_self hD0, va_S.rf⟩
  have hA0 : ∀ q, q ∈ L → AL L s.heap.size q := fun _ h => Or.inl h
  have hA : ∀ q, s.heap.size ≤ q → AL L s.heap.size q := fun _ h => Or.inr h
  have hFr : Fr kap [0, 6] S S := Fr.rf
  have hl := lv_entry ([.ref o]) (n := 2) (Nat.le_of_ble_eq_true rfl)
  rw [lg_entry_eq]
  generalize (lg_sl ([.ref o]) ++ List.replicate (2 - (lg_sl ([.ref o])).length) Slot.unset).toArray = ls at hl ⊢
  have hl : lv_has ls 2 [(0, .ref o)] := hl
  obtain ⟨pl1, en1, mt1, tk1, ta1, te1, hS_o, hT_rn, hT_rb, hT_rt, hen1, hte1, hta1, hab1⟩ := RKk hTy hT_o hR
  refine lv_aload_n hx hb dX6_readMode_0 rfl (lv_at hl 0 rfl) ?_
  refine pl_get (ci := 6) (v := .int mt1) (C := RX6) (T := TX6) (N := 10) hx hb hT iX6 hown hK hW hT_o.1 hS_o rfl 6 (by decide) w149 rfl dX6_readMode_1 ?_
  refine lv_if_eq (tgt := 12) hx hb dX6_readMode_4 (by decide) (fun c_4 => ?_) (fun c_4 => ?_)
  · refine lv_aload_n hx hb dX6_readMode_12 rfl (lv_at hl 0 rfl) ?_
    refine lv_iconst (v := 1) hx hb dX6_readMode_13 (by decide) ?_
    refine pl_put (ci := 6) (v := .int 1) (ty := .boolean) (C := RX6) (T := TX6) (N := 10) (fs' := [.int f, .int pl1, .ref rn, .ref rb, .ref rt, .int (nI en1), .int 1, .int tk1, .int (nI ta1), .int (nI te1)]) hx hb hT iX6 tyX6 tyX6_ok nmX6 hown hK hW hT_o.1 hS_o rfl 6 (by decide) w149 rfl (by decide +kernel) rfl rfl (Nat.le_of_ble_eq_true rfl) rfl dX6_readMode_14 (fun H locs S_2 e1 hW => ?_)
    have hTy := hTy.u6 e1 hT_o ⟨f, pl1, rn, rb, rt, en1, 1, tk1, ta1, te1, rfl, hT_rn, hT_rb, hT_rt, (by omega), (by omega), (by omega)⟩
    have hFr := uf hFr e1 hT_o (by decide) (by decide)
    have hS_o := us e1
    refine lv_aload_n hx hb dX6_readMode_17 rfl (lv_at hl 0 rfl) ?_
    refine pl_callv (va_runV (As := []) (rest := []) ⟨hx, hb, hml, hown, hT⟩ (r_next l dC dI cy L kap pr ad S_2 H.size o hTy hT_o f rn rb rt ⟨_, en1, _, _, ta1, te1, hS_o, by omega, by omega, by omega⟩) (cwV 0 hT (gV w420 w422 ws0 w3 w423) rfl rfl rfl (by decide +kernel) ⟨(Nat.le_of_ble_eq_true rfl), (Nat.le_of_ble_eq_true rfl)⟩) ⟨pcS.blind, pl_recv hK hW hT_o.1 hS_o rfl, pcS.pre hW.1 hK hW.2.1 hN hSTR hW.2.2⟩ rfl rfl hl.1 rfl (lv_room (Nat.le_of_ble_eq_true rfl)) dX6_readMode_18 ⟨(Nat.le_of_ble_eq_true rfl), (Nat.le_of_ble_eq_true rfl)⟩) hW hA0 hA (fun S_3 H locs hrel hW => ?_)
    obtain ⟨hTy, hF1, hx1⟩ := hrel
    have hFr := hFr.tr hF1 (by decide)
    obtain ⟨pl4, en4, mt4, tk4, ta4, te4, hS_o, hT_rn, hT_rb, hT_rt, hen4, hte4, hta4, hab4⟩ := RKk hTy hT_o hx1
    refine lv_aload_n hx hb dX6_readMode_21 rfl (lv_at hl 0 rfl) ?_
    refine lv_iconst (v := 0) hx hb dX6_readMode_22 (by decide) ?_
    refine lv_iconst (v := 3) hx hb dX6_readMode_23 (by decide) ?_
    refine pl_calli (va_runV (As := [.int 0, .int 3]) (rest := []) ⟨hx, hb, hml, hown, hT⟩ (r_numberWithin l dC dI cy L kap pr S_3 H.size o 0 3 hTy hT_o f rn rb rt ⟨_, en4, _, _, ta4, te4, hS_o, by omega, by omega, by omega, by omega⟩) (cwV 2 hT (gV w554 w556 ws15 w3 w557) rfl rfl rfl (by decide +kernel) ⟨(Nat.le_of_ble_eq_true rfl), (Nat.le_of_ble_eq_true rfl)⟩) ⟨pcN.blind, pl_recv hK hW hT_o.1 hS_o rfl, pcN.pre hW.1 hK hW.2.1 hN (fun q h => absurd h List.not_mem_nil)⟩ rfl rfl hl.1 rfl (lv_room (Nat.le_of_ble_eq_true rfl)) dX6_readMode_24 ⟨(Nat.le_of_ble_eq_true rfl), (Nat.le_of_ble_eq_true rfl)⟩) hW hA0 hA (fun r_6 S_5 H locs hrel hW => ?_)
    obtain ⟨hTy, hF1, hx1⟩ := hrel
    have hFr := hFr.tr hF1 (by decide)
    obtain ⟨f7, hR7, hf7, hv7⟩ := hx1
    obtain ⟨pl8, en8, mt8, tk8, ta8, te8, hS_o, hT_rn, hT_rb, hT_rt, hen8, hte8, hta8, hab8⟩ := RKk hTy hT_o hR7
    refine lv_istore_n (lv' := [(1, .int r_6), (0, .ref o)]) hx hb dX6_readMode_27 rfl hl (by decide) rfl (fun ls hl => ?_)
    refine lv_aload_n hx hb dX6_readMode_28 rfl (lv_at hl 1 rfl) ?_
    refine pl_get (ci := 6) (v := .int f7) (C := RX6) (T := TX6) (N := 10) hx hb hT iX6 hown hK hW hT_o.1 hS_o rfl 0 (by decide) w139 rfl dX6_readMode_29 ?_
    refine lv_if_ne (tgt := 43) hx hb dX6_readMode_32 (by decide) (fun c_32 => ?_) (fun c_32 => ?_)
    · refine lv_aload_n hx hb dX6_readMode_43 rfl (lv_at hl 1 rfl) ?_
      refine pl_callv (va_runV (As := []) (rest := []) ⟨hx, hb, hml, hown, hT⟩ (r_next l dC dI cy L kap pr ad S_5 H.size o hTy hT_o f7 rn rb rt ⟨_, en8, _, _, ta8, te8, hS_o, by omega, by omega, by omega⟩) (cwV 0 hT (gV w420 w422 ws0 w3 w423) rfl rfl rfl (by decide +kernel) ⟨(Nat.le_of_ble_eq_true rfl), (Nat.le_of_ble_eq_true rfl)⟩) ⟨pcS.blind, pl_recv hK hW hT_o.1 hS_o rfl, pcS.pre hW.1 hK hW.2.1 hN hSTR hW.2.2⟩ rfl rfl hl.1 rfl (lv_room (Nat.le_of_ble_eq_true rfl)) dX6_readMode_44 ⟨(Nat.le_of_ble_eq_true rfl), (Nat.le_of_ble_eq_true rfl)⟩) hW hA0 hA (fun S_9 H locs hrel hW => ?_)
      obtain ⟨hTy, hF1, hx1⟩ := hrel
      have hFr := hFr.tr hF1 (by decide)
      obtain ⟨pl10, en10, mt10, tk10, ta10, te10, hS_o, hT_rn, hT_rb, hT_rt, hen10, hte10, hta10, hab10⟩ := RKk hTy hT_o hx1
      exact W.vret hx hb hr (fun t ht h9 => ⟨⟨S_9, rfl, ⟨hTy, hFr, ⟨_, ⟨_, en10, _, _, ta10, te10, hS_o, by omega, by omega, by omega, by omega⟩, (fun h => hf7 ((fun h => h) h))⟩⟩, by rw [ht]; exact hW.1, va_K.moved h9.alike hK, hW.2.1⟩, hW.2.2.F ht⟩) hW.2.2.2.2 dX6_readMode_47
    · refine lv_aload_n hx hb dX6_readMode_35 rfl (lv_at hl 1 rfl) ?_
      refine pl_get (ci := 6) (v := .ref rb) (C := RX6) (T := TX6) (N := 10) hx hb hT iX6 hown hK hW hT_o.1 hS_o rfl 3 (by decide) w145 rfl dX6_readMode_36 ?_
      refine lv_iload_n hx hb dX6_readMode_39 rfl (lv_at hl 0 rfl) ?_
      obtain ⟨x_11, x_12, x_13, x_14, x_15, x_16, x_17, x_18, hS_rb, hT_x_11, hT_x_12, hT_x_13, hT_x_14, hT_x_15, hT_x_16, hb_x_17⟩ := hTy.k0 hT_rb
      refine pl_put (ci := 0) (v := .int r_6) (ty := .int) (C := RX0) (T := TX0) (N := 8) (fs' := [.ref x_11, .ref x_12, .ref x_13, .ref x_14, .ref x_15, .ref x_16, .int (nI x_17), .int r_6]) hx hb hT iX0 tyX0 tyX0_ok nmX0 hown hK hW hT_rb.1 hS_rb rfl 7 (by decide) w119 rfl (by decide +kernel) rfl rfl (Nat.le_of_ble_eq_true rfl) rfl dX6_readMode_40 (fun H locs S_19 e1 hW => ?_)
      have hTy := hTy.u0 e1 hT_rb ⟨x_11, x_12, x_13, x_14, x_15, x_16, x_17, r_6, rfl, hT_x_11, hT_x_12, hT_x_13, hT_x_14, hT_x_15, hT_x_16, (by omega)⟩
      have hS_o := un e1 hT_o hT_rb (by decide) hS_o
      have hFr := uf hFr e1 hT_rb (by decide) (by decide)
      have hS_rb := us e1
      refine lv_aload_n hx hb dX6_readMode_43 rfl (lv_at hl 1 rfl) ?_
      refine pl_callv (va_runV (As := []) (rest := []) ⟨hx, hb, hml, hown, hT⟩ (r_next l dC dI cy L kap pr ad S_19 H.size o hTy hT_o f7 rn rb rt ⟨_, en8, _, _, ta8, te8, hS_o, by omega, by omega, by omega⟩) (cwV 0 hT (gV w420 w422 ws0 w3 w423) rfl rfl rfl (by decide +kernel) ⟨(Nat.le_of_ble_eq_true rfl), (Nat.le_of_ble_eq_true rfl)⟩) ⟨pcS.blind, pl_recv hK hW hT_o.1 hS_o rfl, pcS.pre hW.1 hK hW.2.1 hN hSTR hW.2.2⟩ rfl rfl hl.1 rfl (lv_room (Nat.le_of_ble_eq_true rfl)) dX6_readMode_44 ⟨(Nat.le_of_ble_eq_true rfl), (Nat.le_of_ble_eq_true rfl)⟩) hW hA0 hA (fun S_20 H locs hrel hW => ?_)
      obtain ⟨hTy, hF1, hx1⟩ := hrel
      have hFr := hFr.tr hF1 (by decide)
      have hS_rb := hF1.at hT_rb (by decide) hS_rb
      obtain ⟨pl21, en21, mt21, tk21, ta21, te21, hS_o, hT_rn, hT_rb, hT_rt, hen21, hte21, hta21, hab21⟩ := RKk hTy hT_o hx1
      exact W.vret hx hb hr (fun t ht h9 => ⟨⟨S_20, rfl, ⟨hTy, hFr, ⟨_, ⟨_, en21, _, _, ta21, te21, hS_o, by omega, by omega, by omega, by omega⟩, (fun h => hf7 ((fun h => h) h))⟩⟩, by rw [ht]; exact hW.1, va_K.moved h9.alike hK, hW.2.1⟩, hW.2.2.F ht⟩) hW.2.2.2.2 dX6_readMode_47
  · refine lv_aload_n hx hb dX6_readMode_7 rfl (lv_at hl 0 rfl) ?_
    refine lv_iconst (v := 1) hx hb dX6_readMode_8 (by decide) ?_
    refine pl_callv (va_runV (As := [.int 1]) (rest := []) ⟨hx, hb, hml, hown, hT⟩ (r_fail l dC dI cy L kap pr S s.heap.size o 1 hTy hT_o f rn rb rt ⟨_, en1, _, _, ta1, te1, hS_o, by omega, by omega, by omega, by omega⟩ (by decide)) (cwV 1 hT (gV w500 w502 ws5 w3 w503) rfl rfl rfl (by decide +kernel) ⟨(Nat.le_of_ble_eq_true rfl), (Nat.le_of_ble_eq_true rfl)⟩) ⟨pcN.blind, pl_recv hK hW hT_o.1 hS_o rfl, pcN.pre hW.1 hK hW.2.1 hN (fun q h => absurd h List.not_mem_nil)⟩ rfl rfl hl.1 rfl (lv_room (Nat.le_of_ble_eq_true rfl)) dX6_readMode_9 ⟨(Nat.le_of_ble_eq_true rfl), (Nat.le_of_ble_eq_true rfl)⟩) hW hA0 hA (fun S_22 H locs hrel hW => ?_)
    obtain ⟨hTy, hF1, hx1⟩ := hrel
    have hFr := hFr.tr hF1 (by decide)
    obtain ⟨f23, hR23, hf23⟩ := hx1
    obtain ⟨pl24, en24, mt24, tk24, ta24, te24, hS_o, hT_rn, hT_rb, hT_rt, hen24, hte24, hta24, hab24⟩ := RKk hTy hT_o hR23
    refine lv_aload_n hx hb dX6_readMode_12 rfl (lv_at hl 0 rfl) ?_
    refine lv_iconst (v := 1) hx hb dX6_readMode_13 (by decide) ?_
    refine pl_put (ci := 6) (v := .int 1) (ty := .boolean) (C := RX6) (T := TX6) (N := 10) (fs' := [.int f23, .int pl24, .ref rn, .ref rb, .ref rt, .int (nI en24), .int 1, .int tk24, .int (nI ta24), .int (nI te24)]) hx hb hT iX6 tyX6 tyX6_ok nmX6 hown hK hW hT_o.1 hS_o rfl 6 (by decide) w149 rfl (by decide +kernel) rfl rfl (Nat.le_of_ble_eq_true rfl) rfl dX6_readMode_14 (fun H locs S_25 e1 hW => ?_)
    have hTy := hTy.u6 e1 hT_o ⟨f23, pl24, rn, rb, rt, en24, 1, tk24, ta24, te24, rfl, hT_rn, hT_rb, hT_rt, (by omega), (by omega), (by omega)⟩
    have hFr := uf hFr e1 hT_o (by decide) (by decide)
    have hS_o := us e1
    refine lv_aload_n hx hb dX6_readMode_17 rfl (lv_at hl 0 rfl) ?_
    refine pl_callv (va_runV (As := []) (rest := []) ⟨hx, hb, hml, hown, hT⟩ (r_next l dC dI cy L kap pr ad S_25 H.size o hTy hT_o f23 rn rb rt ⟨_, en24, _, _, ta24, te24, hS_o, by omega, by omega, by omega⟩) (cwV 0 hT (gV w420 w422 ws0 w3 w423) rfl rfl rfl (by decide +kernel) ⟨(Nat.le_of_ble_eq_true rfl), (Nat.le_of_ble_eq_true rfl)⟩) ⟨pcS.blind, pl_recv hK hW hT_o.1 hS_o rfl, pcS.pre hW.1 hK hW.2.1 hN hSTR hW.2.2⟩ rfl rfl hl.1 rfl (lv_room (Nat.le_of_ble_eq_true rfl)) dX6_readMode_18 ⟨(Nat.le_of_ble_eq_true rfl), (Nat.le_of_ble_eq_true rfl)⟩) hW hA0 hA (fun S_26 H locs hrel hW => ?_)
    obtain ⟨hTy, hF1, hx1⟩ := hrel
    have hFr := hFr.tr hF1 (by decide)
    obtain ⟨pl27, en27, mt27, tk27, ta27, te27, hS_o, hT_rn, hT_rb, hT_rt, hen27, hte27, hta27, hab27⟩ := RKk hTy hT_o hx1
    refine lv_aload_n hx hb dX6_readMode_21 rfl (lv_at hl 0 rfl) ?_
    refine lv_iconst (v := 0) hx hb dX6_readMode_22 (by decide) ?_
    refine lv_iconst (v := 3) hx hb dX6_readMode_23 (by decide) ?_
    refine pl_calli (va_runV (As := [.int 0, .int 3]) (rest := []) ⟨hx, hb, hml, hown, hT⟩ (r_numberWithin l dC dI cy L kap pr S_26 H.size o 0 3 hTy hT_o f23 rn rb rt ⟨_, en27, _, _, ta27, te27, hS_o, by omega, by omega, by omega, by omega⟩) (cwV 2 hT (gV w554 w556 ws15 w3 w557) rfl rfl rfl (by decide +kernel) ⟨(Nat.le_of_ble_eq_true rfl), (Nat.le_of_ble_eq_true rfl)⟩) ⟨pcN.blind, pl_recv hK hW hT_o.1 hS_o rfl, pcN.pre hW.1 hK hW.2.1 hN (fun q h => absurd h List.not_mem_nil)⟩ rfl rfl hl.1 rfl (lv_room (Nat.le_of_ble_eq_true rfl)) dX6_readMode_24 ⟨(Nat.le_of_ble_eq_true rfl), (Nat.le_of_ble_eq_true rfl)⟩) hW hA0 hA (fun r_29 S_28 H locs hrel hW => ?_)
    obtain ⟨hTy, hF1, hx1⟩ := hrel
    have hFr := hFr.tr hF1 (by decide)
    obtain ⟨f30, hR30, hf30, hv30⟩ := hx1
    obtain ⟨pl31, en31, mt31, tk31, ta31, te31, hS_o, hT_rn, hT_rb, hT_rt, hen31, hte31, hta31, hab31⟩ := RKk hTy hT_o hR30
    refine lv_istore_n (lv' := [(1, .int r_29), (0, .ref o)]) hx hb dX6_readMode_27 rfl hl (by decide) rfl (fun ls hl => ?_)
    refine lv_aload_n hx hb dX6_readMode_28 rfl (lv_at hl 1 rfl) ?_
    refine pl_get (ci := 6) (v := .int f30) (C := RX6) (T := TX6) (N := 10) hx hb hT iX6 hown hK hW hT_o.1 hS_o rfl 0 (by decide) w139 rfl dX6_readMode_29 ?_
    refine lv_if_ne (tgt := 43) hx hb dX6_readMode_32 (by decide) (fun c_32 => ?_) (fun c_32 => ?_)
    · refine lv_aload_n hx hb dX6_readMode_43 rfl (lv_at hl 1 rfl) ?_
      refine pl_callv (va_runV (As := []) (rest := []) ⟨hx, hb, hml, hown, hT⟩ (r_next l dC dI cy L kap pr ad S_28 H.size o hTy hT_o f30 rn rb rt ⟨_, en31, _, _, ta31, te31, hS_o, by omega, by omega, by omega⟩) (cwV 0 hT (gV w420 w422 ws0 w3 w423) rfl rfl rfl (by decide +kernel) ⟨(Nat.le_of_ble_eq_true rfl), (Nat.le_of_ble_eq_true rfl)⟩) ⟨pcS.blind, pl_recv hK hW hT_o.1 hS_o rfl, pcS.pre hW.1 hK hW.2.1 hN hSTR hW.2.2⟩ rfl rfl hl.1 rfl (lv_room (Nat.le_of_ble_eq_true rfl)) dX6_readMode_44 ⟨(Nat.le_of_ble_eq_true rfl), (Nat.le_of_ble_eq_true rfl)⟩) hW hA0 hA (fun S_32 H locs hrel hW => ?_)
      obtain ⟨hTy, hF1, hx1⟩ := hrel
      have hFr := hFr.tr hF1 (by decide)
      obtain ⟨pl33, en33, mt33, tk33, ta33, te33, hS_o, hT_rn, hT_rb, hT_rt, hen33, hte33, hta33, hab33⟩ := RKk hTy hT_o hx1
      exact W.vret hx hb hr (fun t ht h9 => ⟨⟨S_32, rfl, ⟨hTy, hFr, ⟨_, ⟨_, en33, _, _, ta33, te33, hS_o, by omega, by omega, by omega, by omega⟩, (fun h => hf30 ((fun h => (fun _ => hf23) ((fun h => h) h)) h))⟩⟩, by rw [ht]; exact hW.1, va_K.moved h9.alike hK, hW.2.1⟩, hW.2.2.F ht⟩) hW.2.2.2.2 dX6_readMode_47
    · refine lv_aload_n hx hb dX6_readMode_35 rfl (lv_at hl 1 rfl) ?_
      refine pl_get (ci := 6) (v := .ref rb) (C := RX6) (T := TX6) (N := 10) hx hb hT iX6 hown hK hW hT_o.1 hS_o rfl 3 (by decide) w145 rfl dX6_readMode_36 ?_
      refine lv_iload_n hx hb dX6_readMode_39 rfl (lv_at hl 0 rfl) ?_
      obtain ⟨x_34, x_35, x_36, x_37, x_38, x_39, x_40, x_41, hS_rb, hT_x_34, hT_x_35, hT_x_36, hT_x_37, hT_x_38, hT_x_39, hb_x_40⟩ := hTy.k0 hT_rb
      refine pl_put (ci := 0) (v := .int r_29) (ty := .int) (C := RX0) (T := TX0) (N := 8) (fs' := [.ref x_34, .ref x_35, .ref x_36, .ref x_37, .ref x_38, .ref x_39, .int (nI x_40), .int r_29]) hx hb hT iX0 tyX0 tyX0_ok nmX0 hown hK hW hT_rb.1 hS_rb rfl 7 (by decide) w119 rfl (by decide +kernel) rfl rfl (Nat.le_of_ble_eq_true rfl) rfl dX6_readMode_40 (fun H locs S_42 e1 hW => ?_)
      have hTy := hTy.u0 e1 hT_rb ⟨x_34, x_35, x_36, x_37, x_38, x_39, x_40, r_29, rfl, hT_x_34, hT_x_35, hT_x_36, hT_x_37, hT_x_38, hT_x_39, (by omega)⟩
      have hS_o := un e1 hT_o hT_rb (by decide) hS_o
      have hFr := uf hFr e1 hT_rb (by decide) (by decide)
      have hS_rb := us e1
      refine lv_aload_n hx hb dX6_readMode_43 rfl (lv_at hl 1 rfl) ?_
      refine pl_callv (va_runV (As := []) (rest := []) ⟨hx, hb, hml, hown, hT⟩ (r_next l dC dI cy L kap pr ad S_42 H.size o hTy hT_o f30 rn rb rt ⟨_, en31, _, _, ta31, te31, hS_o, by omega, by omega, by omega⟩) (cwV 0 hT (gV w420 w422 ws0 w3 w423) rfl rfl rfl (by decide +kernel) ⟨(Nat.le_of_ble_eq_true rfl), (Nat.le_of_ble_eq_true rfl)⟩) ⟨pcS.blind, pl_recv hK hW hT_o.1 hS_o rfl, pcS.pre hW.1 hK hW.2.1 hN hSTR hW.2.2⟩ rfl rfl hl.1 rfl (lv_room (Nat.le_of_ble_eq_true rfl)) dX6_readMode_44 ⟨(Nat.le_of_ble_eq_true rfl), (Nat.le_of_ble_eq_true rfl)⟩) hW hA0 hA (fun S_43 H locs hrel hW => ?_)
      obtain ⟨hTy, hF1, hx1⟩ := hrel
      have hFr := hFr.tr hF1 (by decide)
      have hS_rb := hF1.at hT_rb (by decide) hS_rb
      obtain ⟨pl44, en44, mt44, tk44, ta44, te44, hS_o, hT_rn, hT_rb, hT_rt, hen44, hte44, hta44, hab44⟩ := RKk hTy hT_o hx1
      exact W.vret hx hb hr (fun t ht h9 => ⟨⟨S_43, rfl, ⟨hTy, hFr, ⟨_, ⟨_, en44, _, _, ta44, te44, hS_o, by omega, by omega, by omega, by omega⟩, (fun h => hf30 ((fun h => (fun _ => hf23) ((fun h => h) h)) h))⟩⟩, by rw [ht]; exact hW.1, va_K.moved h9.alike hK, hW.2.1⟩, hW.2.2.F ht⟩) hW.2.2.2.2 dX6_readMode_47

set_option maxHeartbeats 4000000 in
set_option maxRecDepth 100000 in
theorem r_readSemicolon (l : Launch) (dC : Nat → ClassId) (dI : Nat → Nat → Nat) (cy : Nat → ClassId) (L : List Nat) (kap : Nat → Nat) (pr : Pr) (ad : (Nat → Nat) × (Nat → Nat)) (S : Nat → va_E) (sz : Nat) (o : Nat) (hTy : Ty cy L kap pr S) (hT_o : TK L kap o 6) (f : Int32) (rn : Nat) (rb : Nat) (rt : Nat) (hR : RK S o f rn rb rt) : Met l yX6_readSemicolon (wT yX6_readSemicolon cX6_readSemicolon 1 none) ({ frames := 7, cells := 0, slots := 0, locals := 147 }) (pcS dC dI [.ref o] sz L S (cyT cy) NLs ad) (va_Qv (fun S' => Ty cy L kap pr S' ∧ Fr kap [6] S S' ∧ (∃ f', RK S' o f' rn rb rt ∧ (f ≠ 0 → f' ≠ 0))) (fun S' t => pB dC dI (AL L sz) (va_pl L S') (cyT cy) t) (AL L sz)) 0 0 (AL L sz) := by
  refine Met.ofW (cc := cX6_readSemicolon) (maxL := 1) (ret := none) (by decide) rfl ?_
  intro p e s m args below meth c s₁ B hml hv
  obtain ⟨rfl, hsz, hP, hK, hD0, hN, hSTR⟩ := hv
  have hx := B.exec
  have hb := B.bytes
  have hr := B.returns
  have hT : ∀ wd ∈ TB, wd.before [.ref o].toArray s = true := fun wd h => atoms_spec (ws := wT yX6_readSemicolon cX6_readSemicolon 1 none) B.pre wd (List.mem_cons_of_mem _ h)
  have hown : s.vm.findClass RX6 = some m.cls := findClass_of_methodNamed B.named
  have hlocks := B.notSynchronized
  subst hsz
  have hW : PW dC dI L (AL L s.heap.size) s.heap S s.heap [] := ⟨hP, pl_self hD0, va_S.rf⟩
  have hA0 : ∀ q, q ∈ L → AL L s.heap.size q := fun _ h => Or.inl h
  have hA : ∀ q, s.heap.size ≤ q → AL L s.heap.size q := fun _ h => Or.inr h
  have hFr : Fr kap [6] S S := Fr.rf
  have hl := lv_entry ([.ref o]) (n := 1) (Nat.le_of_ble_eq_true rfl)
  rw [lg_entry_eq]
  generalize (lg_sl ([.ref o]) ++ List.replicate (1 - (lg_sl ([.ref o])).length) Slot.unset).toArray = ls at hl ⊢
  have hl : lv_has ls 1 [(0, .ref o)] := hl
  obtain ⟨pl1, en1, mt1, tk1, ta1, te1, hS_o, hT_rn, hT_rb, hT_rt, hen1, hte1, hta1, hab1⟩ := RKk hTy hT_o hR
  refine lv_aload_n hx hb dX6_readSemicolon_0 rfl (lv_at hl 0 rfl) ?_
  refine pl_get (ci := 6) (v := .int tk1) (C := RX6) (T := TX6) (N := 10) hx hb hT iX6 hown hK hW hT_o.1 hS_o rfl 7 (by decide) w150 rfl dX6_readSemicolon_1 ?_
  refine lv_iconst (v := 2) hx hb dX6_readSemicolon_4 (by decide) ?_
  refine lv_icmp_eq (tgt := 13) hx hb dX6_readSemicolon_5 (by decide) (fun c_5 => ?_) (fun c_5 => ?_)
  · refine lv_aload_n hx hb dX6_readSemicolon_13 rfl (lv_at hl 0 rfl) ?_
    refine pl_callv (va_runV (As := []) (rest := []) ⟨hx, hb, hml, hown, hT⟩ (r_next l dC dI cy L kap pr ad S s.heap.size o hTy hT_o f rn rb rt ⟨_, en1, _, _, ta1, te1, hS_o, by omega, by omega, by omega⟩) (cwV 0 hT (gV w420 w422 ws0 w3 w423) rfl rfl rfl (by decide +kernel) ⟨(Nat.le_of_ble_eq_true rfl), (Nat.le_of_ble_eq_true rfl)⟩) ⟨pcS.blind, pl_recv hK hW hT_o.1 hS_o rfl, pcS.pre hW.1 hK hW.2.1 hN hSTR hW.2.2⟩ rfl rfl hl.1 rfl (lv_room (Nat.le_of_ble_eq_true rfl)) dX6_readSemicolon_14 ⟨(Nat.le_of_ble_eq_true rfl), (Nat.le_of_ble_eq_true rfl)⟩) hW hA0 hA (fun S_2 H locs hrel hW => ?_)
    obtain ⟨hTy, hF1, hx1⟩ := hrel
    have hFr := hFr.tr hF1 (by decide)
    obtain ⟨pl3, en3, mt3, tk3, ta3, te3, hS_o, hT_rn, hT_rb, hT_rt, hen3, hte3, hta3, hab3⟩ := RKk hTy hT_o hx1
    exact W.vret hx hb hr (fun t ht h9 => ⟨⟨S_2, rfl, ⟨hTy, hFr, ⟨_, ⟨_, en3, _, _, ta3, te3, hS_o, by omega, by omega, by omega, by omega⟩, (fun h => h)⟩⟩, by rw [ht]; exact hW.1, va_K.moved h9.alike hK, hW.2.1⟩, hW.2.2.F ht⟩) hW.2.2.2.2 dX6_readSemicolon_17
  · refine lv_aload_n hx hb dX6_readSemicolon_8 rfl (lv_at hl 0 rfl) ?_
    refine lv_iconst (v := 1) hx hb dX6_readSemicolon_9 (by decide) ?_
    refine pl_callv (va_runV (As := [.int 1]) (rest := []) ⟨hx, hb, hml, hown, hT⟩ (r_fail l dC dI cy L kap pr S s.heap.size o 1 hTy hT_o f rn rb rt ⟨_, en1, _, _, ta1, te1, hS_o, by omega, by omega, by omega, by omega⟩ (by decide)) (cwV 1 hT (gV w500 w502 ws5 w3 w503) rfl rfl rfl (by decide +kernel) ⟨(Nat.le_of_ble_eq_true rfl), (Nat.le_of_ble_eq_true rfl)⟩) ⟨pcN.blind, pl_recv hK hW hT_o.1 hS_o rfl, pcN.pre hW.1 hK hW.2.1 hN (fun q h => absurd h List.not_mem_nil)⟩ rfl rfl hl.1 rfl (lv_room (Nat.le_of_ble_eq_true rfl)) dX6_readSemicolon_10 ⟨(Nat.le_of_ble_eq_true rfl), (Nat.le_of_ble_eq_true rfl)⟩) hW hA0 hA (fun S_4 H locs hrel hW => ?_)
    obtain ⟨hTy, hF1, hx1⟩ := hrel
    have hFr := hFr.tr hF1 (by decide)
    obtain ⟨f5, hR5, hf5⟩ := hx1
    obtain ⟨pl6, en6, mt6, tk6, ta6, te6, hS_o, hT_rn, hT_rb, hT_rt, hen6, hte6, hta6, hab6⟩ := RKk hTy hT_o hR5
    refine lv_aload_n hx hb dX6_readSemicolon_13 rfl (lv_at hl 0 rfl) ?_
    refine pl_callv (va_runV (As := []) (rest := []) ⟨hx, hb, hml, hown, hT⟩ (r_next l dC dI cy L kap pr ad S_4 H.size o hTy hT_o f5 rn rb rt ⟨_, en6, _, _, ta6, te6, hS_o, by omega, by omega, by omega⟩) (cwV 0 hT (gV w420 w422 ws0 w3 w423) rfl rfl rfl (by decide +kernel) ⟨(Nat.le_of_ble_eq_true rfl), (Nat.le_of_ble_eq_true rfl)⟩) ⟨pcS.blind, pl_recv hK hW hT_o.1 hS_o rfl, pcS.pre hW.1 hK hW.2.1 hN hSTR hW.2.2⟩ rfl rfl hl.1 rfl (lv_room (Nat.le_of_ble_eq_true rfl)) dX6_readSemicolon_14 ⟨(Nat.le_of_ble_eq_true rfl), (Nat.le_of_ble_eq_true rfl)⟩) hW hA0 hA (fun S_7 H locs hrel hW => ?_)
    obtain ⟨hTy, hF1, hx1⟩ := hrel
    have hFr := hFr.tr hF1 (by decide)
    obtain ⟨pl8, en8, mt8, tk8, ta8, te8, hS_o, hT_rn, hT_rb, hT_rt, hen8, hte8, hta8, hab8⟩ := RKk hTy hT_o hx1
    exact W.vret hx hb hr (fun t ht h9 => ⟨⟨S_7, rfl, ⟨hTy, hFr, ⟨_, ⟨_, en8, _, _, ta8, te8, hS_o, by omega, by omega, by omega, by omega⟩, (fun h => (fun _ => hf5) ((fun h => h) h))⟩⟩, by rw [ht]; exact hW.1, va_K.moved h9.alike hK, hW.2.1⟩, hW.2.2.F ht⟩) hW.2.2.2.2 dX6_readSemicolon_17

set_option maxHeartbeats 4000000 in
set_option maxRecDepth 100000 in
theorem r_readLine (l : Launch) (dC : Nat → ClassId) (dI : Nat → Nat → Nat) (cy : Nat → ClassId) (L : List Nat) (kap : Nat → Nat) (pr : Pr) (ad : (Nat → Nat) × (Nat → Nat)) (S : Nat → va_E) (sz : Nat) (o : Nat) (hTy : Ty cy L kap pr S) (hT_o : TK L kap o 6) (f : Int32) (rn : Nat) (rb : Nat) (rt : Nat) (hR : RK S o f rn rb rt) : Met l yX6_readLine (wT yX6_readLine cX6_readLine 1 none) ({ frames := 8, cells := 0, slots := 0, locals := 171 }) (pcS dC dI [.ref o] sz L S (cyT cy) NLs ad) (va_Qv (fun S' => Ty cy L kap pr S' ∧ Fr kap [0, 3, 6, 20, 21, 22, 23, 24, 25, 26] S S' ∧ (∃ f', RK S' o f' rn rb rt ∧ (f ≠ 0 → f' ≠ 0))) (fun S' t => pB dC dI (AL L sz) (va_pl L S') (cyT cy) t) (AL L sz)) 0 0 (AL L sz) := by
  refine Met.ofW (cc := cX6_readLine) (maxL := 1) (ret := none) (by decide) rfl ?_
  intro p e s m args below meth c s₁ B hml hv
  obtain ⟨rfl, hsz, hP, hK, hD0, hN, hSTR⟩ := hv
  have hx := B.exec
  have hb := B.bytes
  have hr := B.returns
  have hT : ∀ wd ∈ TB, wd.before [.ref o].toArray s = true := fun wd h => atoms_spec (ws := wT yX6_readLine cX6_readLine 1 none) B.pre wd (List.mem_cons_of_mem _ h)
  have hown : s.vm.findClass RX6 = some m.cls := findClass_of_methodNamed B.named
  have hlocks := B.notSynchronized
  subst hsz
  have hW : PW dC dI L (AL L s.heap.size) s.heap S s.heap [] := ⟨hP, pl_self hD0, va_S.rf⟩
  have hA0 : ∀ q, q ∈ L → AL L s.heap.size q := fun _ h => Or.inl h
  have hA : ∀ q, s.heap.size ≤ q → AL L s.heap.size q := fun _ h => Or.inr h
  have hFr : Fr kap [0, 3, 6, 20, 21, 22, 23, 24, 25, 26] S S := Fr.rf
  have hl := lv_entry ([.ref o]) (n := 1) (Nat.le_of_ble_eq_true rfl)
  rw [lg_entry_eq]
  generalize (lg_sl ([.ref o]) ++ List.replicate (1 - (lg_sl ([.ref o])).length) Slot.unset).toArray = ls at hl ⊢
  have hl : lv_has ls 1 [(0, .ref o)] := hl
  obtain ⟨pl1, en1, mt1, tk1, ta1, te1, hS_o, hT_rn, hT_rb, hT_rt, hen1, hte1, hta1, hab1⟩ := RKk hTy hT_o hR
  refine lv_aload_n hx hb dX6_readLine_0 rfl (lv_at hl 0 rfl) ?_
  refine pl_get (ci := 6) (v := .int tk1) (C := RX6) (T := TX6) (N := 10) hx hb hT iX6 hown hK hW hT_o.1 hS_o rfl 7 (by decide) w150 rfl dX6_readLine_1 ?_
  by_cases hk_4_5 : tk1 = 5
  · rw [hk_4_5]
    refine lv_tableIn (off := 40) (tgt := 44) hx hb dX6_readLine_4 (by decide) (by decide) rfl (by decide) ?_
    refine lv_aload_n hx hb dX6_readLine_44 rfl (lv_at hl 0 rfl) ?_
    refine pl_callv (va_runV (As := []) (rest := []) ⟨hx, hb, hml, hown, hT⟩ (r_readParty l dC dI cy L kap pr ad S s.heap.size o hTy hT_o f rn rb rt ⟨_, en1, _, _, ta1, te1, hS_o, by omega, by omega, by omega, by omega⟩) (cwV 0 hT (gV w496 w498 ws4 w3 w499) rfl rfl rfl (by decide +kernel) ⟨(Nat.le_of_ble_eq_true rfl), (Nat.le_of_ble_eq_true rfl)⟩) ⟨pcS.blind, pl_recv hK hW hT_o.1 hS_o rfl, pcS.pre hW.1 hK hW.2.1 hN hSTR hW.2.2⟩ rfl rfl hl.1 rfl (lv_room (Nat.le_of_ble_eq_true rfl)) dX6_readLine_45 ⟨(Nat.le_of_ble_eq_true rfl), (Nat.le_of_ble_eq_true rfl)⟩) hW hA0 hA (fun S_2 H locs hrel hW => ?_)
    obtain ⟨hTy, hF1, hx1⟩ := hrel
    have hFr := hFr.tr hF1 (by decide)
    obtain ⟨f3, hR3, hf3⟩ := hx1
    obtain ⟨pl4, en4, mt4, tk4, ta4, te4, hS_o, hT_rn, hT_rb, hT_rt, hen4, hte4, hta4, hab4⟩ := RKk hTy hT_o hR3
    refine lv_goto (tgt := 91) hx hb dX6_readLine_48 (by decide) ?_
    refine lv_aload_n hx hb dX6_readLine_91 rfl (lv_at hl 0 rfl) ?_
    refine pl_callv (va_runV (As := []) (rest := []) ⟨hx, hb, hml, hown, hT⟩ (r_readSemicolon l dC dI cy L kap pr ad S_2 H.size o hTy hT_o f3 rn rb rt ⟨_, en4, _, _, ta4, te4, hS_o, by omega, by omega, by omega, by omega⟩) (cwV 0 hT (gV w582 w584 ws20 w3 w585) rfl rfl rfl (by decide +kernel) ⟨(Nat.le_of_ble_eq_true rfl), (Nat.le_of_ble_eq_true rfl)⟩) ⟨pcS.blind, pl_recv hK hW hT_o.1 hS_o rfl, pcS.pre hW.1 hK hW.2.1 hN hSTR hW.2.2⟩ rfl rfl hl.1 rfl (lv_room (Nat.le_of_ble_eq_true rfl)) dX6_readLine_92 ⟨(Nat.le_of_ble_eq_true rfl), (Nat.le_of_ble_eq_true rfl)⟩) hW hA0 hA (fun S_5 H locs hrel hW => ?_)
    obtain ⟨hTy, hF1, hx1⟩ := hrel
    have hFr := hFr.tr hF1 (by decide)
    obtain ⟨f6, hR6, hf6⟩ := hx1
    obtain ⟨pl7, en7, mt7, tk7, ta7, te7, hS_o, hT_rn, hT_rb, hT_rt, hen7, hte7, hta7, hab7⟩ := RKk hTy hT_o hR6
    exact W.vret hx hb hr (fun t ht h9 => ⟨⟨S_5, rfl, ⟨hTy, hFr, ⟨_, ⟨_, en7, _, _, ta7, te7, hS_o, by omega, by omega, by omega, by omega⟩, (fun h => hf6 ((fun h => hf3 ((fun h => h) h)) h))⟩⟩, by rw [ht]; exact hW.1, va_K.moved h9.alike hK, hW.2.1⟩, hW.2.2.F ht⟩) hW.2.2.2.2 dX6_readLine_95
  by_cases hk_4_6 : tk1 = 6
  · rw [hk_4_6]
    refine lv_tableIn (off := 47) (tgt := 51) hx hb dX6_readLine_4 (by decide) (by decide) rfl (by decide) ?_
    refine lv_aload_n hx hb dX6_readLine_51 rfl (lv_at hl 0 rfl) ?_
    refine pl_callv (va_runV (As := []) (rest := []) ⟨hx, hb, hml, hown, hT⟩ (r_readKind l dC dI cy L kap pr ad S s.heap.size o hTy hT_o f rn rb rt ⟨_, en1, _, _, ta1, te1, hS_o, by omega, by omega, by omega, by omega⟩) (cwV 0 hT (gV w533 w535 ws11 w3 w536) rfl rfl rfl (by decide +kernel) ⟨(Nat.le_of_ble_eq_true rfl), (Nat.le_of_ble_eq_true rfl)⟩) ⟨pcS.blind, pl_recv hK hW hT_o.1 hS_o rfl, pcS.pre hW.1 hK hW.2.1 hN hSTR hW.2.2⟩ rfl rfl hl.1 rfl (lv_room (Nat.le_of_ble_eq_true rfl)) dX6_readLine_52 ⟨(Nat.le_of_ble_eq_true rfl), (Nat.le_of_ble_eq_true rfl)⟩) hW hA0 hA (fun S_8 H locs hrel hW => ?_)
    obtain ⟨hTy, hF1, hx1⟩ := hrel
    have hFr := hFr.tr hF1 (by decide)
    obtain ⟨f9, hR9, hf9⟩ := hx1
    obtain ⟨pl10, en10, mt10, tk10, ta10, te10, hS_o, hT_rn, hT_rb, hT_rt, hen10, hte10, hta10, hab10⟩ := RKk hTy hT_o hR9
    refine lv_goto (tgt := 91) hx hb dX6_readLine_55 (by decide) ?_
    refine lv_aload_n hx hb dX6_readLine_91 rfl (lv_at hl 0 rfl) ?_
    refine pl_callv (va_runV (As := []) (rest := []) ⟨hx, hb, hml, hown, hT⟩ (r_readSemicolon l dC dI cy L kap pr ad S_8 H.size o hTy hT_o f9 rn rb rt ⟨_, en10, _, _, ta10, te10, hS_o, by omega, by omega, by omega, by omega⟩) (cwV 0 hT (gV w582 w584 ws20 w3 w585) rfl rfl rfl (by decide +kernel) ⟨(Nat.le_of_ble_eq_true rfl), (Nat.le_of_ble_eq_true rfl)⟩) ⟨pcS.blind, pl_recv hK hW hT_o.1 hS_o rfl, pcS.pre hW.1 hK hW.2.1 hN hSTR hW.2.2⟩ rfl rfl hl.1 rfl (lv_room (Nat.le_of_ble_eq_true rfl)) dX6_readLine_92 ⟨(Nat.le_of_ble_eq_true rfl), (Nat.le_of_ble_eq_true rfl)⟩) hW hA0 hA (fun S_11 H locs hrel hW => ?_)
    obtain ⟨hTy, hF1, hx1⟩ := hrel
    have hFr := hFr.tr hF1 (by decide)
    obtain ⟨f12, hR12, hf12⟩ := hx1
    obtain ⟨pl13, en13, mt13, tk13, ta13, te13, hS_o, hT_rn, hT_rb, hT_rt, hen13, hte13, hta13, hab13⟩ := RKk hTy hT_o hR12
    exact W.vret hx hb hr (fun t ht h9 => ⟨⟨S_11, rfl, ⟨hTy, hFr, ⟨_, ⟨_, en13, _, _, ta13, te13, hS_o, by omega, by omega, by omega, by omega⟩, (fun h => hf12 ((fun h => hf9 ((fun h => h) h)) h))⟩⟩, by rw [ht]; exact hW.1, va_K.moved h9.alike hK, hW.2.1⟩, hW.2.2.F ht⟩) hW.2.2.2.2 dX6_readLine_95
  by_cases hk_4_7 : tk1 = 7
  · rw [hk_4_7]
    refine lv_tableIn (off := 54) (tgt := 58) hx hb dX6_readLine_4 (by decide) (by decide) rfl (by decide) ?_
    refine lv_aload_n hx hb dX6_readLine_58 rfl (lv_at hl 0 rfl) ?_
    refine pl_callv (va_runV (As := []) (rest := []) ⟨hx, hb, hml, hown, hT⟩ (r_readTrade l dC dI cy L kap pr ad S s.heap.size o hTy hT_o f rn rb rt ⟨_, en1, _, _, ta1, te1, hS_o, by omega, by omega, by omega, by omega⟩) (cwV 0 hT (gV w541 w543 ws12 w3 w544) rfl rfl rfl (by decide +kernel) ⟨(Nat.le_of_ble_eq_true rfl), (Nat.le_of_ble_eq_true rfl)⟩) ⟨pcS.blind, pl_recv hK hW hT_o.1 hS_o rfl, pcS.pre hW.1 hK hW.2.1 hN hSTR hW.2.2⟩ rfl rfl hl.1 rfl (lv_room (Nat.le_of_ble_eq_true rfl)) dX6_readLine_59 ⟨(Nat.le_of_ble_eq_true rfl), (Nat.le_of_ble_eq_true rfl)⟩) hW hA0 hA (fun S_14 H locs hrel hW => ?_)
    obtain ⟨hTy, hF1, hx1⟩ := hrel
    have hFr := hFr.tr hF1 (by decide)
    obtain ⟨f15, hR15, hf15⟩ := hx1
    obtain ⟨pl16, en16, mt16, tk16, ta16, te16, hS_o, hT_rn, hT_rb, hT_rt, hen16, hte16, hta16, hab16⟩ := RKk hTy hT_o hR15
    refine lv_goto (tgt := 91) hx hb dX6_readLine_62 (by decide) ?_
    refine lv_aload_n hx hb dX6_readLine_91 rfl (lv_at hl 0 rfl) ?_
    refine pl_callv (va_runV (As := []) (rest := []) ⟨hx, hb, hml, hown, hT⟩ (r_readSemicolon l dC dI cy L kap pr ad S_14 H.size o hTy hT_o f15 rn rb rt ⟨_, en16, _, _, ta16, te16, hS_o, by omega, by omega, by omega, by omega⟩) (cwV 0 hT (gV w582 w584 ws20 w3 w585) rfl rfl rfl (by decide +kernel) ⟨(Nat.le_of_ble_eq_true rfl), (Nat.le_of_ble_eq_true rfl)⟩) ⟨pcS.blind, pl_recv hK hW hT_o.1 hS_o rfl, pcS.pre hW.1 hK hW.2.1 hN hSTR hW.2.2⟩ rfl rfl hl.1 rfl (lv_room (Nat.le_of_ble_eq_true rfl)) dX6_readLine_92 ⟨(Nat.le_of_ble_eq_true rfl), (Nat.le_of_ble_eq_true rfl)⟩) hW hA0 hA (fun S_17 H locs hrel hW => ?_)
    obtain ⟨hTy, hF1, hx1⟩ := hrel
    have hFr := hFr.tr hF1 (by decide)
    obtain ⟨f18, hR18, hf18⟩ := hx1
    obtain ⟨pl19, en19, mt19, tk19, ta19, te19, hS_o, hT_rn, hT_rb, hT_rt, hen19, hte19, hta19, hab19⟩ := RKk hTy hT_o hR18
    exact W.vret hx hb hr (fun t ht h9 => ⟨⟨S_17, rfl, ⟨hTy, hFr, ⟨_, ⟨_, en19, _, _, ta19, te19, hS_o, by omega, by omega, by omega, by omega⟩, (fun h => hf18 ((fun h => hf15 ((fun h => h) h)) h))⟩⟩, by rw [ht]; exact hW.1, va_K.moved h9.alike hK, hW.2.1⟩, hW.2.2.F ht⟩) hW.2.2.2.2 dX6_readLine_95
  by_cases hk_4_8 : tk1 = 8
  · rw [hk_4_8]
    refine lv_tableIn (off := 61) (tgt := 65) hx hb dX6_readLine_4 (by decide) (by decide) rfl (by decide) ?_
    refine lv_aload_n hx hb dX6_readLine_65 rfl (lv_at hl 0 rfl) ?_
    refine pl_callv (va_runV (As := []) (rest := []) ⟨hx, hb, hml, hown, hT⟩ (r_readKeep l dC dI cy L kap pr ad S s.heap.size o hTy hT_o f rn rb rt ⟨_, en1, _, _, ta1, te1, hS_o, by omega, by omega, by omega, by omega⟩) (cwV 0 hT (gV w566 w568 ws17 w3 w569) rfl rfl rfl (by decide +kernel) ⟨(Nat.le_of_ble_eq_true rfl), (Nat.le_of_ble_eq_true rfl)⟩) ⟨pcS.blind, pl_recv hK hW hT_o.1 hS_o rfl, pcS.pre hW.1 hK hW.2.1 hN hSTR hW.2.2⟩ rfl rfl hl.1 rfl (lv_room (Nat.le_of_ble_eq_true rfl)) dX6_readLine_66 ⟨(Nat.le_of_ble_eq_true rfl), (Nat.le_of_ble_eq_true rfl)⟩) hW hA0 hA (fun S_20 H locs hrel hW => ?_)
    obtain ⟨hTy, hF1, hx1⟩ := hrel
    have hFr := hFr.tr hF1 (by decide)
    obtain ⟨f21, hR21, hf21⟩ := hx1
    obtain ⟨pl22, en22, mt22, tk22, ta22, te22, hS_o, hT_rn, hT_rb, hT_rt, hen22, hte22, hta22, hab22⟩ := RKk hTy hT_o hR21
    refine lv_goto (tgt := 91) hx hb dX6_readLine_69 (by decide) ?_
    refine lv_aload_n hx hb dX6_readLine_91 rfl (lv_at hl 0 rfl) ?_
    refine pl_callv (va_runV (As := []) (rest := []) ⟨hx, hb, hml, hown, hT⟩ (r_readSemicolon l dC dI cy L kap pr ad S_20 H.size o hTy hT_o f21 rn rb rt ⟨_, en22, _, _, ta22, te22, hS_o, by omega, by omega, by omega, by omega⟩) (cwV 0 hT (gV w582 w584 ws20 w3 w585) rfl rfl rfl (by decide +kernel) ⟨(Nat.le_of_ble_eq_true rfl), (Nat.le_of_ble_eq_true rfl)⟩) ⟨pcS.blind, pl_recv hK hW hT_o.1 hS_o rfl, pcS.pre hW.1 hK hW.2.1 hN hSTR hW.2.2⟩ rfl rfl hl.1 rfl (lv_room (Nat.le_of_ble_eq_true rfl)) dX6_readLine_92 ⟨(Nat.le_of_ble_eq_true rfl), (Nat.le_of_ble_eq_true rfl)⟩) hW hA0 hA (fun S_23 H locs hrel hW => ?_)
    obtain ⟨hTy, hF1, hx1⟩ := hrel
    have hFr := hFr.tr hF1 (by decide)
    obtain ⟨f24, hR24, hf24⟩ := hx1
    obtain ⟨pl25, en25, mt25, tk25, ta25, te25, hS_o, hT_rn, hT_rb, hT_rt, hen25, hte25, hta25, hab25⟩ := RKk hTy hT_o hR24
    exact W.vret hx hb hr (fun t ht h9 => ⟨⟨S_23, rfl, ⟨hTy, hFr, ⟨_, ⟨_, en25, _, _, ta25, te25, hS_o, by omega, by omega, by omega, by omega⟩, (fun h => hf24 ((fun h => hf21 ((fun h => h) h)) h))⟩⟩, by rw [ht]; exact hW.1, va_K.moved h9.alike hK, hW.2.1⟩, hW.2.2.F ht⟩) hW.2.2.2.2 dX6_readLine_95
  by_cases hk_4_9 : tk1 = 9
  · rw [hk_4_9]
    refine lv_tableIn (off := 68) (tgt := 72) hx hb dX6_readLine_4 (by decide) (by decide) rfl (by decide) ?_
    refine lv_aload_n hx hb dX6_readLine_72 rfl (lv_at hl 0 rfl) ?_
    refine pl_callv (va_runV (As := []) (rest := []) ⟨hx, hb, hml, hown, hT⟩ (r_readCap l dC dI cy L kap pr ad S s.heap.size o hTy hT_o f rn rb rt ⟨_, en1, _, _, ta1, te1, hS_o, by omega, by omega, by omega, by omega⟩) (cwV 0 hT (gV w570 w572 ws18 w3 w573) rfl rfl rfl (by decide +kernel) ⟨(Nat.le_of_ble_eq_true rfl), (Nat.le_of_ble_eq_true rfl)⟩) ⟨pcS.blind, pl_recv hK hW hT_o.1 hS_o rfl, pcS.pre hW.1 hK hW.2.1 hN hSTR hW.2.2⟩ rfl rfl hl.1 rfl (lv_room (Nat.le_of_ble_eq_true rfl)) dX6_readLine_73 ⟨(Nat.le_of_ble_eq_true rfl), (Nat.le_of_ble_eq_true rfl)⟩) hW hA0 hA (fun S_26 H locs hrel hW => ?_)
    obtain ⟨hTy, hF1, hx1⟩ := hrel
    have hFr := hFr.tr hF1 (by decide)
    obtain ⟨f27, hR27, hf27⟩ := hx1
    obtain ⟨pl28, en28, mt28, tk28, ta28, te28, hS_o, hT_rn, hT_rb, hT_rt, hen28, hte28, hta28, hab28⟩ := RKk hTy hT_o hR27
    refine lv_goto (tgt := 91) hx hb dX6_readLine_76 (by decide) ?_
    refine lv_aload_n hx hb dX6_readLine_91 rfl (lv_at hl 0 rfl) ?_
    refine pl_callv (va_runV (As := []) (rest := []) ⟨hx, hb, hml, hown, hT⟩ (r_readSemicolon l dC dI cy L kap pr ad S_26 H.size o hTy hT_o f27 rn rb rt ⟨_, en28, _, _, ta28, te28, hS_o, by omega, by omega, by omega, by omega⟩) (cwV 0 hT (gV w582 w584 ws20 w3 w585) rfl rfl rfl (by decide +kernel) ⟨(Nat.le_of_ble_eq_true rfl), (Nat.le_of_ble_eq_true rfl)⟩) ⟨pcS.blind, pl_recv hK hW hT_o.1 hS_o rfl, pcS.pre hW.1 hK hW.2.1 hN hSTR hW.2.2⟩ rfl rfl hl.1 rfl (lv_room (Nat.le_of_ble_eq_true rfl)) dX6_readLine_92 ⟨(Nat.le_of_ble_eq_true rfl), (Nat.le_of_ble_eq_true rfl)⟩) hW hA0 hA (fun S_29 H locs hrel hW => ?_)
    obtain ⟨hTy, hF1, hx1⟩ := hrel
    have hFr := hFr.tr hF1 (by decide)
    obtain ⟨f30, hR30, hf30⟩ := hx1
    obtain ⟨pl31, en31, mt31, tk31, ta31, te31, hS_o, hT_rn, hT_rb, hT_rt, hen31, hte31, hta31, hab31⟩ := RKk hTy hT_o hR30
    exact W.vret hx hb hr (fun t ht h9 => ⟨⟨S_29, rfl, ⟨hTy, hFr, ⟨_, ⟨_, en31, _, _, ta31, te31, hS_o, by omega, by omega, by omega, by omega⟩, (fun h => hf30 ((fun h => hf27 ((fun h => h) h)) h))⟩⟩, by rw [ht]; exact hW.1, va_K.moved h9.alike hK, hW.2.1⟩, hW.2.2.F ht⟩) hW.2.2.2.2 dX6_readLine_95
  by_cases hk_4_10 : tk1 = 10
  · rw [hk_4_10]
    refine lv_tableIn (off := 75) (tgt := 79) hx hb dX6_readLine_4 (by decide) (by decide) rfl (by decide) ?_
    refine lv_aload_n hx hb dX6_readLine_79 rfl (lv_at hl 0 rfl) ?_
    refine pl_callv (va_runV (As := []) (rest := []) ⟨hx, hb, hml, hown, hT⟩ (r_readMode l dC dI cy L kap pr ad S s.heap.size o hTy hT_o f rn rb rt ⟨_, en1, _, _, ta1, te1, hS_o, by omega, by omega, by omega, by omega⟩) (cwV 0 hT (gV w578 w580 ws19 w3 w581) rfl rfl rfl (by decide +kernel) ⟨(Nat.le_of_ble_eq_true rfl), (Nat.le_of_ble_eq_true rfl)⟩) ⟨pcS.blind, pl_recv hK hW hT_o.1 hS_o rfl, pcS.pre hW.1 hK hW.2.1 hN hSTR hW.2.2⟩ rfl rfl hl.1 rfl (lv_room (Nat.le_of_ble_eq_true rfl)) dX6_readLine_80 ⟨(Nat.le_of_ble_eq_true rfl), (Nat.le_of_ble_eq_true rfl)⟩) hW hA0 hA (fun S_32 H locs hrel hW => ?_)
    obtain ⟨hTy, hF1, hx1⟩ := hrel
    have hFr := hFr.tr hF1 (by decide)
    obtain ⟨f33, hR33, hf33⟩ := hx1
    obtain ⟨pl34, en34, mt34, tk34, ta34, te34, hS_o, hT_rn, hT_rb, hT_rt, hen34, hte34, hta34, hab34⟩ := RKk hTy hT_o hR33
    refine lv_goto (tgt := 91) hx hb dX6_readLine_83 (by decide) ?_
    refine lv_aload_n hx hb dX6_readLine_91 rfl (lv_at hl 0 rfl) ?_
    refine pl_callv (va_runV (As := []) (rest := []) ⟨hx, hb, hml, hown, hT⟩ (r_readSemicolon l dC dI cy L kap pr ad S_32 H.size o hTy hT_o f33 rn rb rt ⟨_, en34, _, _, ta34, te34, hS_o, by omega, by omega, by omega, by omega⟩) (cwV 0 hT (gV w582 w584 ws20 w3 w585) rfl rfl rfl (by decide +kernel) ⟨(Nat.le_of_ble_eq_true rfl), (Nat.le_of_ble_eq_true rfl)⟩) ⟨pcS.blind, pl_recv hK hW hT_o.1 hS_o rfl, pcS.pre hW.1 hK hW.2.1 hN hSTR hW.2.2⟩ rfl rfl hl.1 rfl (lv_room (Nat.le_of_ble_eq_true rfl)) dX6_readLine_92 ⟨(Nat.le_of_ble_eq_true rfl), (Nat.le_of_ble_eq_true rfl)⟩) hW hA0 hA (fun S_35 H locs hrel hW => ?_)
    obtain ⟨hTy, hF1, hx1⟩ := hrel
    have hFr := hFr.tr hF1 (by decide)
    obtain ⟨f36, hR36, hf36⟩ := hx1
    obtain ⟨pl37, en37, mt37, tk37, ta37, te37, hS_o, hT_rn, hT_rb, hT_rt, hen37, hte37, hta37, hab37⟩ := RKk hTy hT_o hR36
    exact W.vret hx hb hr (fun t ht h9 => ⟨⟨S_35, rfl, ⟨hTy, hFr, ⟨_, ⟨_, en37, _, _, ta37, te37, hS_o, by omega, by omega, by omega, by omega⟩, (fun h => hf36 ((fun h => hf33 ((fun h => h) h)) h))⟩⟩, by rw [ht]; exact hW.1, va_K.moved h9.alike hK, hW.2.1⟩, hW.2.2.F ht⟩) hW.2.2.2.2 dX6_readLine_95
  refine lv_tableOut (tgt := 86) hx hb dX6_readLine_4 (swout_5_10 hk_4_5 hk_4_6 hk_4_7 hk_4_8 hk_4_9 hk_4_10) (by decide) ?_
  refine lv_aload_n hx hb dX6_readLine_86 rfl (lv_at hl 0 rfl) ?_
  refine lv_iconst (v := 1) hx hb dX6_readLine_87 (by decide) ?_
  refine pl_callv (va_runV (As := [.int 1]) (rest := []) ⟨hx, hb, hml, hown, hT⟩ (r_fail l dC dI cy L kap pr S s.heap.size o 1 hTy hT_o f rn rb rt ⟨_, en1, _, _, ta1, te1, hS_o, by omega, by omega, by omega, by omega⟩ (by decide)) (cwV 1 hT (gV w500 w502 ws5 w3 w503) rfl rfl rfl (by decide +kernel) ⟨(Nat.le_of_ble_eq_true rfl), (Nat.le_of_ble_eq_true rfl)⟩) ⟨pcN.blind, pl_recv hK hW hT_o.1 hS_o rfl, pcN.pre hW.1 hK hW.2.1 hN (fun q h => absurd h List.not_mem_nil)⟩ rfl rfl hl.1 rfl (lv_room (Nat.le_of_ble_eq_true rfl)) dX6_readLine_88 ⟨(Nat.le_of_ble_eq_true rfl), (Nat.le_of_ble_eq_true rfl)⟩) hW hA0 hA (fun S_38 H locs hrel hW => ?_)
  obtain ⟨hTy, hF1, hx1⟩ := hrel
  have hFr := hFr.tr hF1 (by decide)
  obtain ⟨f39, hR39, hf39⟩ := hx1
  obtain ⟨pl40, en40, mt40, tk40, ta40, te40, hS_o, hT_rn, hT_rb, hT_rt, hen40, hte40, hta40, hab40⟩ := RKk hTy hT_o hR39
  refine lv_aload_n hx hb dX6_readLine_91 rfl (lv_at hl 0 rfl) ?_
  refine pl_callv (va_runV (As := []) (rest := []) ⟨hx, hb, hml, hown, hT⟩ (r_readSemicolon l dC dI cy L kap pr ad S_38 H.size o hTy hT_o f39 rn rb rt ⟨_, en40, _, _, ta40, te40, hS_o, by omega, by omega, by omega, by omega⟩) (cwV 0 hT (gV w582 w584 ws20 w3 w585) rfl rfl rfl (by decide +kernel) ⟨(Nat.le_of_ble_eq_true rfl), (Nat.le_of_ble_eq_true rfl)⟩) ⟨pcS.blind, pl_recv hK hW hT_o.1 hS_o rfl, pcS.pre hW.1 hK hW.2.1 hN hSTR hW.2.2⟩ rfl rfl hl.1 rfl (lv_room (Nat.le_of_ble_eq_true rfl)) dX6_readLine_92 ⟨(Nat.le_of_ble_eq_true rfl), (Nat.le_of_ble_eq_true rfl)⟩) hW hA0 hA (fun S_41 H locs hrel hW => ?_)
  obtain ⟨hTy, hF1, hx1⟩ := hrel
  have hFr := hFr.tr hF1 (by decide)
  obtain ⟨f42, hR42, hf42⟩ := hx1
  obtain ⟨pl43, en43, mt43, tk43, ta43, te43, hS_o, hT_rn, hT_rb, hT_rt, hen43, hte43, hta43, hab43⟩ := RKk hTy hT_o hR42
  exact W.vret hx hb hr (fun t ht h9 => ⟨⟨S_41, rfl, ⟨hTy, hFr, ⟨_, ⟨_, en43, _, _, ta43, te43, hS_o, by omega, by omega, by omega, by omega⟩, (fun h => hf42 ((fun h => (fun _ => hf39) ((fun h => h) h)) h))⟩⟩, by rw [ht]; exact hW.1, va_K.moved h9.alike hK, hW.2.1⟩, hW.2.2.F ht⟩) hW.2.2.2.2 dX6_readLine_95

set_option maxHeartbeats 4000000 in
set_option maxRecDepth 100000 in
theorem r_read (l : Launch) (dC : Nat → ClassId) (dI : Nat → Nat → Nat) (cy : Nat → ClassId) (L : List Nat) (kap : Nat → Nat) (pr : Pr) (ad : (Nat → Nat) × (Nat → Nat)) (S : Nat → va_E) (sz : Nat) (o : Nat) (ln : Nat) (hTy : Ty cy L kap pr S) (hT_o : TK L kap o 6) (hb_ln : ln ≤ 900) : Met l yX6_read (wT yX6_read cX6_read 3 none) ({ frames := 9, cells := 0, slots := 0, locals := 191 }) (pcS dC dI [.ref o, .int (nI ln)] sz L S (cyT cy) NLs ad) (va_Qv (fun S' => Ty cy L kap pr S' ∧ Fr kap [0, 3, 6, 20, 21, 22, 23, 24, 25, 26] S S') (fun S' t => pB dC dI (AL L sz) (va_pl L S') (cyT cy) t) (AL L sz)) 0 0 (AL L sz) := by
  refine Met.ofW (cc := cX6_read) (maxL := 3) (ret := none) (by decide) rfl ?_
  intro p e s m args below meth c s₁ B hml hv
  obtain ⟨rfl, hsz, hP, hK, hD0, hN, hSTR⟩ := hv
  have hx := B.exec
  have hb := B.bytes
  have hr := B.returns
  have hT : ∀ wd ∈ TB, wd.before [.ref o, .int (nI ln)].toArray s = true := fun wd h => atoms_spec (ws := wT yX6_read cX6_read 3 none) B.pre wd (List.mem_cons_of_mem _ h)
  have hown : s.vm.findClass RX6 = some m.cls := findClass_of_methodNamed B.named
  have hlocks := B.notSynchronized
  subst hsz
  have hW : PW dC dI L (AL L s.heap.size) s.heap S s.heap [] := ⟨hP, pl_self hD0, va_S.rf⟩
  have hA0 : ∀ q, q ∈ L → AL L s.heap.size q := fun _ h => Or.inl h
  have hA : ∀ q, s.heap.size ≤ q → AL L s.heap.size q := fun _ h => Or.inr h
  have hFr : Fr kap [0, 3, 6, 20, 21, 22, 23, 24, 25, 26] S S := Fr.rf
  have hl := lv_entry ([.ref o, .int (nI ln)]) (n := 3) (Nat.le_of_ble_eq_true rfl)
  rw [lg_entry_eq]
  generalize (lg_sl ([.ref o, .int (nI ln)]) ++ List.replicate (3 - (lg_sl ([.ref o, .int (nI ln)])).length) Slot.unset).toArray = ls at hl ⊢
  have hl : lv_has ls 3 [(0, .ref o), (1, .int (nI ln))] := hl
  obtain ⟨x_1, x_2, x_3, x_4, x_5, x_6, x_7, x_8, x_9, x_10, hS_o, hT_x_3, hT_x_4, hT_x_5, hb_x_6, hb_x_9, hb_x_10⟩ := hTy.k6 hT_o
  refine lv_aload_n hx hb dX6_read_0 rfl (lv_at hl 0 rfl) ?_
  refine lv_iload_n hx hb dX6_read_1 rfl (lv_at hl 1 rfl) ?_
  refine lv_aload_n hx hb dX6_read_2 rfl (lv_at hl 0 rfl) ?_
  refine pl_get (ci := 6) (v := .ref x_5) (C := RX6) (T := TX6) (N := 10) hx hb hT iX6 hown hK hW hT_o.1 hS_o rfl 4 (by decide) w147 rfl dX6_read_3 ?_
  obtain ⟨f_11, hS_x_5⟩ := hTy.k27 hT_x_5
  refine pl_alen (v := 900) hx hb hK hW hT_x_5.1 hS_x_5 2 rfl rfl dX6_read_6 ?_
  refine va_mmin hx hb (hml.trans hl.1.symm) hown (hT _ w409) (hT _ w410) (hT _ w15) (hT _ w411) (Nat.le_of_ble_eq_true rfl) (Nat.le_of_ble_eq_true rfl) (Nat.le_of_ble_eq_true rfl) (Nat.le_of_ble_eq_true rfl) dX6_read_7 ?_
  refine lv_topi (fun z_12 ez_12 => ?_)
  obtain rfl : z_12 = nI ln := ez_12.trans (min900 (by omega))
  refine pl_put (ci := 6) (v := .int (nI ln)) (ty := .int) (C := RX6) (T := TX6) (N := 10) (fs' := [.int x_1, .int x_2, .ref x_3, .ref x_4, .ref x_5, .int (nI ln), .int x_7, .int x_8, .int (nI x_9), .int (nI x_10)]) hx hb hT iX6 tyX6 tyX6_ok nmX6 hown hK hW hT_o.1 hS_o rfl 5 (by decide) w148 rfl (by decide +kernel) rfl rfl (Nat.le_of_ble_eq_true rfl) rfl dX6_read_10 (fun H locs S_13 e1 hW => ?_)
  have hTy := hTy.u6 e1 hT_o ⟨x_1, x_2, x_3, x_4, x_5, ln, x_7, x_8, x_9, x_10, rfl, hT_x_3, hT_x_4, hT_x_5, (by omega), (by omega), (by omega)⟩
  have hS_x_5 := un e1 hT_x_5 hT_o (by decide) hS_x_5
  have hFr := uf hFr e1 hT_o (by decide) (by decide)
  have hS_o := us e1
  refine lv_aload_n hx hb dX6_read_13 rfl (lv_at hl 0 rfl) ?_
  refine pl_get (ci := 6) (v := .ref x_3) (C := RX6) (T := TX6) (N := 10) hx hb hT iX6 hown hK hW hT_o.1 hS_o rfl 2 (by decide) w143 rfl dX6_read_14 ?_
  obtain ⟨x_14, x_15, x_16, x_17, hS_x_3, hT_x_14, hT_x_15, hb_x_16, hb_x_17⟩ := hTy.k3 hT_x_3
  refine pl_callv (va_runV (As := []) (rest := []) ⟨hx, hb, hml, hown, hT⟩ (s_nclear l dC dI cy L kap pr S_13 H.size x_3 hTy hT_x_3) (cwV 0 hT (gV w412 w413 w414 w4 w415) rfl rfl rfl (by decide +kernel) ⟨(Nat.le_of_ble_eq_true rfl), (Nat.le_of_ble_eq_true rfl)⟩) ⟨pcN.blind, pl_recv hK hW hT_x_3.1 hS_x_3 rfl, pcN.pre hW.1 hK hW.2.1 hN (fun q h => absurd h List.not_mem_nil)⟩ rfl rfl hl.1 rfl (lv_room (Nat.le_of_ble_eq_true rfl)) dX6_read_17 ⟨(Nat.le_of_ble_eq_true rfl), (Nat.le_of_ble_eq_true rfl)⟩) hW hA0 hA (fun S_18 H locs hrel hW => ?_)
  obtain ⟨hTy, hF1⟩ := hrel
  have hFr := hFr.tr hF1 (by decide)
  have hS_o := hF1.at hT_o (by decide) hS_o
  have hS_x_5 := hF1.at hT_x_5 (by decide) hS_x_5
  refine lv_aload_n hx hb dX6_read_20 rfl (lv_at hl 0 rfl) ?_
  refine pl_get (ci := 6) (v := .ref x_4) (C := RX6) (T := TX6) (N := 10) hx hb hT iX6 hown hK hW hT_o.1 hS_o rfl 3 (by decide) w145 rfl dX6_read_21 ?_
  obtain ⟨x_19, x_20, x_21, x_22, x_23, x_24, x_25, x_26, hS_x_4, hT_x_19, hT_x_20, hT_x_21, hT_x_22, hT_x_23, hT_x_24, hb_x_25⟩ := hTy.k0 hT_x_4
  refine pl_callv (va_runV (As := []) (rest := []) ⟨hx, hb, hml, hown, hT⟩ (s_bclear l dC dI cy L kap pr S_18 H.size x_4 hTy hT_x_4) (cwV 0 hT (gV w416 w417 w418 w5 w419) rfl rfl rfl (by decide +kernel) ⟨(Nat.le_of_ble_eq_true rfl), (Nat.le_of_ble_eq_true rfl)⟩) ⟨pcN.blind, pl_recv hK hW hT_x_4.1 hS_x_4 rfl, pcN.pre hW.1 hK hW.2.1 hN (fun q h => absurd h List.not_mem_nil)⟩ rfl rfl hl.1 rfl (lv_room (Nat.le_of_ble_eq_true rfl)) dX6_read_24 ⟨(Nat.le_of_ble_eq_true rfl), (Nat.le_of_ble_eq_true rfl)⟩) hW hA0 hA (fun S_27 H locs hrel hW => ?_)
  obtain ⟨hTy, hF1⟩ := hrel
  have hFr := hFr.tr hF1 (by decide)
  have hS_o := hF1.at hT_o (by decide) hS_o
  have hS_x_5 := hF1.at hT_x_5 (by decide) hS_x_5
  refine lv_aload_n hx hb dX6_read_27 rfl (lv_at hl 0 rfl) ?_
  refine lv_iconst (v := 0) hx hb dX6_read_28 (by decide) ?_
  refine pl_put (ci := 6) (v := .int 0) (ty := .boolean) (C := RX6) (T := TX6) (N := 10) (fs' := [.int x_1, .int x_2, .ref x_3, .ref x_4, .ref x_5, .int (nI ln), .int 0, .int x_8, .int (nI x_9), .int (nI x_10)]) hx hb hT iX6 tyX6 tyX6_ok nmX6 hown hK hW hT_o.1 hS_o rfl 6 (by decide) w149 rfl (by decide +kernel) rfl rfl (Nat.le_of_ble_eq_true rfl) rfl dX6_read_29 (fun H locs S_28 e1 hW => ?_)
  have hTy := hTy.u6 e1 hT_o ⟨x_1, x_2, x_3, x_4, x_5, ln, 0, x_8, x_9, x_10, rfl, hT_x_3, hT_x_4, hT_x_5, (by omega), (by omega), (by omega)⟩
  have hS_x_5 := un e1 hT_x_5 hT_o (by decide) hS_x_5
  have hFr := uf hFr e1 hT_o (by decide) (by decide)
  have hS_o := us e1
  refine lv_aload_n hx hb dX6_read_32 rfl (lv_at hl 0 rfl) ?_
  refine lv_iconst (v := 0) hx hb dX6_read_33 (by decide) ?_
  refine pl_put (ci := 6) (v := .int 0) (ty := .int) (C := RX6) (T := TX6) (N := 10) (fs' := [.int 0, .int x_2, .ref x_3, .ref x_4, .ref x_5, .int (nI ln), .int 0, .int x_8, .int (nI x_9), .int (nI x_10)]) hx hb hT iX6 tyX6 tyX6_ok nmX6 hown hK hW hT_o.1 hS_o rfl 0 (by decide) w139 rfl (by decide +kernel) rfl rfl (Nat.le_of_ble_eq_true rfl) rfl dX6_read_34 (fun H locs S_29 e1 hW => ?_)
  have hTy := hTy.u6 e1 hT_o ⟨0, x_2, x_3, x_4, x_5, ln, 0, x_8, x_9, x_10, rfl, hT_x_3, hT_x_4, hT_x_5, (by omega), (by omega), (by omega)⟩
  have hS_x_5 := un e1 hT_x_5 hT_o (by decide) hS_x_5
  have hFr := uf hFr e1 hT_o (by decide) (by decide)
  have hS_o := us e1
  refine lv_aload_n hx hb dX6_read_37 rfl (lv_at hl 0 rfl) ?_
  refine lv_iconst (v := (-1)) hx hb dX6_read_38 (by decide) ?_
  refine pl_put (ci := 6) (v := .int (-1)) (ty := .int) (C := RX6) (T := TX6) (N := 10) (fs' := [.int 0, .int (-1), .ref x_3, .ref x_4, .ref x_5, .int (nI ln), .int 0, .int x_8, .int (nI x_9), .int (nI x_10)]) hx hb hT iX6 tyX6 tyX6_ok nmX6 hown hK hW hT_o.1 hS_o rfl 1 (by decide) w141 rfl (by decide +kernel) rfl rfl (Nat.le_of_ble_eq_true rfl) rfl dX6_read_39 (fun H locs S_30 e1 hW => ?_)
  have hTy := hTy.u6 e1 hT_o ⟨0, (-1), x_3, x_4, x_5, ln, 0, x_8, x_9, x_10, rfl, hT_x_3, hT_x_4, hT_x_5, (by omega), (by omega), (by omega)⟩
  have hS_x_5 := un e1 hT_x_5 hT_o (by decide) hS_x_5
  have hFr := uf hFr e1 hT_o (by decide) (by decide)
  have hS_o := us e1
  refine lv_aload_n hx hb dX6_read_42 rfl (lv_at hl 0 rfl) ?_
  refine lv_iconst (v := 0) hx hb dX6_read_43 (by decide) ?_
  refine pl_put (ci := 6) (v := .int 0) (ty := .int) (C := RX6) (T := TX6) (N := 10) (fs' := [.int 0, .int (-1), .ref x_3, .ref x_4, .ref x_5, .int (nI ln), .int 0, .int x_8, .int (nI x_9), .int 0]) hx hb hT iX6 tyX6 tyX6_ok nmX6 hown hK hW hT_o.1 hS_o rfl 9 (by decide) w152 rfl (by decide +kernel) rfl rfl (Nat.le_of_ble_eq_true rfl) rfl dX6_read_44 (fun H locs S_31 e1 hW => ?_)
  have hTy := hTy.u6 e1 hT_o ⟨0, (-1), x_3, x_4, x_5, ln, 0, x_8, x_9, 0, rfl, hT_x_3, hT_x_4, hT_x_5, (by omega), (by omega), (by omega)⟩
  have hS_x_5 := un e1 hT_x_5 hT_o (by decide) hS_x_5
  have hFr := uf hFr e1 hT_o (by decide) (by decide)
  have hS_o := us e1
  refine lv_aload_n hx hb dX6_read_47 rfl (lv_at hl 0 rfl) ?_
  refine pl_callv (va_runV (As := []) (rest := []) ⟨hx, hb, hml, hown, hT⟩ (r_next l dC dI cy L kap pr ad S_31 H.size o hTy hT_o 0 x_3 x_4 x_5 ⟨_, ln, _, _, x_9, 0, hS_o, by omega, by omega, by omega⟩) (cwV 0 hT (gV w420 w422 ws0 w3 w423) rfl rfl rfl (by decide +kernel) ⟨(Nat.le_of_ble_eq_true rfl), (Nat.le_of_ble_eq_true rfl)⟩) ⟨pcS.blind, pl_recv hK hW hT_o.1 hS_o rfl, pcS.pre hW.1 hK hW.2.1 hN hSTR hW.2.2⟩ rfl rfl hl.1 rfl (lv_room (Nat.le_of_ble_eq_true rfl)) dX6_read_48 ⟨(Nat.le_of_ble_eq_true rfl), (Nat.le_of_ble_eq_true rfl)⟩) hW hA0 hA (fun S_32 H locs hrel hW => ?_)
  obtain ⟨hTy, hF1, hx1⟩ := hrel
  have hFr := hFr.tr hF1 (by decide)
  have hS_x_5 := hF1.at hT_x_5 (by decide) hS_x_5
  obtain ⟨pl33, en33, mt33, tk33, ta33, te33, hS_o, hT_x_3, hT_x_4, hT_x_5, hen33, hte33, hta33, hab33⟩ := RKk hTy hT_o hx1
  refine lv_iconst (v := 0) hx hb dX6_read_51 (by decide) ?_
  refine lv_istore_n (lv' := [(2, .int 0), (0, .ref o), (1, .int (nI ln))]) hx hb dX6_read_52 rfl hl (by decide) rfl (fun ls hl => ?_)
  have loop : ∀ (fuel : Nat) (i : Nat) (fg : Int32) (SS : Nat → va_E) (H : Heap) (locs : List Loc) (ls : Array Slot), 901 - i < fuel → (i ≤ 900) → (RK SS o fg x_3 x_4 x_5) → Ty cy L kap pr SS → Fr kap [0, 3, 6, 20, 21, 22, 23, 24, 25, 26] S SS → Fr kap [0, 3, 6, 20, 21, 22, 23, 24, 25, 26] S_32 SS → PW dC dI L (AL L s.heap.size) s.heap SS H locs → lv_has ls 3 [(2, .int (nI i)), (0, .ref o), (1, .int (nI ln))] → W p l e (headSpec (wT yX6_read cX6_read 3 none) { frames := 9, cells := 0, slots := 0, locals := 191 }).room s m [.ref o, .int (nI ln)].toArray below meth c H locs 0 0 (MQ below (va_Qv (fun S' => Ty cy L kap pr S' ∧ Fr kap [0, 3, 6, 20, 21, 22, 23, 24, 25, 26] S S') (fun S' t => pB dC dI (AL L s.heap.size) (va_pl L S') (cyT cy) t) (AL L s.heap.size)) [.ref o, .int (nI ln)].toArray s 0 0 (AL L s.heap.size)) (F0 m 53 ls []) := by
    intro fuel
    induction fuel with
    | zero => intro i fg SS H locs ls h; exact absurd h (Nat.not_lt_zero _)
    | succ fu53 ih53 =>
      intro i fg S_34 H locs ls hm53 hb_i hR hTy hFr hFl53 hW hl
      have hS_x_5 := hFl53.at hT_x_5 (by decide) hS_x_5
      obtain ⟨pl35, en35, mt35, tk35, ta35, te35, hS_o, hT_x_3, hT_x_4, hT_x_5, hen35, hte35, hta35, hab35⟩ := RKk hTy hT_o hR
      refine lv_iload_n hx hb dX6_read_53 rfl (lv_at hl 0 rfl) ?_
      refine lv_sipush (v := 900) hx hb dX6_read_54 (by decide) ?_
      refine lv_icmp_ge (tgt := 84) hx hb dX6_read_57 (by decide) (fun c_57 => ?_) (fun c_57 => ?_)
      · have c_57 : 900 ≤ i := (nI_leI (a := 900) (b := i) (by omega) (by omega)).mp c_57
        exact W.vret hx hb hr (fun t ht h9 => ⟨⟨S_34, rfl, ⟨hTy, hFr⟩, by rw [ht]; exact hW.1, va_K.moved h9.alike hK, hW.2.1⟩, hW.2.2.F ht⟩) hW.2.2.2.2 dX6_read_84
      · have c_57 : ¬ (900 ≤ i) := fun hh9 => c_57 ((nI_leI (a := 900) (b := i) (by omega) (by omega)).mpr hh9)
        refine lv_aload_n hx hb dX6_read_60 rfl (lv_at hl 1 rfl) ?_
        refine pl_get (ci := 6) (v := .int fg) (C := RX6) (T := TX6) (N := 10) hx hb hT iX6 hown hK hW hT_o.1 hS_o rfl 0 (by decide) w139 rfl dX6_read_61 ?_
        refine lv_if_ne (tgt := 84) hx hb dX6_read_64 (by decide) (fun c_64 => ?_) (fun c_64 => ?_)
        · exact W.vret hx hb hr (fun t ht h9 => ⟨⟨S_34, rfl, ⟨hTy, hFr⟩, by rw [ht]; exact hW.1, va_K.moved h9.alike hK, hW.2.1⟩, hW.2.2.F ht⟩) hW.2.2.2.2 dX6_read_84
        · refine lv_aload_n hx hb dX6_read_67 rfl (lv_at hl 1 rfl) ?_
          refine pl_get (ci := 6) (v := .int tk35) (C := RX6) (T := TX6) (N := 10) hx hb hT iX6 hown hK hW hT_o.1 hS_o rfl 7 (by decide) w150 rfl dX6_read_68 ?_
          refine lv_if_eq (tgt := 84) hx hb dX6_read_71 (by decide) (fun c_71 => ?_) (fun c_71 => ?_)
          · exact W.vret hx hb hr (fun t ht h9 => ⟨⟨S_34, rfl, ⟨hTy, hFr⟩, by rw [ht]; exact hW.1, va_K.moved h9.alike hK, hW.2.1⟩, hW.2.2.F ht⟩) hW.2.2.2.2 dX6_read_84
          · refine lv_aload_n hx hb dX6_read_74 rfl (lv_at hl 1 rfl) ?_
            refine pl_callv (va_runV (As := []) (rest := []) ⟨hx, hb, hml, hown, hT⟩ (r_readLine l dC dI cy L kap pr ad S_34 H.size o hTy hT_o fg x_3 x_4 x_5 ⟨_, en35, _, _, ta35, te35, hS_o, by omega, by omega, by omega, by omega⟩) (cwV 0 hT (gV w492 w494 ws3 w3 w495) rfl rfl rfl (by decide +kernel) ⟨(Nat.le_of_ble_eq_true rfl), (Nat.le_of_ble_eq_true rfl)⟩) ⟨pcS.blind, pl_recv hK hW hT_o.1 hS_o rfl, pcS.pre hW.1 hK hW.2.1 hN hSTR hW.2.2⟩ rfl rfl hl.1 rfl (lv_room (Nat.le_of_ble_eq_true rfl)) dX6_read_75 ⟨(Nat.le_of_ble_eq_true rfl), (Nat.le_of_ble_eq_true rfl)⟩) hW hA0 hA (fun S_36 H locs hrel hW => ?_)
            obtain ⟨hTy, hF1, hx1⟩ := hrel
            have hFr := hFr.tr hF1 (by decide)
            have hFl53 := hFl53.tr hF1 (by decide)
            have hS_x_5 := hF1.at hT_x_5 (by decide) hS_x_5
            obtain ⟨f37, hR37, hf37⟩ := hx1
            obtain ⟨pl38, en38, mt38, tk38, ta38, te38, hS_o, hT_x_3, hT_x_4, hT_x_5, hen38, hte38, hta38, hab38⟩ := RKk hTy hT_o hR37
            refine lv_iinc (v := nI (i + 1)) (lv' := [(2, .int (nI (i + 1))), (0, .ref o), (1, .int (nI ln))]) hx hb dX6_read_78 hl (k := 0) rfl (nI_add (i) 1) (by decide) rfl (fun ls hl => ?_)
            refine lv_goto (tgt := 53) hx hb dX6_read_81 (by decide) ?_
            exact ih53 (i + 1) f37 _ _ _ ls (by omega) (by omega) ⟨_, en38, _, _, ta38, te38, hS_o, by omega, by omega, by omega, by omega⟩ hTy hFr hFl53 hW (lv_sub hl [0, 1, 2] rfl)
  exact loop ((901 - 0) + 1) 0 0 _ _ _ ls (Nat.lt_succ_self _) (by omega) ⟨_, en33, _, _, ta33, te33, hS_o, by omega, by omega, by omega, by omega⟩ hTy hFr Fr.rf hW (lv_sub hl [0, 1, 2] rfl)

