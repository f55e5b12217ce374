theorem w3 : (.initialized RX6 : Cond) ∈ TB := mTB (List.mem_of_getElem? (i := 3) (by decide +kernel)) (by decide +kernel)
theorem w63 : (.fieldLink RX6 95 "SwapPress$Names" "parties" "I" : Cond) ∈ TB := mTB (List.mem_of_getElem? (i := 63) (by decide +kernel)) (by decide +kernel)
theorem w66 : (.fieldLink RX6 108 "SwapPress$Names" "kinds" "I" : Cond) ∈ TB := mTB (List.mem_of_getElem? (i := 66) (by decide +kernel)) (by decide +kernel)
theorem w108 : (.fieldLink RX6 136 "SwapPress$Book" "kept" "[Z" : Cond) ∈ TB := mTB (List.mem_of_getElem? (i := 108) (by decide +kernel)) (by decide +kernel)
theorem w110 : (.fieldLink RX6 141 "SwapPress$Book" "caps" "[I" : Cond) ∈ TB := mTB (List.mem_of_getElem? (i := 110) (by decide +kernel)) (by decide +kernel)
theorem w115 : (.fieldLink RX6 114 "SwapPress$Book" "size" "I" : Cond) ∈ TB := mTB (List.mem_of_getElem? (i := 115) (by decide +kernel)) (by decide +kernel)
theorem w119 : (.fieldLink RX6 148 "SwapPress$Book" "boundMode" "I" : Cond) ∈ TB := mTB (List.mem_of_getElem? (i := 119) (by decide +kernel)) (by decide +kernel)
theorem w139 : (.fieldLink RX6 55 "SwapPress$Reader" "fault" "I" : Cond) ∈ TB := mTB (List.mem_of_getElem? (i := 139) (by decide +kernel)) (by decide +kernel)
theorem w141 : (.fieldLink RX6 9 "SwapPress$Reader" "place" "I" : Cond) ∈ TB := mTB (List.mem_of_getElem? (i := 141) (by decide +kernel)) (by decide +kernel)
theorem w143 : (.fieldLink RX6 18 "SwapPress$Reader" "names" "LSwapPress$Names;" : Cond) ∈ TB := mTB (List.mem_of_getElem? (i := 143) (by decide +kernel)) (by decide +kernel)
theorem w145 : (.fieldLink RX6 25 "SwapPress$Reader" "book" "LSwapPress$Book;" : Cond) ∈ TB := mTB (List.mem_of_getElem? (i := 145) (by decide +kernel)) (by decide +kernel)
theorem w147 : (.fieldLink RX6 35 "SwapPress$Reader" "text" "[B" : Cond) ∈ TB := mTB (List.mem_of_getElem? (i := 147) (by decide +kernel)) (by decide +kernel)
theorem w148 : (.fieldLink RX6 44 "SwapPress$Reader" "end" "I" : Cond) ∈ TB := mTB (List.mem_of_getElem? (i := 148) (by decide +kernel)) (by decide +kernel)
theorem w149 : (.fieldLink RX6 51 "SwapPress$Reader" "modeTold" "Z" : Cond) ∈ TB := mTB (List.mem_of_getElem? (i := 149) (by decide +kernel)) (by decide +kernel)
theorem w150 : (.fieldLink RX6 64 "SwapPress$Reader" "token" "I" : Cond) ∈ TB := mTB (List.mem_of_getElem? (i := 150) (by decide +kernel)) (by decide +kernel)
theorem w151 : (.fieldLink RX6 101 "SwapPress$Reader" "tokenAt" "I" : Cond) ∈ TB := mTB (List.mem_of_getElem? (i := 151) (by decide +kernel)) (by decide +kernel)
theorem w152 : (.fieldLink RX6 58 "SwapPress$Reader" "tokenEnd" "I" : Cond) ∈ TB := mTB (List.mem_of_getElem? (i := 152) (by decide +kernel)) (by decide +kernel)
theorem w409 : (.methodLink RX6 38 Lib.Math.min.name : Cond) ∈ TB := mTB (List.mem_of_getElem? (i := 409) (by decide +kernel)) (by decide +kernel)
theorem w412 : (.methodLink RX6 47 yX3_clear : Cond) ∈ TB := mTB (List.mem_of_getElem? (i := 412) (by decide +kernel)) (by decide +kernel)
theorem w413 : (.instanceMethod yX3_clear : Cond) ∈ TB := mTB (List.mem_of_getElem? (i := 413) (by decide +kernel)) (by decide +kernel)
theorem w414 : (.selects RX3 yX3_clear yX3_clear : Cond) ∈ TB := mTB (List.mem_of_getElem? (i := 414) (by decide +kernel)) (by decide +kernel)
theorem w415 : (.code yX3_clear cX3_clear 1 none : Cond) ∈ TB := mTB (List.mem_of_getElem? (i := 415) (by decide +kernel)) (by decide +kernel)
theorem w416 : (.methodLink RX6 50 yX0_clear : Cond) ∈ TB := mTB (List.mem_of_getElem? (i := 416) (by decide +kernel)) (by decide +kernel)
theorem w417 : (.instanceMethod yX0_clear : Cond) ∈ TB := mTB (List.mem_of_getElem? (i := 417) (by decide +kernel)) (by decide +kernel)
theorem w418 : (.selects RX0 yX0_clear yX0_clear : Cond) ∈ TB := mTB (List.mem_of_getElem? (i := 418) (by decide +kernel)) (by decide +kernel)
theorem w419 : (.code yX0_clear cX0_clear 1 none : Cond) ∈ TB := mTB (List.mem_of_getElem? (i := 419) (by decide +kernel)) (by decide +kernel)
theorem w420 : (.methodLink RX6 61 yX6_next : Cond) ∈ TB := mTB (List.mem_of_getElem? (i := 420) (by decide +kernel)) (by decide +kernel)
theorem w422 : (.instanceMethod yX6_next : Cond) ∈ TB := mTB (List.mem_of_getElem? (i := 422) (by decide +kernel)) (by decide +kernel)
theorem w423 : (.code yX6_next cX6_next 1 none : Cond) ∈ TB := mTB (List.mem_of_getElem? (i := 423) (by decide +kernel)) (by decide +kernel)
theorem w424 : (.methodLink RX6 170 yX6_isLetter : Cond) ∈ TB := mTB (List.mem_of_getElem? (i := 424) (by decide +kernel)) (by decide +kernel)
theorem w425 : (.static yX6_isLetter : Cond) ∈ TB := mTB (List.mem_of_getElem? (i := 425) (by decide +kernel)) (by decide +kernel)
theorem w426 : (.code yX6_isLetter cX6_isLetter 1 (some .boolean) : Cond) ∈ TB := mTB (List.mem_of_getElem? (i := 426) (by decide +kernel)) (by decide +kernel)
theorem w427 : (.methodLink RX6 174 yX6_wordToken : Cond) ∈ TB := mTB (List.mem_of_getElem? (i := 427) (by decide +kernel)) (by decide +kernel)
theorem w429 : (.instanceMethod yX6_wordToken : Cond) ∈ TB := mTB (List.mem_of_getElem? (i := 429) (by decide +kernel)) (by decide +kernel)
theorem w430 : (.code yX6_wordToken cX6_wordToken 1 (some .int) : Cond) ∈ TB := mTB (List.mem_of_getElem? (i := 430) (by decide +kernel)) (by decide +kernel)
theorem w432 : (.methodLink RX6 182 yX6_isWord : Cond) ∈ TB := mTB (List.mem_of_getElem? (i := 432) (by decide +kernel)) (by decide +kernel)
theorem w434 : (.instanceMethod yX6_isWord : Cond) ∈ TB := mTB (List.mem_of_getElem? (i := 434) (by decide +kernel)) (by decide +kernel)
theorem w435 : (.code yX6_isWord cX6_isWord 3 (some .boolean) : Cond) ∈ TB := mTB (List.mem_of_getElem? (i := 435) (by decide +kernel)) (by decide +kernel)
theorem w436 : (.methodLink RX6 161 yJ0_length_8abf5 : Cond) ∈ TB := mTB (List.mem_of_getElem? (i := 436) (by decide +kernel)) (by decide +kernel)
theorem w437 : (.instanceMethod yJ0_length_8abf5 : Cond) ∈ TB := mTB (List.mem_of_getElem? (i := 437) (by decide +kernel)) (by decide +kernel)
theorem w438 : (.selects RJ0 yJ0_length_8abf5 yJ0_length_8abf5 : Cond) ∈ TB := mTB (List.mem_of_getElem? (i := 438) (by decide +kernel)) (by decide +kernel)
theorem w439 : (.code yJ0_length_8abf5 cJ0_length_8abf5 1 (some .int) : Cond) ∈ TB := mTB (List.mem_of_getElem? (i := 439) (by decide +kernel)) (by decide +kernel)
theorem w446 : (.methodLink RX6 166 yJ0_charAt_5068e : Cond) ∈ TB := mTB (List.mem_of_getElem? (i := 446) (by decide +kernel)) (by decide +kernel)
theorem w447 : (.instanceMethod yJ0_charAt_5068e : Cond) ∈ TB := mTB (List.mem_of_getElem? (i := 447) (by decide +kernel)) (by decide +kernel)
theorem w448 : (.selects RJ0 yJ0_charAt_5068e yJ0_charAt_5068e : Cond) ∈ TB := mTB (List.mem_of_getElem? (i := 448) (by decide +kernel)) (by decide +kernel)
theorem w449 : (.code yJ0_charAt_5068e cJ0_charAt_5068e 2 (some .char) : Cond) ∈ TB := mTB (List.mem_of_getElem? (i := 449) (by decide +kernel)) (by decide +kernel)
theorem w489 : (.methodLink RX6 177 yX6_isDigit : Cond) ∈ TB := mTB (List.mem_of_getElem? (i := 489) (by decide +kernel)) (by decide +kernel)
theorem w490 : (.static yX6_isDigit : Cond) ∈ TB := mTB (List.mem_of_getElem? (i := 490) (by decide +kernel)) (by decide +kernel)
theorem w491 : (.code yX6_isDigit cX6_isDigit 1 (some .boolean) : Cond) ∈ TB := mTB (List.mem_of_getElem? (i := 491) (by decide +kernel)) (by decide +kernel)
theorem w492 : (.methodLink RX6 67 yX6_readLine : Cond) ∈ TB := mTB (List.mem_of_getElem? (i := 492) (by decide +kernel)) (by decide +kernel)
theorem w494 : (.instanceMethod yX6_readLine : Cond) ∈ TB := mTB (List.mem_of_getElem? (i := 494) (by decide +kernel)) (by decide +kernel)
theorem w495 : (.code yX6_readLine cX6_readLine 1 none : Cond) ∈ TB := mTB (List.mem_of_getElem? (i := 495) (by decide +kernel)) (by decide +kernel)
theorem w496 : (.methodLink RX6 70 yX6_readParty : Cond) ∈ TB := mTB (List.mem_of_getElem? (i := 496) (by decide +kernel)) (by decide +kernel)
theorem w498 : (.instanceMethod yX6_readParty : Cond) ∈ TB := mTB (List.mem_of_getElem? (i := 498) (by decide +kernel)) (by decide +kernel)
theorem w499 : (.code yX6_readParty cX6_readParty 1 none : Cond) ∈ TB := mTB (List.mem_of_getElem? (i := 499) (by decide +kernel)) (by decide +kernel)
theorem w500 : (.methodLink RX6 88 yX6_fail : Cond) ∈ TB := mTB (List.mem_of_getElem? (i := 500) (by decide +kernel)) (by decide +kernel)
theorem w502 : (.instanceMethod yX6_fail : Cond) ∈ TB := mTB (List.mem_of_getElem? (i := 502) (by decide +kernel)) (by decide +kernel)
theorem w503 : (.code yX6_fail cX6_fail 2 none : Cond) ∈ TB := mTB (List.mem_of_getElem? (i := 503) (by decide +kernel)) (by decide +kernel)
theorem w504 : (.methodLink RX6 98 yX6_checkNewName : Cond) ∈ TB := mTB (List.mem_of_getElem? (i := 504) (by decide +kernel)) (by decide +kernel)
theorem w506 : (.instanceMethod yX6_checkNewName : Cond) ∈ TB := mTB (List.mem_of_getElem? (i := 506) (by decide +kernel)) (by decide +kernel)
theorem w507 : (.code yX6_checkNewName cX6_checkNewName 1 none : Cond) ∈ TB := mTB (List.mem_of_getElem? (i := 507) (by decide +kernel)) (by decide +kernel)
theorem w508 : (.methodLink RX6 151 yX6_partyHere : Cond) ∈ TB := mTB (List.mem_of_getElem? (i := 508) (by decide +kernel)) (by decide +kernel)
theorem w510 : (.instanceMethod yX6_partyHere : Cond) ∈ TB := mTB (List.mem_of_getElem? (i := 510) (by decide +kernel)) (by decide +kernel)
theorem w511 : (.code yX6_partyHere cX6_partyHere 1 (some .int) : Cond) ∈ TB := mTB (List.mem_of_getElem? (i := 511) (by decide +kernel)) (by decide +kernel)
theorem w512 : (.methodLink RX6 157 yX3_find : Cond) ∈ TB := mTB (List.mem_of_getElem? (i := 512) (by decide +kernel)) (by decide +kernel)
theorem w513 : (.instanceMethod yX3_find : Cond) ∈ TB := mTB (List.mem_of_getElem? (i := 513) (by decide +kernel)) (by decide +kernel)
theorem w514 : (.selects RX3 yX3_find yX3_find : Cond) ∈ TB := mTB (List.mem_of_getElem? (i := 514) (by decide +kernel)) (by decide +kernel)
theorem w515 : (.code yX3_find cX3_find 7 (some .int) : Cond) ∈ TB := mTB (List.mem_of_getElem? (i := 515) (by decide +kernel)) (by decide +kernel)
theorem w520 : (.methodLink RX6 154 yX6_kindHere : Cond) ∈ TB := mTB (List.mem_of_getElem? (i := 520) (by decide +kernel)) (by decide +kernel)
theorem w522 : (.instanceMethod yX6_kindHere : Cond) ∈ TB := mTB (List.mem_of_getElem? (i := 522) (by decide +kernel)) (by decide +kernel)
theorem w523 : (.code yX6_kindHere cX6_kindHere 1 (some .int) : Cond) ∈ TB := mTB (List.mem_of_getElem? (i := 523) (by decide +kernel)) (by decide +kernel)
theorem w524 : (.methodLink RX6 104 yX3_appendParty : Cond) ∈ TB := mTB (List.mem_of_getElem? (i := 524) (by decide +kernel)) (by decide +kernel)
theorem w525 : (.instanceMethod yX3_appendParty : Cond) ∈ TB := mTB (List.mem_of_getElem? (i := 525) (by decide +kernel)) (by decide +kernel)
theorem w526 : (.selects RX3 yX3_appendParty yX3_appendParty : Cond) ∈ TB := mTB (List.mem_of_getElem? (i := 526) (by decide +kernel)) (by decide +kernel)
theorem w527 : (.code yX3_appendParty cX3_appendParty 4 none : Cond) ∈ TB := mTB (List.mem_of_getElem? (i := 527) (by decide +kernel)) (by decide +kernel)
theorem w533 : (.methodLink RX6 73 yX6_readKind : Cond) ∈ TB := mTB (List.mem_of_getElem? (i := 533) (by decide +kernel)) (by decide +kernel)
theorem w535 : (.instanceMethod yX6_readKind : Cond) ∈ TB := mTB (List.mem_of_getElem? (i := 535) (by decide +kernel)) (by decide +kernel)
theorem w536 : (.code yX6_readKind cX6_readKind 1 none : Cond) ∈ TB := mTB (List.mem_of_getElem? (i := 536) (by decide +kernel)) (by decide +kernel)
theorem w537 : (.methodLink RX6 111 yX3_appendKind : Cond) ∈ TB := mTB (List.mem_of_getElem? (i := 537) (by decide +kernel)) (by decide +kernel)
theorem w538 : (.instanceMethod yX3_appendKind : Cond) ∈ TB := mTB (List.mem_of_getElem? (i := 538) (by decide +kernel)) (by decide +kernel)
theorem w539 : (.selects RX3 yX3_appendKind yX3_appendKind : Cond) ∈ TB := mTB (List.mem_of_getElem? (i := 539) (by decide +kernel)) (by decide +kernel)
theorem w540 : (.code yX3_appendKind cX3_appendKind 4 none : Cond) ∈ TB := mTB (List.mem_of_getElem? (i := 540) (by decide +kernel)) (by decide +kernel)
theorem w541 : (.methodLink RX6 76 yX6_readTrade : Cond) ∈ TB := mTB (List.mem_of_getElem? (i := 541) (by decide +kernel)) (by decide +kernel)
theorem w543 : (.instanceMethod yX6_readTrade : Cond) ∈ TB := mTB (List.mem_of_getElem? (i := 543) (by decide +kernel)) (by decide +kernel)
theorem w544 : (.code yX6_readTrade cX6_readTrade 5 none : Cond) ∈ TB := mTB (List.mem_of_getElem? (i := 544) (by decide +kernel)) (by decide +kernel)
theorem w545 : (.methodLink RX6 117 yX6_knownParty : Cond) ∈ TB := mTB (List.mem_of_getElem? (i := 545) (by decide +kernel)) (by decide +kernel)
theorem w547 : (.instanceMethod yX6_knownParty : Cond) ∈ TB := mTB (List.mem_of_getElem? (i := 547) (by decide +kernel)) (by decide +kernel)
theorem w548 : (.code yX6_knownParty cX6_knownParty 2 (some .int) : Cond) ∈ TB := mTB (List.mem_of_getElem? (i := 548) (by decide +kernel)) (by decide +kernel)
theorem w549 : (.methodLink RX6 121 yX6_failIfSame : Cond) ∈ TB := mTB (List.mem_of_getElem? (i := 549) (by decide +kernel)) (by decide +kernel)
theorem w551 : (.instanceMethod yX6_failIfSame : Cond) ∈ TB := mTB (List.mem_of_getElem? (i := 551) (by decide +kernel)) (by decide +kernel)
theorem w552 : (.code yX6_failIfSame cX6_failIfSame 3 none : Cond) ∈ TB := mTB (List.mem_of_getElem? (i := 552) (by decide +kernel)) (by decide +kernel)
theorem w553 : (.constant RX6 125 999999 : Cond) ∈ TB := mTB (List.mem_of_getElem? (i := 553) (by decide +kernel)) (by decide +kernel)
theorem w554 : (.methodLink RX6 126 yX6_numberWithin : Cond) ∈ TB := mTB (List.mem_of_getElem? (i := 554) (by decide +kernel)) (by decide +kernel)
theorem w556 : (.instanceMethod yX6_numberWithin : Cond) ∈ TB := mTB (List.mem_of_getElem? (i := 556) (by decide +kernel)) (by decide +kernel)
theorem w557 : (.code yX6_numberWithin cX6_numberWithin 5 (some .int) : Cond) ∈ TB := mTB (List.mem_of_getElem? (i := 557) (by decide +kernel)) (by decide +kernel)
theorem w558 : (.methodLink RX6 129 yX6_knownKind : Cond) ∈ TB := mTB (List.mem_of_getElem? (i := 558) (by decide +kernel)) (by decide +kernel)
theorem w560 : (.instanceMethod yX6_knownKind : Cond) ∈ TB := mTB (List.mem_of_getElem? (i := 560) (by decide +kernel)) (by decide +kernel)
theorem w561 : (.code yX6_knownKind cX6_knownKind 2 (some .int) : Cond) ∈ TB := mTB (List.mem_of_getElem? (i := 561) (by decide +kernel)) (by decide +kernel)
theorem w562 : (.methodLink RX6 132 yX0_append : Cond) ∈ TB := mTB (List.mem_of_getElem? (i := 562) (by decide +kernel)) (by decide +kernel)
theorem w563 : (.instanceMethod yX0_append : Cond) ∈ TB := mTB (List.mem_of_getElem? (i := 563) (by decide +kernel)) (by decide +kernel)
theorem w564 : (.selects RX0 yX0_append yX0_append : Cond) ∈ TB := mTB (List.mem_of_getElem? (i := 564) (by decide +kernel)) (by decide +kernel)
theorem w565 : (.code yX0_append cX0_append 6 none : Cond) ∈ TB := mTB (List.mem_of_getElem? (i := 565) (by decide +kernel)) (by decide +kernel)
theorem w566 : (.methodLink RX6 79 yX6_readKeep : Cond) ∈ TB := mTB (List.mem_of_getElem? (i := 566) (by decide +kernel)) (by decide +kernel)
theorem w568 : (.instanceMethod yX6_readKeep : Cond) ∈ TB := mTB (List.mem_of_getElem? (i := 568) (by decide +kernel)) (by decide +kernel)
theorem w569 : (.code yX6_readKeep cX6_readKeep 2 none : Cond) ∈ TB := mTB (List.mem_of_getElem? (i := 569) (by decide +kernel)) (by decide +kernel)
theorem w570 : (.methodLink RX6 82 yX6_readCap : Cond) ∈ TB := mTB (List.mem_of_getElem? (i := 570) (by decide +kernel)) (by decide +kernel)
theorem w572 : (.instanceMethod yX6_readCap : Cond) ∈ TB := mTB (List.mem_of_getElem? (i := 572) (by decide +kernel)) (by decide +kernel)
theorem w573 : (.code yX6_readCap cX6_readCap 4 none : Cond) ∈ TB := mTB (List.mem_of_getElem? (i := 573) (by decide +kernel)) (by decide +kernel)
theorem w574 : (.constant RX6 140 99999999 : Cond) ∈ TB := mTB (List.mem_of_getElem? (i := 574) (by decide +kernel)) (by decide +kernel)
theorem w578 : (.methodLink RX6 85 yX6_readMode : Cond) ∈ TB := mTB (List.mem_of_getElem? (i := 578) (by decide +kernel)) (by decide +kernel)
theorem w580 : (.instanceMethod yX6_readMode : Cond) ∈ TB := mTB (List.mem_of_getElem? (i := 580) (by decide +kernel)) (by decide +kernel)
theorem w581 : (.code yX6_readMode cX6_readMode 2 none : Cond) ∈ TB := mTB (List.mem_of_getElem? (i := 581) (by decide +kernel)) (by decide +kernel)
theorem w582 : (.methodLink RX6 92 yX6_readSemicolon : Cond) ∈ TB := mTB (List.mem_of_getElem? (i := 582) (by decide +kernel)) (by decide +kernel)
theorem w584 : (.instanceMethod yX6_readSemicolon : Cond) ∈ TB := mTB (List.mem_of_getElem? (i := 584) (by decide +kernel)) (by decide +kernel)
theorem w585 : (.code yX6_readSemicolon cX6_readSemicolon 1 none : Cond) ∈ TB := mTB (List.mem_of_getElem? (i := 585) (by decide +kernel)) (by decide +kernel)
theorem ws0 : (.selects RX6 yX6_next yX6_next : Cond) ∈ TB := mSel (y := yX6_next) (n := 10) (List.mem_of_getElem? (i := 0) (by decide +kernel)) (by decide +kernel)
theorem ws1 : (.selects RX6 yX6_wordToken yX6_wordToken : Cond) ∈ TB := mSel (y := yX6_wordToken) (n := 10) (List.mem_of_getElem? (i := 1) (by decide +kernel)) (by decide +kernel)
theorem ws2 : (.selects RX6 yX6_isWord yX6_isWord : Cond) ∈ TB := mSel (y := yX6_isWord) (n := 10) (List.mem_of_getElem? (i := 2) (by decide +kernel)) (by decide +kernel)
theorem ws3 : (.selects RX6 yX6_readLine yX6_readLine : Cond) ∈ TB := mSel (y := yX6_readLine) (n := 10) (List.mem_of_getElem? (i := 3) (by decide +kernel)) (by decide +kernel)
theorem ws4 : (.selects RX6 yX6_readParty yX6_readParty : Cond) ∈ TB := mSel (y := yX6_readParty) (n := 10) (List.mem_of_getElem? (i := 4) (by decide +kernel)) (by decide +kernel)
theorem ws5 : (.selects RX6 yX6_fail yX6_fail : Cond) ∈ TB := mSel (y := yX6_fail) (n := 10) (List.mem_of_getElem? (i := 5) (by decide +kernel)) (by decide +kernel)
theorem ws6 : (.selects RX6 yX6_checkNewName yX6_checkNewName : Cond) ∈ TB := mSel (y := yX6_checkNewName) (n := 10) (List.mem_of_getElem? (i := 6) (by decide +kernel)) (by decide +kernel)
theorem ws7 : (.selects RX6 yX6_partyHere yX6_partyHere : Cond) ∈ TB := mSel (y := yX6_partyHere) (n := 10) (List.mem_of_getElem? (i := 7) (by decide +kernel)) (by decide +kernel)
theorem ws9 : (.selects RX6 yX6_kindHere yX6_kindHere : Cond) ∈ TB := mSel (y := yX6_kindHere) (n := 10) (List.mem_of_getElem? (i := 9) (by decide +kernel)) (by decide +kernel)
theorem ws11 : (.selects RX6 yX6_readKind yX6_readKind : Cond) ∈ TB := mSel (y := yX6_readKind) (n := 10) (List.mem_of_getElem? (i := 11) (by decide +kernel)) (by decide +kernel)
theorem ws12 : (.selects RX6 yX6_readTrade yX6_readTrade : Cond) ∈ TB := mSel (y := yX6_readTrade) (n := 10) (List.mem_of_getElem? (i := 12) (by decide +kernel)) (by decide +kernel)
theorem ws13 : (.selects RX6 yX6_knownParty yX6_knownParty : Cond) ∈ TB := mSel (y := yX6_knownParty) (n := 10) (List.mem_of_getElem? (i := 13) (by decide +kernel)) (by decide +kernel)
theorem ws14 : (.selects RX6 yX6_failIfSame yX6_failIfSame : Cond) ∈ TB := mSel (y := yX6_failIfSame) (n := 10) (List.mem_of_getElem? (i := 14) (by decide +kernel)) (by decide +kernel)
theorem ws15 : (.selects RX6 yX6_numberWithin yX6_numberWithin : Cond) ∈ TB := mSel (y := yX6_numberWithin) (n := 10) (List.mem_of_getElem? (i := 15) (by decide +kernel)) (by decide +kernel)
theorem ws16 : (.selects RX6 yX6_knownKind yX6_knownKind : Cond) ∈ TB := mSel (y := yX6_knownKind) (n := 10) (List.mem_of_getElem? (i := 16) (by decide +kernel)) (by decide +kernel)
theorem ws17 : (.selects RX6 yX6_readKeep yX6_readKeep : Cond) ∈ TB := mSel (y := yX6_readKeep) (n := 10) (List.mem_of_getElem? (i := 17) (by decide +kernel)) (by decide +kernel)
theorem ws18 : (.selects RX6 yX6_readCap yX6_readCap : Cond) ∈ TB := mSel (y := yX6_readCap) (n := 10) (List.mem_of_getElem? (i := 18) (by decide +kernel)) (by decide +kernel)
theorem ws19 : (.selects RX6 yX6_readMode yX6_readMode : Cond) ∈ TB := mSel (y := yX6_readMode) (n := 10) (List.mem_of_getElem? (i := 19) (by decide +kernel)) (by decide +kernel)
theorem ws20 : (.selects RX6 yX6_readSemicolon yX6_readSemicolon : Cond) ∈ TB := mSel (y := yX6_readSemicolon) (n := 10) (List.mem_of_getElem? (i := 20) (by decide +kernel)) (by decide +kernel)
theorem dX6_checkNewName_0 : decode cX6_checkNewName 0 = .ok (.aload_n 0, 1) := by decide +kernel
theorem dX6_checkNewName_1 : decode cX6_checkNewName 1 = .ok (.getfield 64, 3) := by decide +kernel
theorem dX6_checkNewName_4 : decode cX6_checkNewName 4 = .ok (.iconst 4, 1) := by decide +kernel
theorem dX6_checkNewName_5 : decode cX6_checkNewName 5 = .ok (.if_icmp .eq 11, 3) := by decide +kernel
theorem dX6_checkNewName_8 : decode cX6_checkNewName 8 = .ok (.aload_n 0, 1) := by decide +kernel
theorem dX6_checkNewName_9 : decode cX6_checkNewName 9 = .ok (.iconst 1, 1) := by decide +kernel
theorem dX6_checkNewName_10 : decode cX6_checkNewName 10 = .ok (.invokevirtual 88, 3) := by decide +kernel
theorem dX6_checkNewName_13 : decode cX6_checkNewName 13 = .ok (.goto 24, 3) := by decide +kernel
theorem dX6_checkNewName_16 : decode cX6_checkNewName 16 = .ok (.aload_n 0, 1) := by decide +kernel
theorem dX6_checkNewName_17 : decode cX6_checkNewName 17 = .ok (.invokevirtual 151, 3) := by decide +kernel
theorem dX6_checkNewName_20 : decode cX6_checkNewName 20 = .ok (.iconst (-1), 1) := by decide +kernel
theorem dX6_checkNewName_21 : decode cX6_checkNewName 21 = .ok (.if_icmp .ne 11, 3) := by decide +kernel
theorem dX6_checkNewName_24 : decode cX6_checkNewName 24 = .ok (.aload_n 0, 1) := by decide +kernel
theorem dX6_checkNewName_25 : decode cX6_checkNewName 25 = .ok (.invokevirtual 154, 3) := by decide +kernel
theorem dX6_checkNewName_28 : decode cX6_checkNewName 28 = .ok (.iconst (-1), 1) := by decide +kernel
theorem dX6_checkNewName_29 : decode cX6_checkNewName 29 = .ok (.if_icmp .eq 8, 3) := by decide +kernel
theorem dX6_checkNewName_32 : decode cX6_checkNewName 32 = .ok (.aload_n 0, 1) := by decide +kernel
theorem dX6_checkNewName_33 : decode cX6_checkNewName 33 = .ok (.iconst 3, 1) := by decide +kernel
theorem dX6_checkNewName_34 : decode cX6_checkNewName 34 = .ok (.invokevirtual 88, 3) := by decide +kernel
theorem dX6_checkNewName_37 : decode cX6_checkNewName 37 = .ok (.return_, 1) := by decide +kernel
theorem dX6_fail_0 : decode cX6_fail 0 = .ok (.aload_n 0, 1) := by decide +kernel
theorem dX6_fail_1 : decode cX6_fail 1 = .ok (.getfield 55, 3) := by decide +kernel
theorem dX6_fail_4 : decode cX6_fail 4 = .ok (.ifCond .ne 16, 3) := by decide +kernel
theorem dX6_fail_7 : decode cX6_fail 7 = .ok (.aload_n 0, 1) := by decide +kernel
theorem dX6_fail_8 : decode cX6_fail 8 = .ok (.iload_n 1, 1) := by decide +kernel
theorem dX6_fail_9 : decode cX6_fail 9 = .ok (.putfield 55, 3) := by decide +kernel
theorem dX6_fail_12 : decode cX6_fail 12 = .ok (.aload_n 0, 1) := by decide +kernel
theorem dX6_fail_13 : decode cX6_fail 13 = .ok (.aload_n 0, 1) := by decide +kernel
theorem dX6_fail_14 : decode cX6_fail 14 = .ok (.getfield 101, 3) := by decide +kernel
theorem dX6_fail_17 : decode cX6_fail 17 = .ok (.putfield 9, 3) := by decide +kernel
theorem dX6_fail_20 : decode cX6_fail 20 = .ok (.return_, 1) := by decide +kernel
theorem dX6_failIfSame_0 : decode cX6_failIfSame 0 = .ok (.iload_n 1, 1) := by decide +kernel
theorem dX6_failIfSame_1 : decode cX6_failIfSame 1 = .ok (.iload_n 2, 1) := by decide +kernel
theorem dX6_failIfSame_2 : decode cX6_failIfSame 2 = .ok (.if_icmp .ne 8, 3) := by decide +kernel
theorem dX6_failIfSame_5 : decode cX6_failIfSame 5 = .ok (.aload_n 0, 1) := by decide +kernel
theorem dX6_failIfSame_6 : decode cX6_failIfSame 6 = .ok (.iconst 5, 1) := by decide +kernel
theorem dX6_failIfSame_7 : decode cX6_failIfSame 7 = .ok (.invokevirtual 88, 3) := by decide +kernel
theorem dX6_failIfSame_10 : decode cX6_failIfSame 10 = .ok (.return_, 1) := by decide +kernel
theorem dX6_isDigit_0 : decode cX6_isDigit 0 = .ok (.iload_n 0, 1) := by decide +kernel
theorem dX6_isDigit_1 : decode cX6_isDigit 1 = .ok (.bipush 48, 2) := by decide +kernel
theorem dX6_isDigit_3 : decode cX6_isDigit 3 = .ok (.if_icmp .lt 13, 3) := by decide +kernel
theorem dX6_isDigit_6 : decode cX6_isDigit 6 = .ok (.iload_n 0, 1) := by decide +kernel
theorem dX6_isDigit_7 : decode cX6_isDigit 7 = .ok (.bipush 57, 2) := by decide +kernel
theorem dX6_isDigit_9 : decode cX6_isDigit 9 = .ok (.if_icmp .gt 7, 3) := by decide +kernel
theorem dX6_isDigit_12 : decode cX6_isDigit 12 = .ok (.iconst 1, 1) := by decide +kernel
theorem dX6_isDigit_13 : decode cX6_isDigit 13 = .ok (.goto 4, 3) := by decide +kernel
theorem dX6_isDigit_16 : decode cX6_isDigit 16 = .ok (.iconst 0, 1) := by decide +kernel
theorem dX6_isDigit_17 : decode cX6_isDigit 17 = .ok (.ireturn, 1) := by decide +kernel
theorem dX6_isLetter_0 : decode cX6_isLetter 0 = .ok (.iload_n 0, 1) := by decide +kernel
theorem dX6_isLetter_1 : decode cX6_isLetter 1 = .ok (.bipush 97, 2) := by decide +kernel
theorem dX6_isLetter_3 : decode cX6_isLetter 3 = .ok (.if_icmp .lt 13, 3) := by decide +kernel
theorem dX6_isLetter_6 : decode cX6_isLetter 6 = .ok (.iload_n 0, 1) := by decide +kernel
theorem dX6_isLetter_7 : decode cX6_isLetter 7 = .ok (.bipush 122, 2) := by decide +kernel
theorem dX6_isLetter_9 : decode cX6_isLetter 9 = .ok (.if_icmp .gt 7, 3) := by decide +kernel
theorem dX6_isLetter_12 : decode cX6_isLetter 12 = .ok (.iconst 1, 1) := by decide +kernel
theorem dX6_isLetter_13 : decode cX6_isLetter 13 = .ok (.goto 4, 3) := by decide +kernel
theorem dX6_isLetter_16 : decode cX6_isLetter 16 = .ok (.iconst 0, 1) := by decide +kernel
theorem dX6_isLetter_17 : decode cX6_isLetter 17 = .ok (.ireturn, 1) := by decide +kernel
theorem dX6_isWord_0 : decode cX6_isWord 0 = .ok (.aload_n 0, 1) := by decide +kernel
theorem dX6_isWord_1 : decode cX6_isWord 1 = .ok (.getfield 58, 3) := by decide +kernel
theorem dX6_isWord_4 : decode cX6_isWord 4 = .ok (.aload_n 0, 1) := by decide +kernel
theorem dX6_isWord_5 : decode cX6_isWord 5 = .ok (.getfield 101, 3) := by decide +kernel
theorem dX6_isWord_8 : decode cX6_isWord 8 = .ok (.isub, 1) := by decide +kernel
theorem dX6_isWord_9 : decode cX6_isWord 9 = .ok (.aload_n 1, 1) := by decide +kernel
theorem dX6_isWord_10 : decode cX6_isWord 10 = .ok (.invokevirtual 161, 3) := by decide +kernel
theorem dX6_isWord_13 : decode cX6_isWord 13 = .ok (.if_icmp .eq 5, 3) := by decide +kernel
theorem dX6_isWord_16 : decode cX6_isWord 16 = .ok (.iconst 0, 1) := by decide +kernel
theorem dX6_isWord_17 : decode cX6_isWord 17 = .ok (.ireturn, 1) := by decide +kernel
theorem dX6_isWord_18 : decode cX6_isWord 18 = .ok (.iconst 0, 1) := by decide +kernel
theorem dX6_isWord_19 : decode cX6_isWord 19 = .ok (.istore_n 2, 1) := by decide +kernel
theorem dX6_isWord_20 : decode cX6_isWord 20 = .ok (.iload_n 2, 1) := by decide +kernel
theorem dX6_isWord_21 : decode cX6_isWord 21 = .ok (.aload_n 1, 1) := by decide +kernel
theorem dX6_isWord_22 : decode cX6_isWord 22 = .ok (.invokevirtual 161, 3) := by decide +kernel
theorem dX6_isWord_25 : decode cX6_isWord 25 = .ok (.if_icmp .ge 30, 3) := by decide +kernel
theorem dX6_isWord_28 : decode cX6_isWord 28 = .ok (.aload_n 0, 1) := by decide +kernel
theorem dX6_isWord_29 : decode cX6_isWord 29 = .ok (.getfield 35, 3) := by decide +kernel
theorem dX6_isWord_32 : decode cX6_isWord 32 = .ok (.aload_n 0, 1) := by decide +kernel
theorem dX6_isWord_33 : decode cX6_isWord 33 = .ok (.getfield 101, 3) := by decide +kernel
theorem dX6_isWord_36 : decode cX6_isWord 36 = .ok (.iload_n 2, 1) := by decide +kernel
theorem dX6_isWord_37 : decode cX6_isWord 37 = .ok (.iadd, 1) := by decide +kernel
theorem dX6_isWord_38 : decode cX6_isWord 38 = .ok (.baload, 1) := by decide +kernel
theorem dX6_isWord_39 : decode cX6_isWord 39 = .ok (.aload_n 1, 1) := by decide +kernel
theorem dX6_isWord_40 : decode cX6_isWord 40 = .ok (.iload_n 2, 1) := by decide +kernel
theorem dX6_isWord_41 : decode cX6_isWord 41 = .ok (.invokevirtual 166, 3) := by decide +kernel
theorem dX6_isWord_44 : decode cX6_isWord 44 = .ok (.if_icmp .eq 5, 3) := by decide +kernel
theorem dX6_isWord_47 : decode cX6_isWord 47 = .ok (.iconst 0, 1) := by decide +kernel
theorem dX6_isWord_48 : decode cX6_isWord 48 = .ok (.ireturn, 1) := by decide +kernel
theorem dX6_isWord_49 : decode cX6_isWord 49 = .ok (.iinc 2 1, 3) := by decide +kernel
theorem dX6_isWord_52 : decode cX6_isWord 52 = .ok (.goto (-32), 3) := by decide +kernel
theorem dX6_isWord_55 : decode cX6_isWord 55 = .ok (.iconst 1, 1) := by decide +kernel
theorem dX6_isWord_56 : decode cX6_isWord 56 = .ok (.ireturn, 1) := by decide +kernel
theorem dX6_kindHere_0 : decode cX6_kindHere 0 = .ok (.aload_n 0, 1) := by decide +kernel
theorem dX6_kindHere_1 : decode cX6_kindHere 1 = .ok (.getfield 18, 3) := by decide +kernel
theorem dX6_kindHere_4 : decode cX6_kindHere 4 = .ok (.bipush 8, 2) := by decide +kernel
theorem dX6_kindHere_6 : decode cX6_kindHere 6 = .ok (.aload_n 0, 1) := by decide +kernel
theorem dX6_kindHere_7 : decode cX6_kindHere 7 = .ok (.getfield 18, 3) := by decide +kernel
theorem dX6_kindHere_10 : decode cX6_kindHere 10 = .ok (.getfield 108, 3) := by decide +kernel
theorem dX6_kindHere_13 : decode cX6_kindHere 13 = .ok (.aload_n 0, 1) := by decide +kernel
theorem dX6_kindHere_14 : decode cX6_kindHere 14 = .ok (.getfield 35, 3) := by decide +kernel
theorem dX6_kindHere_17 : decode cX6_kindHere 17 = .ok (.aload_n 0, 1) := by decide +kernel
theorem dX6_kindHere_18 : decode cX6_kindHere 18 = .ok (.getfield 101, 3) := by decide +kernel
theorem dX6_kindHere_21 : decode cX6_kindHere 21 = .ok (.aload_n 0, 1) := by decide +kernel
theorem dX6_kindHere_22 : decode cX6_kindHere 22 = .ok (.getfield 58, 3) := by decide +kernel
theorem dX6_kindHere_25 : decode cX6_kindHere 25 = .ok (.aload_n 0, 1) := by decide +kernel
theorem dX6_kindHere_26 : decode cX6_kindHere 26 = .ok (.getfield 101, 3) := by decide +kernel
theorem dX6_kindHere_29 : decode cX6_kindHere 29 = .ok (.isub, 1) := by decide +kernel
theorem dX6_kindHere_30 : decode cX6_kindHere 30 = .ok (.invokevirtual 157, 3) := by decide +kernel
theorem dX6_kindHere_33 : decode cX6_kindHere 33 = .ok (.ireturn, 1) := by decide +kernel
theorem dX6_knownKind_0 : decode cX6_knownKind 0 = .ok (.aload_n 0, 1) := by decide +kernel
theorem dX6_knownKind_1 : decode cX6_knownKind 1 = .ok (.getfield 64, 3) := by decide +kernel
theorem dX6_knownKind_4 : decode cX6_knownKind 4 = .ok (.iconst 4, 1) := by decide +kernel
theorem dX6_knownKind_5 : decode cX6_knownKind 5 = .ok (.if_icmp .eq 10, 3) := by decide +kernel
theorem dX6_knownKind_8 : decode cX6_knownKind 8 = .ok (.aload_n 0, 1) := by decide +kernel
theorem dX6_knownKind_9 : decode cX6_knownKind 9 = .ok (.iconst 1, 1) := by decide +kernel
theorem dX6_knownKind_10 : decode cX6_knownKind 10 = .ok (.invokevirtual 88, 3) := by decide +kernel
theorem dX6_knownKind_13 : decode cX6_knownKind 13 = .ok (.iconst (-1), 1) := by decide +kernel
theorem dX6_knownKind_14 : decode cX6_knownKind 14 = .ok (.ireturn, 1) := by decide +kernel
theorem dX6_knownKind_15 : decode cX6_knownKind 15 = .ok (.aload_n 0, 1) := by decide +kernel
theorem dX6_knownKind_16 : decode cX6_knownKind 16 = .ok (.invokevirtual 154, 3) := by decide +kernel
theorem dX6_knownKind_19 : decode cX6_knownKind 19 = .ok (.istore_n 1, 1) := by decide +kernel
theorem dX6_knownKind_20 : decode cX6_knownKind 20 = .ok (.iload_n 1, 1) := by decide +kernel
theorem dX6_knownKind_21 : decode cX6_knownKind 21 = .ok (.iconst (-1), 1) := by decide +kernel
theorem dX6_knownKind_22 : decode cX6_knownKind 22 = .ok (.if_icmp .ne 8, 3) := by decide +kernel
theorem dX6_knownKind_25 : decode cX6_knownKind 25 = .ok (.aload_n 0, 1) := by decide +kernel
theorem dX6_knownKind_26 : decode cX6_knownKind 26 = .ok (.iconst 3, 1) := by decide +kernel
theorem dX6_knownKind_27 : decode cX6_knownKind 27 = .ok (.invokevirtual 88, 3) := by decide +kernel
theorem dX6_knownKind_30 : decode cX6_knownKind 30 = .ok (.iload_n 1, 1) := by decide +kernel
theorem dX6_knownKind_31 : decode cX6_knownKind 31 = .ok (.ireturn, 1) := by decide +kernel
theorem dX6_knownParty_0 : decode cX6_knownParty 0 = .ok (.aload_n 0, 1) := by decide +kernel
theorem dX6_knownParty_1 : decode cX6_knownParty 1 = .ok (.getfield 64, 3) := by decide +kernel
theorem dX6_knownParty_4 : decode cX6_knownParty 4 = .ok (.iconst 4, 1) := by decide +kernel
theorem dX6_knownParty_5 : decode cX6_knownParty 5 = .ok (.if_icmp .eq 10, 3) := by decide +kernel
theorem dX6_knownParty_8 : decode cX6_knownParty 8 = .ok (.aload_n 0, 1) := by decide +kernel
theorem dX6_knownParty_9 : decode cX6_knownParty 9 = .ok (.iconst 1, 1) := by decide +kernel
theorem dX6_knownParty_10 : decode cX6_knownParty 10 = .ok (.invokevirtual 88, 3) := by decide +kernel
theorem dX6_knownParty_13 : decode cX6_knownParty 13 = .ok (.iconst (-1), 1) := by decide +kernel
theorem dX6_knownParty_14 : decode cX6_knownParty 14 = .ok (.ireturn, 1) := by decide +kernel
theorem dX6_knownParty_15 : decode cX6_knownParty 15 = .ok (.aload_n 0, 1) := by decide +kernel
theorem dX6_knownParty_16 : decode cX6_knownParty 16 = .ok (.invokevirtual 151, 3) := by decide +kernel
theorem dX6_knownParty_19 : decode cX6_knownParty 19 = .ok (.istore_n 1, 1) := by decide +kernel
theorem dX6_knownParty_20 : decode cX6_knownParty 20 = .ok (.iload_n 1, 1) := by decide +kernel
theorem dX6_knownParty_21 : decode cX6_knownParty 21 = .ok (.iconst (-1), 1) := by decide +kernel
theorem dX6_knownParty_22 : decode cX6_knownParty 22 = .ok (.if_icmp .ne 8, 3) := by decide +kernel
theorem dX6_knownParty_25 : decode cX6_knownParty 25 = .ok (.aload_n 0, 1) := by decide +kernel
theorem dX6_knownParty_26 : decode cX6_knownParty 26 = .ok (.iconst 3, 1) := by decide +kernel
theorem dX6_knownParty_27 : decode cX6_knownParty 27 = .ok (.invokevirtual 88, 3) := by decide +kernel
theorem dX6_knownParty_30 : decode cX6_knownParty 30 = .ok (.iload_n 1, 1) := by decide +kernel
theorem dX6_knownParty_31 : decode cX6_knownParty 31 = .ok (.ireturn, 1) := by decide +kernel
theorem dX6_next_0 : decode cX6_next 0 = .ok (.aload_n 0, 1) := by decide +kernel
theorem dX6_next_1 : decode cX6_next 1 = .ok (.aload_n 0, 1) := by decide +kernel
theorem dX6_next_2 : decode cX6_next 2 = .ok (.getfield 58, 3) := by decide +kernel
theorem dX6_next_5 : decode cX6_next 5 = .ok (.putfield 101, 3) := by decide +kernel
theorem dX6_next_8 : decode cX6_next 8 = .ok (.aload_n 0, 1) := by decide +kernel
theorem dX6_next_9 : decode cX6_next 9 = .ok (.getfield 101, 3) := by decide +kernel
theorem dX6_next_12 : decode cX6_next 12 = .ok (.aload_n 0, 1) := by decide +kernel
theorem dX6_next_13 : decode cX6_next 13 = .ok (.getfield 44, 3) := by decide +kernel
theorem dX6_next_16 : decode cX6_next 16 = .ok (.if_icmp .ge 30, 3) := by decide +kernel
theorem dX6_next_19 : decode cX6_next 19 = .ok (.aload_n 0, 1) := by decide +kernel
theorem dX6_next_20 : decode cX6_next 20 = .ok (.getfield 35, 3) := by decide +kernel
theorem dX6_next_23 : decode cX6_next 23 = .ok (.aload_n 0, 1) := by decide +kernel
theorem dX6_next_24 : decode cX6_next 24 = .ok (.getfield 101, 3) := by decide +kernel
theorem dX6_next_27 : decode cX6_next 27 = .ok (.baload, 1) := by decide +kernel
theorem dX6_next_28 : decode cX6_next 28 = .ok (.bipush 32, 2) := by decide +kernel
theorem dX6_next_30 : decode cX6_next 30 = .ok (.if_icmp .ne 16, 3) := by decide +kernel
theorem dX6_next_33 : decode cX6_next 33 = .ok (.aload_n 0, 1) := by decide +kernel
theorem dX6_next_34 : decode cX6_next 34 = .ok (.dup, 1) := by decide +kernel
theorem dX6_next_35 : decode cX6_next 35 = .ok (.getfield 101, 3) := by decide +kernel
theorem dX6_next_38 : decode cX6_next 38 = .ok (.iconst 1, 1) := by decide +kernel
theorem dX6_next_39 : decode cX6_next 39 = .ok (.iadd, 1) := by decide +kernel
theorem dX6_next_40 : decode cX6_next 40 = .ok (.putfield 101, 3) := by decide +kernel
theorem dX6_next_43 : decode cX6_next 43 = .ok (.goto (-35), 3) := by decide +kernel
theorem dX6_next_46 : decode cX6_next 46 = .ok (.aload_n 0, 1) := by decide +kernel
theorem dX6_next_47 : decode cX6_next 47 = .ok (.aload_n 0, 1) := by decide +kernel
theorem dX6_next_48 : decode cX6_next 48 = .ok (.getfield 101, 3) := by decide +kernel
theorem dX6_next_51 : decode cX6_next 51 = .ok (.putfield 58, 3) := by decide +kernel
theorem dX6_next_54 : decode cX6_next 54 = .ok (.aload_n 0, 1) := by decide +kernel
theorem dX6_next_55 : decode cX6_next 55 = .ok (.getfield 101, 3) := by decide +kernel
theorem dX6_next_58 : decode cX6_next 58 = .ok (.aload_n 0, 1) := by decide +kernel
theorem dX6_next_59 : decode cX6_next 59 = .ok (.getfield 44, 3) := by decide +kernel
theorem dX6_next_62 : decode cX6_next 62 = .ok (.if_icmp .lt 11, 3) := by decide +kernel
theorem dX6_next_65 : decode cX6_next 65 = .ok (.aload_n 0, 1) := by decide +kernel
theorem dX6_next_66 : decode cX6_next 66 = .ok (.iconst 0, 1) := by decide +kernel
theorem dX6_next_67 : decode cX6_next 67 = .ok (.putfield 64, 3) := by decide +kernel
theorem dX6_next_70 : decode cX6_next 70 = .ok (.goto 160, 3) := by decide +kernel
theorem dX6_next_73 : decode cX6_next 73 = .ok (.aload_n 0, 1) := by decide +kernel
theorem dX6_next_74 : decode cX6_next 74 = .ok (.getfield 35, 3) := by decide +kernel
theorem dX6_next_77 : decode cX6_next 77 = .ok (.aload_n 0, 1) := by decide +kernel
theorem dX6_next_78 : decode cX6_next 78 = .ok (.getfield 101, 3) := by decide +kernel
theorem dX6_next_81 : decode cX6_next 81 = .ok (.baload, 1) := by decide +kernel
theorem dX6_next_82 : decode cX6_next 82 = .ok (.invokestatic 170, 3) := by decide +kernel
theorem dX6_next_85 : decode cX6_next 85 = .ok (.ifCond .eq 53, 3) := by decide +kernel
theorem dX6_next_88 : decode cX6_next 88 = .ok (.aload_n 0, 1) := by decide +kernel
theorem dX6_next_89 : decode cX6_next 89 = .ok (.getfield 58, 3) := by decide +kernel
theorem dX6_next_92 : decode cX6_next 92 = .ok (.aload_n 0, 1) := by decide +kernel
theorem dX6_next_93 : decode cX6_next 93 = .ok (.getfield 44, 3) := by decide +kernel
theorem dX6_next_96 : decode cX6_next 96 = .ok (.if_icmp .ge 31, 3) := by decide +kernel
theorem dX6_next_99 : decode cX6_next 99 = .ok (.aload_n 0, 1) := by decide +kernel
theorem dX6_next_100 : decode cX6_next 100 = .ok (.getfield 35, 3) := by decide +kernel
theorem dX6_next_103 : decode cX6_next 103 = .ok (.aload_n 0, 1) := by decide +kernel
theorem dX6_next_104 : decode cX6_next 104 = .ok (.getfield 58, 3) := by decide +kernel
theorem dX6_next_107 : decode cX6_next 107 = .ok (.baload, 1) := by decide +kernel
theorem dX6_next_108 : decode cX6_next 108 = .ok (.invokestatic 170, 3) := by decide +kernel
theorem dX6_next_111 : decode cX6_next 111 = .ok (.ifCond .eq 16, 3) := by decide +kernel
theorem dX6_next_114 : decode cX6_next 114 = .ok (.aload_n 0, 1) := by decide +kernel
theorem dX6_next_115 : decode cX6_next 115 = .ok (.dup, 1) := by decide +kernel
theorem dX6_next_116 : decode cX6_next 116 = .ok (.getfield 58, 3) := by decide +kernel
theorem dX6_next_119 : decode cX6_next 119 = .ok (.iconst 1, 1) := by decide +kernel
theorem dX6_next_120 : decode cX6_next 120 = .ok (.iadd, 1) := by decide +kernel
theorem dX6_next_121 : decode cX6_next 121 = .ok (.putfield 58, 3) := by decide +kernel
theorem dX6_next_124 : decode cX6_next 124 = .ok (.goto (-36), 3) := by decide +kernel
theorem dX6_next_127 : decode cX6_next 127 = .ok (.aload_n 0, 1) := by decide +kernel
theorem dX6_next_128 : decode cX6_next 128 = .ok (.aload_n 0, 1) := by decide +kernel
theorem dX6_next_129 : decode cX6_next 129 = .ok (.invokevirtual 174, 3) := by decide +kernel
theorem dX6_next_132 : decode cX6_next 132 = .ok (.putfield 64, 3) := by decide +kernel
theorem dX6_next_135 : decode cX6_next 135 = .ok (.goto 95, 3) := by decide +kernel
theorem dX6_next_138 : decode cX6_next 138 = .ok (.aload_n 0, 1) := by decide +kernel
theorem dX6_next_139 : decode cX6_next 139 = .ok (.getfield 35, 3) := by decide +kernel
theorem dX6_next_142 : decode cX6_next 142 = .ok (.aload_n 0, 1) := by decide +kernel
theorem dX6_next_143 : decode cX6_next 143 = .ok (.getfield 101, 3) := by decide +kernel
theorem dX6_next_146 : decode cX6_next 146 = .ok (.baload, 1) := by decide +kernel
theorem dX6_next_147 : decode cX6_next 147 = .ok (.invokestatic 177, 3) := by decide +kernel
theorem dX6_next_150 : decode cX6_next 150 = .ok (.ifCond .eq 47, 3) := by decide +kernel
theorem dX6_next_153 : decode cX6_next 153 = .ok (.aload_n 0, 1) := by decide +kernel
theorem dX6_next_154 : decode cX6_next 154 = .ok (.iconst 3, 1) := by decide +kernel
theorem dX6_next_155 : decode cX6_next 155 = .ok (.putfield 64, 3) := by decide +kernel
theorem dX6_next_158 : decode cX6_next 158 = .ok (.aload_n 0, 1) := by decide +kernel
theorem dX6_next_159 : decode cX6_next 159 = .ok (.getfield 58, 3) := by decide +kernel
theorem dX6_next_162 : decode cX6_next 162 = .ok (.aload_n 0, 1) := by decide +kernel
theorem dX6_next_163 : decode cX6_next 163 = .ok (.getfield 44, 3) := by decide +kernel
theorem dX6_next_166 : decode cX6_next 166 = .ok (.if_icmp .ge 64, 3) := by decide +kernel
theorem dX6_next_169 : decode cX6_next 169 = .ok (.aload_n 0, 1) := by decide +kernel
theorem dX6_next_170 : decode cX6_next 170 = .ok (.getfield 35, 3) := by decide +kernel
theorem dX6_next_173 : decode cX6_next 173 = .ok (.aload_n 0, 1) := by decide +kernel
theorem dX6_next_174 : decode cX6_next 174 = .ok (.getfield 58, 3) := by decide +kernel
theorem dX6_next_177 : decode cX6_next 177 = .ok (.baload, 1) := by decide +kernel
theorem dX6_next_178 : decode cX6_next 178 = .ok (.invokestatic 177, 3) := by decide +kernel
theorem dX6_next_181 : decode cX6_next 181 = .ok (.ifCond .eq 49, 3) := by decide +kernel
theorem dX6_next_184 : decode cX6_next 184 = .ok (.aload_n 0, 1) := by decide +kernel
theorem dX6_next_185 : decode cX6_next 185 = .ok (.dup, 1) := by decide +kernel
theorem dX6_next_186 : decode cX6_next 186 = .ok (.getfield 58, 3) := by decide +kernel
theorem dX6_next_189 : decode cX6_next 189 = .ok (.iconst 1, 1) := by decide +kernel
theorem dX6_next_190 : decode cX6_next 190 = .ok (.iadd, 1) := by decide +kernel
theorem dX6_next_191 : decode cX6_next 191 = .ok (.putfield 58, 3) := by decide +kernel
theorem dX6_next_194 : decode cX6_next 194 = .ok (.goto (-36), 3) := by decide +kernel
theorem dX6_next_197 : decode cX6_next 197 = .ok (.aload_n 0, 1) := by decide +kernel
theorem dX6_next_198 : decode cX6_next 198 = .ok (.aload_n 0, 1) := by decide +kernel
theorem dX6_next_199 : decode cX6_next 199 = .ok (.getfield 35, 3) := by decide +kernel
theorem dX6_next_202 : decode cX6_next 202 = .ok (.aload_n 0, 1) := by decide +kernel
theorem dX6_next_203 : decode cX6_next 203 = .ok (.getfield 101, 3) := by decide +kernel
theorem dX6_next_206 : decode cX6_next 206 = .ok (.baload, 1) := by decide +kernel
theorem dX6_next_207 : decode cX6_next 207 = .ok (.bipush 59, 2) := by decide +kernel
theorem dX6_next_209 : decode cX6_next 209 = .ok (.if_icmp .ne 7, 3) := by decide +kernel
theorem dX6_next_212 : decode cX6_next 212 = .ok (.iconst 2, 1) := by decide +kernel
theorem dX6_next_213 : decode cX6_next 213 = .ok (.goto 4, 3) := by decide +kernel
theorem dX6_next_216 : decode cX6_next 216 = .ok (.iconst 1, 1) := by decide +kernel
theorem dX6_next_217 : decode cX6_next 217 = .ok (.putfield 64, 3) := by decide +kernel
theorem dX6_next_220 : decode cX6_next 220 = .ok (.aload_n 0, 1) := by decide +kernel
theorem dX6_next_221 : decode cX6_next 221 = .ok (.dup, 1) := by decide +kernel
theorem dX6_next_222 : decode cX6_next 222 = .ok (.getfield 58, 3) := by decide +kernel
theorem dX6_next_225 : decode cX6_next 225 = .ok (.iconst 1, 1) := by decide +kernel
theorem dX6_next_226 : decode cX6_next 226 = .ok (.iadd, 1) := by decide +kernel
theorem dX6_next_227 : decode cX6_next 227 = .ok (.putfield 58, 3) := by decide +kernel
theorem dX6_next_230 : decode cX6_next 230 = .ok (.return_, 1) := by decide +kernel
theorem dX6_numberWithin_0 : decode cX6_numberWithin 0 = .ok (.aload_n 0, 1) := by decide +kernel
theorem dX6_numberWithin_1 : decode cX6_numberWithin 1 = .ok (.getfield 64, 3) := by decide +kernel
theorem dX6_numberWithin_4 : decode cX6_numberWithin 4 = .ok (.iconst 3, 1) := by decide +kernel
theorem dX6_numberWithin_5 : decode cX6_numberWithin 5 = .ok (.if_icmp .eq 10, 3) := by decide +kernel
theorem dX6_numberWithin_8 : decode cX6_numberWithin 8 = .ok (.aload_n 0, 1) := by decide +kernel
theorem dX6_numberWithin_9 : decode cX6_numberWithin 9 = .ok (.iconst 1, 1) := by decide +kernel
theorem dX6_numberWithin_10 : decode cX6_numberWithin 10 = .ok (.invokevirtual 88, 3) := by decide +kernel
theorem dX6_numberWithin_13 : decode cX6_numberWithin 13 = .ok (.iconst 0, 1) := by decide +kernel
theorem dX6_numberWithin_14 : decode cX6_numberWithin 14 = .ok (.ireturn, 1) := by decide +kernel
theorem dX6_numberWithin_15 : decode cX6_numberWithin 15 = .ok (.aload_n 0, 1) := by decide +kernel
theorem dX6_numberWithin_16 : decode cX6_numberWithin 16 = .ok (.getfield 58, 3) := by decide +kernel
theorem dX6_numberWithin_19 : decode cX6_numberWithin 19 = .ok (.aload_n 0, 1) := by decide +kernel
theorem dX6_numberWithin_20 : decode cX6_numberWithin 20 = .ok (.getfield 101, 3) := by decide +kernel
theorem dX6_numberWithin_23 : decode cX6_numberWithin 23 = .ok (.isub, 1) := by decide +kernel
theorem dX6_numberWithin_24 : decode cX6_numberWithin 24 = .ok (.bipush 8, 2) := by decide +kernel
theorem dX6_numberWithin_26 : decode cX6_numberWithin 26 = .ok (.if_icmp .le 10, 3) := by decide +kernel
theorem dX6_numberWithin_29 : decode cX6_numberWithin 29 = .ok (.aload_n 0, 1) := by decide +kernel
theorem dX6_numberWithin_30 : decode cX6_numberWithin 30 = .ok (.iconst 2, 1) := by decide +kernel
theorem dX6_numberWithin_31 : decode cX6_numberWithin 31 = .ok (.invokevirtual 88, 3) := by decide +kernel
theorem dX6_numberWithin_34 : decode cX6_numberWithin 34 = .ok (.iconst 0, 1) := by decide +kernel
theorem dX6_numberWithin_35 : decode cX6_numberWithin 35 = .ok (.ireturn, 1) := by decide +kernel
theorem dX6_numberWithin_36 : decode cX6_numberWithin 36 = .ok (.iconst 0, 1) := by decide +kernel
theorem dX6_numberWithin_37 : decode cX6_numberWithin 37 = .ok (.istore_n 3, 1) := by decide +kernel
theorem dX6_numberWithin_38 : decode cX6_numberWithin 38 = .ok (.aload_n 0, 1) := by decide +kernel
theorem dX6_numberWithin_39 : decode cX6_numberWithin 39 = .ok (.getfield 101, 3) := by decide +kernel
theorem dX6_numberWithin_42 : decode cX6_numberWithin 42 = .ok (.istore 4, 2) := by decide +kernel
theorem dX6_numberWithin_44 : decode cX6_numberWithin 44 = .ok (.iload 4, 2) := by decide +kernel
theorem dX6_numberWithin_46 : decode cX6_numberWithin 46 = .ok (.aload_n 0, 1) := by decide +kernel
theorem dX6_numberWithin_47 : decode cX6_numberWithin 47 = .ok (.getfield 58, 3) := by decide +kernel
theorem dX6_numberWithin_50 : decode cX6_numberWithin 50 = .ok (.if_icmp .ge 25, 3) := by decide +kernel
theorem dX6_numberWithin_53 : decode cX6_numberWithin 53 = .ok (.iload_n 3, 1) := by decide +kernel
theorem dX6_numberWithin_54 : decode cX6_numberWithin 54 = .ok (.bipush 10, 2) := by decide +kernel
theorem dX6_numberWithin_56 : decode cX6_numberWithin 56 = .ok (.imul, 1) := by decide +kernel
theorem dX6_numberWithin_57 : decode cX6_numberWithin 57 = .ok (.aload_n 0, 1) := by decide +kernel
theorem dX6_numberWithin_58 : decode cX6_numberWithin 58 = .ok (.getfield 35, 3) := by decide +kernel
theorem dX6_numberWithin_61 : decode cX6_numberWithin 61 = .ok (.iload 4, 2) := by decide +kernel
theorem dX6_numberWithin_63 : decode cX6_numberWithin 63 = .ok (.baload, 1) := by decide +kernel
theorem dX6_numberWithin_64 : decode cX6_numberWithin 64 = .ok (.bipush 48, 2) := by decide +kernel
theorem dX6_numberWithin_66 : decode cX6_numberWithin 66 = .ok (.isub, 1) := by decide +kernel
theorem dX6_numberWithin_67 : decode cX6_numberWithin 67 = .ok (.iadd, 1) := by decide +kernel
theorem dX6_numberWithin_68 : decode cX6_numberWithin 68 = .ok (.istore_n 3, 1) := by decide +kernel
theorem dX6_numberWithin_69 : decode cX6_numberWithin 69 = .ok (.iinc 4 1, 3) := by decide +kernel
theorem dX6_numberWithin_72 : decode cX6_numberWithin 72 = .ok (.goto (-28), 3) := by decide +kernel
theorem dX6_numberWithin_75 : decode cX6_numberWithin 75 = .ok (.iload_n 3, 1) := by decide +kernel
theorem dX6_numberWithin_76 : decode cX6_numberWithin 76 = .ok (.iload_n 1, 1) := by decide +kernel
theorem dX6_numberWithin_77 : decode cX6_numberWithin 77 = .ok (.if_icmp .lt 8, 3) := by decide +kernel
theorem dX6_numberWithin_80 : decode cX6_numberWithin 80 = .ok (.iload_n 3, 1) := by decide +kernel
theorem dX6_numberWithin_81 : decode cX6_numberWithin 81 = .ok (.iload_n 2, 1) := by decide +kernel
theorem dX6_numberWithin_82 : decode cX6_numberWithin 82 = .ok (.if_icmp .le 8, 3) := by decide +kernel
theorem dX6_numberWithin_85 : decode cX6_numberWithin 85 = .ok (.aload_n 0, 1) := by decide +kernel
theorem dX6_numberWithin_86 : decode cX6_numberWithin 86 = .ok (.iconst 2, 1) := by decide +kernel
theorem dX6_numberWithin_87 : decode cX6_numberWithin 87 = .ok (.invokevirtual 88, 3) := by decide +kernel
theorem dX6_numberWithin_90 : decode cX6_numberWithin 90 = .ok (.iload_n 3, 1) := by decide +kernel
theorem dX6_numberWithin_91 : decode cX6_numberWithin 91 = .ok (.ireturn, 1) := by decide +kernel
theorem dX6_partyHere_0 : decode cX6_partyHere 0 = .ok (.aload_n 0, 1) := by decide +kernel
theorem dX6_partyHere_1 : decode cX6_partyHere 1 = .ok (.getfield 18, 3) := by decide +kernel
theorem dX6_partyHere_4 : decode cX6_partyHere 4 = .ok (.iconst 0, 1) := by decide +kernel
theorem dX6_partyHere_5 : decode cX6_partyHere 5 = .ok (.aload_n 0, 1) := by decide +kernel
theorem dX6_partyHere_6 : decode cX6_partyHere 6 = .ok (.getfield 18, 3) := by decide +kernel
theorem dX6_partyHere_9 : decode cX6_partyHere 9 = .ok (.getfield 95, 3) := by decide +kernel
theorem dX6_partyHere_12 : decode cX6_partyHere 12 = .ok (.aload_n 0, 1) := by decide +kernel
theorem dX6_partyHere_13 : decode cX6_partyHere 13 = .ok (.getfield 35, 3) := by decide +kernel
theorem dX6_partyHere_16 : decode cX6_partyHere 16 = .ok (.aload_n 0, 1) := by decide +kernel
theorem dX6_partyHere_17 : decode cX6_partyHere 17 = .ok (.getfield 101, 3) := by decide +kernel
theorem dX6_partyHere_20 : decode cX6_partyHere 20 = .ok (.aload_n 0, 1) := by decide +kernel
theorem dX6_partyHere_21 : decode cX6_partyHere 21 = .ok (.getfield 58, 3) := by decide +kernel
theorem dX6_partyHere_24 : decode cX6_partyHere 24 = .ok (.aload_n 0, 1) := by decide +kernel
theorem dX6_partyHere_25 : decode cX6_partyHere 25 = .ok (.getfield 101, 3) := by decide +kernel
theorem dX6_partyHere_28 : decode cX6_partyHere 28 = .ok (.isub, 1) := by decide +kernel
theorem dX6_partyHere_29 : decode cX6_partyHere 29 = .ok (.invokevirtual 157, 3) := by decide +kernel
theorem dX6_partyHere_32 : decode cX6_partyHere 32 = .ok (.ireturn, 1) := by decide +kernel
theorem dX6_read_0 : decode cX6_read 0 = .ok (.aload_n 0, 1) := by decide +kernel
theorem dX6_read_1 : decode cX6_read 1 = .ok (.iload_n 1, 1) := by decide +kernel
theorem dX6_read_2 : decode cX6_read 2 = .ok (.aload_n 0, 1) := by decide +kernel
theorem dX6_read_3 : decode cX6_read 3 = .ok (.getfield 35, 3) := by decide +kernel
theorem dX6_read_6 : decode cX6_read 6 = .ok (.arraylength, 1) := by decide +kernel
theorem dX6_read_7 : decode cX6_read 7 = .ok (.invokestatic 38, 3) := by decide +kernel
theorem dX6_read_10 : decode cX6_read 10 = .ok (.putfield 44, 3) := by decide +kernel
theorem dX6_read_13 : decode cX6_read 13 = .ok (.aload_n 0, 1) := by decide +kernel
theorem dX6_read_14 : decode cX6_read 14 = .ok (.getfield 18, 3) := by decide +kernel
theorem dX6_read_17 : decode cX6_read 17 = .ok (.invokevirtual 47, 3) := by decide +kernel
theorem dX6_read_20 : decode cX6_read 20 = .ok (.aload_n 0, 1) := by decide +kernel
theorem dX6_read_21 : decode cX6_read 21 = .ok (.getfield 25, 3) := by decide +kernel
theorem dX6_read_24 : decode cX6_read 24 = .ok (.invokevirtual 50, 3) := by decide +kernel
theorem dX6_read_27 : decode cX6_read 27 = .ok (.aload_n 0, 1) := by decide +kernel
theorem dX6_read_28 : decode cX6_read 28 = .ok (.iconst 0, 1) := by decide +kernel
theorem dX6_read_29 : decode cX6_read 29 = .ok (.putfield 51, 3) := by decide +kernel
theorem dX6_read_32 : decode cX6_read 32 = .ok (.aload_n 0, 1) := by decide +kernel
theorem dX6_read_33 : decode cX6_read 33 = .ok (.iconst 0, 1) := by decide +kernel
theorem dX6_read_34 : decode cX6_read 34 = .ok (.putfield 55, 3) := by decide +kernel
theorem dX6_read_37 : decode cX6_read 37 = .ok (.aload_n 0, 1) := by decide +kernel
theorem dX6_read_38 : decode cX6_read 38 = .ok (.iconst (-1), 1) := by decide +kernel
theorem dX6_read_39 : decode cX6_read 39 = .ok (.putfield 9, 3) := by decide +kernel
theorem dX6_read_42 : decode cX6_read 42 = .ok (.aload_n 0, 1) := by decide +kernel
theorem dX6_read_43 : decode cX6_read 43 = .ok (.iconst 0, 1) := by decide +kernel
theorem dX6_read_44 : decode cX6_read 44 = .ok (.putfield 58, 3) := by decide +kernel
theorem dX6_read_47 : decode cX6_read 47 = .ok (.aload_n 0, 1) := by decide +kernel
theorem dX6_read_48 : decode cX6_read 48 = .ok (.invokevirtual 61, 3) := by decide +kernel
theorem dX6_read_51 : decode cX6_read 51 = .ok (.iconst 0, 1) := by decide +kernel
theorem dX6_read_52 : decode cX6_read 52 = .ok (.istore_n 2, 1) := by decide +kernel
theorem dX6_read_53 : decode cX6_read 53 = .ok (.iload_n 2, 1) := by decide +kernel
theorem dX6_read_54 : decode cX6_read 54 = .ok (.sipush 900, 3) := by decide +kernel
theorem dX6_read_57 : decode cX6_read 57 = .ok (.if_icmp .ge 27, 3) := by decide +kernel
theorem dX6_read_60 : decode cX6_read 60 = .ok (.aload_n 0, 1) := by decide +kernel
theorem dX6_read_61 : decode cX6_read 61 = .ok (.getfield 55, 3) := by decide +kernel
theorem dX6_read_64 : decode cX6_read 64 = .ok (.ifCond .ne 20, 3) := by decide +kernel
theorem dX6_read_67 : decode cX6_read 67 = .ok (.aload_n 0, 1) := by decide +kernel
theorem dX6_read_68 : decode cX6_read 68 = .ok (.getfield 64, 3) := by decide +kernel
theorem dX6_read_71 : decode cX6_read 71 = .ok (.ifCond .eq 13, 3) := by decide +kernel
theorem dX6_read_74 : decode cX6_read 74 = .ok (.aload_n 0, 1) := by decide +kernel
theorem dX6_read_75 : decode cX6_read 75 = .ok (.invokevirtual 67, 3) := by decide +kernel
theorem dX6_read_78 : decode cX6_read 78 = .ok (.iinc 2 1, 3) := by decide +kernel
theorem dX6_read_81 : decode cX6_read 81 = .ok (.goto (-28), 3) := by decide +kernel
theorem dX6_read_84 : decode cX6_read 84 = .ok (.return_, 1) := by decide +kernel
theorem dX6_readCap_0 : decode cX6_readCap 0 = .ok (.aload_n 0, 1) := by decide +kernel
theorem dX6_readCap_1 : decode cX6_readCap 1 = .ok (.invokevirtual 61, 3) := by decide +kernel
theorem dX6_readCap_4 : decode cX6_readCap 4 = .ok (.aload_n 0, 1) := by decide +kernel
theorem dX6_readCap_5 : decode cX6_readCap 5 = .ok (.invokevirtual 117, 3) := by decide +kernel
theorem dX6_readCap_8 : decode cX6_readCap 8 = .ok (.istore_n 1, 1) := by decide +kernel
theorem dX6_readCap_9 : decode cX6_readCap 9 = .ok (.aload_n 0, 1) := by decide +kernel
theorem dX6_readCap_10 : decode cX6_readCap 10 = .ok (.invokevirtual 61, 3) := by decide +kernel
theorem dX6_readCap_13 : decode cX6_readCap 13 = .ok (.aload_n 0, 1) := by decide +kernel
theorem dX6_readCap_14 : decode cX6_readCap 14 = .ok (.invokevirtual 117, 3) := by decide +kernel
theorem dX6_readCap_17 : decode cX6_readCap 17 = .ok (.istore_n 2, 1) := by decide +kernel
theorem dX6_readCap_18 : decode cX6_readCap 18 = .ok (.aload_n 0, 1) := by decide +kernel
theorem dX6_readCap_19 : decode cX6_readCap 19 = .ok (.iload_n 1, 1) := by decide +kernel
theorem dX6_readCap_20 : decode cX6_readCap 20 = .ok (.iload_n 2, 1) := by decide +kernel
theorem dX6_readCap_21 : decode cX6_readCap 21 = .ok (.invokevirtual 121, 3) := by decide +kernel
theorem dX6_readCap_24 : decode cX6_readCap 24 = .ok (.aload_n 0, 1) := by decide +kernel
theorem dX6_readCap_25 : decode cX6_readCap 25 = .ok (.invokevirtual 61, 3) := by decide +kernel
theorem dX6_readCap_28 : decode cX6_readCap 28 = .ok (.aload_n 0, 1) := by decide +kernel
theorem dX6_readCap_29 : decode cX6_readCap 29 = .ok (.iconst 0, 1) := by decide +kernel
theorem dX6_readCap_30 : decode cX6_readCap 30 = .ok (.ldc 140, 2) := by decide +kernel
theorem dX6_readCap_32 : decode cX6_readCap 32 = .ok (.invokevirtual 126, 3) := by decide +kernel
theorem dX6_readCap_35 : decode cX6_readCap 35 = .ok (.istore_n 3, 1) := by decide +kernel
theorem dX6_readCap_36 : decode cX6_readCap 36 = .ok (.aload_n 0, 1) := by decide +kernel
theorem dX6_readCap_37 : decode cX6_readCap 37 = .ok (.getfield 55, 3) := by decide +kernel
theorem dX6_readCap_40 : decode cX6_readCap 40 = .ok (.ifCond .ne 17, 3) := by decide +kernel
theorem dX6_readCap_43 : decode cX6_readCap 43 = .ok (.aload_n 0, 1) := by decide +kernel
theorem dX6_readCap_44 : decode cX6_readCap 44 = .ok (.getfield 25, 3) := by decide +kernel
theorem dX6_readCap_47 : decode cX6_readCap 47 = .ok (.getfield 141, 3) := by decide +kernel
theorem dX6_readCap_50 : decode cX6_readCap 50 = .ok (.iload_n 1, 1) := by decide +kernel
theorem dX6_readCap_51 : decode cX6_readCap 51 = .ok (.iload_n 2, 1) := by decide +kernel
theorem dX6_readCap_52 : decode cX6_readCap 52 = .ok (.invokestatic 145, 3) := by decide +kernel
theorem dX6_readCap_55 : decode cX6_readCap 55 = .ok (.iload_n 3, 1) := by decide +kernel
theorem dX6_readCap_56 : decode cX6_readCap 56 = .ok (.iastore, 1) := by decide +kernel
theorem dX6_readCap_57 : decode cX6_readCap 57 = .ok (.aload_n 0, 1) := by decide +kernel
theorem dX6_readCap_58 : decode cX6_readCap 58 = .ok (.invokevirtual 61, 3) := by decide +kernel
theorem dX6_readCap_61 : decode cX6_readCap 61 = .ok (.return_, 1) := by decide +kernel
theorem dX6_readKeep_0 : decode cX6_readKeep 0 = .ok (.aload_n 0, 1) := by decide +kernel
theorem dX6_readKeep_1 : decode cX6_readKeep 1 = .ok (.invokevirtual 61, 3) := by decide +kernel
theorem dX6_readKeep_4 : decode cX6_readKeep 4 = .ok (.aload_n 0, 1) := by decide +kernel
theorem dX6_readKeep_5 : decode cX6_readKeep 5 = .ok (.iconst 0, 1) := by decide +kernel
theorem dX6_readKeep_6 : decode cX6_readKeep 6 = .ok (.aload_n 0, 1) := by decide +kernel
theorem dX6_readKeep_7 : decode cX6_readKeep 7 = .ok (.getfield 25, 3) := by decide +kernel
theorem dX6_readKeep_10 : decode cX6_readKeep 10 = .ok (.getfield 114, 3) := by decide +kernel
theorem dX6_readKeep_13 : decode cX6_readKeep 13 = .ok (.iconst 1, 1) := by decide +kernel
theorem dX6_readKeep_14 : decode cX6_readKeep 14 = .ok (.isub, 1) := by decide +kernel
theorem dX6_readKeep_15 : decode cX6_readKeep 15 = .ok (.invokevirtual 126, 3) := by decide +kernel
theorem dX6_readKeep_18 : decode cX6_readKeep 18 = .ok (.istore_n 1, 1) := by decide +kernel
theorem dX6_readKeep_19 : decode cX6_readKeep 19 = .ok (.aload_n 0, 1) := by decide +kernel
theorem dX6_readKeep_20 : decode cX6_readKeep 20 = .ok (.getfield 55, 3) := by decide +kernel
theorem dX6_readKeep_23 : decode cX6_readKeep 23 = .ok (.ifCond .ne 20, 3) := by decide +kernel
theorem dX6_readKeep_26 : decode cX6_readKeep 26 = .ok (.aload_n 0, 1) := by decide +kernel
theorem dX6_readKeep_27 : decode cX6_readKeep 27 = .ok (.getfield 25, 3) := by decide +kernel
theorem dX6_readKeep_30 : decode cX6_readKeep 30 = .ok (.getfield 136, 3) := by decide +kernel
theorem dX6_readKeep_33 : decode cX6_readKeep 33 = .ok (.iload_n 1, 1) := by decide +kernel
theorem dX6_readKeep_34 : decode cX6_readKeep 34 = .ok (.baload, 1) := by decide +kernel
theorem dX6_readKeep_35 : decode cX6_readKeep 35 = .ok (.ifCond .eq 8, 3) := by decide +kernel
theorem dX6_readKeep_38 : decode cX6_readKeep 38 = .ok (.aload_n 0, 1) := by decide +kernel
theorem dX6_readKeep_39 : decode cX6_readKeep 39 = .ok (.iconst 5, 1) := by decide +kernel
theorem dX6_readKeep_40 : decode cX6_readKeep 40 = .ok (.invokevirtual 88, 3) := by decide +kernel
theorem dX6_readKeep_43 : decode cX6_readKeep 43 = .ok (.aload_n 0, 1) := by decide +kernel
theorem dX6_readKeep_44 : decode cX6_readKeep 44 = .ok (.getfield 55, 3) := by decide +kernel
theorem dX6_readKeep_47 : decode cX6_readKeep 47 = .ok (.ifCond .ne 13, 3) := by decide +kernel
theorem dX6_readKeep_50 : decode cX6_readKeep 50 = .ok (.aload_n 0, 1) := by decide +kernel
theorem dX6_readKeep_51 : decode cX6_readKeep 51 = .ok (.getfield 25, 3) := by decide +kernel
theorem dX6_readKeep_54 : decode cX6_readKeep 54 = .ok (.getfield 136, 3) := by decide +kernel
theorem dX6_readKeep_57 : decode cX6_readKeep 57 = .ok (.iload_n 1, 1) := by decide +kernel
theorem dX6_readKeep_58 : decode cX6_readKeep 58 = .ok (.iconst 1, 1) := by decide +kernel
theorem dX6_readKeep_59 : decode cX6_readKeep 59 = .ok (.bastore, 1) := by decide +kernel
theorem dX6_readKeep_60 : decode cX6_readKeep 60 = .ok (.aload_n 0, 1) := by decide +kernel
theorem dX6_readKeep_61 : decode cX6_readKeep 61 = .ok (.invokevirtual 61, 3) := by decide +kernel
theorem dX6_readKeep_64 : decode cX6_readKeep 64 = .ok (.return_, 1) := by decide +kernel
theorem dX6_readKind_0 : decode cX6_readKind 0 = .ok (.aload_n 0, 1) := by decide +kernel
theorem dX6_readKind_1 : decode cX6_readKind 1 = .ok (.getfield 18, 3) := by decide +kernel
theorem dX6_readKind_4 : decode cX6_readKind 4 = .ok (.getfield 108, 3) := by decide +kernel
theorem dX6_readKind_7 : decode cX6_readKind 7 = .ok (.iconst 4, 1) := by decide +kernel
theorem dX6_readKind_8 : decode cX6_readKind 8 = .ok (.if_icmp .lt 8, 3) := by decide +kernel
theorem dX6_readKind_11 : decode cX6_readKind 11 = .ok (.aload_n 0, 1) := by decide +kernel
theorem dX6_readKind_12 : decode cX6_readKind 12 = .ok (.iconst 4, 1) := by decide +kernel
theorem dX6_readKind_13 : decode cX6_readKind 13 = .ok (.invokevirtual 88, 3) := by decide +kernel
theorem dX6_readKind_16 : decode cX6_readKind 16 = .ok (.aload_n 0, 1) := by decide +kernel
theorem dX6_readKind_17 : decode cX6_readKind 17 = .ok (.invokevirtual 61, 3) := by decide +kernel
theorem dX6_readKind_20 : decode cX6_readKind 20 = .ok (.aload_n 0, 1) := by decide +kernel
theorem dX6_readKind_21 : decode cX6_readKind 21 = .ok (.invokevirtual 98, 3) := by decide +kernel
theorem dX6_readKind_24 : decode cX6_readKind 24 = .ok (.aload_n 0, 1) := by decide +kernel
theorem dX6_readKind_25 : decode cX6_readKind 25 = .ok (.getfield 55, 3) := by decide +kernel
theorem dX6_readKind_28 : decode cX6_readKind 28 = .ok (.ifCond .ne 27, 3) := by decide +kernel
theorem dX6_readKind_31 : decode cX6_readKind 31 = .ok (.aload_n 0, 1) := by decide +kernel
theorem dX6_readKind_32 : decode cX6_readKind 32 = .ok (.getfield 18, 3) := by decide +kernel
theorem dX6_readKind_35 : decode cX6_readKind 35 = .ok (.aload_n 0, 1) := by decide +kernel
theorem dX6_readKind_36 : decode cX6_readKind 36 = .ok (.getfield 35, 3) := by decide +kernel
theorem dX6_readKind_39 : decode cX6_readKind 39 = .ok (.aload_n 0, 1) := by decide +kernel
theorem dX6_readKind_40 : decode cX6_readKind 40 = .ok (.getfield 101, 3) := by decide +kernel
theorem dX6_readKind_43 : decode cX6_readKind 43 = .ok (.aload_n 0, 1) := by decide +kernel
theorem dX6_readKind_44 : decode cX6_readKind 44 = .ok (.getfield 58, 3) := by decide +kernel
theorem dX6_readKind_47 : decode cX6_readKind 47 = .ok (.aload_n 0, 1) := by decide +kernel
theorem dX6_readKind_48 : decode cX6_readKind 48 = .ok (.getfield 101, 3) := by decide +kernel
theorem dX6_readKind_51 : decode cX6_readKind 51 = .ok (.isub, 1) := by decide +kernel
theorem dX6_readKind_52 : decode cX6_readKind 52 = .ok (.invokevirtual 111, 3) := by decide +kernel
theorem dX6_readKind_55 : decode cX6_readKind 55 = .ok (.aload_n 0, 1) := by decide +kernel
theorem dX6_readKind_56 : decode cX6_readKind 56 = .ok (.invokevirtual 61, 3) := by decide +kernel
theorem dX6_readKind_59 : decode cX6_readKind 59 = .ok (.return_, 1) := by decide +kernel
theorem dX6_readLine_0 : decode cX6_readLine 0 = .ok (.aload_n 0, 1) := by decide +kernel
theorem dX6_readLine_1 : decode cX6_readLine 1 = .ok (.getfield 64, 3) := by decide +kernel
theorem dX6_readLine_4 : decode cX6_readLine 4 = .ok (.tableswitch 82 5 10 #[40, 47, 54, 61, 68, 75], 40) := by decide +kernel
theorem dX6_readLine_44 : decode cX6_readLine 44 = .ok (.aload_n 0, 1) := by decide +kernel
theorem dX6_readLine_45 : decode cX6_readLine 45 = .ok (.invokevirtual 70, 3) := by decide +kernel
theorem dX6_readLine_48 : decode cX6_readLine 48 = .ok (.goto 43, 3) := by decide +kernel
theorem dX6_readLine_51 : decode cX6_readLine 51 = .ok (.aload_n 0, 1) := by decide +kernel
theorem dX6_readLine_52 : decode cX6_readLine 52 = .ok (.invokevirtual 73, 3) := by decide +kernel
theorem dX6_readLine_55 : decode cX6_readLine 55 = .ok (.goto 36, 3) := by decide +kernel
theorem dX6_readLine_58 : decode cX6_readLine 58 = .ok (.aload_n 0, 1) := by decide +kernel
theorem dX6_readLine_59 : decode cX6_readLine 59 = .ok (.invokevirtual 76, 3) := by decide +kernel
theorem dX6_readLine_62 : decode cX6_readLine 62 = .ok (.goto 29, 3) := by decide +kernel
theorem dX6_readLine_65 : decode cX6_readLine 65 = .ok (.aload_n 0, 1) := by decide +kernel
theorem dX6_readLine_66 : decode cX6_readLine 66 = .ok (.invokevirtual 79, 3) := by decide +kernel
theorem dX6_readLine_69 : decode cX6_readLine 69 = .ok (.goto 22, 3) := by decide +kernel
theorem dX6_readLine_72 : decode cX6_readLine 72 = .ok (.aload_n 0, 1) := by decide +kernel
theorem dX6_readLine_73 : decode cX6_readLine 73 = .ok (.invokevirtual 82, 3) := by decide +kernel
theorem dX6_readLine_76 : decode cX6_readLine 76 = .ok (.goto 15, 3) := by decide +kernel
theorem dX6_readLine_79 : decode cX6_readLine 79 = .ok (.aload_n 0, 1) := by decide +kernel
theorem dX6_readLine_80 : decode cX6_readLine 80 = .ok (.invokevirtual 85, 3) := by decide +kernel
theorem dX6_readLine_83 : decode cX6_readLine 83 = .ok (.goto 8, 3) := by decide +kernel
theorem dX6_readLine_86 : decode cX6_readLine 86 = .ok (.aload_n 0, 1) := by decide +kernel
theorem dX6_readLine_87 : decode cX6_readLine 87 = .ok (.iconst 1, 1) := by decide +kernel
theorem dX6_readLine_88 : decode cX6_readLine 88 = .ok (.invokevirtual 88, 3) := by decide +kernel
theorem dX6_readLine_91 : decode cX6_readLine 91 = .ok (.aload_n 0, 1) := by decide +kernel
theorem dX6_readLine_92 : decode cX6_readLine 92 = .ok (.invokevirtual 92, 3) := by decide +kernel
theorem dX6_readLine_95 : decode cX6_readLine 95 = .ok (.return_, 1) := by decide +kernel
theorem dX6_readMode_0 : decode cX6_readMode 0 = .ok (.aload_n 0, 1) := by decide +kernel
theorem dX6_readMode_1 : decode cX6_readMode 1 = .ok (.getfield 51, 3) := by decide +kernel
theorem dX6_readMode_4 : decode cX6_readMode 4 = .ok (.ifCond .eq 8, 3) := by decide +kernel
theorem dX6_readMode_7 : decode cX6_readMode 7 = .ok (.aload_n 0, 1) := by decide +kernel
theorem dX6_readMode_8 : decode cX6_readMode 8 = .ok (.iconst 1, 1) := by decide +kernel
theorem dX6_readMode_9 : decode cX6_readMode 9 = .ok (.invokevirtual 88, 3) := by decide +kernel
theorem dX6_readMode_12 : decode cX6_readMode 12 = .ok (.aload_n 0, 1) := by decide +kernel
theorem dX6_readMode_13 : decode cX6_readMode 13 = .ok (.iconst 1, 1) := by decide +kernel
theorem dX6_readMode_14 : decode cX6_readMode 14 = .ok (.putfield 51, 3) := by decide +kernel
theorem dX6_readMode_17 : decode cX6_readMode 17 = .ok (.aload_n 0, 1) := by decide +kernel
theorem dX6_readMode_18 : decode cX6_readMode 18 = .ok (.invokevirtual 61, 3) := by decide +kernel
theorem dX6_readMode_21 : decode cX6_readMode 21 = .ok (.aload_n 0, 1) := by decide +kernel
theorem dX6_readMode_22 : decode cX6_readMode 22 = .ok (.iconst 0, 1) := by decide +kernel
theorem dX6_readMode_23 : decode cX6_readMode 23 = .ok (.iconst 3, 1) := by decide +kernel
theorem dX6_readMode_24 : decode cX6_readMode 24 = .ok (.invokevirtual 126, 3) := by decide +kernel
theorem dX6_readMode_27 : decode cX6_readMode 27 = .ok (.istore_n 1, 1) := by decide +kernel
theorem dX6_readMode_28 : decode cX6_readMode 28 = .ok (.aload_n 0, 1) := by decide +kernel
theorem dX6_readMode_29 : decode cX6_readMode 29 = .ok (.getfield 55, 3) := by decide +kernel
theorem dX6_readMode_32 : decode cX6_readMode 32 = .ok (.ifCond .ne 11, 3) := by decide +kernel
theorem dX6_readMode_35 : decode cX6_readMode 35 = .ok (.aload_n 0, 1) := by decide +kernel
theorem dX6_readMode_36 : decode cX6_readMode 36 = .ok (.getfield 25, 3) := by decide +kernel
theorem dX6_readMode_39 : decode cX6_readMode 39 = .ok (.iload_n 1, 1) := by decide +kernel
theorem dX6_readMode_40 : decode cX6_readMode 40 = .ok (.putfield 148, 3) := by decide +kernel
theorem dX6_readMode_43 : decode cX6_readMode 43 = .ok (.aload_n 0, 1) := by decide +kernel
theorem dX6_readMode_44 : decode cX6_readMode 44 = .ok (.invokevirtual 61, 3) := by decide +kernel
theorem dX6_readMode_47 : decode cX6_readMode 47 = .ok (.return_, 1) := by decide +kernel
theorem dX6_readParty_0 : decode cX6_readParty 0 = .ok (.aload_n 0, 1) := by decide +kernel
theorem dX6_readParty_1 : decode cX6_readParty 1 = .ok (.getfield 18, 3) := by decide +kernel
theorem dX6_readParty_4 : decode cX6_readParty 4 = .ok (.getfield 95, 3) := by decide +kernel
theorem dX6_readParty_7 : decode cX6_readParty 7 = .ok (.bipush 8, 2) := by decide +kernel
theorem dX6_readParty_9 : decode cX6_readParty 9 = .ok (.if_icmp .lt 8, 3) := by decide +kernel
theorem dX6_readParty_12 : decode cX6_readParty 12 = .ok (.aload_n 0, 1) := by decide +kernel
theorem dX6_readParty_13 : decode cX6_readParty 13 = .ok (.iconst 4, 1) := by decide +kernel
theorem dX6_readParty_14 : decode cX6_readParty 14 = .ok (.invokevirtual 88, 3) := by decide +kernel
theorem dX6_readParty_17 : decode cX6_readParty 17 = .ok (.aload_n 0, 1) := by decide +kernel
theorem dX6_readParty_18 : decode cX6_readParty 18 = .ok (.invokevirtual 61, 3) := by decide +kernel
theorem dX6_readParty_21 : decode cX6_readParty 21 = .ok (.aload_n 0, 1) := by decide +kernel
theorem dX6_readParty_22 : decode cX6_readParty 22 = .ok (.invokevirtual 98, 3) := by decide +kernel
theorem dX6_readParty_25 : decode cX6_readParty 25 = .ok (.aload_n 0, 1) := by decide +kernel
theorem dX6_readParty_26 : decode cX6_readParty 26 = .ok (.getfield 55, 3) := by decide +kernel
theorem dX6_readParty_29 : decode cX6_readParty 29 = .ok (.ifCond .ne 27, 3) := by decide +kernel
theorem dX6_readParty_32 : decode cX6_readParty 32 = .ok (.aload_n 0, 1) := by decide +kernel
theorem dX6_readParty_33 : decode cX6_readParty 33 = .ok (.getfield 18, 3) := by decide +kernel
theorem dX6_readParty_36 : decode cX6_readParty 36 = .ok (.aload_n 0, 1) := by decide +kernel
theorem dX6_readParty_37 : decode cX6_readParty 37 = .ok (.getfield 35, 3) := by decide +kernel
theorem dX6_readParty_40 : decode cX6_readParty 40 = .ok (.aload_n 0, 1) := by decide +kernel
theorem dX6_readParty_41 : decode cX6_readParty 41 = .ok (.getfield 101, 3) := by decide +kernel
theorem dX6_readParty_44 : decode cX6_readParty 44 = .ok (.aload_n 0, 1) := by decide +kernel
theorem dX6_readParty_45 : decode cX6_readParty 45 = .ok (.getfield 58, 3) := by decide +kernel
theorem dX6_readParty_48 : decode cX6_readParty 48 = .ok (.aload_n 0, 1) := by decide +kernel
theorem dX6_readParty_49 : decode cX6_readParty 49 = .ok (.getfield 101, 3) := by decide +kernel
theorem dX6_readParty_52 : decode cX6_readParty 52 = .ok (.isub, 1) := by decide +kernel
theorem dX6_readParty_53 : decode cX6_readParty 53 = .ok (.invokevirtual 104, 3) := by decide +kernel
theorem dX6_readParty_56 : decode cX6_readParty 56 = .ok (.aload_n 0, 1) := by decide +kernel
theorem dX6_readParty_57 : decode cX6_readParty 57 = .ok (.invokevirtual 61, 3) := by decide +kernel
theorem dX6_readParty_60 : decode cX6_readParty 60 = .ok (.return_, 1) := by decide +kernel
theorem dX6_readSemicolon_0 : decode cX6_readSemicolon 0 = .ok (.aload_n 0, 1) := by decide +kernel
theorem dX6_readSemicolon_1 : decode cX6_readSemicolon 1 = .ok (.getfield 64, 3) := by decide +kernel
theorem dX6_readSemicolon_4 : decode cX6_readSemicolon 4 = .ok (.iconst 2, 1) := by decide +kernel
theorem dX6_readSemicolon_5 : decode cX6_readSemicolon 5 = .ok (.if_icmp .eq 8, 3) := by decide +kernel
theorem dX6_readSemicolon_8 : decode cX6_readSemicolon 8 = .ok (.aload_n 0, 1) := by decide +kernel
theorem dX6_readSemicolon_9 : decode cX6_readSemicolon 9 = .ok (.iconst 1, 1) := by decide +kernel
theorem dX6_readSemicolon_10 : decode cX6_readSemicolon 10 = .ok (.invokevirtual 88, 3) := by decide +kernel
theorem dX6_readSemicolon_13 : decode cX6_readSemicolon 13 = .ok (.aload_n 0, 1) := by decide +kernel
theorem dX6_readSemicolon_14 : decode cX6_readSemicolon 14 = .ok (.invokevirtual 61, 3) := by decide +kernel
theorem dX6_readSemicolon_17 : decode cX6_readSemicolon 17 = .ok (.return_, 1) := by decide +kernel
theorem dX6_readTrade_0 : decode cX6_readTrade 0 = .ok (.aload_n 0, 1) := by decide +kernel
theorem dX6_readTrade_1 : decode cX6_readTrade 1 = .ok (.getfield 25, 3) := by decide +kernel
theorem dX6_readTrade_4 : decode cX6_readTrade 4 = .ok (.getfield 114, 3) := by decide +kernel
theorem dX6_readTrade_7 : decode cX6_readTrade 7 = .ok (.bipush 40, 2) := by decide +kernel
theorem dX6_readTrade_9 : decode cX6_readTrade 9 = .ok (.if_icmp .lt 8, 3) := by decide +kernel
theorem dX6_readTrade_12 : decode cX6_readTrade 12 = .ok (.aload_n 0, 1) := by decide +kernel
theorem dX6_readTrade_13 : decode cX6_readTrade 13 = .ok (.iconst 4, 1) := by decide +kernel
theorem dX6_readTrade_14 : decode cX6_readTrade 14 = .ok (.invokevirtual 88, 3) := by decide +kernel
theorem dX6_readTrade_17 : decode cX6_readTrade 17 = .ok (.aload_n 0, 1) := by decide +kernel
theorem dX6_readTrade_18 : decode cX6_readTrade 18 = .ok (.invokevirtual 61, 3) := by decide +kernel
theorem dX6_readTrade_21 : decode cX6_readTrade 21 = .ok (.aload_n 0, 1) := by decide +kernel
theorem dX6_readTrade_22 : decode cX6_readTrade 22 = .ok (.invokevirtual 117, 3) := by decide +kernel
theorem dX6_readTrade_25 : decode cX6_readTrade 25 = .ok (.istore_n 1, 1) := by decide +kernel
theorem dX6_readTrade_26 : decode cX6_readTrade 26 = .ok (.aload_n 0, 1) := by decide +kernel
theorem dX6_readTrade_27 : decode cX6_readTrade 27 = .ok (.invokevirtual 61, 3) := by decide +kernel
theorem dX6_readTrade_30 : decode cX6_readTrade 30 = .ok (.aload_n 0, 1) := by decide +kernel
theorem dX6_readTrade_31 : decode cX6_readTrade 31 = .ok (.invokevirtual 117, 3) := by decide +kernel
theorem dX6_readTrade_34 : decode cX6_readTrade 34 = .ok (.istore_n 2, 1) := by decide +kernel
theorem dX6_readTrade_35 : decode cX6_readTrade 35 = .ok (.aload_n 0, 1) := by decide +kernel
theorem dX6_readTrade_36 : decode cX6_readTrade 36 = .ok (.iload_n 1, 1) := by decide +kernel
theorem dX6_readTrade_37 : decode cX6_readTrade 37 = .ok (.iload_n 2, 1) := by decide +kernel
theorem dX6_readTrade_38 : decode cX6_readTrade 38 = .ok (.invokevirtual 121, 3) := by decide +kernel
theorem dX6_readTrade_41 : decode cX6_readTrade 41 = .ok (.aload_n 0, 1) := by decide +kernel
theorem dX6_readTrade_42 : decode cX6_readTrade 42 = .ok (.invokevirtual 61, 3) := by decide +kernel
theorem dX6_readTrade_45 : decode cX6_readTrade 45 = .ok (.aload_n 0, 1) := by decide +kernel
theorem dX6_readTrade_46 : decode cX6_readTrade 46 = .ok (.iconst 1, 1) := by decide +kernel
theorem dX6_readTrade_47 : decode cX6_readTrade 47 = .ok (.ldc 125, 2) := by decide +kernel
theorem dX6_readTrade_49 : decode cX6_readTrade 49 = .ok (.invokevirtual 126, 3) := by decide +kernel
theorem dX6_readTrade_52 : decode cX6_readTrade 52 = .ok (.istore_n 3, 1) := by decide +kernel
theorem dX6_readTrade_53 : decode cX6_readTrade 53 = .ok (.aload_n 0, 1) := by decide +kernel
theorem dX6_readTrade_54 : decode cX6_readTrade 54 = .ok (.invokevirtual 61, 3) := by decide +kernel
theorem dX6_readTrade_57 : decode cX6_readTrade 57 = .ok (.aload_n 0, 1) := by decide +kernel
theorem dX6_readTrade_58 : decode cX6_readTrade 58 = .ok (.invokevirtual 129, 3) := by decide +kernel
theorem dX6_readTrade_61 : decode cX6_readTrade 61 = .ok (.istore 4, 2) := by decide +kernel
theorem dX6_readTrade_63 : decode cX6_readTrade 63 = .ok (.aload_n 0, 1) := by decide +kernel
theorem dX6_readTrade_64 : decode cX6_readTrade 64 = .ok (.invokevirtual 61, 3) := by decide +kernel
theorem dX6_readTrade_67 : decode cX6_readTrade 67 = .ok (.aload_n 0, 1) := by decide +kernel
theorem dX6_readTrade_68 : decode cX6_readTrade 68 = .ok (.getfield 55, 3) := by decide +kernel
theorem dX6_readTrade_71 : decode cX6_readTrade 71 = .ok (.ifCond .ne 16, 3) := by decide +kernel
theorem dX6_readTrade_74 : decode cX6_readTrade 74 = .ok (.aload_n 0, 1) := by decide +kernel
theorem dX6_readTrade_75 : decode cX6_readTrade 75 = .ok (.getfield 25, 3) := by decide +kernel
theorem dX6_readTrade_78 : decode cX6_readTrade 78 = .ok (.iload_n 1, 1) := by decide +kernel
theorem dX6_readTrade_79 : decode cX6_readTrade 79 = .ok (.iload_n 2, 1) := by decide +kernel
theorem dX6_readTrade_80 : decode cX6_readTrade 80 = .ok (.iload_n 3, 1) := by decide +kernel
theorem dX6_readTrade_81 : decode cX6_readTrade 81 = .ok (.i2l, 1) := by decide +kernel
theorem dX6_readTrade_82 : decode cX6_readTrade 82 = .ok (.iload 4, 2) := by decide +kernel
theorem dX6_readTrade_84 : decode cX6_readTrade 84 = .ok (.invokevirtual 132, 3) := by decide +kernel
theorem dX6_readTrade_87 : decode cX6_readTrade 87 = .ok (.return_, 1) := by decide +kernel
theorem dX6_wordToken_0 : decode cX6_wordToken 0 = .ok (.aload_n 0, 1) := by decide +kernel
theorem dX6_wordToken_1 : decode cX6_wordToken 1 = .ok (.ldc 180, 2) := by decide +kernel
theorem dX6_wordToken_3 : decode cX6_wordToken 3 = .ok (.invokevirtual 182, 3) := by decide +kernel
theorem dX6_wordToken_6 : decode cX6_wordToken 6 = .ok (.ifCond .eq 5, 3) := by decide +kernel
theorem dX6_wordToken_9 : decode cX6_wordToken 9 = .ok (.iconst 5, 1) := by decide +kernel
theorem dX6_wordToken_10 : decode cX6_wordToken 10 = .ok (.ireturn, 1) := by decide +kernel
theorem dX6_wordToken_11 : decode cX6_wordToken 11 = .ok (.aload_n 0, 1) := by decide +kernel
theorem dX6_wordToken_12 : decode cX6_wordToken 12 = .ok (.ldc 186, 2) := by decide +kernel
theorem dX6_wordToken_14 : decode cX6_wordToken 14 = .ok (.invokevirtual 182, 3) := by decide +kernel
theorem dX6_wordToken_17 : decode cX6_wordToken 17 = .ok (.ifCond .eq 6, 3) := by decide +kernel
theorem dX6_wordToken_20 : decode cX6_wordToken 20 = .ok (.bipush 6, 2) := by decide +kernel
theorem dX6_wordToken_22 : decode cX6_wordToken 22 = .ok (.ireturn, 1) := by decide +kernel
theorem dX6_wordToken_23 : decode cX6_wordToken 23 = .ok (.aload_n 0, 1) := by decide +kernel
theorem dX6_wordToken_24 : decode cX6_wordToken 24 = .ok (.ldc 188, 2) := by decide +kernel
theorem dX6_wordToken_26 : decode cX6_wordToken 26 = .ok (.invokevirtual 182, 3) := by decide +kernel
theorem dX6_wordToken_29 : decode cX6_wordToken 29 = .ok (.ifCond .eq 6, 3) := by decide +kernel
theorem dX6_wordToken_32 : decode cX6_wordToken 32 = .ok (.bipush 7, 2) := by decide +kernel
theorem dX6_wordToken_34 : decode cX6_wordToken 34 = .ok (.ireturn, 1) := by decide +kernel
theorem dX6_wordToken_35 : decode cX6_wordToken 35 = .ok (.aload_n 0, 1) := by decide +kernel
theorem dX6_wordToken_36 : decode cX6_wordToken 36 = .ok (.ldc 190, 2) := by decide +kernel
theorem dX6_wordToken_38 : decode cX6_wordToken 38 = .ok (.invokevirtual 182, 3) := by decide +kernel
theorem dX6_wordToken_41 : decode cX6_wordToken 41 = .ok (.ifCond .eq 6, 3) := by decide +kernel
theorem dX6_wordToken_44 : decode cX6_wordToken 44 = .ok (.bipush 8, 2) := by decide +kernel
theorem dX6_wordToken_46 : decode cX6_wordToken 46 = .ok (.ireturn, 1) := by decide +kernel
theorem dX6_wordToken_47 : decode cX6_wordToken 47 = .ok (.aload_n 0, 1) := by decide +kernel
theorem dX6_wordToken_48 : decode cX6_wordToken 48 = .ok (.ldc 192, 2) := by decide +kernel
theorem dX6_wordToken_50 : decode cX6_wordToken 50 = .ok (.invokevirtual 182, 3) := by decide +kernel
theorem dX6_wordToken_53 : decode cX6_wordToken 53 = .ok (.ifCond .eq 6, 3) := by decide +kernel
theorem dX6_wordToken_56 : decode cX6_wordToken 56 = .ok (.bipush 9, 2) := by decide +kernel
theorem dX6_wordToken_58 : decode cX6_wordToken 58 = .ok (.ireturn, 1) := by decide +kernel
theorem dX6_wordToken_59 : decode cX6_wordToken 59 = .ok (.aload_n 0, 1) := by decide +kernel
theorem dX6_wordToken_60 : decode cX6_wordToken 60 = .ok (.ldc 194, 2) := by decide +kernel
theorem dX6_wordToken_62 : decode cX6_wordToken 62 = .ok (.invokevirtual 182, 3) := by decide +kernel
theorem dX6_wordToken_65 : decode cX6_wordToken 65 = .ok (.ifCond .eq 6, 3) := by decide +kernel
theorem dX6_wordToken_68 : decode cX6_wordToken 68 = .ok (.bipush 10, 2) := by decide +kernel
theorem dX6_wordToken_70 : decode cX6_wordToken 70 = .ok (.ireturn, 1) := by decide +kernel
theorem dX6_wordToken_71 : decode cX6_wordToken 71 = .ok (.aload_n 0, 1) := by decide +kernel
theorem dX6_wordToken_72 : decode cX6_wordToken 72 = .ok (.getfield 58, 3) := by decide +kernel
theorem dX6_wordToken_75 : decode cX6_wordToken 75 = .ok (.aload_n 0, 1) := by decide +kernel
theorem dX6_wordToken_76 : decode cX6_wordToken 76 = .ok (.getfield 101, 3) := by decide +kernel
theorem dX6_wordToken_79 : decode cX6_wordToken 79 = .ok (.isub, 1) := by decide +kernel
theorem dX6_wordToken_80 : decode cX6_wordToken 80 = .ok (.bipush 8, 2) := by decide +kernel
theorem dX6_wordToken_82 : decode cX6_wordToken 82 = .ok (.if_icmp .gt 7, 3) := by decide +kernel
theorem dX6_wordToken_85 : decode cX6_wordToken 85 = .ok (.iconst 4, 1) := by decide +kernel
theorem dX6_wordToken_86 : decode cX6_wordToken 86 = .ok (.goto 4, 3) := by decide +kernel
theorem dX6_wordToken_89 : decode cX6_wordToken 89 = .ok (.iconst 1, 1) := by decide +kernel
theorem dX6_wordToken_90 : decode cX6_wordToken 90 = .ok (.ireturn, 1) := by decide +kernel
def RK (S : Nat → va_E) (o : Nat) (f : Int32) (rn rb rt : Nat) : Prop := ∃ (pl : Int32) (en : Nat) (mt tk : Int32) (ta te : Nat), S o = .inr (6, [.int f, .int pl, .ref rn, .ref rb, .ref rt, .int (nI en), .int mt, .int tk, .int (nI ta), .int (nI te)]) ∧ en ≤ 900 ∧ te ≤ 900 ∧ ta ≤ 900 ∧ ta ≤ te
def RW (S : Nat → va_E) (o : Nat) (f : Int32) (rn rb rt : Nat) : Prop := ∃ (pl : Int32) (en : Nat) (mt tk : Int32) (ta te : Nat), S o = .inr (6, [.int f, .int pl, .ref rn, .ref rb, .ref rt, .int (nI en), .int mt, .int tk, .int (nI ta), .int (nI te)]) ∧ en ≤ 900 ∧ te ≤ 900 ∧ ta ≤ 900
theorem RKr {cy : Nat → ClassId} {L : List Nat} {kap : Nat → Nat} {pr : Pr} {S : Nat → va_E} {o rn rb rt : Nat} {f : Int32} {k9 : Int32} {vs : List Value} (h : Ty cy L kap pr S) (ho : TK L kap o 6) (e : S o = .inr (6, .int f :: .int k9 :: .ref rn :: .ref rb :: .ref rt :: vs)) : TK L kap rn 3 ∧ TK L kap rb 0 ∧ TK L kap rt 27 := by
  obtain ⟨y0, y1, y2, y3, y4, y5, y6, y7, y8, y9, hS, h2, h3, h4, -⟩ := h.k6 ho
  have e := hS.symm.trans e
  simp only [Sum.inr.injEq, Prod.mk.injEq, List.cons.injEq, Value.ref.injEq, true_and] at e
  obtain ⟨-, -, rfl, rfl, rfl, -⟩ := e
  exact ⟨h2, h3, h4⟩
theorem RKk {cy : Nat → ClassId} {L : List Nat} {kap : Nat → Nat} {pr : Pr} {S : Nat → va_E} {o rn rb rt : Nat} {f : Int32} (h : Ty cy L kap pr S) (ho : TK L kap o 6) (hR : RK S o f rn rb rt) : ∃ (pl : Int32) (en : Nat) (mt tk : Int32) (ta te : Nat), S o = .inr (6, [.int f, .int pl, .ref rn, .ref rb, .ref rt, .int (nI en), .int mt, .int tk, .int (nI ta), .int (nI te)]) ∧ TK L kap rn 3 ∧ TK L kap rb 0 ∧ TK L kap rt 27 ∧ en ≤ 900 ∧ te ≤ 900 ∧ ta ≤ 900 ∧ ta ≤ te := by
  obtain ⟨pl, en, mt, tk, ta, te, hS, h1, h2, h3, h4⟩ := hR
  obtain ⟨t1, t2, t3⟩ := RKr h ho hS
  exact ⟨pl, en, mt, tk, ta, te, hS, t1, t2, t3, h1, h2, h3, h4⟩
theorem RWk {cy : Nat → ClassId} {L : List Nat} {kap : Nat → Nat} {pr : Pr} {S : Nat → va_E} {o rn rb rt : Nat} {f : Int32} (h : Ty cy L kap pr S) (ho : TK L kap o 6) (hR : RW S o f rn rb rt) : ∃ (pl : Int32) (en : Nat) (mt tk : Int32) (ta te : Nat), S o = .inr (6, [.int f, .int pl, .ref rn, .ref rb, .ref rt, .int (nI en), .int mt, .int tk, .int (nI ta), .int (nI te)]) ∧ TK L kap rn 3 ∧ TK L kap rb 0 ∧ TK L kap rt 27 ∧ en ≤ 900 ∧ te ≤ 900 ∧ ta ≤ 900 := by
  obtain ⟨pl, en, mt, tk, ta, te, hS, h1, h2, h3⟩ := hR
  obtain ⟨t1, t2, t3⟩ := RKr h ho hS
  exact ⟨pl, en, mt, tk, ta, te, hS, t1, t2, t3, h1, h2, h3⟩
theorem min900 {n : Nat} (h : n ≤ 900) : (if (900 : Int32) < nI n then 900 else nI n) = nI n := by
  rw [if_neg]
  intro z
  have := (nI_ltI (a := 900) (by omega) (by omega)).mp z
  omega
theorem kbel {r : Int32} {n : Nat} (h1 : ¬ r < 0) (h2 : r ≤ pd n) (hn : n ≤ 40) : ∃ k, k < n ∧ r = nI k := by
  obtain ⟨k, hk, rfl⟩ := nI_of h1
  refine ⟨k, ?_, rfl⟩
  rw [Int32.le_iff_toInt_le, nI_toInt hk, pd_toInt (by omega)] at h2
  omega
theorem hereb {r : Int32} {q m : Nat} (h : r = -1 ∨ ∃ k, k < q ∧ r = nI k) (hq : q ≤ m) : r = -1 ∨ ∃ k, k < m ∧ r = nI k := h.elim Or.inl (fun ⟨k, hk, e⟩ => Or.inr ⟨k, by omega, e⟩)
theorem swout_5_10 {x : Int32} (h5 : ¬ x = 5) (h6 : ¬ x = 6) (h7 : ¬ x = 7) (h8 : ¬ x = 8) (h9 : ¬ x = 9) (h10 : ¬ x = 10) : x.toInt < 5 ∨ 10 < x.toInt := by
  have g5 := lv_neT (a := 5) h5 (by decide)
  have g6 := lv_neT (a := 6) h6 (by decide)
  have g7 := lv_neT (a := 7) h7 (by decide)
  have g8 := lv_neT (a := 8) h8 (by decide)
  have g9 := lv_neT (a := 9) h9 (by decide)
  have g10 := lv_neT (a := 10) h10 (by decide)
  omega