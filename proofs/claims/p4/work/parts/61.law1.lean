theorem w844 : (.methodLink RL 57 yX11_undo : Cond) ∈ TB := mTB (List.mem_of_getElem? (i := 844) (by decide +kernel)) (by decide +kernel)
theorem w845 : (.instanceMethod yX11_undo : Cond) ∈ TB := mTB (List.mem_of_getElem? (i := 845) (by decide +kernel)) (by decide +kernel)
theorem w846 : (.selects RX11 yX11_undo yX11_undo : Cond) ∈ TB := mTB (List.mem_of_getElem? (i := 846) (by decide +kernel)) (by decide +kernel)
theorem w847 : (.code yX11_undo cX11_undo 1 (some .int) : Cond) ∈ TB := mTB (List.mem_of_getElem? (i := 847) (by decide +kernel)) (by decide +kernel)
theorem w852 : (.methodLink RL 62 yX11_tradeOf : Cond) ∈ TB := mTB (List.mem_of_getElem? (i := 852) (by decide +kernel)) (by decide +kernel)
theorem w853 : (.instanceMethod yX11_tradeOf : Cond) ∈ TB := mTB (List.mem_of_getElem? (i := 853) (by decide +kernel)) (by decide +kernel)
theorem w854 : (.selects RX11 yX11_tradeOf yX11_tradeOf : Cond) ∈ TB := mTB (List.mem_of_getElem? (i := 854) (by decide +kernel)) (by decide +kernel)
theorem w855 : (.code yX11_tradeOf cX11_tradeOf 3 (some .int) : Cond) ∈ TB := mTB (List.mem_of_getElem? (i := 855) (by decide +kernel)) (by decide +kernel)
theorem w856 : (.methodLink RL 67 yX11_flow : Cond) ∈ TB := mTB (List.mem_of_getElem? (i := 856) (by decide +kernel)) (by decide +kernel)
theorem w857 : (.instanceMethod yX11_flow : Cond) ∈ TB := mTB (List.mem_of_getElem? (i := 857) (by decide +kernel)) (by decide +kernel)
theorem w858 : (.selects RX11 yX11_flow yX11_flow : Cond) ∈ TB := mTB (List.mem_of_getElem? (i := 858) (by decide +kernel)) (by decide +kernel)
theorem w859 : (.code yX11_flow cX11_flow 4 (some .int) : Cond) ∈ TB := mTB (List.mem_of_getElem? (i := 859) (by decide +kernel)) (by decide +kernel)
theorem w860 : (.methodLink RL 71 yX11_net : Cond) ∈ TB := mTB (List.mem_of_getElem? (i := 860) (by decide +kernel)) (by decide +kernel)
theorem w861 : (.instanceMethod yX11_net : Cond) ∈ TB := mTB (List.mem_of_getElem? (i := 861) (by decide +kernel)) (by decide +kernel)
theorem w862 : (.selects RX11 yX11_net yX11_net : Cond) ∈ TB := mTB (List.mem_of_getElem? (i := 862) (by decide +kernel)) (by decide +kernel)
theorem w863 : (.code yX11_net cX11_net 4 (some .int) : Cond) ∈ TB := mTB (List.mem_of_getElem? (i := 863) (by decide +kernel)) (by decide +kernel)
theorem w874 : (.methodLink RL 76 yX11_side : Cond) ∈ TB := mTB (List.mem_of_getElem? (i := 874) (by decide +kernel)) (by decide +kernel)
theorem w875 : (.instanceMethod yX11_side : Cond) ∈ TB := mTB (List.mem_of_getElem? (i := 875) (by decide +kernel)) (by decide +kernel)
theorem w876 : (.selects RX11 yX11_side yX11_side : Cond) ∈ TB := mTB (List.mem_of_getElem? (i := 876) (by decide +kernel)) (by decide +kernel)
theorem w877 : (.code yX11_side cX11_side 4 (some .int) : Cond) ∈ TB := mTB (List.mem_of_getElem? (i := 877) (by decide +kernel)) (by decide +kernel)
theorem w888 : (.methodLink RL 80 yX11_total : Cond) ∈ TB := mTB (List.mem_of_getElem? (i := 888) (by decide +kernel)) (by decide +kernel)
theorem w889 : (.instanceMethod yX11_total : Cond) ∈ TB := mTB (List.mem_of_getElem? (i := 889) (by decide +kernel)) (by decide +kernel)
theorem w890 : (.selects RX11 yX11_total yX11_total : Cond) ∈ TB := mTB (List.mem_of_getElem? (i := 890) (by decide +kernel)) (by decide +kernel)
theorem w891 : (.code yX11_total cX11_total 3 (some .int) : Cond) ∈ TB := mTB (List.mem_of_getElem? (i := 891) (by decide +kernel)) (by decide +kernel)
theorem w911 : (.methodLink RL 84 yX11_bound : Cond) ∈ TB := mTB (List.mem_of_getElem? (i := 911) (by decide +kernel)) (by decide +kernel)
theorem w912 : (.instanceMethod yX11_bound : Cond) ∈ TB := mTB (List.mem_of_getElem? (i := 912) (by decide +kernel)) (by decide +kernel)
theorem w913 : (.selects RX11 yX11_bound yX11_bound : Cond) ∈ TB := mTB (List.mem_of_getElem? (i := 913) (by decide +kernel)) (by decide +kernel)
theorem w914 : (.code yX11_bound cX11_bound 4 (some .int) : Cond) ∈ TB := mTB (List.mem_of_getElem? (i := 914) (by decide +kernel)) (by decide +kernel)
theorem w916 : (.methodLink RL 88 yX11_ring : Cond) ∈ TB := mTB (List.mem_of_getElem? (i := 916) (by decide +kernel)) (by decide +kernel)
theorem w917 : (.instanceMethod yX11_ring : Cond) ∈ TB := mTB (List.mem_of_getElem? (i := 917) (by decide +kernel)) (by decide +kernel)
theorem w918 : (.selects RX11 yX11_ring yX11_ring : Cond) ∈ TB := mTB (List.mem_of_getElem? (i := 918) (by decide +kernel)) (by decide +kernel)
theorem w919 : (.code yX11_ring cX11_ring 3 (some .int) : Cond) ∈ TB := mTB (List.mem_of_getElem? (i := 919) (by decide +kernel)) (by decide +kernel)
theorem w920 : (.methodLink RL 92 yX11_load : Cond) ∈ TB := mTB (List.mem_of_getElem? (i := 920) (by decide +kernel)) (by decide +kernel)
theorem w921 : (.instanceMethod yX11_load : Cond) ∈ TB := mTB (List.mem_of_getElem? (i := 921) (by decide +kernel)) (by decide +kernel)
theorem w922 : (.selects RX11 yX11_load yX11_load : Cond) ∈ TB := mTB (List.mem_of_getElem? (i := 922) (by decide +kernel)) (by decide +kernel)
theorem w923 : (.code yX11_load cX11_load 2 (some .int) : Cond) ∈ TB := mTB (List.mem_of_getElem? (i := 923) (by decide +kernel)) (by decide +kernel)
theorem w924 : (.methodLink RL 96 yX11_cleared : Cond) ∈ TB := mTB (List.mem_of_getElem? (i := 924) (by decide +kernel)) (by decide +kernel)
theorem w925 : (.instanceMethod yX11_cleared : Cond) ∈ TB := mTB (List.mem_of_getElem? (i := 925) (by decide +kernel)) (by decide +kernel)
theorem w926 : (.selects RX11 yX11_cleared yX11_cleared : Cond) ∈ TB := mTB (List.mem_of_getElem? (i := 926) (by decide +kernel)) (by decide +kernel)
theorem w927 : (.code yX11_cleared cX11_cleared 3 (some .int) : Cond) ∈ TB := mTB (List.mem_of_getElem? (i := 927) (by decide +kernel)) (by decide +kernel)
theorem w1323 : (.methodLink RL 61 yX12_undo : Cond) ∈ TB := mTB (List.mem_of_getElem? (i := 1323) (by decide +kernel)) (by decide +kernel)
theorem w1324 : (.instanceMethod yX12_undo : Cond) ∈ TB := mTB (List.mem_of_getElem? (i := 1324) (by decide +kernel)) (by decide +kernel)
theorem w1325 : (.selects RX12 yX12_undo yX12_undo : Cond) ∈ TB := mTB (List.mem_of_getElem? (i := 1325) (by decide +kernel)) (by decide +kernel)
theorem w1326 : (.code yX12_undo cX12_undo 2 (some .int) : Cond) ∈ TB := mTB (List.mem_of_getElem? (i := 1326) (by decide +kernel)) (by decide +kernel)
theorem w1327 : (.methodLink RL 66 yX12_tradeOf : Cond) ∈ TB := mTB (List.mem_of_getElem? (i := 1327) (by decide +kernel)) (by decide +kernel)
theorem w1328 : (.instanceMethod yX12_tradeOf : Cond) ∈ TB := mTB (List.mem_of_getElem? (i := 1328) (by decide +kernel)) (by decide +kernel)
theorem w1329 : (.selects RX12 yX12_tradeOf yX12_tradeOf : Cond) ∈ TB := mTB (List.mem_of_getElem? (i := 1329) (by decide +kernel)) (by decide +kernel)
theorem w1330 : (.code yX12_tradeOf cX12_tradeOf 3 (some .int) : Cond) ∈ TB := mTB (List.mem_of_getElem? (i := 1330) (by decide +kernel)) (by decide +kernel)
theorem w1332 : (.methodLink RL 70 yX12_flow : Cond) ∈ TB := mTB (List.mem_of_getElem? (i := 1332) (by decide +kernel)) (by decide +kernel)
theorem w1333 : (.instanceMethod yX12_flow : Cond) ∈ TB := mTB (List.mem_of_getElem? (i := 1333) (by decide +kernel)) (by decide +kernel)
theorem w1334 : (.selects RX12 yX12_flow yX12_flow : Cond) ∈ TB := mTB (List.mem_of_getElem? (i := 1334) (by decide +kernel)) (by decide +kernel)
theorem w1335 : (.code yX12_flow cX12_flow 4 (some .int) : Cond) ∈ TB := mTB (List.mem_of_getElem? (i := 1335) (by decide +kernel)) (by decide +kernel)
theorem w1351 : (.methodLink RL 75 yX12_net : Cond) ∈ TB := mTB (List.mem_of_getElem? (i := 1351) (by decide +kernel)) (by decide +kernel)
theorem w1352 : (.instanceMethod yX12_net : Cond) ∈ TB := mTB (List.mem_of_getElem? (i := 1352) (by decide +kernel)) (by decide +kernel)
theorem w1353 : (.selects RX12 yX12_net yX12_net : Cond) ∈ TB := mTB (List.mem_of_getElem? (i := 1353) (by decide +kernel)) (by decide +kernel)
theorem w1354 : (.code yX12_net cX12_net 4 (some .int) : Cond) ∈ TB := mTB (List.mem_of_getElem? (i := 1354) (by decide +kernel)) (by decide +kernel)
theorem w1364 : (.methodLink RL 79 yX12_side : Cond) ∈ TB := mTB (List.mem_of_getElem? (i := 1364) (by decide +kernel)) (by decide +kernel)
theorem w1365 : (.instanceMethod yX12_side : Cond) ∈ TB := mTB (List.mem_of_getElem? (i := 1365) (by decide +kernel)) (by decide +kernel)
theorem w1366 : (.selects RX12 yX12_side yX12_side : Cond) ∈ TB := mTB (List.mem_of_getElem? (i := 1366) (by decide +kernel)) (by decide +kernel)
theorem w1367 : (.code yX12_side cX12_side 6 (some .int) : Cond) ∈ TB := mTB (List.mem_of_getElem? (i := 1367) (by decide +kernel)) (by decide +kernel)
theorem w1370 : (.methodLink RL 83 yX12_total : Cond) ∈ TB := mTB (List.mem_of_getElem? (i := 1370) (by decide +kernel)) (by decide +kernel)
theorem w1371 : (.instanceMethod yX12_total : Cond) ∈ TB := mTB (List.mem_of_getElem? (i := 1371) (by decide +kernel)) (by decide +kernel)
theorem w1372 : (.selects RX12 yX12_total yX12_total : Cond) ∈ TB := mTB (List.mem_of_getElem? (i := 1372) (by decide +kernel)) (by decide +kernel)
theorem w1373 : (.code yX12_total cX12_total 5 (some .int) : Cond) ∈ TB := mTB (List.mem_of_getElem? (i := 1373) (by decide +kernel)) (by decide +kernel)
theorem w1382 : (.methodLink RL 87 yX12_bound : Cond) ∈ TB := mTB (List.mem_of_getElem? (i := 1382) (by decide +kernel)) (by decide +kernel)
theorem w1383 : (.instanceMethod yX12_bound : Cond) ∈ TB := mTB (List.mem_of_getElem? (i := 1383) (by decide +kernel)) (by decide +kernel)
theorem w1384 : (.selects RX12 yX12_bound yX12_bound : Cond) ∈ TB := mTB (List.mem_of_getElem? (i := 1384) (by decide +kernel)) (by decide +kernel)
theorem w1385 : (.code yX12_bound cX12_bound 4 (some .int) : Cond) ∈ TB := mTB (List.mem_of_getElem? (i := 1385) (by decide +kernel)) (by decide +kernel)
theorem w1390 : (.methodLink RL 91 yX12_ring : Cond) ∈ TB := mTB (List.mem_of_getElem? (i := 1390) (by decide +kernel)) (by decide +kernel)
theorem w1391 : (.instanceMethod yX12_ring : Cond) ∈ TB := mTB (List.mem_of_getElem? (i := 1391) (by decide +kernel)) (by decide +kernel)
theorem w1392 : (.selects RX12 yX12_ring yX12_ring : Cond) ∈ TB := mTB (List.mem_of_getElem? (i := 1392) (by decide +kernel)) (by decide +kernel)
theorem w1393 : (.code yX12_ring cX12_ring 4 (some .int) : Cond) ∈ TB := mTB (List.mem_of_getElem? (i := 1393) (by decide +kernel)) (by decide +kernel)
theorem w1402 : (.methodLink RL 95 yX12_load : Cond) ∈ TB := mTB (List.mem_of_getElem? (i := 1402) (by decide +kernel)) (by decide +kernel)
theorem w1403 : (.instanceMethod yX12_load : Cond) ∈ TB := mTB (List.mem_of_getElem? (i := 1403) (by decide +kernel)) (by decide +kernel)
theorem w1404 : (.selects RX12 yX12_load yX12_load : Cond) ∈ TB := mTB (List.mem_of_getElem? (i := 1404) (by decide +kernel)) (by decide +kernel)
theorem w1405 : (.code yX12_load cX12_load 2 (some .int) : Cond) ∈ TB := mTB (List.mem_of_getElem? (i := 1405) (by decide +kernel)) (by decide +kernel)
theorem w1414 : (.methodLink RL 99 yX12_cleared : Cond) ∈ TB := mTB (List.mem_of_getElem? (i := 1414) (by decide +kernel)) (by decide +kernel)
theorem w1415 : (.instanceMethod yX12_cleared : Cond) ∈ TB := mTB (List.mem_of_getElem? (i := 1415) (by decide +kernel)) (by decide +kernel)
theorem w1416 : (.selects RX12 yX12_cleared yX12_cleared : Cond) ∈ TB := mTB (List.mem_of_getElem? (i := 1416) (by decide +kernel)) (by decide +kernel)
theorem w1417 : (.code yX12_cleared cX12_cleared 5 (some .int) : Cond) ∈ TB := mTB (List.mem_of_getElem? (i := 1417) (by decide +kernel)) (by decide +kernel)
theorem dL_law_516 : decode cL_law 516 = .ok (.aload_n 1, 1) := by decide +kernel
theorem dL_law_517 : decode cL_law 517 = .ok (.invokevirtual 57, 3) := by decide +kernel
theorem dL_law_520 : decode cL_law 520 = .ok (.pop, 1) := by decide +kernel
theorem dL_law_521 : decode cL_law 521 = .ok (.aload_n 2, 1) := by decide +kernel
theorem dL_law_522 : decode cL_law 522 = .ok (.invokevirtual 61, 3) := by decide +kernel
theorem dL_law_525 : decode cL_law 525 = .ok (.pop, 1) := by decide +kernel
theorem dL_law_526 : decode cL_law 526 = .ok (.goto 907, 3) := by decide +kernel
theorem dL_law_529 : decode cL_law 529 = .ok (.aload_n 1, 1) := by decide +kernel
theorem dL_law_530 : decode cL_law 530 = .ok (.aload_n 0, 1) := by decide +kernel
theorem dL_law_531 : decode cL_law 531 = .ok (.iload_n 3, 1) := by decide +kernel
theorem dL_law_532 : decode cL_law 532 = .ok (.iconst 1, 1) := by decide +kernel
theorem dL_law_533 : decode cL_law 533 = .ok (.iadd, 1) := by decide +kernel
theorem dL_law_534 : decode cL_law 534 = .ok (.iaload, 1) := by decide +kernel
theorem dL_law_535 : decode cL_law 535 = .ok (.aload_n 0, 1) := by decide +kernel
theorem dL_law_536 : decode cL_law 536 = .ok (.iload_n 3, 1) := by decide +kernel
theorem dL_law_537 : decode cL_law 537 = .ok (.iconst 2, 1) := by decide +kernel
theorem dL_law_538 : decode cL_law 538 = .ok (.iadd, 1) := by decide +kernel
theorem dL_law_539 : decode cL_law 539 = .ok (.iaload, 1) := by decide +kernel
theorem dL_law_540 : decode cL_law 540 = .ok (.invokevirtual 62, 3) := by decide +kernel
theorem dL_law_543 : decode cL_law 543 = .ok (.pop, 1) := by decide +kernel
theorem dL_law_544 : decode cL_law 544 = .ok (.aload_n 2, 1) := by decide +kernel
theorem dL_law_545 : decode cL_law 545 = .ok (.aload_n 0, 1) := by decide +kernel
theorem dL_law_546 : decode cL_law 546 = .ok (.iload_n 3, 1) := by decide +kernel
theorem dL_law_547 : decode cL_law 547 = .ok (.iconst 1, 1) := by decide +kernel
theorem dL_law_548 : decode cL_law 548 = .ok (.iadd, 1) := by decide +kernel
theorem dL_law_549 : decode cL_law 549 = .ok (.iaload, 1) := by decide +kernel
theorem dL_law_550 : decode cL_law 550 = .ok (.aload_n 0, 1) := by decide +kernel
theorem dL_law_551 : decode cL_law 551 = .ok (.iload_n 3, 1) := by decide +kernel
theorem dL_law_552 : decode cL_law 552 = .ok (.iconst 2, 1) := by decide +kernel
theorem dL_law_553 : decode cL_law 553 = .ok (.iadd, 1) := by decide +kernel
theorem dL_law_554 : decode cL_law 554 = .ok (.iaload, 1) := by decide +kernel
theorem dL_law_555 : decode cL_law 555 = .ok (.invokevirtual 66, 3) := by decide +kernel
theorem dL_law_558 : decode cL_law 558 = .ok (.pop, 1) := by decide +kernel
theorem dL_law_559 : decode cL_law 559 = .ok (.goto 874, 3) := by decide +kernel
theorem dL_law_562 : decode cL_law 562 = .ok (.aload_n 1, 1) := by decide +kernel
theorem dL_law_563 : decode cL_law 563 = .ok (.aload_n 0, 1) := by decide +kernel
theorem dL_law_564 : decode cL_law 564 = .ok (.iload_n 3, 1) := by decide +kernel
theorem dL_law_565 : decode cL_law 565 = .ok (.iconst 1, 1) := by decide +kernel
theorem dL_law_566 : decode cL_law 566 = .ok (.iadd, 1) := by decide +kernel
theorem dL_law_567 : decode cL_law 567 = .ok (.iaload, 1) := by decide +kernel
theorem dL_law_568 : decode cL_law 568 = .ok (.aload_n 0, 1) := by decide +kernel
theorem dL_law_569 : decode cL_law 569 = .ok (.iload_n 3, 1) := by decide +kernel
theorem dL_law_570 : decode cL_law 570 = .ok (.iconst 2, 1) := by decide +kernel
theorem dL_law_571 : decode cL_law 571 = .ok (.iadd, 1) := by decide +kernel
theorem dL_law_572 : decode cL_law 572 = .ok (.iaload, 1) := by decide +kernel
theorem dL_law_573 : decode cL_law 573 = .ok (.aload_n 0, 1) := by decide +kernel
theorem dL_law_574 : decode cL_law 574 = .ok (.iload_n 3, 1) := by decide +kernel
theorem dL_law_575 : decode cL_law 575 = .ok (.iconst 3, 1) := by decide +kernel
theorem dL_law_576 : decode cL_law 576 = .ok (.iadd, 1) := by decide +kernel
theorem dL_law_577 : decode cL_law 577 = .ok (.iaload, 1) := by decide +kernel
theorem dL_law_578 : decode cL_law 578 = .ok (.invokevirtual 67, 3) := by decide +kernel
theorem dL_law_581 : decode cL_law 581 = .ok (.pop, 1) := by decide +kernel
theorem dL_law_582 : decode cL_law 582 = .ok (.aload_n 2, 1) := by decide +kernel
theorem dL_law_583 : decode cL_law 583 = .ok (.aload_n 0, 1) := by decide +kernel
theorem dL_law_584 : decode cL_law 584 = .ok (.iload_n 3, 1) := by decide +kernel
theorem dL_law_585 : decode cL_law 585 = .ok (.iconst 1, 1) := by decide +kernel
theorem dL_law_586 : decode cL_law 586 = .ok (.iadd, 1) := by decide +kernel
theorem dL_law_587 : decode cL_law 587 = .ok (.iaload, 1) := by decide +kernel
theorem dL_law_588 : decode cL_law 588 = .ok (.aload_n 0, 1) := by decide +kernel
theorem dL_law_589 : decode cL_law 589 = .ok (.iload_n 3, 1) := by decide +kernel
theorem dL_law_590 : decode cL_law 590 = .ok (.iconst 2, 1) := by decide +kernel
theorem dL_law_591 : decode cL_law 591 = .ok (.iadd, 1) := by decide +kernel
theorem dL_law_592 : decode cL_law 592 = .ok (.iaload, 1) := by decide +kernel
theorem dL_law_593 : decode cL_law 593 = .ok (.aload_n 0, 1) := by decide +kernel
theorem dL_law_594 : decode cL_law 594 = .ok (.iload_n 3, 1) := by decide +kernel
theorem dL_law_595 : decode cL_law 595 = .ok (.iconst 3, 1) := by decide +kernel
theorem dL_law_596 : decode cL_law 596 = .ok (.iadd, 1) := by decide +kernel
theorem dL_law_597 : decode cL_law 597 = .ok (.iaload, 1) := by decide +kernel
theorem dL_law_598 : decode cL_law 598 = .ok (.invokevirtual 70, 3) := by decide +kernel
theorem dL_law_601 : decode cL_law 601 = .ok (.pop, 1) := by decide +kernel
theorem dL_law_602 : decode cL_law 602 = .ok (.goto 831, 3) := by decide +kernel
theorem dL_law_605 : decode cL_law 605 = .ok (.aload_n 1, 1) := by decide +kernel
theorem dL_law_606 : decode cL_law 606 = .ok (.aload_n 0, 1) := by decide +kernel
theorem dL_law_607 : decode cL_law 607 = .ok (.iload_n 3, 1) := by decide +kernel
theorem dL_law_608 : decode cL_law 608 = .ok (.iconst 1, 1) := by decide +kernel
theorem dL_law_609 : decode cL_law 609 = .ok (.iadd, 1) := by decide +kernel
theorem dL_law_610 : decode cL_law 610 = .ok (.iaload, 1) := by decide +kernel
theorem dL_law_611 : decode cL_law 611 = .ok (.aload_n 0, 1) := by decide +kernel
theorem dL_law_612 : decode cL_law 612 = .ok (.iload_n 3, 1) := by decide +kernel
theorem dL_law_613 : decode cL_law 613 = .ok (.iconst 2, 1) := by decide +kernel
theorem dL_law_614 : decode cL_law 614 = .ok (.iadd, 1) := by decide +kernel
theorem dL_law_615 : decode cL_law 615 = .ok (.iaload, 1) := by decide +kernel
theorem dL_law_616 : decode cL_law 616 = .ok (.aload_n 0, 1) := by decide +kernel
theorem dL_law_617 : decode cL_law 617 = .ok (.iload_n 3, 1) := by decide +kernel
theorem dL_law_618 : decode cL_law 618 = .ok (.iconst 3, 1) := by decide +kernel
theorem dL_law_619 : decode cL_law 619 = .ok (.iadd, 1) := by decide +kernel
theorem dL_law_620 : decode cL_law 620 = .ok (.iaload, 1) := by decide +kernel
theorem dL_law_621 : decode cL_law 621 = .ok (.ifCond .eq 7, 3) := by decide +kernel
theorem dL_law_624 : decode cL_law 624 = .ok (.iconst 1, 1) := by decide +kernel
theorem dL_law_625 : decode cL_law 625 = .ok (.goto 4, 3) := by decide +kernel
theorem dL_law_628 : decode cL_law 628 = .ok (.iconst 0, 1) := by decide +kernel
theorem dL_law_629 : decode cL_law 629 = .ok (.invokevirtual 71, 3) := by decide +kernel
theorem dL_law_632 : decode cL_law 632 = .ok (.pop, 1) := by decide +kernel
theorem dL_law_633 : decode cL_law 633 = .ok (.aload_n 2, 1) := by decide +kernel
theorem dL_law_634 : decode cL_law 634 = .ok (.aload_n 0, 1) := by decide +kernel
theorem dL_law_635 : decode cL_law 635 = .ok (.iload_n 3, 1) := by decide +kernel
theorem dL_law_636 : decode cL_law 636 = .ok (.iconst 1, 1) := by decide +kernel
theorem dL_law_637 : decode cL_law 637 = .ok (.iadd, 1) := by decide +kernel
theorem dL_law_638 : decode cL_law 638 = .ok (.iaload, 1) := by decide +kernel
theorem dL_law_639 : decode cL_law 639 = .ok (.aload_n 0, 1) := by decide +kernel
theorem dL_law_640 : decode cL_law 640 = .ok (.iload_n 3, 1) := by decide +kernel
theorem dL_law_641 : decode cL_law 641 = .ok (.iconst 2, 1) := by decide +kernel
theorem dL_law_642 : decode cL_law 642 = .ok (.iadd, 1) := by decide +kernel
theorem dL_law_643 : decode cL_law 643 = .ok (.iaload, 1) := by decide +kernel
theorem dL_law_644 : decode cL_law 644 = .ok (.aload_n 0, 1) := by decide +kernel
theorem dL_law_645 : decode cL_law 645 = .ok (.iload_n 3, 1) := by decide +kernel
theorem dL_law_646 : decode cL_law 646 = .ok (.iconst 3, 1) := by decide +kernel
theorem dL_law_647 : decode cL_law 647 = .ok (.iadd, 1) := by decide +kernel
theorem dL_law_648 : decode cL_law 648 = .ok (.iaload, 1) := by decide +kernel
theorem dL_law_649 : decode cL_law 649 = .ok (.ifCond .eq 7, 3) := by decide +kernel
theorem dL_law_652 : decode cL_law 652 = .ok (.iconst 1, 1) := by decide +kernel
theorem dL_law_653 : decode cL_law 653 = .ok (.goto 4, 3) := by decide +kernel
theorem dL_law_656 : decode cL_law 656 = .ok (.iconst 0, 1) := by decide +kernel
theorem dL_law_657 : decode cL_law 657 = .ok (.invokevirtual 75, 3) := by decide +kernel
theorem dL_law_660 : decode cL_law 660 = .ok (.pop, 1) := by decide +kernel
theorem dL_law_661 : decode cL_law 661 = .ok (.goto 772, 3) := by decide +kernel
theorem dL_law_664 : decode cL_law 664 = .ok (.aload_n 1, 1) := by decide +kernel
theorem dL_law_665 : decode cL_law 665 = .ok (.aload_n 0, 1) := by decide +kernel
theorem dL_law_666 : decode cL_law 666 = .ok (.iload_n 3, 1) := by decide +kernel
theorem dL_law_667 : decode cL_law 667 = .ok (.iconst 1, 1) := by decide +kernel
theorem dL_law_668 : decode cL_law 668 = .ok (.iadd, 1) := by decide +kernel
theorem dL_law_669 : decode cL_law 669 = .ok (.iaload, 1) := by decide +kernel
theorem dL_law_670 : decode cL_law 670 = .ok (.aload_n 0, 1) := by decide +kernel
theorem dL_law_671 : decode cL_law 671 = .ok (.iload_n 3, 1) := by decide +kernel
theorem dL_law_672 : decode cL_law 672 = .ok (.iconst 2, 1) := by decide +kernel
theorem dL_law_673 : decode cL_law 673 = .ok (.iadd, 1) := by decide +kernel
theorem dL_law_674 : decode cL_law 674 = .ok (.iaload, 1) := by decide +kernel
theorem dL_law_675 : decode cL_law 675 = .ok (.aload_n 0, 1) := by decide +kernel
theorem dL_law_676 : decode cL_law 676 = .ok (.iload_n 3, 1) := by decide +kernel
theorem dL_law_677 : decode cL_law 677 = .ok (.iconst 3, 1) := by decide +kernel
theorem dL_law_678 : decode cL_law 678 = .ok (.iadd, 1) := by decide +kernel
theorem dL_law_679 : decode cL_law 679 = .ok (.iaload, 1) := by decide +kernel
theorem dL_law_680 : decode cL_law 680 = .ok (.invokevirtual 76, 3) := by decide +kernel
theorem dL_law_683 : decode cL_law 683 = .ok (.pop, 1) := by decide +kernel
theorem dL_law_684 : decode cL_law 684 = .ok (.aload_n 2, 1) := by decide +kernel
theorem dL_law_685 : decode cL_law 685 = .ok (.aload_n 0, 1) := by decide +kernel
theorem dL_law_686 : decode cL_law 686 = .ok (.iload_n 3, 1) := by decide +kernel
theorem dL_law_687 : decode cL_law 687 = .ok (.iconst 1, 1) := by decide +kernel
theorem dL_law_688 : decode cL_law 688 = .ok (.iadd, 1) := by decide +kernel
theorem dL_law_689 : decode cL_law 689 = .ok (.iaload, 1) := by decide +kernel
theorem dL_law_690 : decode cL_law 690 = .ok (.aload_n 0, 1) := by decide +kernel
theorem dL_law_691 : decode cL_law 691 = .ok (.iload_n 3, 1) := by decide +kernel
theorem dL_law_692 : decode cL_law 692 = .ok (.iconst 2, 1) := by decide +kernel
theorem dL_law_693 : decode cL_law 693 = .ok (.iadd, 1) := by decide +kernel
theorem dL_law_694 : decode cL_law 694 = .ok (.iaload, 1) := by decide +kernel
theorem dL_law_695 : decode cL_law 695 = .ok (.aload_n 0, 1) := by decide +kernel
theorem dL_law_696 : decode cL_law 696 = .ok (.iload_n 3, 1) := by decide +kernel
theorem dL_law_697 : decode cL_law 697 = .ok (.iconst 3, 1) := by decide +kernel
theorem dL_law_698 : decode cL_law 698 = .ok (.iadd, 1) := by decide +kernel
theorem dL_law_699 : decode cL_law 699 = .ok (.iaload, 1) := by decide +kernel
theorem dL_law_700 : decode cL_law 700 = .ok (.invokevirtual 79, 3) := by decide +kernel
theorem dL_law_703 : decode cL_law 703 = .ok (.pop, 1) := by decide +kernel
theorem dL_law_704 : decode cL_law 704 = .ok (.goto 729, 3) := by decide +kernel
theorem dL_law_707 : decode cL_law 707 = .ok (.aload_n 1, 1) := by decide +kernel
theorem dL_law_708 : decode cL_law 708 = .ok (.aload_n 0, 1) := by decide +kernel
theorem dL_law_709 : decode cL_law 709 = .ok (.iload_n 3, 1) := by decide +kernel
theorem dL_law_710 : decode cL_law 710 = .ok (.iconst 1, 1) := by decide +kernel
theorem dL_law_711 : decode cL_law 711 = .ok (.iadd, 1) := by decide +kernel
theorem dL_law_712 : decode cL_law 712 = .ok (.iaload, 1) := by decide +kernel
theorem dL_law_713 : decode cL_law 713 = .ok (.aload_n 0, 1) := by decide +kernel
theorem dL_law_714 : decode cL_law 714 = .ok (.iload_n 3, 1) := by decide +kernel
theorem dL_law_715 : decode cL_law 715 = .ok (.iconst 2, 1) := by decide +kernel
theorem dL_law_716 : decode cL_law 716 = .ok (.iadd, 1) := by decide +kernel
theorem dL_law_717 : decode cL_law 717 = .ok (.iaload, 1) := by decide +kernel
theorem dL_law_718 : decode cL_law 718 = .ok (.invokevirtual 80, 3) := by decide +kernel
theorem dL_law_721 : decode cL_law 721 = .ok (.pop, 1) := by decide +kernel
theorem dL_law_722 : decode cL_law 722 = .ok (.aload_n 2, 1) := by decide +kernel
theorem dL_law_723 : decode cL_law 723 = .ok (.aload_n 0, 1) := by decide +kernel
theorem dL_law_724 : decode cL_law 724 = .ok (.iload_n 3, 1) := by decide +kernel
theorem dL_law_725 : decode cL_law 725 = .ok (.iconst 1, 1) := by decide +kernel
theorem dL_law_726 : decode cL_law 726 = .ok (.iadd, 1) := by decide +kernel
theorem dL_law_727 : decode cL_law 727 = .ok (.iaload, 1) := by decide +kernel
theorem dL_law_728 : decode cL_law 728 = .ok (.aload_n 0, 1) := by decide +kernel
theorem dL_law_729 : decode cL_law 729 = .ok (.iload_n 3, 1) := by decide +kernel
theorem dL_law_730 : decode cL_law 730 = .ok (.iconst 2, 1) := by decide +kernel
theorem dL_law_731 : decode cL_law 731 = .ok (.iadd, 1) := by decide +kernel
theorem dL_law_732 : decode cL_law 732 = .ok (.iaload, 1) := by decide +kernel
theorem dL_law_733 : decode cL_law 733 = .ok (.invokevirtual 83, 3) := by decide +kernel
theorem dL_law_736 : decode cL_law 736 = .ok (.pop, 1) := by decide +kernel
theorem dL_law_737 : decode cL_law 737 = .ok (.goto 696, 3) := by decide +kernel
theorem dL_law_740 : decode cL_law 740 = .ok (.aload_n 1, 1) := by decide +kernel
theorem dL_law_741 : decode cL_law 741 = .ok (.aload_n 0, 1) := by decide +kernel
theorem dL_law_742 : decode cL_law 742 = .ok (.iload_n 3, 1) := by decide +kernel
theorem dL_law_743 : decode cL_law 743 = .ok (.iconst 1, 1) := by decide +kernel
theorem dL_law_744 : decode cL_law 744 = .ok (.iadd, 1) := by decide +kernel
theorem dL_law_745 : decode cL_law 745 = .ok (.iaload, 1) := by decide +kernel
theorem dL_law_746 : decode cL_law 746 = .ok (.aload_n 0, 1) := by decide +kernel
theorem dL_law_747 : decode cL_law 747 = .ok (.iload_n 3, 1) := by decide +kernel
theorem dL_law_748 : decode cL_law 748 = .ok (.iconst 2, 1) := by decide +kernel
theorem dL_law_749 : decode cL_law 749 = .ok (.iadd, 1) := by decide +kernel
theorem dL_law_750 : decode cL_law 750 = .ok (.iaload, 1) := by decide +kernel
theorem dL_law_751 : decode cL_law 751 = .ok (.aload_n 0, 1) := by decide +kernel
theorem dL_law_752 : decode cL_law 752 = .ok (.iload_n 3, 1) := by decide +kernel
theorem dL_law_753 : decode cL_law 753 = .ok (.iconst 3, 1) := by decide +kernel
theorem dL_law_754 : decode cL_law 754 = .ok (.iadd, 1) := by decide +kernel
theorem dL_law_755 : decode cL_law 755 = .ok (.iaload, 1) := by decide +kernel
theorem dL_law_756 : decode cL_law 756 = .ok (.invokevirtual 84, 3) := by decide +kernel
theorem dL_law_759 : decode cL_law 759 = .ok (.pop, 1) := by decide +kernel
theorem dL_law_760 : decode cL_law 760 = .ok (.aload_n 2, 1) := by decide +kernel
theorem dL_law_761 : decode cL_law 761 = .ok (.aload_n 0, 1) := by decide +kernel
theorem dL_law_762 : decode cL_law 762 = .ok (.iload_n 3, 1) := by decide +kernel
theorem dL_law_763 : decode cL_law 763 = .ok (.iconst 1, 1) := by decide +kernel
theorem dL_law_764 : decode cL_law 764 = .ok (.iadd, 1) := by decide +kernel
theorem dL_law_765 : decode cL_law 765 = .ok (.iaload, 1) := by decide +kernel
theorem dL_law_766 : decode cL_law 766 = .ok (.aload_n 0, 1) := by decide +kernel
theorem dL_law_767 : decode cL_law 767 = .ok (.iload_n 3, 1) := by decide +kernel
theorem dL_law_768 : decode cL_law 768 = .ok (.iconst 2, 1) := by decide +kernel
theorem dL_law_769 : decode cL_law 769 = .ok (.iadd, 1) := by decide +kernel
theorem dL_law_770 : decode cL_law 770 = .ok (.iaload, 1) := by decide +kernel
theorem dL_law_771 : decode cL_law 771 = .ok (.aload_n 0, 1) := by decide +kernel
theorem dL_law_772 : decode cL_law 772 = .ok (.iload_n 3, 1) := by decide +kernel
theorem dL_law_773 : decode cL_law 773 = .ok (.iconst 3, 1) := by decide +kernel
theorem dL_law_774 : decode cL_law 774 = .ok (.iadd, 1) := by decide +kernel
theorem dL_law_775 : decode cL_law 775 = .ok (.iaload, 1) := by decide +kernel
theorem dL_law_776 : decode cL_law 776 = .ok (.invokevirtual 87, 3) := by decide +kernel
theorem dL_law_779 : decode cL_law 779 = .ok (.pop, 1) := by decide +kernel
theorem dL_law_780 : decode cL_law 780 = .ok (.goto 653, 3) := by decide +kernel
theorem dL_law_783 : decode cL_law 783 = .ok (.aload_n 1, 1) := by decide +kernel
theorem dL_law_784 : decode cL_law 784 = .ok (.aload_n 0, 1) := by decide +kernel
theorem dL_law_785 : decode cL_law 785 = .ok (.iload_n 3, 1) := by decide +kernel
theorem dL_law_786 : decode cL_law 786 = .ok (.iconst 1, 1) := by decide +kernel
theorem dL_law_787 : decode cL_law 787 = .ok (.iadd, 1) := by decide +kernel
theorem dL_law_788 : decode cL_law 788 = .ok (.iaload, 1) := by decide +kernel
theorem dL_law_789 : decode cL_law 789 = .ok (.aload_n 0, 1) := by decide +kernel
theorem dL_law_790 : decode cL_law 790 = .ok (.iload_n 3, 1) := by decide +kernel
theorem dL_law_791 : decode cL_law 791 = .ok (.iconst 2, 1) := by decide +kernel
theorem dL_law_792 : decode cL_law 792 = .ok (.iadd, 1) := by decide +kernel
theorem dL_law_793 : decode cL_law 793 = .ok (.iaload, 1) := by decide +kernel
theorem dL_law_794 : decode cL_law 794 = .ok (.invokevirtual 88, 3) := by decide +kernel
theorem dL_law_797 : decode cL_law 797 = .ok (.pop, 1) := by decide +kernel
theorem dL_law_798 : decode cL_law 798 = .ok (.aload_n 2, 1) := by decide +kernel
theorem dL_law_799 : decode cL_law 799 = .ok (.aload_n 0, 1) := by decide +kernel
theorem dL_law_800 : decode cL_law 800 = .ok (.iload_n 3, 1) := by decide +kernel
theorem dL_law_801 : decode cL_law 801 = .ok (.iconst 1, 1) := by decide +kernel
theorem dL_law_802 : decode cL_law 802 = .ok (.iadd, 1) := by decide +kernel
theorem dL_law_803 : decode cL_law 803 = .ok (.iaload, 1) := by decide +kernel
theorem dL_law_804 : decode cL_law 804 = .ok (.aload_n 0, 1) := by decide +kernel
theorem dL_law_805 : decode cL_law 805 = .ok (.iload_n 3, 1) := by decide +kernel
theorem dL_law_806 : decode cL_law 806 = .ok (.iconst 2, 1) := by decide +kernel
theorem dL_law_807 : decode cL_law 807 = .ok (.iadd, 1) := by decide +kernel
theorem dL_law_808 : decode cL_law 808 = .ok (.iaload, 1) := by decide +kernel
theorem dL_law_809 : decode cL_law 809 = .ok (.invokevirtual 91, 3) := by decide +kernel
theorem dL_law_812 : decode cL_law 812 = .ok (.pop, 1) := by decide +kernel
theorem dL_law_813 : decode cL_law 813 = .ok (.goto 620, 3) := by decide +kernel
theorem dL_law_816 : decode cL_law 816 = .ok (.aload_n 1, 1) := by decide +kernel
theorem dL_law_817 : decode cL_law 817 = .ok (.aload_n 0, 1) := by decide +kernel
theorem dL_law_818 : decode cL_law 818 = .ok (.iload_n 3, 1) := by decide +kernel
theorem dL_law_819 : decode cL_law 819 = .ok (.iconst 1, 1) := by decide +kernel
theorem dL_law_820 : decode cL_law 820 = .ok (.iadd, 1) := by decide +kernel
theorem dL_law_821 : decode cL_law 821 = .ok (.iaload, 1) := by decide +kernel
theorem dL_law_822 : decode cL_law 822 = .ok (.invokevirtual 92, 3) := by decide +kernel
theorem dL_law_825 : decode cL_law 825 = .ok (.pop, 1) := by decide +kernel
theorem dL_law_826 : decode cL_law 826 = .ok (.aload_n 2, 1) := by decide +kernel
theorem dL_law_827 : decode cL_law 827 = .ok (.aload_n 0, 1) := by decide +kernel
theorem dL_law_828 : decode cL_law 828 = .ok (.iload_n 3, 1) := by decide +kernel
theorem dL_law_829 : decode cL_law 829 = .ok (.iconst 1, 1) := by decide +kernel
theorem dL_law_830 : decode cL_law 830 = .ok (.iadd, 1) := by decide +kernel
theorem dL_law_831 : decode cL_law 831 = .ok (.iaload, 1) := by decide +kernel
theorem dL_law_832 : decode cL_law 832 = .ok (.invokevirtual 95, 3) := by decide +kernel
theorem dL_law_835 : decode cL_law 835 = .ok (.pop, 1) := by decide +kernel
theorem dL_law_836 : decode cL_law 836 = .ok (.goto 597, 3) := by decide +kernel
theorem dL_law_839 : decode cL_law 839 = .ok (.aload_n 1, 1) := by decide +kernel
theorem dL_law_840 : decode cL_law 840 = .ok (.aload_n 0, 1) := by decide +kernel
theorem dL_law_841 : decode cL_law 841 = .ok (.iload_n 3, 1) := by decide +kernel
theorem dL_law_842 : decode cL_law 842 = .ok (.iconst 1, 1) := by decide +kernel
theorem dL_law_843 : decode cL_law 843 = .ok (.iadd, 1) := by decide +kernel
theorem dL_law_844 : decode cL_law 844 = .ok (.iaload, 1) := by decide +kernel
theorem dL_law_845 : decode cL_law 845 = .ok (.aload_n 0, 1) := by decide +kernel
theorem dL_law_846 : decode cL_law 846 = .ok (.iload_n 3, 1) := by decide +kernel
theorem dL_law_847 : decode cL_law 847 = .ok (.iconst 2, 1) := by decide +kernel
theorem dL_law_848 : decode cL_law 848 = .ok (.iadd, 1) := by decide +kernel
theorem dL_law_849 : decode cL_law 849 = .ok (.iaload, 1) := by decide +kernel
theorem dL_law_850 : decode cL_law 850 = .ok (.invokevirtual 96, 3) := by decide +kernel
theorem dL_law_853 : decode cL_law 853 = .ok (.pop, 1) := by decide +kernel
theorem dL_law_854 : decode cL_law 854 = .ok (.aload_n 2, 1) := by decide +kernel
theorem dL_law_855 : decode cL_law 855 = .ok (.aload_n 0, 1) := by decide +kernel
theorem dL_law_856 : decode cL_law 856 = .ok (.iload_n 3, 1) := by decide +kernel
theorem dL_law_857 : decode cL_law 857 = .ok (.iconst 1, 1) := by decide +kernel
theorem dL_law_858 : decode cL_law 858 = .ok (.iadd, 1) := by decide +kernel
theorem dL_law_859 : decode cL_law 859 = .ok (.iaload, 1) := by decide +kernel
theorem dL_law_860 : decode cL_law 860 = .ok (.aload_n 0, 1) := by decide +kernel
theorem dL_law_861 : decode cL_law 861 = .ok (.iload_n 3, 1) := by decide +kernel
theorem dL_law_862 : decode cL_law 862 = .ok (.iconst 2, 1) := by decide +kernel
theorem dL_law_863 : decode cL_law 863 = .ok (.iadd, 1) := by decide +kernel
theorem dL_law_864 : decode cL_law 864 = .ok (.iaload, 1) := by decide +kernel
theorem dL_law_865 : decode cL_law 865 = .ok (.invokevirtual 99, 3) := by decide +kernel
theorem dL_law_868 : decode cL_law 868 = .ok (.pop, 1) := by decide +kernel
theorem dL_law_869 : decode cL_law 869 = .ok (.goto 564, 3) := by decide +kernel
set_option maxHeartbeats 4000000 in
set_option maxRecDepth 100000 in
/-- undo -/
theorem law_10 {p : Program} {l : Launch} {e : Env} {s : State} {m : MethodId} {below : List Frame} {meth : Method} {c : Code} {b LN : Nat} {xs : Nat → Int32} (hx : p.tables.exec = Jvm.exec) (hb : c.code = code) (hr : meth.sig.returnType = ret) (hml : c.maxLocals = 4) (hown : s.vm.findClass RL = some m.cls) (hT : ∀ w ∈ TB, w.before #[Value.ref b] s = true) (hX : va_X b LN xs s s.heap) (hbl : b < s.heap.size) (hlocks : meth.locks = false) (hLN : LN ≤ 3072) {dC : Nat → ClassId} {dI : Nat → Nat → Nat} {cy : Nat → ClassId} {L : List Nat} {kap : Nat → Nat} {ad : (Nat → Nat) × (Nat → Nat)} {h0 m0 : Nat} (hK : va_K (dC, dI) vwCl (cyT cy) s) (hN : ∀ q ∈ NLs, va_Nw (.methodLinkNest q.1 q.2.1 q.2.2.1 q.2.2.2) s) (hSTR : STR ad (AL L s.heap.size) s s.heap) (hbA : ¬ AL L s.heap.size b) (hT_h0 : TK L kap h0 11) (hT_m0 : TK L kap m0 12) (hu6 : ∀ b9 c9, TK L kap b9 6 → TK L kap c9 6 → b9 = c9) (hu10 : ∀ b9 c9, TK L kap b9 10 → TK L kap c9 10 → b9 = c9) (hu12 : ∀ b9 c9, TK L kap b9 12 → TK L kap c9 12 → b9 = c9) (hu27 : ∀ b9 c9, TK L kap b9 27 → TK L kap c9 27 → b9 = c9) (hu50 : ∀ b9 c9, TK L kap b9 50 → TK L kap c9 50 → b9 = c9) (hu51 : ∀ b9 c9, TK L kap b9 51 → TK L kap c9 51 → b9 = c9) (hu52 : ∀ b9 c9, TK L kap b9 52 → TK L kap c9 52 → b9 = c9) (hu55 : ∀ b9 c9, TK L kap b9 55 → TK L kap c9 55 → b9 = c9) {i t9 : Nat} (hi : 6 * i + 6 ≤ LN) (kk : ∀ (t9 : Nat) (S : Nat → va_E) (H : Heap) (locs : List Loc) (ls : Array Slot), Ty cy L kap (t9, t9) S → DIs S m0 → JY L kap S → PW dC dI L (AL L s.heap.size) s.heap S H locs → lv_has ls 4 [(3, .int (nI (6 * i))), (2, .ref m0), (1, .ref h0), (0, .ref b)] → W p l e room_1 s m #[Value.ref b] below meth c H locs 152 10885 (lw_Z below #[Value.ref b] s) (F0 m 1433 ls [])) {S : Nat → va_E} {H : Heap} {locs : List Loc} {ls : Array Slot} (hTy : Ty cy L kap (t9, t9) S) (hDI : DIs S m0) (hJY : JY L kap S) (hW : PW dC dI L (AL L s.heap.size) s.heap S H locs) (hl : lv_has ls 4 [(3, .int (nI (6 * i))), (2, .ref m0), (1, .ref h0), (0, .ref b)]) : W p l e room_1 s m #[Value.ref b] below meth c H locs 152 10885 (lw_Z below #[Value.ref b] s) (F0 m 516 ls []) := by
  have hA : ∀ q, s.heap.size ≤ q → AL L s.heap.size q := fun _ h => Or.inr h
  refine lv_aload_n hx hb dL_law_516 rfl (lv_at hl 2 rfl) ?_
  obtain ⟨_, _, _, _, _, _, _, _, _, _, _, _, _, hS_1, _, _, _, _, _, _, _, _, _, _, _, _⟩ := hTy.k11 hT_h0
  refine pl_calli (va_runV (As := []) (rest := []) ⟨hx, hb, hml, hown, hT⟩ (k_undo l dC dI cy L kap (t9, t9) S H.size h0 hTy hT_h0) (cwV 0 hT (gV w844 w845 w846 w1 w847) rfl rfl rfl (by decide +kernel) ⟨(Nat.le_of_ble_eq_true rfl), (Nat.le_of_ble_eq_true rfl)⟩) ⟨pcN.blind, pl_recv hK hW hT_h0.1 hS_1 rfl, pcN.pre hW.1 hK hW.2.1 hN (fun q h => absurd h List.not_mem_nil)⟩ rfl rfl hl.1 rfl (lv_room (Nat.le_of_ble_eq_true rfl)) dL_law_517 ⟨(Nat.le_of_ble_eq_true rfl), (Nat.le_of_ble_eq_true rfl)⟩) hW (fun q h => PW_A hW h) hA (fun r_2 S_3 H locs hrel hW => ?_)
  have hTy0 := hTy
  obtain ⟨hTy, hF1⟩ := hrel
  have hDI : DIs S_3 m0 := ⟨DI_0 hTy0 hTy hT_m0 hu50 hF1 (by decide) hDI.1, DI_2 hTy0 hTy hT_m0 hu52 hF1 (by decide) hDI.2⟩
  have hJY := JY_fr hF1 (by decide) (by decide) (by decide) (by decide) hJY
  refine lv_pop hx hb dL_law_520 rfl ?_
  refine lv_aload_n hx hb dL_law_521 rfl (lv_at hl 1 rfl) ?_
  obtain ⟨_, _, _, _, _, _, _, _, _, _, _, _, _, _, _, _, _, _, _, _, _, _, _, _, _, _, _, _, _, _, _, hS_4, _, _, _, _, _, _, _, _, _, _, _, _, _, _, _, _, _, _, _, _, _, _, _, _, _, _, _⟩ := hTy.k12 hT_m0
  refine pl_calli (va_runV (As := []) (rest := []) ⟨hx, hb, hml, hown, hT⟩ (m_undo l dC dI cy L kap (t9, t9) S_3 H.size m0 hTy hT_m0 hDI) (cwV 0 hT (gV w1323 w1324 w1325 w14 w1326) rfl rfl rfl (by decide +kernel) ⟨(Nat.le_of_ble_eq_true rfl), (Nat.le_of_ble_eq_true rfl)⟩) ⟨pcN.blind, pl_recv hK hW hT_m0.1 hS_4 rfl, pcN.pre hW.1 hK hW.2.1 hN (fun q h => absurd h List.not_mem_nil)⟩ rfl rfl hl.1 rfl (lv_room (Nat.le_of_ble_eq_true rfl)) dL_law_522 ⟨(Nat.le_of_ble_eq_true rfl), (Nat.le_of_ble_eq_true rfl)⟩) hW (fun q h => PW_A hW h) hA (fun r_5 S_6 H locs hrel hW => ?_)
  have hTy0 := hTy
  obtain ⟨hTy, hF1, hx1⟩ := hrel
  have hDI : DIs S_6 m0 := hx1
  have hJY := JY_fr hF1 (by decide) (by decide) (by decide) (by decide) hJY
  refine lv_pop hx hb dL_law_525 rfl ?_
  refine lv_goto (tgt := 1433) hx hb dL_law_526 (by decide) ?_
  exact kk t9 S_6 H locs ls (by first | exact hTy) hDI hJY hW (lv_sub hl [0, 1, 2, 3] rfl)

set_option maxHeartbeats 4000000 in
set_option maxRecDepth 100000 in
/-- tradeOf -/
theorem law_11 {p : Program} {l : Launch} {e : Env} {s : State} {m : MethodId} {below : List Frame} {meth : Method} {c : Code} {b LN : Nat} {xs : Nat → Int32} (hx : p.tables.exec = Jvm.exec) (hb : c.code = code) (hr : meth.sig.returnType = ret) (hml : c.maxLocals = 4) (hown : s.vm.findClass RL = some m.cls) (hT : ∀ w ∈ TB, w.before #[Value.ref b] s = true) (hX : va_X b LN xs s s.heap) (hbl : b < s.heap.size) (hlocks : meth.locks = false) (hLN : LN ≤ 3072) {dC : Nat → ClassId} {dI : Nat → Nat → Nat} {cy : Nat → ClassId} {L : List Nat} {kap : Nat → Nat} {ad : (Nat → Nat) × (Nat → Nat)} {h0 m0 : Nat} (hK : va_K (dC, dI) vwCl (cyT cy) s) (hN : ∀ q ∈ NLs, va_Nw (.methodLinkNest q.1 q.2.1 q.2.2.1 q.2.2.2) s) (hSTR : STR ad (AL L s.heap.size) s s.heap) (hbA : ¬ AL L s.heap.size b) (hT_h0 : TK L kap h0 11) (hT_m0 : TK L kap m0 12) (hu6 : ∀ b9 c9, TK L kap b9 6 → TK L kap c9 6 → b9 = c9) (hu10 : ∀ b9 c9, TK L kap b9 10 → TK L kap c9 10 → b9 = c9) (hu12 : ∀ b9 c9, TK L kap b9 12 → TK L kap c9 12 → b9 = c9) (hu27 : ∀ b9 c9, TK L kap b9 27 → TK L kap c9 27 → b9 = c9) (hu50 : ∀ b9 c9, TK L kap b9 50 → TK L kap c9 50 → b9 = c9) (hu51 : ∀ b9 c9, TK L kap b9 51 → TK L kap c9 51 → b9 = c9) (hu52 : ∀ b9 c9, TK L kap b9 52 → TK L kap c9 52 → b9 = c9) (hu55 : ∀ b9 c9, TK L kap b9 55 → TK L kap c9 55 → b9 = c9) {i t9 : Nat} (hi : 6 * i + 6 ≤ LN) (kk : ∀ (t9 : Nat) (S : Nat → va_E) (H : Heap) (locs : List Loc) (ls : Array Slot), Ty cy L kap (t9, t9) S → DIs S m0 → JY L kap S → PW dC dI L (AL L s.heap.size) s.heap S H locs → lv_has ls 4 [(3, .int (nI (6 * i))), (2, .ref m0), (1, .ref h0), (0, .ref b)] → W p l e room_1 s m #[Value.ref b] below meth c H locs 152 10885 (lw_Z below #[Value.ref b] s) (F0 m 1433 ls [])) {S : Nat → va_E} {H : Heap} {locs : List Loc} {ls : Array Slot} (hTy : Ty cy L kap (t9, t9) S) (hDI : DIs S m0) (hJY : JY L kap S) (hW : PW dC dI L (AL L s.heap.size) s.heap S H locs) (hl : lv_has ls 4 [(3, .int (nI (6 * i))), (2, .ref m0), (1, .ref h0), (0, .ref b)]) : W p l e room_1 s m #[Value.ref b] below meth c H locs 152 10885 (lw_Z below #[Value.ref b] s) (F0 m 529 ls []) := by
  have hA : ∀ q, s.heap.size ≤ q → AL L s.heap.size q := fun _ h => Or.inr h
  refine lv_aload_n hx hb dL_law_529 rfl (lv_at hl 2 rfl) ?_
  refine lv_aload_n hx hb dL_law_530 rfl (lv_at hl 3 rfl) ?_
  refine lv_iload_n hx hb dL_law_531 rfl (lv_at hl 0 rfl) ?_
  refine lv_iconst (v := 1) hx hb dL_law_532 (by decide) ?_
  refine lv_iadd hx hb dL_law_533 ?_
  refine lv_topi (fun z_1 ez_1 => ?_)
  obtain rfl : z_1 = nI ((6 * i) + 1) := ez_1.trans (nI_add (6 * i) (1))
  refine va_sld hx hb hX hbl hbA hW.2.2 (vp_in_nI (n := (6 * i) + 1) (by omega) (by omega)) dL_law_534 ?_
  refine lv_topi (fun y_2 ey_2 => ?_)
  refine lv_aload_n hx hb dL_law_535 rfl (lv_at hl 3 rfl) ?_
  refine lv_iload_n hx hb dL_law_536 rfl (lv_at hl 0 rfl) ?_
  refine lv_iconst (v := 2) hx hb dL_law_537 (by decide) ?_
  refine lv_iadd hx hb dL_law_538 ?_
  refine lv_topi (fun z_3 ez_3 => ?_)
  obtain rfl : z_3 = nI ((6 * i) + 2) := ez_3.trans (nI_add (6 * i) (2))
  refine va_sld hx hb hX hbl hbA hW.2.2 (vp_in_nI (n := (6 * i) + 2) (by omega) (by omega)) dL_law_539 ?_
  refine lv_topi (fun y_4 ey_4 => ?_)
  obtain ⟨_, _, _, _, _, _, _, _, _, _, _, _, _, hS_5, _, _, _, _, _, _, _, _, _, _, _, _⟩ := hTy.k11 hT_h0
  refine pl_calli (va_runV (As := [.int y_2, .int y_4]) (rest := []) ⟨hx, hb, hml, hown, hT⟩ (k_tradeOf l dC dI cy L kap (t9, t9) S H.size h0 y_2 y_4 hTy hT_h0) (cwV 2 hT (gV w852 w853 w854 w1 w855) rfl rfl rfl (by decide +kernel) ⟨(Nat.le_of_ble_eq_true rfl), (Nat.le_of_ble_eq_true rfl)⟩) ⟨pcN.blind, pl_recv hK hW hT_h0.1 hS_5 rfl, pcN.pre hW.1 hK hW.2.1 hN (fun q h => absurd h List.not_mem_nil)⟩ rfl rfl hl.1 rfl (lv_room (Nat.le_of_ble_eq_true rfl)) dL_law_540 ⟨(Nat.le_of_ble_eq_true rfl), (Nat.le_of_ble_eq_true rfl)⟩) hW (fun q h => PW_A hW h) hA (fun r_6 S_7 H locs hrel hW => ?_)
  have hTy0 := hTy
  obtain ⟨hTy, hF1⟩ := hrel
  have hDI : DIs S_7 m0 := ⟨DI_0 hTy0 hTy hT_m0 hu50 hF1 (by decide) hDI.1, DI_2 hTy0 hTy hT_m0 hu52 hF1 (by decide) hDI.2⟩
  have hJY := JY_fr hF1 (by decide) (by decide) (by decide) (by decide) hJY
  refine lv_pop hx hb dL_law_543 rfl ?_
  refine lv_aload_n hx hb dL_law_544 rfl (lv_at hl 1 rfl) ?_
  refine lv_aload_n hx hb dL_law_545 rfl (lv_at hl 3 rfl) ?_
  refine lv_iload_n hx hb dL_law_546 rfl (lv_at hl 0 rfl) ?_
  refine lv_iconst (v := 1) hx hb dL_law_547 (by decide) ?_
  refine lv_iadd hx hb dL_law_548 ?_
  refine lv_topi (fun z_8 ez_8 => ?_)
  obtain rfl : z_8 = nI ((6 * i) + 1) := ez_8.trans (nI_add (6 * i) (1))
  refine va_sld hx hb hX hbl hbA hW.2.2 (vp_in_nI (n := (6 * i) + 1) (by omega) (by omega)) dL_law_549 ?_
  refine lv_topi (fun y_9 ey_9 => ?_)
  obtain rfl : y_2 = y_9 := ey_2.trans ey_9.symm
  refine lv_aload_n hx hb dL_law_550 rfl (lv_at hl 3 rfl) ?_
  refine lv_iload_n hx hb dL_law_551 rfl (lv_at hl 0 rfl) ?_
  refine lv_iconst (v := 2) hx hb dL_law_552 (by decide) ?_
  refine lv_iadd hx hb dL_law_553 ?_
  refine lv_topi (fun z_10 ez_10 => ?_)
  obtain rfl : z_10 = nI ((6 * i) + 2) := ez_10.trans (nI_add (6 * i) (2))
  refine va_sld hx hb hX hbl hbA hW.2.2 (vp_in_nI (n := (6 * i) + 2) (by omega) (by omega)) dL_law_554 ?_
  refine lv_topi (fun y_11 ey_11 => ?_)
  obtain rfl : y_4 = y_11 := ey_4.trans ey_11.symm
  obtain ⟨_, _, _, _, _, _, _, _, _, _, _, _, _, _, _, _, _, _, _, _, _, _, _, _, _, _, _, _, _, _, _, hS_12, _, _, _, _, _, _, _, _, _, _, _, _, _, _, _, _, _, _, _, _, _, _, _, _, _, _, _⟩ := hTy.k12 hT_m0
  refine pl_calli (va_runV (As := [.int y_2, .int y_4]) (rest := []) ⟨hx, hb, hml, hown, hT⟩ (m_tradeOf l dC dI cy L kap (t9, t9) S_7 H.size m0 y_2 y_4 hTy hT_m0) (cwV 2 hT (gV w1327 w1328 w1329 w14 w1330) rfl rfl rfl (by decide +kernel) ⟨(Nat.le_of_ble_eq_true rfl), (Nat.le_of_ble_eq_true rfl)⟩) ⟨pcN.blind, pl_recv hK hW hT_m0.1 hS_12 rfl, pcN.pre hW.1 hK hW.2.1 hN (fun q h => absurd h List.not_mem_nil)⟩ rfl rfl hl.1 rfl (lv_room (Nat.le_of_ble_eq_true rfl)) dL_law_555 ⟨(Nat.le_of_ble_eq_true rfl), (Nat.le_of_ble_eq_true rfl)⟩) hW (fun q h => PW_A hW h) hA (fun r_13 S_14 H locs hrel hW => ?_)
  have hTy0 := hTy
  obtain ⟨hTy, hF1⟩ := hrel
  have hDI : DIs S_14 m0 := ⟨DI_0 hTy0 hTy hT_m0 hu50 hF1 (by decide) hDI.1, DI_2 hTy0 hTy hT_m0 hu52 hF1 (by decide) hDI.2⟩
  have hJY := JY_fr hF1 (by decide) (by decide) (by decide) (by decide) hJY
  refine lv_pop hx hb dL_law_558 rfl ?_
  refine lv_goto (tgt := 1433) hx hb dL_law_559 (by decide) ?_
  exact kk t9 S_14 H locs ls (by first | exact hTy) hDI hJY hW (lv_sub hl [0, 1, 2, 3] rfl)

set_option maxHeartbeats 4000000 in
set_option maxRecDepth 100000 in
/-- flow -/
theorem law_12 {p : Program} {l : Launch} {e : Env} {s : State} {m : MethodId} {below : List Frame} {meth : Method} {c : Code} {b LN : Nat} {xs : Nat → Int32} (hx : p.tables.exec = Jvm.exec) (hb : c.code = code) (hr : meth.sig.returnType = ret) (hml : c.maxLocals = 4) (hown : s.vm.findClass RL = some m.cls) (hT : ∀ w ∈ TB, w.before #[Value.ref b] s = true) (hX : va_X b LN xs s s.heap) (hbl : b < s.heap.size) (hlocks : meth.locks = false) (hLN : LN ≤ 3072) {dC : Nat → ClassId} {dI : Nat → Nat → Nat} {cy : Nat → ClassId} {L : List Nat} {kap : Nat → Nat} {ad : (Nat → Nat) × (Nat → Nat)} {h0 m0 : Nat} (hK : va_K (dC, dI) vwCl (cyT cy) s) (hN : ∀ q ∈ NLs, va_Nw (.methodLinkNest q.1 q.2.1 q.2.2.1 q.2.2.2) s) (hSTR : STR ad (AL L s.heap.size) s s.heap) (hbA : ¬ AL L s.heap.size b) (hT_h0 : TK L kap h0 11) (hT_m0 : TK L kap m0 12) (hu6 : ∀ b9 c9, TK L kap b9 6 → TK L kap c9 6 → b9 = c9) (hu10 : ∀ b9 c9, TK L kap b9 10 → TK L kap c9 10 → b9 = c9) (hu12 : ∀ b9 c9, TK L kap b9 12 → TK L kap c9 12 → b9 = c9) (hu27 : ∀ b9 c9, TK L kap b9 27 → TK L kap c9 27 → b9 = c9) (hu50 : ∀ b9 c9, TK L kap b9 50 → TK L kap c9 50 → b9 = c9) (hu51 : ∀ b9 c9, TK L kap b9 51 → TK L kap c9 51 → b9 = c9) (hu52 : ∀ b9 c9, TK L kap b9 52 → TK L kap c9 52 → b9 = c9) (hu55 : ∀ b9 c9, TK L kap b9 55 → TK L kap c9 55 → b9 = c9) {i t9 : Nat} (hi : 6 * i + 6 ≤ LN) (kk : ∀ (t9 : Nat) (S : Nat → va_E) (H : Heap) (locs : List Loc) (ls : Array Slot), Ty cy L kap (t9, t9) S → DIs S m0 → JY L kap S → PW dC dI L (AL L s.heap.size) s.heap S H locs → lv_has ls 4 [(3, .int (nI (6 * i))), (2, .ref m0), (1, .ref h0), (0, .ref b)] → W p l e room_1 s m #[Value.ref b] below meth c H locs 152 10885 (lw_Z below #[Value.ref b] s) (F0 m 1433 ls [])) {S : Nat → va_E} {H : Heap} {locs : List Loc} {ls : Array Slot} (hTy : Ty cy L kap (t9, t9) S) (hDI : DIs S m0) (hJY : JY L kap S) (hW : PW dC dI L (AL L s.heap.size) s.heap S H locs) (hl : lv_has ls 4 [(3, .int (nI (6 * i))), (2, .ref m0), (1, .ref h0), (0, .ref b)]) : W p l e room_1 s m #[Value.ref b] below meth c H locs 152 10885 (lw_Z below #[Value.ref b] s) (F0 m 562 ls []) := by
  have hA : ∀ q, s.heap.size ≤ q → AL L s.heap.size q := fun _ h => Or.inr h
  refine lv_aload_n hx hb dL_law_562 rfl (lv_at hl 2 rfl) ?_
  refine lv_aload_n hx hb dL_law_563 rfl (lv_at hl 3 rfl) ?_
  refine lv_iload_n hx hb dL_law_564 rfl (lv_at hl 0 rfl) ?_
  refine lv_iconst (v := 1) hx hb dL_law_565 (by decide) ?_
  refine lv_iadd hx hb dL_law_566 ?_
  refine lv_topi (fun z_1 ez_1 => ?_)
  obtain rfl : z_1 = nI ((6 * i) + 1) := ez_1.trans (nI_add (6 * i) (1))
  refine va_sld hx hb hX hbl hbA hW.2.2 (vp_in_nI (n := (6 * i) + 1) (by omega) (by omega)) dL_law_567 ?_
  refine lv_topi (fun y_2 ey_2 => ?_)
  refine lv_aload_n hx hb dL_law_568 rfl (lv_at hl 3 rfl) ?_
  refine lv_iload_n hx hb dL_law_569 rfl (lv_at hl 0 rfl) ?_
  refine lv_iconst (v := 2) hx hb dL_law_570 (by decide) ?_
  refine lv_iadd hx hb dL_law_571 ?_
  refine lv_topi (fun z_3 ez_3 => ?_)
  obtain rfl : z_3 = nI ((6 * i) + 2) := ez_3.trans (nI_add (6 * i) (2))
  refine va_sld hx hb hX hbl hbA hW.2.2 (vp_in_nI (n := (6 * i) + 2) (by omega) (by omega)) dL_law_572 ?_
  refine lv_topi (fun y_4 ey_4 => ?_)
  refine lv_aload_n hx hb dL_law_573 rfl (lv_at hl 3 rfl) ?_
  refine lv_iload_n hx hb dL_law_574 rfl (lv_at hl 0 rfl) ?_
  refine lv_iconst (v := 3) hx hb dL_law_575 (by decide) ?_
  refine lv_iadd hx hb dL_law_576 ?_
  refine lv_topi (fun z_5 ez_5 => ?_)
  obtain rfl : z_5 = nI ((6 * i) + 3) := ez_5.trans (nI_add (6 * i) (3))
  refine va_sld hx hb hX hbl hbA hW.2.2 (vp_in_nI (n := (6 * i) + 3) (by omega) (by omega)) dL_law_577 ?_
  refine lv_topi (fun y_6 ey_6 => ?_)
  obtain ⟨_, _, _, _, _, _, _, _, _, _, _, _, _, hS_7, _, _, _, _, _, _, _, _, _, _, _, _⟩ := hTy.k11 hT_h0
  refine pl_calli (va_runV (As := [.int y_2, .int y_4, .int y_6]) (rest := []) ⟨hx, hb, hml, hown, hT⟩ (k_flow l dC dI cy L kap (t9, t9) S H.size h0 y_2 y_4 y_6 hTy hT_h0) (cwV 3 hT (gV w856 w857 w858 w1 w859) rfl rfl rfl (by decide +kernel) ⟨(Nat.le_of_ble_eq_true rfl), (Nat.le_of_ble_eq_true rfl)⟩) ⟨pcN.blind, pl_recv hK hW hT_h0.1 hS_7 rfl, pcN.pre hW.1 hK hW.2.1 hN (fun q h => absurd h List.not_mem_nil)⟩ rfl rfl hl.1 rfl (lv_room (Nat.le_of_ble_eq_true rfl)) dL_law_578 ⟨(Nat.le_of_ble_eq_true rfl), (Nat.le_of_ble_eq_true rfl)⟩) hW (fun q h => PW_A hW h) hA (fun r_8 S_9 H locs hrel hW => ?_)
  have hTy0 := hTy
  obtain ⟨hTy, hF1⟩ := hrel
  have hDI : DIs S_9 m0 := ⟨DI_0 hTy0 hTy hT_m0 hu50 hF1 (by decide) hDI.1, DI_2 hTy0 hTy hT_m0 hu52 hF1 (by decide) hDI.2⟩
  have hJY := JY_fr hF1 (by decide) (by decide) (by decide) (by decide) hJY
  refine lv_pop hx hb dL_law_581 rfl ?_
  refine lv_aload_n hx hb dL_law_582 rfl (lv_at hl 1 rfl) ?_
  refine lv_aload_n hx hb dL_law_583 rfl (lv_at hl 3 rfl) ?_
  refine lv_iload_n hx hb dL_law_584 rfl (lv_at hl 0 rfl) ?_
  refine lv_iconst (v := 1) hx hb dL_law_585 (by decide) ?_
  refine lv_iadd hx hb dL_law_586 ?_
  refine lv_topi (fun z_10 ez_10 => ?_)
  obtain rfl : z_10 = nI ((6 * i) + 1) := ez_10.trans (nI_add (6 * i) (1))
  refine va_sld hx hb hX hbl hbA hW.2.2 (vp_in_nI (n := (6 * i) + 1) (by omega) (by omega)) dL_law_587 ?_
  refine lv_topi (fun y_11 ey_11 => ?_)
  obtain rfl : y_2 = y_11 := ey_2.trans ey_11.symm
  refine lv_aload_n hx hb dL_law_588 rfl (lv_at hl 3 rfl) ?_
  refine lv_iload_n hx hb dL_law_589 rfl (lv_at hl 0 rfl) ?_
  refine lv_iconst (v := 2) hx hb dL_law_590 (by decide) ?_
  refine lv_iadd hx hb dL_law_591 ?_
  refine lv_topi (fun z_12 ez_12 => ?_)
  obtain rfl : z_12 = nI ((6 * i) + 2) := ez_12.trans (nI_add (6 * i) (2))
  refine va_sld hx hb hX hbl hbA hW.2.2 (vp_in_nI (n := (6 * i) + 2) (by omega) (by omega)) dL_law_592 ?_
  refine lv_topi (fun y_13 ey_13 => ?_)
  obtain rfl : y_4 = y_13 := ey_4.trans ey_13.symm
  refine lv_aload_n hx hb dL_law_593 rfl (lv_at hl 3 rfl) ?_
  refine lv_iload_n hx hb dL_law_594 rfl (lv_at hl 0 rfl) ?_
  refine lv_iconst (v := 3) hx hb dL_law_595 (by decide) ?_
  refine lv_iadd hx hb dL_law_596 ?_
  refine lv_topi (fun z_14 ez_14 => ?_)
  obtain rfl : z_14 = nI ((6 * i) + 3) := ez_14.trans (nI_add (6 * i) (3))
  refine va_sld hx hb hX hbl hbA hW.2.2 (vp_in_nI (n := (6 * i) + 3) (by omega) (by omega)) dL_law_597 ?_
  refine lv_topi (fun y_15 ey_15 => ?_)
  obtain rfl : y_6 = y_15 := ey_6.trans ey_15.symm
  obtain ⟨_, _, _, _, _, _, _, _, _, _, _, _, _, _, _, _, _, _, _, _, _, _, _, _, _, _, _, _, _, _, _, hS_16, _, _, _, _, _, _, _, _, _, _, _, _, _, _, _, _, _, _, _, _, _, _, _, _, _, _, _⟩ := hTy.k12 hT_m0
  refine pl_calli (va_runV (As := [.int y_2, .int y_4, .int y_6]) (rest := []) ⟨hx, hb, hml, hown, hT⟩ (m_flow l dC dI cy L kap (t9, t9) S_9 H.size m0 y_2 y_4 y_6 hTy hT_m0) (cwV 3 hT (gV w1332 w1333 w1334 w14 w1335) rfl rfl rfl (by decide +kernel) ⟨(Nat.le_of_ble_eq_true rfl), (Nat.le_of_ble_eq_true rfl)⟩) ⟨pcN.blind, pl_recv hK hW hT_m0.1 hS_16 rfl, pcN.pre hW.1 hK hW.2.1 hN (fun q h => absurd h List.not_mem_nil)⟩ rfl rfl hl.1 rfl (lv_room (Nat.le_of_ble_eq_true rfl)) dL_law_598 ⟨(Nat.le_of_ble_eq_true rfl), (Nat.le_of_ble_eq_true rfl)⟩) hW (fun q h => PW_A hW h) hA (fun r_17 S_18 H locs hrel hW => ?_)
  have hTy0 := hTy
  obtain ⟨hTy, hF1⟩ := hrel
  have hDI : DIs S_18 m0 := ⟨DI_0 hTy0 hTy hT_m0 hu50 hF1 (by decide) hDI.1, DI_2 hTy0 hTy hT_m0 hu52 hF1 (by decide) hDI.2⟩
  have hJY := JY_fr hF1 (by decide) (by decide) (by decide) (by decide) hJY
  refine lv_pop hx hb dL_law_601 rfl ?_
  refine lv_goto (tgt := 1433) hx hb dL_law_602 (by decide) ?_
  exact kk t9 S_18 H locs ls (by first | exact hTy) hDI hJY hW (lv_sub hl [0, 1, 2, 3] rfl)

set_option maxHeartbeats 4000000 in
set_option maxRecDepth 100000 in
/-- net -/
theorem law_13 {p : Program} {l : Launch} {e : Env} {s : State} {m : MethodId} {below : List Frame} {meth : Method} {c : Code} {b LN : Nat} {xs : Nat → Int32} (hx : p.tables.exec = Jvm.exec) (hb : c.code = code) (hr : meth.sig.returnType = ret) (hml : c.maxLocals = 4) (hown : s.vm.findClass RL = some m.cls) (hT : ∀ w ∈ TB, w.before #[Value.ref b] s = true) (hX : va_X b LN xs s s.heap) (hbl : b < s.heap.size) (hlocks : meth.locks = false) (hLN : LN ≤ 3072) {dC : Nat → ClassId} {dI : Nat → Nat → Nat} {cy : Nat → ClassId} {L : List Nat} {kap : Nat → Nat} {ad : (Nat → Nat) × (Nat → Nat)} {h0 m0 : Nat} (hK : va_K (dC, dI) vwCl (cyT cy) s) (hN : ∀ q ∈ NLs, va_Nw (.methodLinkNest q.1 q.2.1 q.2.2.1 q.2.2.2) s) (hSTR : STR ad (AL L s.heap.size) s s.heap) (hbA : ¬ AL L s.heap.size b) (hT_h0 : TK L kap h0 11) (hT_m0 : TK L kap m0 12) (hu6 : ∀ b9 c9, TK L kap b9 6 → TK L kap c9 6 → b9 = c9) (hu10 : ∀ b9 c9, TK L kap b9 10 → TK L kap c9 10 → b9 = c9) (hu12 : ∀ b9 c9, TK L kap b9 12 → TK L kap c9 12 → b9 = c9) (hu27 : ∀ b9 c9, TK L kap b9 27 → TK L kap c9 27 → b9 = c9) (hu50 : ∀ b9 c9, TK L kap b9 50 → TK L kap c9 50 → b9 = c9) (hu51 : ∀ b9 c9, TK L kap b9 51 → TK L kap c9 51 → b9 = c9) (hu52 : ∀ b9 c9, TK L kap b9 52 → TK L kap c9 52 → b9 = c9) (hu55 : ∀ b9 c9, TK L kap b9 55 → TK L kap c9 55 → b9 = c9) {i t9 : Nat} (hi : 6 * i + 6 ≤ LN) (kk : ∀ (t9 : Nat) (S : Nat → va_E) (H : Heap) (locs : List Loc) (ls : Array Slot), Ty cy L kap (t9, t9) S → DIs S m0 → JY L kap S → PW dC dI L (AL L s.heap.size) s.heap S H locs → lv_has ls 4 [(3, .int (nI (6 * i))), (2, .ref m0), (1, .ref h0), (0, .ref b)] → W p l e room_1 s m #[Value.ref b] below meth c H locs 152 10885 (lw_Z below #[Value.ref b] s) (F0 m 1433 ls [])) {S : Nat → va_E} {H : Heap} {locs : List Loc} {ls : Array Slot} (hTy : Ty cy L kap (t9, t9) S) (hDI : DIs S m0) (hJY : JY L kap S) (hW : PW dC dI L (AL L s.heap.size) s.heap S H locs) (hl : lv_has ls 4 [(3, .int (nI (6 * i))), (2, .ref m0), (1, .ref h0), (0, .ref b)]) : W p l e room_1 s m #[Value.ref b] below meth c H locs 152 10885 (lw_Z below #[Value.ref b] s) (F0 m 605 ls []) := by
  have hA : ∀ q, s.heap.size ≤ q → AL L s.heap.size q := fun _ h => Or.inr h
  refine lv_aload_n hx hb dL_law_605 rfl (lv_at hl 2 rfl) ?_
  refine lv_aload_n hx hb dL_law_606 rfl (lv_at hl 3 rfl) ?_
  refine lv_iload_n hx hb dL_law_607 rfl (lv_at hl 0 rfl) ?_
  refine lv_iconst (v := 1) hx hb dL_law_608 (by decide) ?_
  refine lv_iadd hx hb dL_law_609 ?_
  refine lv_topi (fun z_1 ez_1 => ?_)
  obtain rfl : z_1 = nI ((6 * i) + 1) := ez_1.trans (nI_add (6 * i) (1))
  refine va_sld hx hb hX hbl hbA hW.2.2 (vp_in_nI (n := (6 * i) + 1) (by omega) (by omega)) dL_law_610 ?_
  refine lv_topi (fun y_2 ey_2 => ?_)
  refine lv_aload_n hx hb dL_law_611 rfl (lv_at hl 3 rfl) ?_
  refine lv_iload_n hx hb dL_law_612 rfl (lv_at hl 0 rfl) ?_
  refine lv_iconst (v := 2) hx hb dL_law_613 (by decide) ?_
  refine lv_iadd hx hb dL_law_614 ?_
  refine lv_topi (fun z_3 ez_3 => ?_)
  obtain rfl : z_3 = nI ((6 * i) + 2) := ez_3.trans (nI_add (6 * i) (2))
  refine va_sld hx hb hX hbl hbA hW.2.2 (vp_in_nI (n := (6 * i) + 2) (by omega) (by omega)) dL_law_615 ?_
  refine lv_topi (fun y_4 ey_4 => ?_)
  refine lv_aload_n hx hb dL_law_616 rfl (lv_at hl 3 rfl) ?_
  refine lv_iload_n hx hb dL_law_617 rfl (lv_at hl 0 rfl) ?_
  refine lv_iconst (v := 3) hx hb dL_law_618 (by decide) ?_
  refine lv_iadd hx hb dL_law_619 ?_
  refine lv_topi (fun z_5 ez_5 => ?_)
  obtain rfl : z_5 = nI ((6 * i) + 3) := ez_5.trans (nI_add (6 * i) (3))
  refine va_sld hx hb hX hbl hbA hW.2.2 (vp_in_nI (n := (6 * i) + 3) (by omega) (by omega)) dL_law_620 ?_
  refine lv_topi (fun y_6 ey_6 => ?_)
  refine lv_if_eq (tgt := 628) hx hb dL_law_621 (by decide) (fun c_621 => ?_) (fun c_621 => ?_)
  · refine lv_iconst (v := 0) hx hb dL_law_628 (by decide) ?_
    obtain ⟨_, _, _, _, _, _, _, _, _, _, _, _, _, hS_7, _, _, _, _, _, _, _, _, _, _, _, _⟩ := hTy.k11 hT_h0
    refine pl_calli (va_runV (As := [.int y_2, .int y_4, .int 0]) (rest := []) ⟨hx, hb, hml, hown, hT⟩ (k_net l dC dI cy L kap (t9, t9) S H.size h0 y_2 y_4 0 hTy hT_h0) (cwV 3 hT (gV w860 w861 w862 w1 w863) rfl rfl rfl (by decide +kernel) ⟨(Nat.le_of_ble_eq_true rfl), (Nat.le_of_ble_eq_true rfl)⟩) ⟨pcN.blind, pl_recv hK hW hT_h0.1 hS_7 rfl, pcN.pre hW.1 hK hW.2.1 hN (fun q h => absurd h List.not_mem_nil)⟩ rfl rfl hl.1 rfl (lv_room (Nat.le_of_ble_eq_true rfl)) dL_law_629 ⟨(Nat.le_of_ble_eq_true rfl), (Nat.le_of_ble_eq_true rfl)⟩) hW (fun q h => PW_A hW h) hA (fun r_8 S_9 H locs hrel hW => ?_)
    have hTy0 := hTy
    obtain ⟨hTy, hF1⟩ := hrel
    have hDI : DIs S_9 m0 := ⟨DI_0 hTy0 hTy hT_m0 hu50 hF1 (by decide) hDI.1, DI_2 hTy0 hTy hT_m0 hu52 hF1 (by decide) hDI.2⟩
    have hJY := JY_fr hF1 (by decide) (by decide) (by decide) (by decide) hJY
    refine lv_pop hx hb dL_law_632 rfl ?_
    refine lv_aload_n hx hb dL_law_633 rfl (lv_at hl 1 rfl) ?_
    refine lv_aload_n hx hb dL_law_634 rfl (lv_at hl 3 rfl) ?_
    refine lv_iload_n hx hb dL_law_635 rfl (lv_at hl 0 rfl) ?_
    refine lv_iconst (v := 1) hx hb dL_law_636 (by decide) ?_
    refine lv_iadd hx hb dL_law_637 ?_
    refine lv_topi (fun z_10 ez_10 => ?_)
    obtain rfl : z_10 = nI ((6 * i) + 1) := ez_10.trans (nI_add (6 * i) (1))
    refine va_sld hx hb hX hbl hbA hW.2.2 (vp_in_nI (n := (6 * i) + 1) (by omega) (by omega)) dL_law_638 ?_
    refine lv_topi (fun y_11 ey_11 => ?_)
    obtain rfl : y_2 = y_11 := ey_2.trans ey_11.symm
    refine lv_aload_n hx hb dL_law_639 rfl (lv_at hl 3 rfl) ?_
    refine lv_iload_n hx hb dL_law_640 rfl (lv_at hl 0 rfl) ?_
    refine lv_iconst (v := 2) hx hb dL_law_641 (by decide) ?_
    refine lv_iadd hx hb dL_law_642 ?_
    refine lv_topi (fun z_12 ez_12 => ?_)
    obtain rfl : z_12 = nI ((6 * i) + 2) := ez_12.trans (nI_add (6 * i) (2))
    refine va_sld hx hb hX hbl hbA hW.2.2 (vp_in_nI (n := (6 * i) + 2) (by omega) (by omega)) dL_law_643 ?_
    refine lv_topi (fun y_13 ey_13 => ?_)
    obtain rfl : y_4 = y_13 := ey_4.trans ey_13.symm
    refine lv_aload_n hx hb dL_law_644 rfl (lv_at hl 3 rfl) ?_
    refine lv_iload_n hx hb dL_law_645 rfl (lv_at hl 0 rfl) ?_
    refine lv_iconst (v := 3) hx hb dL_law_646 (by decide) ?_
    refine lv_iadd hx hb dL_law_647 ?_
    refine lv_topi (fun z_14 ez_14 => ?_)
    obtain rfl : z_14 = nI ((6 * i) + 3) := ez_14.trans (nI_add (6 * i) (3))
    refine va_sld hx hb hX hbl hbA hW.2.2 (vp_in_nI (n := (6 * i) + 3) (by omega) (by omega)) dL_law_648 ?_
    refine lv_topi (fun y_15 ey_15 => ?_)
    obtain rfl : y_6 = y_15 := ey_6.trans ey_15.symm
    refine lv_if_eq (tgt := 656) hx hb dL_law_649 (by decide) (fun c_649 => ?_) (fun c_649 => ?_)
    · refine lv_iconst (v := 0) hx hb dL_law_656 (by decide) ?_
      obtain ⟨_, _, _, _, _, _, _, _, _, _, _, _, _, _, _, _, _, _, _, _, _, _, _, _, _, _, _, _, _, _, _, hS_16, _, _, _, _, _, _, _, _, _, _, _, _, _, _, _, _, _, _, _, _, _, _, _, _, _, _, _⟩ := hTy.k12 hT_m0
      refine pl_calli (va_runV (As := [.int y_2, .int y_4, .int 0]) (rest := []) ⟨hx, hb, hml, hown, hT⟩ (m_net l dC dI cy L kap (t9, t9) S_9 H.size m0 y_2 y_4 0 hTy hT_m0) (cwV 3 hT (gV w1351 w1352 w1353 w14 w1354) rfl rfl rfl (by decide +kernel) ⟨(Nat.le_of_ble_eq_true rfl), (Nat.le_of_ble_eq_true rfl)⟩) ⟨pcN.blind, pl_recv hK hW hT_m0.1 hS_16 rfl, pcN.pre hW.1 hK hW.2.1 hN (fun q h => absurd h List.not_mem_nil)⟩ rfl rfl hl.1 rfl (lv_room (Nat.le_of_ble_eq_true rfl)) dL_law_657 ⟨(Nat.le_of_ble_eq_true rfl), (Nat.le_of_ble_eq_true rfl)⟩) hW (fun q h => PW_A hW h) hA (fun r_17 S_18 H locs hrel hW => ?_)
      have hTy0 := hTy
      obtain ⟨hTy, hF1⟩ := hrel
      have hDI : DIs S_18 m0 := ⟨DI_0 hTy0 hTy hT_m0 hu50 hF1 (by decide) hDI.1, DI_2 hTy0 hTy hT_m0 hu52 hF1 (by decide) hDI.2⟩
      have hJY := JY_fr hF1 (by decide) (by decide) (by decide) (by decide) hJY
      refine lv_pop hx hb dL_law_660 rfl ?_
      refine lv_goto (tgt := 1433) hx hb dL_law_661 (by decide) ?_
      exact kk t9 S_18 H locs ls (by first | exact hTy) hDI hJY hW (lv_sub hl [0, 1, 2, 3] rfl)
    · refine lv_iconst (v := 1) hx hb dL_law_652 (by decide) ?_
      refine lv_goto (tgt := 657) hx hb dL_law_653 (by decide) ?_
      obtain ⟨_, _, _, _, _, _, _, _, _, _, _, _, _, _, _, _, _, _, _, _, _, _, _, _, _, _, _, _, _, _, _, hS_19, _, _, _, _, _, _, _, _, _, _, _, _, _, _, _, _, _, _, _, _, _, _, _, _, _, _, _⟩ := hTy.k12 hT_m0
      refine pl_calli (va_runV (As := [.int y_2, .int y_4, .int 1]) (rest := []) ⟨hx, hb, hml, hown, hT⟩ (m_net l dC dI cy L kap (t9, t9) S_9 H.size m0 y_2 y_4 1 hTy hT_m0) (cwV 3 hT (gV w1351 w1352 w1353 w14 w1354) rfl rfl rfl (by decide +kernel) ⟨(Nat.le_of_ble_eq_true rfl), (Nat.le_of_ble_eq_true rfl)⟩) ⟨pcN.blind, pl_recv hK hW hT_m0.1 hS_19 rfl, pcN.pre hW.1 hK hW.2.1 hN (fun q h => absurd h List.not_mem_nil)⟩ rfl rfl hl.1 rfl (lv_room (Nat.le_of_ble_eq_true rfl)) dL_law_657 ⟨(Nat.le_of_ble_eq_true rfl), (Nat.le_of_ble_eq_true rfl)⟩) hW (fun q h => PW_A hW h) hA (fun r_20 S_21 H locs hrel hW => ?_)
      have hTy0 := hTy
      obtain ⟨hTy, hF1⟩ := hrel
      have hDI : DIs S_21 m0 := ⟨DI_0 hTy0 hTy hT_m0 hu50 hF1 (by decide) hDI.1, DI_2 hTy0 hTy hT_m0 hu52 hF1 (by decide) hDI.2⟩
      have hJY := JY_fr hF1 (by decide) (by decide) (by decide) (by decide) hJY
      refine lv_pop hx hb dL_law_660 rfl ?_
      refine lv_goto (tgt := 1433) hx hb dL_law_661 (by decide) ?_
      exact kk t9 S_21 H locs ls (by first | exact hTy) hDI hJY hW (lv_sub hl [0, 1, 2, 3] rfl)
  · refine lv_iconst (v := 1) hx hb dL_law_624 (by decide) ?_
    refine lv_goto (tgt := 629) hx hb dL_law_625 (by decide) ?_
    obtain ⟨_, _, _, _, _, _, _, _, _, _, _, _, _, hS_22, _, _, _, _, _, _, _, _, _, _, _, _⟩ := hTy.k11 hT_h0
    refine pl_calli (va_runV (As := [.int y_2, .int y_4, .int 1]) (rest := []) ⟨hx, hb, hml, hown, hT⟩ (k_net l dC dI cy L kap (t9, t9) S H.size h0 y_2 y_4 1 hTy hT_h0) (cwV 3 hT (gV w860 w861 w862 w1 w863) rfl rfl rfl (by decide +kernel) ⟨(Nat.le_of_ble_eq_true rfl), (Nat.le_of_ble_eq_true rfl)⟩) ⟨pcN.blind, pl_recv hK hW hT_h0.1 hS_22 rfl, pcN.pre hW.1 hK hW.2.1 hN (fun q h => absurd h List.not_mem_nil)⟩ rfl rfl hl.1 rfl (lv_room (Nat.le_of_ble_eq_true rfl)) dL_law_629 ⟨(Nat.le_of_ble_eq_true rfl), (Nat.le_of_ble_eq_true rfl)⟩) hW (fun q h => PW_A hW h) hA (fun r_23 S_24 H locs hrel hW => ?_)
    have hTy0 := hTy
    obtain ⟨hTy, hF1⟩ := hrel
    have hDI : DIs S_24 m0 := ⟨DI_0 hTy0 hTy hT_m0 hu50 hF1 (by decide) hDI.1, DI_2 hTy0 hTy hT_m0 hu52 hF1 (by decide) hDI.2⟩
    have hJY := JY_fr hF1 (by decide) (by decide) (by decide) (by decide) hJY
    refine lv_pop hx hb dL_law_632 rfl ?_
    refine lv_aload_n hx hb dL_law_633 rfl (lv_at hl 1 rfl) ?_
    refine lv_aload_n hx hb dL_law_634 rfl (lv_at hl 3 rfl) ?_
    refine lv_iload_n hx hb dL_law_635 rfl (lv_at hl 0 rfl) ?_
    refine lv_iconst (v := 1) hx hb dL_law_636 (by decide) ?_
    refine lv_iadd hx hb dL_law_637 ?_
    refine lv_topi (fun z_25 ez_25 => ?_)
    obtain rfl : z_25 = nI ((6 * i) + 1) := ez_25.trans (nI_add (6 * i) (1))
    refine va_sld hx hb hX hbl hbA hW.2.2 (vp_in_nI (n := (6 * i) + 1) (by omega) (by omega)) dL_law_638 ?_
    refine lv_topi (fun y_26 ey_26 => ?_)
    obtain rfl : y_2 = y_26 := ey_2.trans ey_26.symm
    refine lv_aload_n hx hb dL_law_639 rfl (lv_at hl 3 rfl) ?_
    refine lv_iload_n hx hb dL_law_640 rfl (lv_at hl 0 rfl) ?_
    refine lv_iconst (v := 2) hx hb dL_law_641 (by decide) ?_
    refine lv_iadd hx hb dL_law_642 ?_
    refine lv_topi (fun z_27 ez_27 => ?_)
    obtain rfl : z_27 = nI ((6 * i) + 2) := ez_27.trans (nI_add (6 * i) (2))
    refine va_sld hx hb hX hbl hbA hW.2.2 (vp_in_nI (n := (6 * i) + 2) (by omega) (by omega)) dL_law_643 ?_
    refine lv_topi (fun y_28 ey_28 => ?_)
    obtain rfl : y_4 = y_28 := ey_4.trans ey_28.symm
    refine lv_aload_n hx hb dL_law_644 rfl (lv_at hl 3 rfl) ?_
    refine lv_iload_n hx hb dL_law_645 rfl (lv_at hl 0 rfl) ?_
    refine lv_iconst (v := 3) hx hb dL_law_646 (by decide) ?_
    refine lv_iadd hx hb dL_law_647 ?_
    refine lv_topi (fun z_29 ez_29 => ?_)
    obtain rfl : z_29 = nI ((6 * i) + 3) := ez_29.trans (nI_add (6 * i) (3))
    refine va_sld hx hb hX hbl hbA hW.2.2 (vp_in_nI (n := (6 * i) + 3) (by omega) (by omega)) dL_law_648 ?_
    refine lv_topi (fun y_30 ey_30 => ?_)
    obtain rfl : y_6 = y_30 := ey_6.trans ey_30.symm
    refine lv_if_eq (tgt := 656) hx hb dL_law_649 (by decide) (fun c_649 => ?_) (fun c_649 => ?_)
    · refine lv_iconst (v := 0) hx hb dL_law_656 (by decide) ?_
      obtain ⟨_, _, _, _, _, _, _, _, _, _, _, _, _, _, _, _, _, _, _, _, _, _, _, _, _, _, _, _, _, _, _, hS_31, _, _, _, _, _, _, _, _, _, _, _, _, _, _, _, _, _, _, _, _, _, _, _, _, _, _, _⟩ := hTy.k12 hT_m0
      refine pl_calli (va_runV (As := [.int y_2, .int y_4, .int 0]) (rest := []) ⟨hx, hb, hml, hown, hT⟩ (m_net l dC dI cy L kap (t9, t9) S_24 H.size m0 y_2 y_4 0 hTy hT_m0) (cwV 3 hT (gV w1351 w1352 w1353 w14 w1354) rfl rfl rfl (by decide +kernel) ⟨(Nat.le_of_ble_eq_true rfl), (Nat.le_of_ble_eq_true rfl)⟩) ⟨pcN.blind, pl_recv hK hW hT_m0.1 hS_31 rfl, pcN.pre hW.1 hK hW.2.1 hN (fun q h => absurd h List.not_mem_nil)⟩ rfl rfl hl.1 rfl (lv_room (Nat.le_of_ble_eq_true rfl)) dL_law_657 ⟨(Nat.le_of_ble_eq_true rfl), (Nat.le_of_ble_eq_true rfl)⟩) hW (fun q h => PW_A hW h) hA (fun r_32 S_33 H locs hrel hW => ?_)
      have hTy0 := hTy
      obtain ⟨hTy, hF1⟩ := hrel
      have hDI : DIs S_33 m0 := ⟨DI_0 hTy0 hTy hT_m0 hu50 hF1 (by decide) hDI.1, DI_2 hTy0 hTy hT_m0 hu52 hF1 (by decide) hDI.2⟩
      have hJY := JY_fr hF1 (by decide) (by decide) (by decide) (by decide) hJY
      refine lv_pop hx hb dL_law_660 rfl ?_
      refine lv_goto (tgt := 1433) hx hb dL_law_661 (by decide) ?_
      exact kk t9 S_33 H locs ls (by first | exact hTy) hDI hJY hW (lv_sub hl [0, 1, 2, 3] rfl)
    · refine lv_iconst (v := 1) hx hb dL_law_652 (by decide) ?_
      refine lv_goto (tgt := 657) hx hb dL_law_653 (by decide) ?_
      obtain ⟨_, _, _, _, _, _, _, _, _, _, _, _, _, _, _, _, _, _, _, _, _, _, _, _, _, _, _, _, _, _, _, hS_34, _, _, _, _, _, _, _, _, _, _, _, _, _, _, _, _, _, _, _, _, _, _, _, _, _, _, _⟩ := hTy.k12 hT_m0
      refine pl_calli (va_runV (As := [.int y_2, .int y_4, .int 1]) (rest := []) ⟨hx, hb, hml, hown, hT⟩ (m_net l dC dI cy L kap (t9, t9) S_24 H.size m0 y_2 y_4 1 hTy hT_m0) (cwV 3 hT (gV w1351 w1352 w1353 w14 w1354) rfl rfl rfl (by decide +kernel) ⟨(Nat.le_of_ble_eq_true rfl), (Nat.le_of_ble_eq_true rfl)⟩) ⟨pcN.blind, pl_recv hK hW hT_m0.1 hS_34 rfl, pcN.pre hW.1 hK hW.2.1 hN (fun q h => absurd h List.not_mem_nil)⟩ rfl rfl hl.1 rfl (lv_room (Nat.le_of_ble_eq_true rfl)) dL_law_657 ⟨(Nat.le_of_ble_eq_true rfl), (Nat.le_of_ble_eq_true rfl)⟩) hW (fun q h => PW_A hW h) hA (fun r_35 S_36 H locs hrel hW => ?_)
      have hTy0 := hTy
      obtain ⟨hTy, hF1⟩ := hrel
      have hDI : DIs S_36 m0 := ⟨DI_0 hTy0 hTy hT_m0 hu50 hF1 (by decide) hDI.1, DI_2 hTy0 hTy hT_m0 hu52 hF1 (by decide) hDI.2⟩
      have hJY := JY_fr hF1 (by decide) (by decide) (by decide) (by decide) hJY
      refine lv_pop hx hb dL_law_660 rfl ?_
      refine lv_goto (tgt := 1433) hx hb dL_law_661 (by decide) ?_
      exact kk t9 S_36 H locs ls (by first | exact hTy) hDI hJY hW (lv_sub hl [0, 1, 2, 3] rfl)

set_option maxHeartbeats 4000000 in
set_option maxRecDepth 100000 in
/-- side -/
theorem law_14 {p : Program} {l : Launch} {e : Env} {s : State} {m : MethodId} {below : List Frame} {meth : Method} {c : Code} {b LN : Nat} {xs : Nat → Int32} (hx : p.tables.exec = Jvm.exec) (hb : c.code = code) (hr : meth.sig.returnType = ret) (hml : c.maxLocals = 4) (hown : s.vm.findClass RL = some m.cls) (hT : ∀ w ∈ TB, w.before #[Value.ref b] s = true) (hX : va_X b LN xs s s.heap) (hbl : b < s.heap.size) (hlocks : meth.locks = false) (hLN : LN ≤ 3072) {dC : Nat → ClassId} {dI : Nat → Nat → Nat} {cy : Nat → ClassId} {L : List Nat} {kap : Nat → Nat} {ad : (Nat → Nat) × (Nat → Nat)} {h0 m0 : Nat} (hK : va_K (dC, dI) vwCl (cyT cy) s) (hN : ∀ q ∈ NLs, va_Nw (.methodLinkNest q.1 q.2.1 q.2.2.1 q.2.2.2) s) (hSTR : STR ad (AL L s.heap.size) s s.heap) (hbA : ¬ AL L s.heap.size b) (hT_h0 : TK L kap h0 11) (hT_m0 : TK L kap m0 12) (hu6 : ∀ b9 c9, TK L kap b9 6 → TK L kap c9 6 → b9 = c9) (hu10 : ∀ b9 c9, TK L kap b9 10 → TK L kap c9 10 → b9 = c9) (hu12 : ∀ b9 c9, TK L kap b9 12 → TK L kap c9 12 → b9 = c9) (hu27 : ∀ b9 c9, TK L kap b9 27 → TK L kap c9 27 → b9 = c9) (hu50 : ∀ b9 c9, TK L kap b9 50 → TK L kap c9 50 → b9 = c9) (hu51 : ∀ b9 c9, TK L kap b9 51 → TK L kap c9 51 → b9 = c9) (hu52 : ∀ b9 c9, TK L kap b9 52 → TK L kap c9 52 → b9 = c9) (hu55 : ∀ b9 c9, TK L kap b9 55 → TK L kap c9 55 → b9 = c9) {i t9 : Nat} (hi : 6 * i + 6 ≤ LN) (kk : ∀ (t9 : Nat) (S : Nat → va_E) (H : Heap) (locs : List Loc) (ls : Array Slot), Ty cy L kap (t9, t9) S → DIs S m0 → JY L kap S → PW dC dI L (AL L s.heap.size) s.heap S H locs → lv_has ls 4 [(3, .int (nI (6 * i))), (2, .ref m0), (1, .ref h0), (0, .ref b)] → W p l e room_1 s m #[Value.ref b] below meth c H locs 152 10885 (lw_Z below #[Value.ref b] s) (F0 m 1433 ls [])) {S : Nat → va_E} {H : Heap} {locs : List Loc} {ls : Array Slot} (hTy : Ty cy L kap (t9, t9) S) (hDI : DIs S m0) (hJY : JY L kap S) (hW : PW dC dI L (AL L s.heap.size) s.heap S H locs) (hl : lv_has ls 4 [(3, .int (nI (6 * i))), (2, .ref m0), (1, .ref h0), (0, .ref b)]) : W p l e room_1 s m #[Value.ref b] below meth c H locs 152 10885 (lw_Z below #[Value.ref b] s) (F0 m 664 ls []) := by
  have hA : ∀ q, s.heap.size ≤ q → AL L s.heap.size q := fun _ h => Or.inr h
  refine lv_aload_n hx hb dL_law_664 rfl (lv_at hl 2 rfl) ?_
  refine lv_aload_n hx hb dL_law_665 rfl (lv_at hl 3 rfl) ?_
  refine lv_iload_n hx hb dL_law_666 rfl (lv_at hl 0 rfl) ?_
  refine lv_iconst (v := 1) hx hb dL_law_667 (by decide) ?_
  refine lv_iadd hx hb dL_law_668 ?_
  refine lv_topi (fun z_1 ez_1 => ?_)
  obtain rfl : z_1 = nI ((6 * i) + 1) := ez_1.trans (nI_add (6 * i) (1))
  refine va_sld hx hb hX hbl hbA hW.2.2 (vp_in_nI (n := (6 * i) + 1) (by omega) (by omega)) dL_law_669 ?_
  refine lv_topi (fun y_2 ey_2 => ?_)
  refine lv_aload_n hx hb dL_law_670 rfl (lv_at hl 3 rfl) ?_
  refine lv_iload_n hx hb dL_law_671 rfl (lv_at hl 0 rfl) ?_
  refine lv_iconst (v := 2) hx hb dL_law_672 (by decide) ?_
  refine lv_iadd hx hb dL_law_673 ?_
  refine lv_topi (fun z_3 ez_3 => ?_)
  obtain rfl : z_3 = nI ((6 * i) + 2) := ez_3.trans (nI_add (6 * i) (2))
  refine va_sld hx hb hX hbl hbA hW.2.2 (vp_in_nI (n := (6 * i) + 2) (by omega) (by omega)) dL_law_674 ?_
  refine lv_topi (fun y_4 ey_4 => ?_)
  refine lv_aload_n hx hb dL_law_675 rfl (lv_at hl 3 rfl) ?_
  refine lv_iload_n hx hb dL_law_676 rfl (lv_at hl 0 rfl) ?_
  refine lv_iconst (v := 3) hx hb dL_law_677 (by decide) ?_
  refine lv_iadd hx hb dL_law_678 ?_
  refine lv_topi (fun z_5 ez_5 => ?_)
  obtain rfl : z_5 = nI ((6 * i) + 3) := ez_5.trans (nI_add (6 * i) (3))
  refine va_sld hx hb hX hbl hbA hW.2.2 (vp_in_nI (n := (6 * i) + 3) (by omega) (by omega)) dL_law_679 ?_
  refine lv_topi (fun y_6 ey_6 => ?_)
  obtain ⟨_, _, _, _, _, _, _, _, _, _, _, _, _, hS_7, _, _, _, _, _, _, _, _, _, _, _, _⟩ := hTy.k11 hT_h0
  refine pl_calli (va_runV (As := [.int y_2, .int y_4, .int y_6]) (rest := []) ⟨hx, hb, hml, hown, hT⟩ (k_side l dC dI cy L kap (t9, t9) S H.size h0 y_2 y_4 y_6 hTy hT_h0) (cwV 3 hT (gV w874 w875 w876 w1 w877) rfl rfl rfl (by decide +kernel) ⟨(Nat.le_of_ble_eq_true rfl), (Nat.le_of_ble_eq_true rfl)⟩) ⟨pcN.blind, pl_recv hK hW hT_h0.1 hS_7 rfl, pcN.pre hW.1 hK hW.2.1 hN (fun q h => absurd h List.not_mem_nil)⟩ rfl rfl hl.1 rfl (lv_room (Nat.le_of_ble_eq_true rfl)) dL_law_680 ⟨(Nat.le_of_ble_eq_true rfl), (Nat.le_of_ble_eq_true rfl)⟩) hW (fun q h => PW_A hW h) hA (fun r_8 S_9 H locs hrel hW => ?_)
  have hTy0 := hTy
  obtain ⟨hTy, hF1⟩ := hrel
  have hDI : DIs S_9 m0 := ⟨DI_0 hTy0 hTy hT_m0 hu50 hF1 (by decide) hDI.1, DI_2 hTy0 hTy hT_m0 hu52 hF1 (by decide) hDI.2⟩
  have hJY := JY_fr hF1 (by decide) (by decide) (by decide) (by decide) hJY
  refine lv_pop hx hb dL_law_683 rfl ?_
  refine lv_aload_n hx hb dL_law_684 rfl (lv_at hl 1 rfl) ?_
  refine lv_aload_n hx hb dL_law_685 rfl (lv_at hl 3 rfl) ?_
  refine lv_iload_n hx hb dL_law_686 rfl (lv_at hl 0 rfl) ?_
  refine lv_iconst (v := 1) hx hb dL_law_687 (by decide) ?_
  refine lv_iadd hx hb dL_law_688 ?_
  refine lv_topi (fun z_10 ez_10 => ?_)
  obtain rfl : z_10 = nI ((6 * i) + 1) := ez_10.trans (nI_add (6 * i) (1))
  refine va_sld hx hb hX hbl hbA hW.2.2 (vp_in_nI (n := (6 * i) + 1) (by omega) (by omega)) dL_law_689 ?_
  refine lv_topi (fun y_11 ey_11 => ?_)
  obtain rfl : y_2 = y_11 := ey_2.trans ey_11.symm
  refine lv_aload_n hx hb dL_law_690 rfl (lv_at hl 3 rfl) ?_
  refine lv_iload_n hx hb dL_law_691 rfl (lv_at hl 0 rfl) ?_
  refine lv_iconst (v := 2) hx hb dL_law_692 (by decide) ?_
  refine lv_iadd hx hb dL_law_693 ?_
  refine lv_topi (fun z_12 ez_12 => ?_)
  obtain rfl : z_12 = nI ((6 * i) + 2) := ez_12.trans (nI_add (6 * i) (2))
  refine va_sld hx hb hX hbl hbA hW.2.2 (vp_in_nI (n := (6 * i) + 2) (by omega) (by omega)) dL_law_694 ?_
  refine lv_topi (fun y_13 ey_13 => ?_)
  obtain rfl : y_4 = y_13 := ey_4.trans ey_13.symm
  refine lv_aload_n hx hb dL_law_695 rfl (lv_at hl 3 rfl) ?_
  refine lv_iload_n hx hb dL_law_696 rfl (lv_at hl 0 rfl) ?_
  refine lv_iconst (v := 3) hx hb dL_law_697 (by decide) ?_
  refine lv_iadd hx hb dL_law_698 ?_
  refine lv_topi (fun z_14 ez_14 => ?_)
  obtain rfl : z_14 = nI ((6 * i) + 3) := ez_14.trans (nI_add (6 * i) (3))
  refine va_sld hx hb hX hbl hbA hW.2.2 (vp_in_nI (n := (6 * i) + 3) (by omega) (by omega)) dL_law_699 ?_
  refine lv_topi (fun y_15 ey_15 => ?_)
  obtain rfl : y_6 = y_15 := ey_6.trans ey_15.symm
  obtain ⟨_, _, _, _, _, _, _, _, _, _, _, _, _, _, _, _, _, _, _, _, _, _, _, _, _, _, _, _, _, _, _, hS_16, _, _, _, _, _, _, _, _, _, _, _, _, _, _, _, _, _, _, _, _, _, _, _, _, _, _, _⟩ := hTy.k12 hT_m0
  refine pl_calli (va_runV (As := [.int y_2, .int y_4, .int y_6]) (rest := []) ⟨hx, hb, hml, hown, hT⟩ (m_side l dC dI cy L kap (t9, t9) S_9 H.size m0 y_2 y_4 y_6 hTy hT_m0) (cwV 3 hT (gV w1364 w1365 w1366 w14 w1367) rfl rfl rfl (by decide +kernel) ⟨(Nat.le_of_ble_eq_true rfl), (Nat.le_of_ble_eq_true rfl)⟩) ⟨pcN.blind, pl_recv hK hW hT_m0.1 hS_16 rfl, pcN.pre hW.1 hK hW.2.1 hN (fun q h => absurd h List.not_mem_nil)⟩ rfl rfl hl.1 rfl (lv_room (Nat.le_of_ble_eq_true rfl)) dL_law_700 ⟨(Nat.le_of_ble_eq_true rfl), (Nat.le_of_ble_eq_true rfl)⟩) hW (fun q h => PW_A hW h) hA (fun r_17 S_18 H locs hrel hW => ?_)
  have hTy0 := hTy
  obtain ⟨hTy, hF1⟩ := hrel
  have hDI : DIs S_18 m0 := ⟨DI_0 hTy0 hTy hT_m0 hu50 hF1 (by decide) hDI.1, DI_2 hTy0 hTy hT_m0 hu52 hF1 (by decide) hDI.2⟩
  have hJY := JY_fr hF1 (by decide) (by decide) (by decide) (by decide) hJY
  refine lv_pop hx hb dL_law_703 rfl ?_
  refine lv_goto (tgt := 1433) hx hb dL_law_704 (by decide) ?_
  exact kk t9 S_18 H locs ls (by first | exact hTy) hDI hJY hW (lv_sub hl [0, 1, 2, 3] rfl)

set_option maxHeartbeats 4000000 in
set_option maxRecDepth 100000 in
/-- total -/
theorem law_15 {p : Program} {l : Launch} {e : Env} {s : State} {m : MethodId} {below : List Frame} {meth : Method} {c : Code} {b LN : Nat} {xs : Nat → Int32} (hx : p.tables.exec = Jvm.exec) (hb : c.code = code) (hr : meth.sig.returnType = ret) (hml : c.maxLocals = 4) (hown : s.vm.findClass RL = some m.cls) (hT : ∀ w ∈ TB, w.before #[Value.ref b] s = true) (hX : va_X b LN xs s s.heap) (hbl : b < s.heap.size) (hlocks : meth.locks = false) (hLN : LN ≤ 3072) {dC : Nat → ClassId} {dI : Nat → Nat → Nat} {cy : Nat → ClassId} {L : List Nat} {kap : Nat → Nat} {ad : (Nat → Nat) × (Nat → Nat)} {h0 m0 : Nat} (hK : va_K (dC, dI) vwCl (cyT cy) s) (hN : ∀ q ∈ NLs, va_Nw (.methodLinkNest q.1 q.2.1 q.2.2.1 q.2.2.2) s) (hSTR : STR ad (AL L s.heap.size) s s.heap) (hbA : ¬ AL L s.heap.size b) (hT_h0 : TK L kap h0 11) (hT_m0 : TK L kap m0 12) (hu6 : ∀ b9 c9, TK L kap b9 6 → TK L kap c9 6 → b9 = c9) (hu10 : ∀ b9 c9, TK L kap b9 10 → TK L kap c9 10 → b9 = c9) (hu12 : ∀ b9 c9, TK L kap b9 12 → TK L kap c9 12 → b9 = c9) (hu27 : ∀ b9 c9, TK L kap b9 27 → TK L kap c9 27 → b9 = c9) (hu50 : ∀ b9 c9, TK L kap b9 50 → TK L kap c9 50 → b9 = c9) (hu51 : ∀ b9 c9, TK L kap b9 51 → TK L kap c9 51 → b9 = c9) (hu52 : ∀ b9 c9, TK L kap b9 52 → TK L kap c9 52 → b9 = c9) (hu55 : ∀ b9 c9, TK L kap b9 55 → TK L kap c9 55 → b9 = c9) {i t9 : Nat} (hi : 6 * i + 6 ≤ LN) (kk : ∀ (t9 : Nat) (S : Nat → va_E) (H : Heap) (locs : List Loc) (ls : Array Slot), Ty cy L kap (t9, t9) S → DIs S m0 → JY L kap S → PW dC dI L (AL L s.heap.size) s.heap S H locs → lv_has ls 4 [(3, .int (nI (6 * i))), (2, .ref m0), (1, .ref h0), (0, .ref b)] → W p l e room_1 s m #[Value.ref b] below meth c H locs 152 10885 (lw_Z below #[Value.ref b] s) (F0 m 1433 ls [])) {S : Nat → va_E} {H : Heap} {locs : List Loc} {ls : Array Slot} (hTy : Ty cy L kap (t9, t9) S) (hDI : DIs S m0) (hJY : JY L kap S) (hW : PW dC dI L (AL L s.heap.size) s.heap S H locs) (hl : lv_has ls 4 [(3, .int (nI (6 * i))), (2, .ref m0), (1, .ref h0), (0, .ref b)]) : W p l e room_1 s m #[Value.ref b] below meth c H locs 152 10885 (lw_Z below #[Value.ref b] s) (F0 m 707 ls []) := by
  have hA : ∀ q, s.heap.size ≤ q → AL L s.heap.size q := fun _ h => Or.inr h
  refine lv_aload_n hx hb dL_law_707 rfl (lv_at hl 2 rfl) ?_
  refine lv_aload_n hx hb dL_law_708 rfl (lv_at hl 3 rfl) ?_
  refine lv_iload_n hx hb dL_law_709 rfl (lv_at hl 0 rfl) ?_
  refine lv_iconst (v := 1) hx hb dL_law_710 (by decide) ?_
  refine lv_iadd hx hb dL_law_711 ?_
  refine lv_topi (fun z_1 ez_1 => ?_)
  obtain rfl : z_1 = nI ((6 * i) + 1) := ez_1.trans (nI_add (6 * i) (1))
  refine va_sld hx hb hX hbl hbA hW.2.2 (vp_in_nI (n := (6 * i) + 1) (by omega) (by omega)) dL_law_712 ?_
  refine lv_topi (fun y_2 ey_2 => ?_)
  refine lv_aload_n hx hb dL_law_713 rfl (lv_at hl 3 rfl) ?_
  refine lv_iload_n hx hb dL_law_714 rfl (lv_at hl 0 rfl) ?_
  refine lv_iconst (v := 2) hx hb dL_law_715 (by decide) ?_
  refine lv_iadd hx hb dL_law_716 ?_
  refine lv_topi (fun z_3 ez_3 => ?_)
  obtain rfl : z_3 = nI ((6 * i) + 2) := ez_3.trans (nI_add (6 * i) (2))
  refine va_sld hx hb hX hbl hbA hW.2.2 (vp_in_nI (n := (6 * i) + 2) (by omega) (by omega)) dL_law_717 ?_
  refine lv_topi (fun y_4 ey_4 => ?_)
  obtain ⟨_, _, _, _, _, _, _, _, _, _, _, _, _, hS_5, _, _, _, _, _, _, _, _, _, _, _, _⟩ := hTy.k11 hT_h0
  refine pl_calli (va_runV (As := [.int y_2, .int y_4]) (rest := []) ⟨hx, hb, hml, hown, hT⟩ (k_total l dC dI cy L kap (t9, t9) S H.size h0 y_2 y_4 hTy hT_h0) (cwV 2 hT (gV w888 w889 w890 w1 w891) rfl rfl rfl (by decide +kernel) ⟨(Nat.le_of_ble_eq_true rfl), (Nat.le_of_ble_eq_true rfl)⟩) ⟨pcN.blind, pl_recv hK hW hT_h0.1 hS_5 rfl, pcN.pre hW.1 hK hW.2.1 hN (fun q h => absurd h List.not_mem_nil)⟩ rfl rfl hl.1 rfl (lv_room (Nat.le_of_ble_eq_true rfl)) dL_law_718 ⟨(Nat.le_of_ble_eq_true rfl), (Nat.le_of_ble_eq_true rfl)⟩) hW (fun q h => PW_A hW h) hA (fun r_6 S_7 H locs hrel hW => ?_)
  have hTy0 := hTy
  obtain ⟨hTy, hF1⟩ := hrel
  have hDI : DIs S_7 m0 := ⟨DI_0 hTy0 hTy hT_m0 hu50 hF1 (by decide) hDI.1, DI_2 hTy0 hTy hT_m0 hu52 hF1 (by decide) hDI.2⟩
  have hJY := JY_fr hF1 (by decide) (by decide) (by decide) (by decide) hJY
  refine lv_pop hx hb dL_law_721 rfl ?_
  refine lv_aload_n hx hb dL_law_722 rfl (lv_at hl 1 rfl) ?_
  refine lv_aload_n hx hb dL_law_723 rfl (lv_at hl 3 rfl) ?_
  refine lv_iload_n hx hb dL_law_724 rfl (lv_at hl 0 rfl) ?_
  refine lv_iconst (v := 1) hx hb dL_law_725 (by decide) ?_
  refine lv_iadd hx hb dL_law_726 ?_
  refine lv_topi (fun z_8 ez_8 => ?_)
  obtain rfl : z_8 = nI ((6 * i) + 1) := ez_8.trans (nI_add (6 * i) (1))
  refine va_sld hx hb hX hbl hbA hW.2.2 (vp_in_nI (n := (6 * i) + 1) (by omega) (by omega)) dL_law_727 ?_
  refine lv_topi (fun y_9 ey_9 => ?_)
  obtain rfl : y_2 = y_9 := ey_2.trans ey_9.symm
  refine lv_aload_n hx hb dL_law_728 rfl (lv_at hl 3 rfl) ?_
  refine lv_iload_n hx hb dL_law_729 rfl (lv_at hl 0 rfl) ?_
  refine lv_iconst (v := 2) hx hb dL_law_730 (by decide) ?_
  refine lv_iadd hx hb dL_law_731 ?_
  refine lv_topi (fun z_10 ez_10 => ?_)
  obtain rfl : z_10 = nI ((6 * i) + 2) := ez_10.trans (nI_add (6 * i) (2))
  refine va_sld hx hb hX hbl hbA hW.2.2 (vp_in_nI (n := (6 * i) + 2) (by omega) (by omega)) dL_law_732 ?_
  refine lv_topi (fun y_11 ey_11 => ?_)
  obtain rfl : y_4 = y_11 := ey_4.trans ey_11.symm
  obtain ⟨_, _, _, _, _, _, _, _, _, _, _, _, _, _, _, _, _, _, _, _, _, _, _, _, _, _, _, _, _, _, _, hS_12, _, _, _, _, _, _, _, _, _, _, _, _, _, _, _, _, _, _, _, _, _, _, _, _, _, _, _⟩ := hTy.k12 hT_m0
  refine pl_calli (va_runV (As := [.int y_2, .int y_4]) (rest := []) ⟨hx, hb, hml, hown, hT⟩ (m_total l dC dI cy L kap (t9, t9) S_7 H.size m0 y_2 y_4 hTy hT_m0) (cwV 2 hT (gV w1370 w1371 w1372 w14 w1373) rfl rfl rfl (by decide +kernel) ⟨(Nat.le_of_ble_eq_true rfl), (Nat.le_of_ble_eq_true rfl)⟩) ⟨pcN.blind, pl_recv hK hW hT_m0.1 hS_12 rfl, pcN.pre hW.1 hK hW.2.1 hN (fun q h => absurd h List.not_mem_nil)⟩ rfl rfl hl.1 rfl (lv_room (Nat.le_of_ble_eq_true rfl)) dL_law_733 ⟨(Nat.le_of_ble_eq_true rfl), (Nat.le_of_ble_eq_true rfl)⟩) hW (fun q h => PW_A hW h) hA (fun r_13 S_14 H locs hrel hW => ?_)
  have hTy0 := hTy
  obtain ⟨hTy, hF1⟩ := hrel
  have hDI : DIs S_14 m0 := ⟨DI_0 hTy0 hTy hT_m0 hu50 hF1 (by decide) hDI.1, DI_2 hTy0 hTy hT_m0 hu52 hF1 (by decide) hDI.2⟩
  have hJY := JY_fr hF1 (by decide) (by decide) (by decide) (by decide) hJY
  refine lv_pop hx hb dL_law_736 rfl ?_
  refine lv_goto (tgt := 1433) hx hb dL_law_737 (by decide) ?_
  exact kk t9 S_14 H locs ls (by first | exact hTy) hDI hJY hW (lv_sub hl [0, 1, 2, 3] rfl)

set_option maxHeartbeats 4000000 in
set_option maxRecDepth 100000 in
/-- bound -/
theorem law_16 {p : Program} {l : Launch} {e : Env} {s : State} {m : MethodId} {below : List Frame} {meth : Method} {c : Code} {b LN : Nat} {xs : Nat → Int32} (hx : p.tables.exec = Jvm.exec) (hb : c.code = code) (hr : meth.sig.returnType = ret) (hml : c.maxLocals = 4) (hown : s.vm.findClass RL = some m.cls) (hT : ∀ w ∈ TB, w.before #[Value.ref b] s = true) (hX : va_X b LN xs s s.heap) (hbl : b < s.heap.size) (hlocks : meth.locks = false) (hLN : LN ≤ 3072) {dC : Nat → ClassId} {dI : Nat → Nat → Nat} {cy : Nat → ClassId} {L : List Nat} {kap : Nat → Nat} {ad : (Nat → Nat) × (Nat → Nat)} {h0 m0 : Nat} (hK : va_K (dC, dI) vwCl (cyT cy) s) (hN : ∀ q ∈ NLs, va_Nw (.methodLinkNest q.1 q.2.1 q.2.2.1 q.2.2.2) s) (hSTR : STR ad (AL L s.heap.size) s s.heap) (hbA : ¬ AL L s.heap.size b) (hT_h0 : TK L kap h0 11) (hT_m0 : TK L kap m0 12) (hu6 : ∀ b9 c9, TK L kap b9 6 → TK L kap c9 6 → b9 = c9) (hu10 : ∀ b9 c9, TK L kap b9 10 → TK L kap c9 10 → b9 = c9) (hu12 : ∀ b9 c9, TK L kap b9 12 → TK L kap c9 12 → b9 = c9) (hu27 : ∀ b9 c9, TK L kap b9 27 → TK L kap c9 27 → b9 = c9) (hu50 : ∀ b9 c9, TK L kap b9 50 → TK L kap c9 50 → b9 = c9) (hu51 : ∀ b9 c9, TK L kap b9 51 → TK L kap c9 51 → b9 = c9) (hu52 : ∀ b9 c9, TK L kap b9 52 → TK L kap c9 52 → b9 = c9) (hu55 : ∀ b9 c9, TK L kap b9 55 → TK L kap c9 55 → b9 = c9) {i t9 : Nat} (hi : 6 * i + 6 ≤ LN) (kk : ∀ (t9 : Nat) (S : Nat → va_E) (H : Heap) (locs : List Loc) (ls : Array Slot), Ty cy L kap (t9, t9) S → DIs S m0 → JY L kap S → PW dC dI L (AL L s.heap.size) s.heap S H locs → lv_has ls 4 [(3, .int (nI (6 * i))), (2, .ref m0), (1, .ref h0), (0, .ref b)] → W p l e room_1 s m #[Value.ref b] below meth c H locs 152 10885 (lw_Z below #[Value.ref b] s) (F0 m 1433 ls [])) {S : Nat → va_E} {H : Heap} {locs : List Loc} {ls : Array Slot} (hTy : Ty cy L kap (t9, t9) S) (hDI : DIs S m0) (hJY : JY L kap S) (hW : PW dC dI L (AL L s.heap.size) s.heap S H locs) (hl : lv_has ls 4 [(3, .int (nI (6 * i))), (2, .ref m0), (1, .ref h0), (0, .ref b)]) : W p l e room_1 s m #[Value.ref b] below meth c H locs 152 10885 (lw_Z below #[Value.ref b] s) (F0 m 740 ls []) := by
  have hA : ∀ q, s.heap.size ≤ q → AL L s.heap.size q := fun _ h => Or.inr h
  refine lv_aload_n hx hb dL_law_740 rfl (lv_at hl 2 rfl) ?_
  refine lv_aload_n hx hb dL_law_741 rfl (lv_at hl 3 rfl) ?_
  refine lv_iload_n hx hb dL_law_742 rfl (lv_at hl 0 rfl) ?_
  refine lv_iconst (v := 1) hx hb dL_law_743 (by decide) ?_
  refine lv_iadd hx hb dL_law_744 ?_
  refine lv_topi (fun z_1 ez_1 => ?_)
  obtain rfl : z_1 = nI ((6 * i) + 1) := ez_1.trans (nI_add (6 * i) (1))
  refine va_sld hx hb hX hbl hbA hW.2.2 (vp_in_nI (n := (6 * i) + 1) (by omega) (by omega)) dL_law_745 ?_
  refine lv_topi (fun y_2 ey_2 => ?_)
  refine lv_aload_n hx hb dL_law_746 rfl (lv_at hl 3 rfl) ?_
  refine lv_iload_n hx hb dL_law_747 rfl (lv_at hl 0 rfl) ?_
  refine lv_iconst (v := 2) hx hb dL_law_748 (by decide) ?_
  refine lv_iadd hx hb dL_law_749 ?_
  refine lv_topi (fun z_3 ez_3 => ?_)
  obtain rfl : z_3 = nI ((6 * i) + 2) := ez_3.trans (nI_add (6 * i) (2))
  refine va_sld hx hb hX hbl hbA hW.2.2 (vp_in_nI (n := (6 * i) + 2) (by omega) (by omega)) dL_law_750 ?_
  refine lv_topi (fun y_4 ey_4 => ?_)
  refine lv_aload_n hx hb dL_law_751 rfl (lv_at hl 3 rfl) ?_
  refine lv_iload_n hx hb dL_law_752 rfl (lv_at hl 0 rfl) ?_
  refine lv_iconst (v := 3) hx hb dL_law_753 (by decide) ?_
  refine lv_iadd hx hb dL_law_754 ?_
  refine lv_topi (fun z_5 ez_5 => ?_)
  obtain rfl : z_5 = nI ((6 * i) + 3) := ez_5.trans (nI_add (6 * i) (3))
  refine va_sld hx hb hX hbl hbA hW.2.2 (vp_in_nI (n := (6 * i) + 3) (by omega) (by omega)) dL_law_755 ?_
  refine lv_topi (fun y_6 ey_6 => ?_)
  obtain ⟨_, _, _, _, _, _, _, _, _, _, _, _, _, hS_7, _, _, _, _, _, _, _, _, _, _, _, _⟩ := hTy.k11 hT_h0
  refine pl_calli (va_runV (As := [.int y_2, .int y_4, .int y_6]) (rest := []) ⟨hx, hb, hml, hown, hT⟩ (k_bound l dC dI cy L kap (t9, t9) S H.size h0 y_2 y_4 y_6 hTy hT_h0) (cwV 3 hT (gV w911 w912 w913 w1 w914) rfl rfl rfl (by decide +kernel) ⟨(Nat.le_of_ble_eq_true rfl), (Nat.le_of_ble_eq_true rfl)⟩) ⟨pcN.blind, pl_recv hK hW hT_h0.1 hS_7 rfl, pcN.pre hW.1 hK hW.2.1 hN (fun q h => absurd h List.not_mem_nil)⟩ rfl rfl hl.1 rfl (lv_room (Nat.le_of_ble_eq_true rfl)) dL_law_756 ⟨(Nat.le_of_ble_eq_true rfl), (Nat.le_of_ble_eq_true rfl)⟩) hW (fun q h => PW_A hW h) hA (fun r_8 S_9 H locs hrel hW => ?_)
  have hTy0 := hTy
  obtain ⟨hTy, hF1⟩ := hrel
  have hDI : DIs S_9 m0 := ⟨DI_0 hTy0 hTy hT_m0 hu50 hF1 (by decide) hDI.1, DI_2 hTy0 hTy hT_m0 hu52 hF1 (by decide) hDI.2⟩
  have hJY := JY_fr hF1 (by decide) (by decide) (by decide) (by decide) hJY
  refine lv_pop hx hb dL_law_759 rfl ?_
  refine lv_aload_n hx hb dL_law_760 rfl (lv_at hl 1 rfl) ?_
  refine lv_aload_n hx hb dL_law_761 rfl (lv_at hl 3 rfl) ?_
  refine lv_iload_n hx hb dL_law_762 rfl (lv_at hl 0 rfl) ?_
  refine lv_iconst (v := 1) hx hb dL_law_763 (by decide) ?_
  refine lv_iadd hx hb dL_law_764 ?_
  refine lv_topi (fun z_10 ez_10 => ?_)
  obtain rfl : z_10 = nI ((6 * i) + 1) := ez_10.trans (nI_add (6 * i) (1))
  refine va_sld hx hb hX hbl hbA hW.2.2 (vp_in_nI (n := (6 * i) + 1) (by omega) (by omega)) dL_law_765 ?_
  refine lv_topi (fun y_11 ey_11 => ?_)
  obtain rfl : y_2 = y_11 := ey_2.trans ey_11.symm
  refine lv_aload_n hx hb dL_law_766 rfl (lv_at hl 3 rfl) ?_
  refine lv_iload_n hx hb dL_law_767 rfl (lv_at hl 0 rfl) ?_
  refine lv_iconst (v := 2) hx hb dL_law_768 (by decide) ?_
  refine lv_iadd hx hb dL_law_769 ?_
  refine lv_topi (fun z_12 ez_12 => ?_)
  obtain rfl : z_12 = nI ((6 * i) + 2) := ez_12.trans (nI_add (6 * i) (2))
  refine va_sld hx hb hX hbl hbA hW.2.2 (vp_in_nI (n := (6 * i) + 2) (by omega) (by omega)) dL_law_770 ?_
  refine lv_topi (fun y_13 ey_13 => ?_)
  obtain rfl : y_4 = y_13 := ey_4.trans ey_13.symm
  refine lv_aload_n hx hb dL_law_771 rfl (lv_at hl 3 rfl) ?_
  refine lv_iload_n hx hb dL_law_772 rfl (lv_at hl 0 rfl) ?_
  refine lv_iconst (v := 3) hx hb dL_law_773 (by decide) ?_
  refine lv_iadd hx hb dL_law_774 ?_
  refine lv_topi (fun z_14 ez_14 => ?_)
  obtain rfl : z_14 = nI ((6 * i) + 3) := ez_14.trans (nI_add (6 * i) (3))
  refine va_sld hx hb hX hbl hbA hW.2.2 (vp_in_nI (n := (6 * i) + 3) (by omega) (by omega)) dL_law_775 ?_
  refine lv_topi (fun y_15 ey_15 => ?_)
  obtain rfl : y_6 = y_15 := ey_6.trans ey_15.symm
  obtain ⟨_, _, _, _, _, _, _, _, _, _, _, _, _, _, _, _, _, _, _, _, _, _, _, _, _, _, _, _, _, _, _, hS_16, _, _, _, _, _, _, _, _, _, _, _, _, _, _, _, _, _, _, _, _, _, _, _, _, _, _, _⟩ := hTy.k12 hT_m0
  refine pl_calli (va_runV (As := [.int y_2, .int y_4, .int y_6]) (rest := []) ⟨hx, hb, hml, hown, hT⟩ (m_bound l dC dI cy L kap (t9, t9) S_9 H.size m0 y_2 y_4 y_6 hTy hT_m0) (cwV 3 hT (gV w1382 w1383 w1384 w14 w1385) rfl rfl rfl (by decide +kernel) ⟨(Nat.le_of_ble_eq_true rfl), (Nat.le_of_ble_eq_true rfl)⟩) ⟨pcN.blind, pl_recv hK hW hT_m0.1 hS_16 rfl, pcN.pre hW.1 hK hW.2.1 hN (fun q h => absurd h List.not_mem_nil)⟩ rfl rfl hl.1 rfl (lv_room (Nat.le_of_ble_eq_true rfl)) dL_law_776 ⟨(Nat.le_of_ble_eq_true rfl), (Nat.le_of_ble_eq_true rfl)⟩) hW (fun q h => PW_A hW h) hA (fun r_17 S_18 H locs hrel hW => ?_)
  have hTy0 := hTy
  obtain ⟨hTy, hF1⟩ := hrel
  have hDI : DIs S_18 m0 := ⟨DI_0 hTy0 hTy hT_m0 hu50 hF1 (by decide) hDI.1, DI_2 hTy0 hTy hT_m0 hu52 hF1 (by decide) hDI.2⟩
  have hJY := JY_fr hF1 (by decide) (by decide) (by decide) (by decide) hJY
  refine lv_pop hx hb dL_law_779 rfl ?_
  refine lv_goto (tgt := 1433) hx hb dL_law_780 (by decide) ?_
  exact kk t9 S_18 H locs ls (by first | exact hTy) hDI hJY hW (lv_sub hl [0, 1, 2, 3] rfl)

set_option maxHeartbeats 4000000 in
set_option maxRecDepth 100000 in
/-- ring -/
theorem law_17 {p : Program} {l : Launch} {e : Env} {s : State} {m : MethodId} {below : List Frame} {meth : Method} {c : Code} {b LN : Nat} {xs : Nat → Int32} (hx : p.tables.exec = Jvm.exec) (hb : c.code = code) (hr : meth.sig.returnType = ret) (hml : c.maxLocals = 4) (hown : s.vm.findClass RL = some m.cls) (hT : ∀ w ∈ TB, w.before #[Value.ref b] s = true) (hX : va_X b LN xs s s.heap) (hbl : b < s.heap.size) (hlocks : meth.locks = false) (hLN : LN ≤ 3072) {dC : Nat → ClassId} {dI : Nat → Nat → Nat} {cy : Nat → ClassId} {L : List Nat} {kap : Nat → Nat} {ad : (Nat → Nat) × (Nat → Nat)} {h0 m0 : Nat} (hK : va_K (dC, dI) vwCl (cyT cy) s) (hN : ∀ q ∈ NLs, va_Nw (.methodLinkNest q.1 q.2.1 q.2.2.1 q.2.2.2) s) (hSTR : STR ad (AL L s.heap.size) s s.heap) (hbA : ¬ AL L s.heap.size b) (hT_h0 : TK L kap h0 11) (hT_m0 : TK L kap m0 12) (hu6 : ∀ b9 c9, TK L kap b9 6 → TK L kap c9 6 → b9 = c9) (hu10 : ∀ b9 c9, TK L kap b9 10 → TK L kap c9 10 → b9 = c9) (hu12 : ∀ b9 c9, TK L kap b9 12 → TK L kap c9 12 → b9 = c9) (hu27 : ∀ b9 c9, TK L kap b9 27 → TK L kap c9 27 → b9 = c9) (hu50 : ∀ b9 c9, TK L kap b9 50 → TK L kap c9 50 → b9 = c9) (hu51 : ∀ b9 c9, TK L kap b9 51 → TK L kap c9 51 → b9 = c9) (hu52 : ∀ b9 c9, TK L kap b9 52 → TK L kap c9 52 → b9 = c9) (hu55 : ∀ b9 c9, TK L kap b9 55 → TK L kap c9 55 → b9 = c9) {i t9 : Nat} (hi : 6 * i + 6 ≤ LN) (kk : ∀ (t9 : Nat) (S : Nat → va_E) (H : Heap) (locs : List Loc) (ls : Array Slot), Ty cy L kap (t9, t9) S → DIs S m0 → JY L kap S → PW dC dI L (AL L s.heap.size) s.heap S H locs → lv_has ls 4 [(3, .int (nI (6 * i))), (2, .ref m0), (1, .ref h0), (0, .ref b)] → W p l e room_1 s m #[Value.ref b] below meth c H locs 152 10885 (lw_Z below #[Value.ref b] s) (F0 m 1433 ls [])) {S : Nat → va_E} {H : Heap} {locs : List Loc} {ls : Array Slot} (hTy : Ty cy L kap (t9, t9) S) (hDI : DIs S m0) (hJY : JY L kap S) (hW : PW dC dI L (AL L s.heap.size) s.heap S H locs) (hl : lv_has ls 4 [(3, .int (nI (6 * i))), (2, .ref m0), (1, .ref h0), (0, .ref b)]) : W p l e room_1 s m #[Value.ref b] below meth c H locs 152 10885 (lw_Z below #[Value.ref b] s) (F0 m 783 ls []) := by
  have hA : ∀ q, s.heap.size ≤ q → AL L s.heap.size q := fun _ h => Or.inr h
  refine lv_aload_n hx hb dL_law_783 rfl (lv_at hl 2 rfl) ?_
  refine lv_aload_n hx hb dL_law_784 rfl (lv_at hl 3 rfl) ?_
  refine lv_iload_n hx hb dL_law_785 rfl (lv_at hl 0 rfl) ?_
  refine lv_iconst (v := 1) hx hb dL_law_786 (by decide) ?_
  refine lv_iadd hx hb dL_law_787 ?_
  refine lv_topi (fun z_1 ez_1 => ?_)
  obtain rfl : z_1 = nI ((6 * i) + 1) := ez_1.trans (nI_add (6 * i) (1))
  refine va_sld hx hb hX hbl hbA hW.2.2 (vp_in_nI (n := (6 * i) + 1) (by omega) (by omega)) dL_law_788 ?_
  refine lv_topi (fun y_2 ey_2 => ?_)
  refine lv_aload_n hx hb dL_law_789 rfl (lv_at hl 3 rfl) ?_
  refine lv_iload_n hx hb dL_law_790 rfl (lv_at hl 0 rfl) ?_
  refine lv_iconst (v := 2) hx hb dL_law_791 (by decide) ?_
  refine lv_iadd hx hb dL_law_792 ?_
  refine lv_topi (fun z_3 ez_3 => ?_)
  obtain rfl : z_3 = nI ((6 * i) + 2) := ez_3.trans (nI_add (6 * i) (2))
  refine va_sld hx hb hX hbl hbA hW.2.2 (vp_in_nI (n := (6 * i) + 2) (by omega) (by omega)) dL_law_793 ?_
  refine lv_topi (fun y_4 ey_4 => ?_)
  obtain ⟨_, _, _, _, _, _, _, _, _, _, _, _, _, hS_5, _, _, _, _, _, _, _, _, _, _, _, _⟩ := hTy.k11 hT_h0
  refine pl_calli (va_runV (As := [.int y_2, .int y_4]) (rest := []) ⟨hx, hb, hml, hown, hT⟩ (k_ring l dC dI cy L kap (t9, t9) S H.size h0 y_2 y_4 hTy hT_h0) (cwV 2 hT (gV w916 w917 w918 w1 w919) rfl rfl rfl (by decide +kernel) ⟨(Nat.le_of_ble_eq_true rfl), (Nat.le_of_ble_eq_true rfl)⟩) ⟨pcN.blind, pl_recv hK hW hT_h0.1 hS_5 rfl, pcN.pre hW.1 hK hW.2.1 hN (fun q h => absurd h List.not_mem_nil)⟩ rfl rfl hl.1 rfl (lv_room (Nat.le_of_ble_eq_true rfl)) dL_law_794 ⟨(Nat.le_of_ble_eq_true rfl), (Nat.le_of_ble_eq_true rfl)⟩) hW (fun q h => PW_A hW h) hA (fun r_6 S_7 H locs hrel hW => ?_)
  have hTy0 := hTy
  obtain ⟨hTy, hF1⟩ := hrel
  have hDI : DIs S_7 m0 := ⟨DI_0 hTy0 hTy hT_m0 hu50 hF1 (by decide) hDI.1, DI_2 hTy0 hTy hT_m0 hu52 hF1 (by decide) hDI.2⟩
  have hJY := JY_fr hF1 (by decide) (by decide) (by decide) (by decide) hJY
  refine lv_pop hx hb dL_law_797 rfl ?_
  refine lv_aload_n hx hb dL_law_798 rfl (lv_at hl 1 rfl) ?_
  refine lv_aload_n hx hb dL_law_799 rfl (lv_at hl 3 rfl) ?_
  refine lv_iload_n hx hb dL_law_800 rfl (lv_at hl 0 rfl) ?_
  refine lv_iconst (v := 1) hx hb dL_law_801 (by decide) ?_
  refine lv_iadd hx hb dL_law_802 ?_
  refine lv_topi (fun z_8 ez_8 => ?_)
  obtain rfl : z_8 = nI ((6 * i) + 1) := ez_8.trans (nI_add (6 * i) (1))
  refine va_sld hx hb hX hbl hbA hW.2.2 (vp_in_nI (n := (6 * i) + 1) (by omega) (by omega)) dL_law_803 ?_
  refine lv_topi (fun y_9 ey_9 => ?_)
  obtain rfl : y_2 = y_9 := ey_2.trans ey_9.symm
  refine lv_aload_n hx hb dL_law_804 rfl (lv_at hl 3 rfl) ?_
  refine lv_iload_n hx hb dL_law_805 rfl (lv_at hl 0 rfl) ?_
  refine lv_iconst (v := 2) hx hb dL_law_806 (by decide) ?_
  refine lv_iadd hx hb dL_law_807 ?_
  refine lv_topi (fun z_10 ez_10 => ?_)
  obtain rfl : z_10 = nI ((6 * i) + 2) := ez_10.trans (nI_add (6 * i) (2))
  refine va_sld hx hb hX hbl hbA hW.2.2 (vp_in_nI (n := (6 * i) + 2) (by omega) (by omega)) dL_law_808 ?_
  refine lv_topi (fun y_11 ey_11 => ?_)
  obtain rfl : y_4 = y_11 := ey_4.trans ey_11.symm
  obtain ⟨_, _, _, _, _, _, _, _, _, _, _, _, _, _, _, _, _, _, _, _, _, _, _, _, _, _, _, _, _, _, _, hS_12, _, _, _, _, _, _, _, _, _, _, _, _, _, _, _, _, _, _, _, _, _, _, _, _, _, _, _⟩ := hTy.k12 hT_m0
  refine pl_calli (va_runV (As := [.int y_2, .int y_4]) (rest := []) ⟨hx, hb, hml, hown, hT⟩ (m_ring l dC dI cy L kap (t9, t9) S_7 H.size m0 y_2 y_4 hTy hT_m0) (cwV 2 hT (gV w1390 w1391 w1392 w14 w1393) rfl rfl rfl (by decide +kernel) ⟨(Nat.le_of_ble_eq_true rfl), (Nat.le_of_ble_eq_true rfl)⟩) ⟨pcN.blind, pl_recv hK hW hT_m0.1 hS_12 rfl, pcN.pre hW.1 hK hW.2.1 hN (fun q h => absurd h List.not_mem_nil)⟩ rfl rfl hl.1 rfl (lv_room (Nat.le_of_ble_eq_true rfl)) dL_law_809 ⟨(Nat.le_of_ble_eq_true rfl), (Nat.le_of_ble_eq_true rfl)⟩) hW (fun q h => PW_A hW h) hA (fun r_13 S_14 H locs hrel hW => ?_)
  have hTy0 := hTy
  obtain ⟨hTy, hF1⟩ := hrel
  have hDI : DIs S_14 m0 := ⟨DI_0 hTy0 hTy hT_m0 hu50 hF1 (by decide) hDI.1, DI_2 hTy0 hTy hT_m0 hu52 hF1 (by decide) hDI.2⟩
  have hJY := JY_fr hF1 (by decide) (by decide) (by decide) (by decide) hJY
  refine lv_pop hx hb dL_law_812 rfl ?_
  refine lv_goto (tgt := 1433) hx hb dL_law_813 (by decide) ?_
  exact kk t9 S_14 H locs ls (by first | exact hTy) hDI hJY hW (lv_sub hl [0, 1, 2, 3] rfl)

set_option maxHeartbeats 4000000 in
set_option maxRecDepth 100000 in
/-- load -/
theorem law_18 {p : Program} {l : Launch} {e : Env} {s : State} {m : MethodId} {below : List Frame} {meth : Method} {c : Code} {b LN : Nat} {xs : Nat → Int32} (hx : p.tables.exec = Jvm.exec) (hb : c.code = code) (hr : meth.sig.returnType = ret) (hml : c.maxLocals = 4) (hown : s.vm.findClass RL = some m.cls) (hT : ∀ w ∈ TB, w.before #[Value.ref b] s = true) (hX : va_X b LN xs s s.heap) (hbl : b < s.heap.size) (hlocks : meth.locks = false) (hLN : LN ≤ 3072) {dC : Nat → ClassId} {dI : Nat → Nat → Nat} {cy : Nat → ClassId} {L : List Nat} {kap : Nat → Nat} {ad : (Nat → Nat) × (Nat → Nat)} {h0 m0 : Nat} (hK : va_K (dC, dI) vwCl (cyT cy) s) (hN : ∀ q ∈ NLs, va_Nw (.methodLinkNest q.1 q.2.1 q.2.2.1 q.2.2.2) s) (hSTR : STR ad (AL L s.heap.size) s s.heap) (hbA : ¬ AL L s.heap.size b) (hT_h0 : TK L kap h0 11) (hT_m0 : TK L kap m0 12) (hu6 : ∀ b9 c9, TK L kap b9 6 → TK L kap c9 6 → b9 = c9) (hu10 : ∀ b9 c9, TK L kap b9 10 → TK L kap c9 10 → b9 = c9) (hu12 : ∀ b9 c9, TK L kap b9 12 → TK L kap c9 12 → b9 = c9) (hu27 : ∀ b9 c9, TK L kap b9 27 → TK L kap c9 27 → b9 = c9) (hu50 : ∀ b9 c9, TK L kap b9 50 → TK L kap c9 50 → b9 = c9) (hu51 : ∀ b9 c9, TK L kap b9 51 → TK L kap c9 51 → b9 = c9) (hu52 : ∀ b9 c9, TK L kap b9 52 → TK L kap c9 52 → b9 = c9) (hu55 : ∀ b9 c9, TK L kap b9 55 → TK L kap c9 55 → b9 = c9) {i t9 : Nat} (hi : 6 * i + 6 ≤ LN) (kk : ∀ (t9 : Nat) (S : Nat → va_E) (H : Heap) (locs : List Loc) (ls : Array Slot), Ty cy L kap (t9, t9) S → DIs S m0 → JY L kap S → PW dC dI L (AL L s.heap.size) s.heap S H locs → lv_has ls 4 [(3, .int (nI (6 * i))), (2, .ref m0), (1, .ref h0), (0, .ref b)] → W p l e room_1 s m #[Value.ref b] below meth c H locs 152 10885 (lw_Z below #[Value.ref b] s) (F0 m 1433 ls [])) {S : Nat → va_E} {H : Heap} {locs : List Loc} {ls : Array Slot} (hTy : Ty cy L kap (t9, t9) S) (hDI : DIs S m0) (hJY : JY L kap S) (hW : PW dC dI L (AL L s.heap.size) s.heap S H locs) (hl : lv_has ls 4 [(3, .int (nI (6 * i))), (2, .ref m0), (1, .ref h0), (0, .ref b)]) : W p l e room_1 s m #[Value.ref b] below meth c H locs 152 10885 (lw_Z below #[Value.ref b] s) (F0 m 816 ls []) := by
  have hA : ∀ q, s.heap.size ≤ q → AL L s.heap.size q := fun _ h => Or.inr h
  refine lv_aload_n hx hb dL_law_816 rfl (lv_at hl 2 rfl) ?_
  refine lv_aload_n hx hb dL_law_817 rfl (lv_at hl 3 rfl) ?_
  refine lv_iload_n hx hb dL_law_818 rfl (lv_at hl 0 rfl) ?_
  refine lv_iconst (v := 1) hx hb dL_law_819 (by decide) ?_
  refine lv_iadd hx hb dL_law_820 ?_
  refine lv_topi (fun z_1 ez_1 => ?_)
  obtain rfl : z_1 = nI ((6 * i) + 1) := ez_1.trans (nI_add (6 * i) (1))
  refine va_sld hx hb hX hbl hbA hW.2.2 (vp_in_nI (n := (6 * i) + 1) (by omega) (by omega)) dL_law_821 ?_
  refine lv_topi (fun y_2 ey_2 => ?_)
  obtain ⟨_, _, _, _, _, _, _, _, _, _, _, _, _, hS_3, _, _, _, _, _, _, _, _, _, _, _, _⟩ := hTy.k11 hT_h0
  refine pl_calli (va_runV (As := [.int y_2]) (rest := []) ⟨hx, hb, hml, hown, hT⟩ (k_load l dC dI cy L kap (t9, t9) S H.size h0 y_2 hTy hT_h0) (cwV 1 hT (gV w920 w921 w922 w1 w923) rfl rfl rfl (by decide +kernel) ⟨(Nat.le_of_ble_eq_true rfl), (Nat.le_of_ble_eq_true rfl)⟩) ⟨pcN.blind, pl_recv hK hW hT_h0.1 hS_3 rfl, pcN.pre hW.1 hK hW.2.1 hN (fun q h => absurd h List.not_mem_nil)⟩ rfl rfl hl.1 rfl (lv_room (Nat.le_of_ble_eq_true rfl)) dL_law_822 ⟨(Nat.le_of_ble_eq_true rfl), (Nat.le_of_ble_eq_true rfl)⟩) hW (fun q h => PW_A hW h) hA (fun r_4 S_5 H locs hrel hW => ?_)
  have hTy0 := hTy
  obtain ⟨hTy, hF1⟩ := hrel
  have hDI : DIs S_5 m0 := ⟨DI_0 hTy0 hTy hT_m0 hu50 hF1 (by decide) hDI.1, DI_2 hTy0 hTy hT_m0 hu52 hF1 (by decide) hDI.2⟩
  have hJY := JY_fr hF1 (by decide) (by decide) (by decide) (by decide) hJY
  refine lv_pop hx hb dL_law_825 rfl ?_
  refine lv_aload_n hx hb dL_law_826 rfl (lv_at hl 1 rfl) ?_
  refine lv_aload_n hx hb dL_law_827 rfl (lv_at hl 3 rfl) ?_
  refine lv_iload_n hx hb dL_law_828 rfl (lv_at hl 0 rfl) ?_
  refine lv_iconst (v := 1) hx hb dL_law_829 (by decide) ?_
  refine lv_iadd hx hb dL_law_830 ?_
  refine lv_topi (fun z_6 ez_6 => ?_)
  obtain rfl : z_6 = nI ((6 * i) + 1) := ez_6.trans (nI_add (6 * i) (1))
  refine va_sld hx hb hX hbl hbA hW.2.2 (vp_in_nI (n := (6 * i) + 1) (by omega) (by omega)) dL_law_831 ?_
  refine lv_topi (fun y_7 ey_7 => ?_)
  obtain rfl : y_2 = y_7 := ey_2.trans ey_7.symm
  obtain ⟨_, _, _, _, _, _, _, _, _, _, _, _, _, _, _, _, _, _, _, _, _, _, _, _, _, _, _, _, _, _, _, hS_8, _, _, _, _, _, _, _, _, _, _, _, _, _, _, _, _, _, _, _, _, _, _, _, _, _, _, _⟩ := hTy.k12 hT_m0
  refine pl_calli (va_runV (As := [.int y_2]) (rest := []) ⟨hx, hb, hml, hown, hT⟩ (m_load l dC dI cy L kap (t9, t9) S_5 H.size m0 y_2 hTy hT_m0) (cwV 1 hT (gV w1402 w1403 w1404 w14 w1405) rfl rfl rfl (by decide +kernel) ⟨(Nat.le_of_ble_eq_true rfl), (Nat.le_of_ble_eq_true rfl)⟩) ⟨pcN.blind, pl_recv hK hW hT_m0.1 hS_8 rfl, pcN.pre hW.1 hK hW.2.1 hN (fun q h => absurd h List.not_mem_nil)⟩ rfl rfl hl.1 rfl (lv_room (Nat.le_of_ble_eq_true rfl)) dL_law_832 ⟨(Nat.le_of_ble_eq_true rfl), (Nat.le_of_ble_eq_true rfl)⟩) hW (fun q h => PW_A hW h) hA (fun r_9 S_10 H locs hrel hW => ?_)
  have hTy0 := hTy
  obtain ⟨hTy, hF1⟩ := hrel
  have hDI : DIs S_10 m0 := ⟨DI_0 hTy0 hTy hT_m0 hu50 hF1 (by decide) hDI.1, DI_2 hTy0 hTy hT_m0 hu52 hF1 (by decide) hDI.2⟩
  have hJY := JY_fr hF1 (by decide) (by decide) (by decide) (by decide) hJY
  refine lv_pop hx hb dL_law_835 rfl ?_
  refine lv_goto (tgt := 1433) hx hb dL_law_836 (by decide) ?_
  exact kk t9 S_10 H locs ls (by first | exact hTy) hDI hJY hW (lv_sub hl [0, 1, 2, 3] rfl)

set_option maxHeartbeats 4000000 in
set_option maxRecDepth 100000 in
/-- cleared -/
theorem law_19 {p : Program} {l : Launch} {e : Env} {s : State} {m : MethodId} {below : List Frame} {meth : Method} {c : Code} {b LN : Nat} {xs : Nat → Int32} (hx : p.tables.exec = Jvm.exec) (hb : c.code = code) (hr : meth.sig.returnType = ret) (hml : c.maxLocals = 4) (hown : s.vm.findClass RL = some m.cls) (hT : ∀ w ∈ TB, w.before #[Value.ref b] s = true) (hX : va_X b LN xs s s.heap) (hbl : b < s.heap.size) (hlocks : meth.locks = false) (hLN : LN ≤ 3072) {dC : Nat → ClassId} {dI : Nat → Nat → Nat} {cy : Nat → ClassId} {L : List Nat} {kap : Nat → Nat} {ad : (Nat → Nat) × (Nat → Nat)} {h0 m0 : Nat} (hK : va_K (dC, dI) vwCl (cyT cy) s) (hN : ∀ q ∈ NLs, va_Nw (.methodLinkNest q.1 q.2.1 q.2.2.1 q.2.2.2) s) (hSTR : STR ad (AL L s.heap.size) s s.heap) (hbA : ¬ AL L s.heap.size b) (hT_h0 : TK L kap h0 11) (hT_m0 : TK L kap m0 12) (hu6 : ∀ b9 c9, TK L kap b9 6 → TK L kap c9 6 → b9 = c9) (hu10 : ∀ b9 c9, TK L kap b9 10 → TK L kap c9 10 → b9 = c9) (hu12 : ∀ b9 c9, TK L kap b9 12 → TK L kap c9 12 → b9 = c9) (hu27 : ∀ b9 c9, TK L kap b9 27 → TK L kap c9 27 → b9 = c9) (hu50 : ∀ b9 c9, TK L kap b9 50 → TK L kap c9 50 → b9 = c9) (hu51 : ∀ b9 c9, TK L kap b9 51 → TK L kap c9 51 → b9 = c9) (hu52 : ∀ b9 c9, TK L kap b9 52 → TK L kap c9 52 → b9 = c9) (hu55 : ∀ b9 c9, TK L kap b9 55 → TK L kap c9 55 → b9 = c9) {i t9 : Nat} (hi : 6 * i + 6 ≤ LN) (kk : ∀ (t9 : Nat) (S : Nat → va_E) (H : Heap) (locs : List Loc) (ls : Array Slot), Ty cy L kap (t9, t9) S → DIs S m0 → JY L kap S → PW dC dI L (AL L s.heap.size) s.heap S H locs → lv_has ls 4 [(3, .int (nI (6 * i))), (2, .ref m0), (1, .ref h0), (0, .ref b)] → W p l e room_1 s m #[Value.ref b] below meth c H locs 152 10885 (lw_Z below #[Value.ref b] s) (F0 m 1433 ls [])) {S : Nat → va_E} {H : Heap} {locs : List Loc} {ls : Array Slot} (hTy : Ty cy L kap (t9, t9) S) (hDI : DIs S m0) (hJY : JY L kap S) (hW : PW dC dI L (AL L s.heap.size) s.heap S H locs) (hl : lv_has ls 4 [(3, .int (nI (6 * i))), (2, .ref m0), (1, .ref h0), (0, .ref b)]) : W p l e room_1 s m #[Value.ref b] below meth c H locs 152 10885 (lw_Z below #[Value.ref b] s) (F0 m 839 ls []) := by
  have hA : ∀ q, s.heap.size ≤ q → AL L s.heap.size q := fun _ h => Or.inr h
  refine lv_aload_n hx hb dL_law_839 rfl (lv_at hl 2 rfl) ?_
  refine lv_aload_n hx hb dL_law_840 rfl (lv_at hl 3 rfl) ?_
  refine lv_iload_n hx hb dL_law_841 rfl (lv_at hl 0 rfl) ?_
  refine lv_iconst (v := 1) hx hb dL_law_842 (by decide) ?_
  refine lv_iadd hx hb dL_law_843 ?_
  refine lv_topi (fun z_1 ez_1 => ?_)
  obtain rfl : z_1 = nI ((6 * i) + 1) := ez_1.trans (nI_add (6 * i) (1))
  refine va_sld hx hb hX hbl hbA hW.2.2 (vp_in_nI (n := (6 * i) + 1) (by omega) (by omega)) dL_law_844 ?_
  refine lv_topi (fun y_2 ey_2 => ?_)
  refine lv_aload_n hx hb dL_law_845 rfl (lv_at hl 3 rfl) ?_
  refine lv_iload_n hx hb dL_law_846 rfl (lv_at hl 0 rfl) ?_
  refine lv_iconst (v := 2) hx hb dL_law_847 (by decide) ?_
  refine lv_iadd hx hb dL_law_848 ?_
  refine lv_topi (fun z_3 ez_3 => ?_)
  obtain rfl : z_3 = nI ((6 * i) + 2) := ez_3.trans (nI_add (6 * i) (2))
  refine va_sld hx hb hX hbl hbA hW.2.2 (vp_in_nI (n := (6 * i) + 2) (by omega) (by omega)) dL_law_849 ?_
  refine lv_topi (fun y_4 ey_4 => ?_)
  obtain ⟨_, _, _, _, _, _, _, _, _, _, _, _, _, hS_5, _, _, _, _, _, _, _, _, _, _, _, _⟩ := hTy.k11 hT_h0
  refine pl_calli (va_runV (As := [.int y_2, .int y_4]) (rest := []) ⟨hx, hb, hml, hown, hT⟩ (k_cleared l dC dI cy L kap (t9, t9) S H.size h0 y_2 y_4 hTy hT_h0) (cwV 2 hT (gV w924 w925 w926 w1 w927) rfl rfl rfl (by decide +kernel) ⟨(Nat.le_of_ble_eq_true rfl), (Nat.le_of_ble_eq_true rfl)⟩) ⟨pcN.blind, pl_recv hK hW hT_h0.1 hS_5 rfl, pcN.pre hW.1 hK hW.2.1 hN (fun q h => absurd h List.not_mem_nil)⟩ rfl rfl hl.1 rfl (lv_room (Nat.le_of_ble_eq_true rfl)) dL_law_850 ⟨(Nat.le_of_ble_eq_true rfl), (Nat.le_of_ble_eq_true rfl)⟩) hW (fun q h => PW_A hW h) hA (fun r_6 S_7 H locs hrel hW => ?_)
  have hTy0 := hTy
  obtain ⟨hTy, hF1⟩ := hrel
  have hDI : DIs S_7 m0 := ⟨DI_0 hTy0 hTy hT_m0 hu50 hF1 (by decide) hDI.1, DI_2 hTy0 hTy hT_m0 hu52 hF1 (by decide) hDI.2⟩
  have hJY := JY_fr hF1 (by decide) (by decide) (by decide) (by decide) hJY
  refine lv_pop hx hb dL_law_853 rfl ?_
  refine lv_aload_n hx hb dL_law_854 rfl (lv_at hl 1 rfl) ?_
  refine lv_aload_n hx hb dL_law_855 rfl (lv_at hl 3 rfl) ?_
  refine lv_iload_n hx hb dL_law_856 rfl (lv_at hl 0 rfl) ?_
  refine lv_iconst (v := 1) hx hb dL_law_857 (by decide) ?_
  refine lv_iadd hx hb dL_law_858 ?_
  refine lv_topi (fun z_8 ez_8 => ?_)
  obtain rfl : z_8 = nI ((6 * i) + 1) := ez_8.trans (nI_add (6 * i) (1))
  refine va_sld hx hb hX hbl hbA hW.2.2 (vp_in_nI (n := (6 * i) + 1) (by omega) (by omega)) dL_law_859 ?_
  refine lv_topi (fun y_9 ey_9 => ?_)
  obtain rfl : y_2 = y_9 := ey_2.trans ey_9.symm
  refine lv_aload_n hx hb dL_law_860 rfl (lv_at hl 3 rfl) ?_
  refine lv_iload_n hx hb dL_law_861 rfl (lv_at hl 0 rfl) ?_
  refine lv_iconst (v := 2) hx hb dL_law_862 (by decide) ?_
  refine lv_iadd hx hb dL_law_863 ?_
  refine lv_topi (fun z_10 ez_10 => ?_)
  obtain rfl : z_10 = nI ((6 * i) + 2) := ez_10.trans (nI_add (6 * i) (2))
  refine va_sld hx hb hX hbl hbA hW.2.2 (vp_in_nI (n := (6 * i) + 2) (by omega) (by omega)) dL_law_864 ?_
  refine lv_topi (fun y_11 ey_11 => ?_)
  obtain rfl : y_4 = y_11 := ey_4.trans ey_11.symm
  obtain ⟨_, _, _, _, _, _, _, _, _, _, _, _, _, _, _, _, _, _, _, _, _, _, _, _, _, _, _, _, _, _, _, hS_12, _, _, _, _, _, _, _, _, _, _, _, _, _, _, _, _, _, _, _, _, _, _, _, _, _, _, _⟩ := hTy.k12 hT_m0
  refine pl_calli (va_runV (As := [.int y_2, .int y_4]) (rest := []) ⟨hx, hb, hml, hown, hT⟩ (m_cleared l dC dI cy L kap (t9, t9) S_7 H.size m0 y_2 y_4 hTy hT_m0) (cwV 2 hT (gV w1414 w1415 w1416 w14 w1417) rfl rfl rfl (by decide +kernel) ⟨(Nat.le_of_ble_eq_true rfl), (Nat.le_of_ble_eq_true rfl)⟩) ⟨pcN.blind, pl_recv hK hW hT_m0.1 hS_12 rfl, pcN.pre hW.1 hK hW.2.1 hN (fun q h => absurd h List.not_mem_nil)⟩ rfl rfl hl.1 rfl (lv_room (Nat.le_of_ble_eq_true rfl)) dL_law_865 ⟨(Nat.le_of_ble_eq_true rfl), (Nat.le_of_ble_eq_true rfl)⟩) hW (fun q h => PW_A hW h) hA (fun r_13 S_14 H locs hrel hW => ?_)
  have hTy0 := hTy
  obtain ⟨hTy, hF1⟩ := hrel
  have hDI : DIs S_14 m0 := ⟨DI_0 hTy0 hTy hT_m0 hu50 hF1 (by decide) hDI.1, DI_2 hTy0 hTy hT_m0 hu52 hF1 (by decide) hDI.2⟩
  have hJY := JY_fr hF1 (by decide) (by decide) (by decide) (by decide) hJY
  refine lv_pop hx hb dL_law_868 rfl ?_
  refine lv_goto (tgt := 1433) hx hb dL_law_869 (by decide) ?_
  exact kk t9 S_14 H locs ls (by first | exact hTy) hDI hJY hW (lv_sub hl [0, 1, 2, 3] rfl)

