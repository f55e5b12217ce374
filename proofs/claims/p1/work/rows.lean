section
-- ===== PART A: goes FIRST, ahead of the names: the tables' words, and 'selects' of the private methods out of them =====
/-- a private method of a class that the tables say can be made, by its rows of tables_1 -/
def lw_okq (q : MethodName × Nat) : Prop := (q.1.cls ≠ "java/lang/invoke/MethodHandle" ∧ q.1.cls ≠ "java/lang/invoke/VarHandle") ∧ Cond.instantiable q.1.cls q.2 ∈ tables_1 ∧ Cond.privateMethod q.1 ∈ tables_1 ∧ Cond.instanceMethod q.1 ∈ tables_1
theorem lw_p0 : lw_okq (⟨"SwapPress$Reader", "next", "()V"⟩, 10) := ⟨⟨by decide +kernel, by decide +kernel⟩, List.mem_of_getElem? (i := 47) (by decide +kernel), List.mem_of_getElem? (i := 421) (by decide +kernel), List.mem_of_getElem? (i := 422) (by decide +kernel)⟩
theorem lw_p1 : lw_okq (⟨"SwapPress$Reader", "wordToken", "()I"⟩, 10) := ⟨⟨by decide +kernel, by decide +kernel⟩, List.mem_of_getElem? (i := 47) (by decide +kernel), List.mem_of_getElem? (i := 428) (by decide +kernel), List.mem_of_getElem? (i := 429) (by decide +kernel)⟩
theorem lw_p2 : lw_okq (⟨"SwapPress$Reader", "isWord", "(Ljava/lang/String;)Z"⟩, 10) := ⟨⟨by decide +kernel, by decide +kernel⟩, List.mem_of_getElem? (i := 47) (by decide +kernel), List.mem_of_getElem? (i := 433) (by decide +kernel), List.mem_of_getElem? (i := 434) (by decide +kernel)⟩
theorem lw_p3 : lw_okq (⟨"SwapPress$Reader", "readLine", "()V"⟩, 10) := ⟨⟨by decide +kernel, by decide +kernel⟩, List.mem_of_getElem? (i := 47) (by decide +kernel), List.mem_of_getElem? (i := 493) (by decide +kernel), List.mem_of_getElem? (i := 494) (by decide +kernel)⟩
theorem lw_p4 : lw_okq (⟨"SwapPress$Reader", "readParty", "()V"⟩, 10) := ⟨⟨by decide +kernel, by decide +kernel⟩, List.mem_of_getElem? (i := 47) (by decide +kernel), List.mem_of_getElem? (i := 497) (by decide +kernel), List.mem_of_getElem? (i := 498) (by decide +kernel)⟩
theorem lw_p5 : lw_okq (⟨"SwapPress$Reader", "fail", "(I)V"⟩, 10) := ⟨⟨by decide +kernel, by decide +kernel⟩, List.mem_of_getElem? (i := 47) (by decide +kernel), List.mem_of_getElem? (i := 501) (by decide +kernel), List.mem_of_getElem? (i := 502) (by decide +kernel)⟩
theorem lw_p6 : lw_okq (⟨"SwapPress$Reader", "checkNewName", "()V"⟩, 10) := ⟨⟨by decide +kernel, by decide +kernel⟩, List.mem_of_getElem? (i := 47) (by decide +kernel), List.mem_of_getElem? (i := 505) (by decide +kernel), List.mem_of_getElem? (i := 506) (by decide +kernel)⟩
theorem lw_p7 : lw_okq (⟨"SwapPress$Reader", "partyHere", "()I"⟩, 10) := ⟨⟨by decide +kernel, by decide +kernel⟩, List.mem_of_getElem? (i := 47) (by decide +kernel), List.mem_of_getElem? (i := 509) (by decide +kernel), List.mem_of_getElem? (i := 510) (by decide +kernel)⟩
theorem lw_p8 : lw_okq (⟨"SwapPress$Names", "same", "(I[BII)Z"⟩, 4) := ⟨⟨by decide +kernel, by decide +kernel⟩, List.mem_of_getElem? (i := 53) (by decide +kernel), List.mem_of_getElem? (i := 517) (by decide +kernel), List.mem_of_getElem? (i := 518) (by decide +kernel)⟩
theorem lw_p9 : lw_okq (⟨"SwapPress$Reader", "kindHere", "()I"⟩, 10) := ⟨⟨by decide +kernel, by decide +kernel⟩, List.mem_of_getElem? (i := 47) (by decide +kernel), List.mem_of_getElem? (i := 521) (by decide +kernel), List.mem_of_getElem? (i := 522) (by decide +kernel)⟩
theorem lw_p10 : lw_okq (⟨"SwapPress$Names", "put", "(I[BII)V"⟩, 4) := ⟨⟨by decide +kernel, by decide +kernel⟩, List.mem_of_getElem? (i := 53) (by decide +kernel), List.mem_of_getElem? (i := 529) (by decide +kernel), List.mem_of_getElem? (i := 530) (by decide +kernel)⟩
theorem lw_p11 : lw_okq (⟨"SwapPress$Reader", "readKind", "()V"⟩, 10) := ⟨⟨by decide +kernel, by decide +kernel⟩, List.mem_of_getElem? (i := 47) (by decide +kernel), List.mem_of_getElem? (i := 534) (by decide +kernel), List.mem_of_getElem? (i := 535) (by decide +kernel)⟩
theorem lw_p12 : lw_okq (⟨"SwapPress$Reader", "readTrade", "()V"⟩, 10) := ⟨⟨by decide +kernel, by decide +kernel⟩, List.mem_of_getElem? (i := 47) (by decide +kernel), List.mem_of_getElem? (i := 542) (by decide +kernel), List.mem_of_getElem? (i := 543) (by decide +kernel)⟩
theorem lw_p13 : lw_okq (⟨"SwapPress$Reader", "knownParty", "()I"⟩, 10) := ⟨⟨by decide +kernel, by decide +kernel⟩, List.mem_of_getElem? (i := 47) (by decide +kernel), List.mem_of_getElem? (i := 546) (by decide +kernel), List.mem_of_getElem? (i := 547) (by decide +kernel)⟩
theorem lw_p14 : lw_okq (⟨"SwapPress$Reader", "failIfSame", "(II)V"⟩, 10) := ⟨⟨by decide +kernel, by decide +kernel⟩, List.mem_of_getElem? (i := 47) (by decide +kernel), List.mem_of_getElem? (i := 550) (by decide +kernel), List.mem_of_getElem? (i := 551) (by decide +kernel)⟩
theorem lw_p15 : lw_okq (⟨"SwapPress$Reader", "numberWithin", "(II)I"⟩, 10) := ⟨⟨by decide +kernel, by decide +kernel⟩, List.mem_of_getElem? (i := 47) (by decide +kernel), List.mem_of_getElem? (i := 555) (by decide +kernel), List.mem_of_getElem? (i := 556) (by decide +kernel)⟩
def lw_privs_1 : List (MethodName × Nat) := [(⟨"SwapPress$Reader", "next", "()V"⟩, 10), (⟨"SwapPress$Reader", "wordToken", "()I"⟩, 10), (⟨"SwapPress$Reader", "isWord", "(Ljava/lang/String;)Z"⟩, 10), (⟨"SwapPress$Reader", "readLine", "()V"⟩, 10), (⟨"SwapPress$Reader", "readParty", "()V"⟩, 10), (⟨"SwapPress$Reader", "fail", "(I)V"⟩, 10), (⟨"SwapPress$Reader", "checkNewName", "()V"⟩, 10), (⟨"SwapPress$Reader", "partyHere", "()I"⟩, 10), (⟨"SwapPress$Names", "same", "(I[BII)Z"⟩, 4), (⟨"SwapPress$Reader", "kindHere", "()I"⟩, 10), (⟨"SwapPress$Names", "put", "(I[BII)V"⟩, 4), (⟨"SwapPress$Reader", "readKind", "()V"⟩, 10), (⟨"SwapPress$Reader", "readTrade", "()V"⟩, 10), (⟨"SwapPress$Reader", "knownParty", "()I"⟩, 10), (⟨"SwapPress$Reader", "failIfSame", "(II)V"⟩, 10), (⟨"SwapPress$Reader", "numberWithin", "(II)I"⟩, 10)]
theorem lw_r1 : ∀ q ∈ lw_privs_1, lw_okq q := List.forall_mem_cons.mpr ⟨lw_p0, List.forall_mem_cons.mpr ⟨lw_p1, List.forall_mem_cons.mpr ⟨lw_p2, List.forall_mem_cons.mpr ⟨lw_p3, List.forall_mem_cons.mpr ⟨lw_p4, List.forall_mem_cons.mpr ⟨lw_p5, List.forall_mem_cons.mpr ⟨lw_p6, List.forall_mem_cons.mpr ⟨lw_p7, List.forall_mem_cons.mpr ⟨lw_p8, List.forall_mem_cons.mpr ⟨lw_p9, List.forall_mem_cons.mpr ⟨lw_p10, List.forall_mem_cons.mpr ⟨lw_p11, List.forall_mem_cons.mpr ⟨lw_p12, List.forall_mem_cons.mpr ⟨lw_p13, List.forall_mem_cons.mpr ⟨lw_p14, List.forall_mem_cons.mpr ⟨lw_p15, fun _ h => absurd h List.not_mem_nil⟩⟩⟩⟩⟩⟩⟩⟩⟩⟩⟩⟩⟩⟩⟩⟩
theorem lw_p16 : lw_okq (⟨"SwapPress$Reader", "knownKind", "()I"⟩, 10) := ⟨⟨by decide +kernel, by decide +kernel⟩, List.mem_of_getElem? (i := 47) (by decide +kernel), List.mem_of_getElem? (i := 559) (by decide +kernel), List.mem_of_getElem? (i := 560) (by decide +kernel)⟩
theorem lw_p17 : lw_okq (⟨"SwapPress$Reader", "readKeep", "()V"⟩, 10) := ⟨⟨by decide +kernel, by decide +kernel⟩, List.mem_of_getElem? (i := 47) (by decide +kernel), List.mem_of_getElem? (i := 567) (by decide +kernel), List.mem_of_getElem? (i := 568) (by decide +kernel)⟩
theorem lw_p18 : lw_okq (⟨"SwapPress$Reader", "readCap", "()V"⟩, 10) := ⟨⟨by decide +kernel, by decide +kernel⟩, List.mem_of_getElem? (i := 47) (by decide +kernel), List.mem_of_getElem? (i := 571) (by decide +kernel), List.mem_of_getElem? (i := 572) (by decide +kernel)⟩
theorem lw_p19 : lw_okq (⟨"SwapPress$Reader", "readMode", "()V"⟩, 10) := ⟨⟨by decide +kernel, by decide +kernel⟩, List.mem_of_getElem? (i := 47) (by decide +kernel), List.mem_of_getElem? (i := 579) (by decide +kernel), List.mem_of_getElem? (i := 580) (by decide +kernel)⟩
theorem lw_p20 : lw_okq (⟨"SwapPress$Reader", "readSemicolon", "()V"⟩, 10) := ⟨⟨by decide +kernel, by decide +kernel⟩, List.mem_of_getElem? (i := 47) (by decide +kernel), List.mem_of_getElem? (i := 583) (by decide +kernel), List.mem_of_getElem? (i := 584) (by decide +kernel)⟩
theorem lw_p21 : lw_okq (⟨"SwapPress", "takeOver", "()V"⟩, 13) := ⟨⟨by decide +kernel, by decide +kernel⟩, List.mem_of_getElem? (i := 23) (by decide +kernel), List.mem_of_getElem? (i := 587) (by decide +kernel), List.mem_of_getElem? (i := 588) (by decide +kernel)⟩
theorem lw_p22 : lw_okq (⟨"SwapPress", "noCouple", "(II)Z"⟩, 13) := ⟨⟨by decide +kernel, by decide +kernel⟩, List.mem_of_getElem? (i := 23) (by decide +kernel), List.mem_of_getElem? (i := 599) (by decide +kernel), List.mem_of_getElem? (i := 600) (by decide +kernel)⟩
theorem lw_p23 : lw_okq (⟨"SwapPress", "noParty", "(I)Z"⟩, 13) := ⟨⟨by decide +kernel, by decide +kernel⟩, List.mem_of_getElem? (i := 23) (by decide +kernel), List.mem_of_getElem? (i := 603) (by decide +kernel), List.mem_of_getElem? (i := 604) (by decide +kernel)⟩
theorem lw_p24 : lw_okq (⟨"SwapPress", "noKind", "(I)Z"⟩, 13) := ⟨⟨by decide +kernel, by decide +kernel⟩, List.mem_of_getElem? (i := 23) (by decide +kernel), List.mem_of_getElem? (i := 607) (by decide +kernel), List.mem_of_getElem? (i := 608) (by decide +kernel)⟩
theorem lw_p25 : lw_okq (⟨"SwapPress", "rememberAct", "()V"⟩, 13) := ⟨⟨by decide +kernel, by decide +kernel⟩, List.mem_of_getElem? (i := 23) (by decide +kernel), List.mem_of_getElem? (i := 612) (by decide +kernel), List.mem_of_getElem? (i := 613) (by decide +kernel)⟩
theorem lw_p26 : lw_okq (⟨"SwapPress$Past", "forgetOldest", "()V"⟩, 2) := ⟨⟨by decide +kernel, by decide +kernel⟩, List.mem_of_getElem? (i := 175) (by decide +kernel), List.mem_of_getElem? (i := 620) (by decide +kernel), List.mem_of_getElem? (i := 621) (by decide +kernel)⟩
theorem lw_p27 : lw_okq (⟨"SwapPress$Book", "copyTrade", "(LSwapPress$Book;II)V"⟩, 8) := ⟨⟨by decide +kernel, by decide +kernel⟩, List.mem_of_getElem? (i := 79) (by decide +kernel), List.mem_of_getElem? (i := 628) (by decide +kernel), List.mem_of_getElem? (i := 629) (by decide +kernel)⟩
theorem lw_p28 : lw_okq (⟨"SwapPress", "noTrade", "(I)Z"⟩, 13) := ⟨⟨by decide +kernel, by decide +kernel⟩, List.mem_of_getElem? (i := 23) (by decide +kernel), List.mem_of_getElem? (i := 640) (by decide +kernel), List.mem_of_getElem? (i := 641) (by decide +kernel)⟩
theorem lw_p29 : lw_okq (⟨"SwapPress", "findRing", "(I)V"⟩, 13) := ⟨⟨by decide +kernel, by decide +kernel⟩, List.mem_of_getElem? (i := 23) (by decide +kernel), List.mem_of_getElem? (i := 666) (by decide +kernel), List.mem_of_getElem? (i := 667) (by decide +kernel)⟩
theorem lw_p30 : lw_okq (⟨"SwapPress", "gatherFlows", "(II)V"⟩, 13) := ⟨⟨by decide +kernel, by decide +kernel⟩, List.mem_of_getElem? (i := 23) (by decide +kernel), List.mem_of_getElem? (i := 670) (by decide +kernel), List.mem_of_getElem? (i := 671) (by decide +kernel)⟩
theorem lw_p31 : lw_okq (⟨"SwapPress$Rings", "measureSteps", "(LSwapPress$Flows;I)V"⟩, 6) := ⟨⟨by decide +kernel, by decide +kernel⟩, List.mem_of_getElem? (i := 211) (by decide +kernel), List.mem_of_getElem? (i := 686) (by decide +kernel), List.mem_of_getElem? (i := 687) (by decide +kernel)⟩
def lw_privs_2 : List (MethodName × Nat) := [(⟨"SwapPress$Reader", "knownKind", "()I"⟩, 10), (⟨"SwapPress$Reader", "readKeep", "()V"⟩, 10), (⟨"SwapPress$Reader", "readCap", "()V"⟩, 10), (⟨"SwapPress$Reader", "readMode", "()V"⟩, 10), (⟨"SwapPress$Reader", "readSemicolon", "()V"⟩, 10), (⟨"SwapPress", "takeOver", "()V"⟩, 13), (⟨"SwapPress", "noCouple", "(II)Z"⟩, 13), (⟨"SwapPress", "noParty", "(I)Z"⟩, 13), (⟨"SwapPress", "noKind", "(I)Z"⟩, 13), (⟨"SwapPress", "rememberAct", "()V"⟩, 13), (⟨"SwapPress$Past", "forgetOldest", "()V"⟩, 2), (⟨"SwapPress$Book", "copyTrade", "(LSwapPress$Book;II)V"⟩, 8), (⟨"SwapPress", "noTrade", "(I)Z"⟩, 13), (⟨"SwapPress", "findRing", "(I)V"⟩, 13), (⟨"SwapPress", "gatherFlows", "(II)V"⟩, 13), (⟨"SwapPress$Rings", "measureSteps", "(LSwapPress$Flows;I)V"⟩, 6)]
theorem lw_r2 : ∀ q ∈ lw_privs_2, lw_okq q := List.forall_mem_cons.mpr ⟨lw_p16, List.forall_mem_cons.mpr ⟨lw_p17, List.forall_mem_cons.mpr ⟨lw_p18, List.forall_mem_cons.mpr ⟨lw_p19, List.forall_mem_cons.mpr ⟨lw_p20, List.forall_mem_cons.mpr ⟨lw_p21, List.forall_mem_cons.mpr ⟨lw_p22, List.forall_mem_cons.mpr ⟨lw_p23, List.forall_mem_cons.mpr ⟨lw_p24, List.forall_mem_cons.mpr ⟨lw_p25, List.forall_mem_cons.mpr ⟨lw_p26, List.forall_mem_cons.mpr ⟨lw_p27, List.forall_mem_cons.mpr ⟨lw_p28, List.forall_mem_cons.mpr ⟨lw_p29, List.forall_mem_cons.mpr ⟨lw_p30, List.forall_mem_cons.mpr ⟨lw_p31, fun _ h => absurd h List.not_mem_nil⟩⟩⟩⟩⟩⟩⟩⟩⟩⟩⟩⟩⟩⟩⟩⟩
theorem lw_p32 : lw_okq (⟨"SwapPress$Rings", "lengthFrom", "(LSwapPress$Flows;I)I"⟩, 6) := ⟨⟨by decide +kernel, by decide +kernel⟩, List.mem_of_getElem? (i := 211) (by decide +kernel), List.mem_of_getElem? (i := 695) (by decide +kernel), List.mem_of_getElem? (i := 696) (by decide +kernel)⟩
theorem lw_p33 : lw_okq (⟨"SwapPress$Rings", "walk", "(LSwapPress$Flows;I)V"⟩, 6) := ⟨⟨by decide +kernel, by decide +kernel⟩, List.mem_of_getElem? (i := 211) (by decide +kernel), List.mem_of_getElem? (i := 699) (by decide +kernel), List.mem_of_getElem? (i := 700) (by decide +kernel)⟩
theorem lw_p34 : lw_okq (⟨"SwapPress$Rings", "nextOf", "(LSwapPress$Flows;III)I"⟩, 6) := ⟨⟨by decide +kernel, by decide +kernel⟩, List.mem_of_getElem? (i := 211) (by decide +kernel), List.mem_of_getElem? (i := 703) (by decide +kernel), List.mem_of_getElem? (i := 704) (by decide +kernel)⟩
theorem lw_p35 : lw_okq (⟨"SwapPress", "solveKind", "(I)V"⟩, 13) := ⟨⟨by decide +kernel, by decide +kernel⟩, List.mem_of_getElem? (i := 23) (by decide +kernel), List.mem_of_getElem? (i := 730) (by decide +kernel), List.mem_of_getElem? (i := 731) (by decide +kernel)⟩
theorem lw_p36 : lw_okq (⟨"SwapPress$Solver", "open", "(IIJ)V"⟩, 13) := ⟨⟨by decide +kernel, by decide +kernel⟩, List.mem_of_getElem? (i := 258) (by decide +kernel), List.mem_of_getElem? (i := 785) (by decide +kernel), List.mem_of_getElem? (i := 786) (by decide +kernel)⟩
theorem lw_p37 : lw_okq (⟨"SwapPress$Solver", "ship", "(Z)V"⟩, 13) := ⟨⟨by decide +kernel, by decide +kernel⟩, List.mem_of_getElem? (i := 258) (by decide +kernel), List.mem_of_getElem? (i := 789) (by decide +kernel), List.mem_of_getElem? (i := 790) (by decide +kernel)⟩
theorem lw_p38 : lw_okq (⟨"SwapPress$Solver", "search", "()I"⟩, 13) := ⟨⟨by decide +kernel, by decide +kernel⟩, List.mem_of_getElem? (i := 258) (by decide +kernel), List.mem_of_getElem? (i := 794) (by decide +kernel), List.mem_of_getElem? (i := 795) (by decide +kernel)⟩
theorem lw_p39 : lw_okq (⟨"SwapPress$Solver", "price", "(II)I"⟩, 13) := ⟨⟨by decide +kernel, by decide +kernel⟩, List.mem_of_getElem? (i := 258) (by decide +kernel), List.mem_of_getElem? (i := 798) (by decide +kernel), List.mem_of_getElem? (i := 799) (by decide +kernel)⟩
theorem lw_p40 : lw_okq (⟨"SwapPress$Solver", "carry", "(I)V"⟩, 13) := ⟨⟨by decide +kernel, by decide +kernel⟩, List.mem_of_getElem? (i := 258) (by decide +kernel), List.mem_of_getElem? (i := 802) (by decide +kernel), List.mem_of_getElem? (i := 803) (by decide +kernel)⟩
theorem lw_p41 : lw_okq (⟨"SwapPress$Solver", "lift", "()Z"⟩, 13) := ⟨⟨by decide +kernel, by decide +kernel⟩, List.mem_of_getElem? (i := 258) (by decide +kernel), List.mem_of_getElem? (i := 806) (by decide +kernel), List.mem_of_getElem? (i := 807) (by decide +kernel)⟩
theorem lw_p42 : lw_okq (⟨"SwapPress$Solver", "nothingLeft", "()Z"⟩, 13) := ⟨⟨by decide +kernel, by decide +kernel⟩, List.mem_of_getElem? (i := 258) (by decide +kernel), List.mem_of_getElem? (i := 810) (by decide +kernel), List.mem_of_getElem? (i := 811) (by decide +kernel)⟩
theorem lw_p43 : lw_okq (⟨"SwapPress$Solver", "numbersTogether", "()J"⟩, 13) := ⟨⟨by decide +kernel, by decide +kernel⟩, List.mem_of_getElem? (i := 258) (by decide +kernel), List.mem_of_getElem? (i := 814) (by decide +kernel), List.mem_of_getElem? (i := 815) (by decide +kernel)⟩
theorem lw_p44 : lw_okq (⟨"SwapPress$Solver", "shutFarthest", "(IIZ)J"⟩, 13) := ⟨⟨by decide +kernel, by decide +kernel⟩, List.mem_of_getElem? (i := 258) (by decide +kernel), List.mem_of_getElem? (i := 822) (by decide +kernel), List.mem_of_getElem? (i := 823) (by decide +kernel)⟩
theorem lw_p45 : lw_okq (⟨"SwapPress$Solver", "move", "(IIJ)J"⟩, 13) := ⟨⟨by decide +kernel, by decide +kernel⟩, List.mem_of_getElem? (i := 258) (by decide +kernel), List.mem_of_getElem? (i := 826) (by decide +kernel), List.mem_of_getElem? (i := 827) (by decide +kernel)⟩
theorem lw_p46 : lw_okq (⟨"SwapPress$Row", "measure", "(LSwapPress$Flows;)V"⟩, 3) := ⟨⟨by decide +kernel, by decide +kernel⟩, List.mem_of_getElem? (i := 240) (by decide +kernel), List.mem_of_getElem? (i := 947) (by decide +kernel), List.mem_of_getElem? (i := 948) (by decide +kernel)⟩
theorem lw_p47 : lw_okq (⟨"SwapPress$Row", "nextOf", "(LSwapPress$Flows;I)I"⟩, 3) := ⟨⟨by decide +kernel, by decide +kernel⟩, List.mem_of_getElem? (i := 240) (by decide +kernel), List.mem_of_getElem? (i := 956) (by decide +kernel), List.mem_of_getElem? (i := 957) (by decide +kernel)⟩
def lw_privs_3 : List (MethodName × Nat) := [(⟨"SwapPress$Rings", "lengthFrom", "(LSwapPress$Flows;I)I"⟩, 6), (⟨"SwapPress$Rings", "walk", "(LSwapPress$Flows;I)V"⟩, 6), (⟨"SwapPress$Rings", "nextOf", "(LSwapPress$Flows;III)I"⟩, 6), (⟨"SwapPress", "solveKind", "(I)V"⟩, 13), (⟨"SwapPress$Solver", "open", "(IIJ)V"⟩, 13), (⟨"SwapPress$Solver", "ship", "(Z)V"⟩, 13), (⟨"SwapPress$Solver", "search", "()I"⟩, 13), (⟨"SwapPress$Solver", "price", "(II)I"⟩, 13), (⟨"SwapPress$Solver", "carry", "(I)V"⟩, 13), (⟨"SwapPress$Solver", "lift", "()Z"⟩, 13), (⟨"SwapPress$Solver", "nothingLeft", "()Z"⟩, 13), (⟨"SwapPress$Solver", "numbersTogether", "()J"⟩, 13), (⟨"SwapPress$Solver", "shutFarthest", "(IIZ)J"⟩, 13), (⟨"SwapPress$Solver", "move", "(IIJ)J"⟩, 13), (⟨"SwapPress$Row", "measure", "(LSwapPress$Flows;)V"⟩, 3), (⟨"SwapPress$Row", "nextOf", "(LSwapPress$Flows;I)I"⟩, 3)]
theorem lw_r3 : ∀ q ∈ lw_privs_3, lw_okq q := List.forall_mem_cons.mpr ⟨lw_p32, List.forall_mem_cons.mpr ⟨lw_p33, List.forall_mem_cons.mpr ⟨lw_p34, List.forall_mem_cons.mpr ⟨lw_p35, List.forall_mem_cons.mpr ⟨lw_p36, List.forall_mem_cons.mpr ⟨lw_p37, List.forall_mem_cons.mpr ⟨lw_p38, List.forall_mem_cons.mpr ⟨lw_p39, List.forall_mem_cons.mpr ⟨lw_p40, List.forall_mem_cons.mpr ⟨lw_p41, List.forall_mem_cons.mpr ⟨lw_p42, List.forall_mem_cons.mpr ⟨lw_p43, List.forall_mem_cons.mpr ⟨lw_p44, List.forall_mem_cons.mpr ⟨lw_p45, List.forall_mem_cons.mpr ⟨lw_p46, List.forall_mem_cons.mpr ⟨lw_p47, fun _ h => absurd h List.not_mem_nil⟩⟩⟩⟩⟩⟩⟩⟩⟩⟩⟩⟩⟩⟩⟩⟩
theorem lw_p48 : lw_okq (⟨"SwapPress", "prepareTrial", "(II)V"⟩, 13) := ⟨⟨by decide +kernel, by decide +kernel⟩, List.mem_of_getElem? (i := 23) (by decide +kernel), List.mem_of_getElem? (i := 984) (by decide +kernel), List.mem_of_getElem? (i := 985) (by decide +kernel)⟩
theorem lw_p49 : lw_okq (⟨"SwapPress", "reliefOf", "(I)J"⟩, 13) := ⟨⟨by decide +kernel, by decide +kernel⟩, List.mem_of_getElem? (i := 23) (by decide +kernel), List.mem_of_getElem? (i := 998) (by decide +kernel), List.mem_of_getElem? (i := 999) (by decide +kernel)⟩
theorem lw_p50 : lw_okq (⟨"SwapPress$Groups", "measure", "(I)V"⟩, 5) := ⟨⟨by decide +kernel, by decide +kernel⟩, List.mem_of_getElem? (i := 308) (by decide +kernel), List.mem_of_getElem? (i := 1032) (by decide +kernel), List.mem_of_getElem? (i := 1033) (by decide +kernel)⟩
theorem lw_p51 : lw_okq (⟨"SwapPress$Page", "putName", "(LSwapPress$Names;I)V"⟩, 3) := ⟨⟨by decide +kernel, by decide +kernel⟩, List.mem_of_getElem? (i := 332) (by decide +kernel), List.mem_of_getElem? (i := 1050) (by decide +kernel), List.mem_of_getElem? (i := 1051) (by decide +kernel)⟩
theorem lw_p52 : lw_okq (⟨"SwapPress$Page", "put", "(I)V"⟩, 3) := ⟨⟨by decide +kernel, by decide +kernel⟩, List.mem_of_getElem? (i := 332) (by decide +kernel), List.mem_of_getElem? (i := 1054) (by decide +kernel), List.mem_of_getElem? (i := 1055) (by decide +kernel)⟩
theorem lw_p53 : lw_okq (⟨"SwapPress$Page", "putNumber", "(J)V"⟩, 3) := ⟨⟨by decide +kernel, by decide +kernel⟩, List.mem_of_getElem? (i := 332) (by decide +kernel), List.mem_of_getElem? (i := 1058) (by decide +kernel), List.mem_of_getElem? (i := 1059) (by decide +kernel)⟩
theorem lw_p54 : lw_okq (⟨"SwapPressModel", "plain", "()V"⟩, 32) := ⟨⟨by decide +kernel, by decide +kernel⟩, List.mem_of_getElem? (i := 1072) (by decide +kernel), List.mem_of_getElem? (i := 1078) (by decide +kernel), List.mem_of_getElem? (i := 1079) (by decide +kernel)⟩
theorem lw_p55 : lw_okq (⟨"SwapPressModel", "peek", "()I"⟩, 32) := ⟨⟨by decide +kernel, by decide +kernel⟩, List.mem_of_getElem? (i := 1072) (by decide +kernel), List.mem_of_getElem? (i := 1191) (by decide +kernel), List.mem_of_getElem? (i := 1192) (by decide +kernel)⟩
theorem lw_p56 : lw_okq (⟨"SwapPressModel", "lineRead", "()V"⟩, 32) := ⟨⟨by decide +kernel, by decide +kernel⟩, List.mem_of_getElem? (i := 1072) (by decide +kernel), List.mem_of_getElem? (i := 1195) (by decide +kernel), List.mem_of_getElem? (i := 1196) (by decide +kernel)⟩
theorem lw_p57 : lw_okq (⟨"SwapPressModel", "wordHere", "()I"⟩, 32) := ⟨⟨by decide +kernel, by decide +kernel⟩, List.mem_of_getElem? (i := 1072) (by decide +kernel), List.mem_of_getElem? (i := 1199) (by decide +kernel), List.mem_of_getElem? (i := 1200) (by decide +kernel)⟩
theorem lw_p58 : lw_okq (⟨"SwapPressModel", "lettersHere", "()I"⟩, 32) := ⟨⟨by decide +kernel, by decide +kernel⟩, List.mem_of_getElem? (i := 1072) (by decide +kernel), List.mem_of_getElem? (i := 1208) (by decide +kernel), List.mem_of_getElem? (i := 1209) (by decide +kernel)⟩
theorem lw_p59 : lw_okq (⟨"SwapPressModel", "fails", "(II)V"⟩, 32) := ⟨⟨by decide +kernel, by decide +kernel⟩, List.mem_of_getElem? (i := 1072) (by decide +kernel), List.mem_of_getElem? (i := 1215) (by decide +kernel), List.mem_of_getElem? (i := 1216) (by decide +kernel)⟩
theorem lw_p60 : lw_okq (⟨"SwapPressModel", "isFull", "(I)Z"⟩, 32) := ⟨⟨by decide +kernel, by decide +kernel⟩, List.mem_of_getElem? (i := 1072) (by decide +kernel), List.mem_of_getElem? (i := 1219) (by decide +kernel), List.mem_of_getElem? (i := 1220) (by decide +kernel)⟩
theorem lw_p61 : lw_okq (⟨"SwapPressModel", "behind", "(I)V"⟩, 32) := ⟨⟨by decide +kernel, by decide +kernel⟩, List.mem_of_getElem? (i := 1072) (by decide +kernel), List.mem_of_getElem? (i := 1223) (by decide +kernel), List.mem_of_getElem? (i := 1224) (by decide +kernel)⟩
theorem lw_p62 : lw_okq (⟨"SwapPressModel", "newName", "(I)V"⟩, 32) := ⟨⟨by decide +kernel, by decide +kernel⟩, List.mem_of_getElem? (i := 1072) (by decide +kernel), List.mem_of_getElem? (i := 1227) (by decide +kernel), List.mem_of_getElem? (i := 1228) (by decide +kernel)⟩
theorem lw_p63 : lw_okq (⟨"SwapPressModel", "nameRead", "()J"⟩, 32) := ⟨⟨by decide +kernel, by decide +kernel⟩, List.mem_of_getElem? (i := 1072) (by decide +kernel), List.mem_of_getElem? (i := 1231) (by decide +kernel), List.mem_of_getElem? (i := 1232) (by decide +kernel)⟩
def lw_privs_4 : List (MethodName × Nat) := [(⟨"SwapPress", "prepareTrial", "(II)V"⟩, 13), (⟨"SwapPress", "reliefOf", "(I)J"⟩, 13), (⟨"SwapPress$Groups", "measure", "(I)V"⟩, 5), (⟨"SwapPress$Page", "putName", "(LSwapPress$Names;I)V"⟩, 3), (⟨"SwapPress$Page", "put", "(I)V"⟩, 3), (⟨"SwapPress$Page", "putNumber", "(J)V"⟩, 3), (⟨"SwapPressModel", "plain", "()V"⟩, 32), (⟨"SwapPressModel", "peek", "()I"⟩, 32), (⟨"SwapPressModel", "lineRead", "()V"⟩, 32), (⟨"SwapPressModel", "wordHere", "()I"⟩, 32), (⟨"SwapPressModel", "lettersHere", "()I"⟩, 32), (⟨"SwapPressModel", "fails", "(II)V"⟩, 32), (⟨"SwapPressModel", "isFull", "(I)Z"⟩, 32), (⟨"SwapPressModel", "behind", "(I)V"⟩, 32), (⟨"SwapPressModel", "newName", "(I)V"⟩, 32), (⟨"SwapPressModel", "nameRead", "()J"⟩, 32)]
theorem lw_r4 : ∀ q ∈ lw_privs_4, lw_okq q := List.forall_mem_cons.mpr ⟨lw_p48, List.forall_mem_cons.mpr ⟨lw_p49, List.forall_mem_cons.mpr ⟨lw_p50, List.forall_mem_cons.mpr ⟨lw_p51, List.forall_mem_cons.mpr ⟨lw_p52, List.forall_mem_cons.mpr ⟨lw_p53, List.forall_mem_cons.mpr ⟨lw_p54, List.forall_mem_cons.mpr ⟨lw_p55, List.forall_mem_cons.mpr ⟨lw_p56, List.forall_mem_cons.mpr ⟨lw_p57, List.forall_mem_cons.mpr ⟨lw_p58, List.forall_mem_cons.mpr ⟨lw_p59, List.forall_mem_cons.mpr ⟨lw_p60, List.forall_mem_cons.mpr ⟨lw_p61, List.forall_mem_cons.mpr ⟨lw_p62, List.forall_mem_cons.mpr ⟨lw_p63, fun _ h => absurd h List.not_mem_nil⟩⟩⟩⟩⟩⟩⟩⟩⟩⟩⟩⟩⟩⟩⟩⟩
theorem lw_p64 : lw_okq (⟨"SwapPressModel", "find", "(JII)I"⟩, 32) := ⟨⟨by decide +kernel, by decide +kernel⟩, List.mem_of_getElem? (i := 1072) (by decide +kernel), List.mem_of_getElem? (i := 1235) (by decide +kernel), List.mem_of_getElem? (i := 1236) (by decide +kernel)⟩
theorem lw_p65 : lw_okq (⟨"SwapPressModel", "numeral", "(II)I"⟩, 32) := ⟨⟨by decide +kernel, by decide +kernel⟩, List.mem_of_getElem? (i := 1072) (by decide +kernel), List.mem_of_getElem? (i := 1239) (by decide +kernel), List.mem_of_getElem? (i := 1240) (by decide +kernel)⟩
theorem lw_p66 : lw_okq (⟨"SwapPressModel", "tradeAt", "(II)I"⟩, 32) := ⟨⟨by decide +kernel, by decide +kernel⟩, List.mem_of_getElem? (i := 1072) (by decide +kernel), List.mem_of_getElem? (i := 1248) (by decide +kernel), List.mem_of_getElem? (i := 1249) (by decide +kernel)⟩
theorem lw_p67 : lw_okq (⟨"SwapPressModel", "twoRead", "(I)V"⟩, 32) := ⟨⟨by decide +kernel, by decide +kernel⟩, List.mem_of_getElem? (i := 1072) (by decide +kernel), List.mem_of_getElem? (i := 1252) (by decide +kernel), List.mem_of_getElem? (i := 1253) (by decide +kernel)⟩
theorem lw_p68 : lw_okq (⟨"SwapPressModel", "partyRead", "()I"⟩, 32) := ⟨⟨by decide +kernel, by decide +kernel⟩, List.mem_of_getElem? (i := 1072) (by decide +kernel), List.mem_of_getElem? (i := 1256) (by decide +kernel), List.mem_of_getElem? (i := 1257) (by decide +kernel)⟩
theorem lw_p69 : lw_okq (⟨"SwapPressModel", "otherRead", "(I)I"⟩, 32) := ⟨⟨by decide +kernel, by decide +kernel⟩, List.mem_of_getElem? (i := 1072) (by decide +kernel), List.mem_of_getElem? (i := 1260) (by decide +kernel), List.mem_of_getElem? (i := 1261) (by decide +kernel)⟩
theorem lw_p70 : lw_okq (⟨"SwapPressModel", "kindRead", "()I"⟩, 32) := ⟨⟨by decide +kernel, by decide +kernel⟩, List.mem_of_getElem? (i := 1072) (by decide +kernel), List.mem_of_getElem? (i := 1265) (by decide +kernel), List.mem_of_getElem? (i := 1266) (by decide +kernel)⟩
theorem lw_p71 : lw_okq (⟨"SwapPressModel", "adds", "(IIII)V"⟩, 32) := ⟨⟨by decide +kernel, by decide +kernel⟩, List.mem_of_getElem? (i := 1072) (by decide +kernel), List.mem_of_getElem? (i := 1269) (by decide +kernel), List.mem_of_getElem? (i := 1270) (by decide +kernel)⟩
theorem lw_p72 : lw_okq (⟨"SwapPressModel", "areTwo", "(II)Z"⟩, 32) := ⟨⟨by decide +kernel, by decide +kernel⟩, List.mem_of_getElem? (i := 1072) (by decide +kernel), List.mem_of_getElem? (i := 1281) (by decide +kernel), List.mem_of_getElem? (i := 1282) (by decide +kernel)⟩
theorem lw_p73 : lw_okq (⟨"SwapPressModel", "isParty", "(I)Z"⟩, 32) := ⟨⟨by decide +kernel, by decide +kernel⟩, List.mem_of_getElem? (i := 1072) (by decide +kernel), List.mem_of_getElem? (i := 1285) (by decide +kernel), List.mem_of_getElem? (i := 1286) (by decide +kernel)⟩
theorem lw_p74 : lw_okq (⟨"SwapPressModel", "isKind", "(I)Z"⟩, 32) := ⟨⟨by decide +kernel, by decide +kernel⟩, List.mem_of_getElem? (i := 1072) (by decide +kernel), List.mem_of_getElem? (i := 1289) (by decide +kernel), List.mem_of_getElem? (i := 1290) (by decide +kernel)⟩
theorem lw_p75 : lw_okq (⟨"SwapPressModel", "remembers", "()V"⟩, 32) := ⟨⟨by decide +kernel, by decide +kernel⟩, List.mem_of_getElem? (i := 1072) (by decide +kernel), List.mem_of_getElem? (i := 1294) (by decide +kernel), List.mem_of_getElem? (i := 1295) (by decide +kernel)⟩
theorem lw_p76 : lw_okq (⟨"SwapPressModel", "isTrade", "(I)Z"⟩, 32) := ⟨⟨by decide +kernel, by decide +kernel⟩, List.mem_of_getElem? (i := 1072) (by decide +kernel), List.mem_of_getElem? (i := 1302) (by decide +kernel), List.mem_of_getElem? (i := 1303) (by decide +kernel)⟩
theorem lw_p77 : lw_okq (⟨"SwapPressModel", "goes", "(I)V"⟩, 32) := ⟨⟨by decide +kernel, by decide +kernel⟩, List.mem_of_getElem? (i := 1072) (by decide +kernel), List.mem_of_getElem? (i := 1306) (by decide +kernel), List.mem_of_getElem? (i := 1307) (by decide +kernel)⟩
theorem lw_p78 : lw_okq (⟨"SwapPressModel", "laysFlows", "(II)V"⟩, 32) := ⟨⟨by decide +kernel, by decide +kernel⟩, List.mem_of_getElem? (i := 1072) (by decide +kernel), List.mem_of_getElem? (i := 1337) (by decide +kernel), List.mem_of_getElem? (i := 1338) (by decide +kernel)⟩
theorem lw_p79 : lw_okq (⟨"SwapPressModel", "isFree", "(II)Z"⟩, 32) := ⟨⟨by decide +kernel, by decide +kernel⟩, List.mem_of_getElem? (i := 1072) (by decide +kernel), List.mem_of_getElem? (i := 1341) (by decide +kernel), List.mem_of_getElem? (i := 1342) (by decide +kernel)⟩
def lw_privs_5 : List (MethodName × Nat) := [(⟨"SwapPressModel", "find", "(JII)I"⟩, 32), (⟨"SwapPressModel", "numeral", "(II)I"⟩, 32), (⟨"SwapPressModel", "tradeAt", "(II)I"⟩, 32), (⟨"SwapPressModel", "twoRead", "(I)V"⟩, 32), (⟨"SwapPressModel", "partyRead", "()I"⟩, 32), (⟨"SwapPressModel", "otherRead", "(I)I"⟩, 32), (⟨"SwapPressModel", "kindRead", "()I"⟩, 32), (⟨"SwapPressModel", "adds", "(IIII)V"⟩, 32), (⟨"SwapPressModel", "areTwo", "(II)Z"⟩, 32), (⟨"SwapPressModel", "isParty", "(I)Z"⟩, 32), (⟨"SwapPressModel", "isKind", "(I)Z"⟩, 32), (⟨"SwapPressModel", "remembers", "()V"⟩, 32), (⟨"SwapPressModel", "isTrade", "(I)Z"⟩, 32), (⟨"SwapPressModel", "goes", "(I)V"⟩, 32), (⟨"SwapPressModel", "laysFlows", "(II)V"⟩, 32), (⟨"SwapPressModel", "isFree", "(II)Z"⟩, 32)]
theorem lw_r5 : ∀ q ∈ lw_privs_5, lw_okq q := List.forall_mem_cons.mpr ⟨lw_p64, List.forall_mem_cons.mpr ⟨lw_p65, List.forall_mem_cons.mpr ⟨lw_p66, List.forall_mem_cons.mpr ⟨lw_p67, List.forall_mem_cons.mpr ⟨lw_p68, List.forall_mem_cons.mpr ⟨lw_p69, List.forall_mem_cons.mpr ⟨lw_p70, List.forall_mem_cons.mpr ⟨lw_p71, List.forall_mem_cons.mpr ⟨lw_p72, List.forall_mem_cons.mpr ⟨lw_p73, List.forall_mem_cons.mpr ⟨lw_p74, List.forall_mem_cons.mpr ⟨lw_p75, List.forall_mem_cons.mpr ⟨lw_p76, List.forall_mem_cons.mpr ⟨lw_p77, List.forall_mem_cons.mpr ⟨lw_p78, List.forall_mem_cons.mpr ⟨lw_p79, fun _ h => absurd h List.not_mem_nil⟩⟩⟩⟩⟩⟩⟩⟩⟩⟩⟩⟩⟩⟩⟩⟩
theorem lw_p80 : lw_okq (⟨"SwapPressModel", "isOf", "(II)Z"⟩, 32) := ⟨⟨by decide +kernel, by decide +kernel⟩, List.mem_of_getElem? (i := 1072) (by decide +kernel), List.mem_of_getElem? (i := 1345) (by decide +kernel), List.mem_of_getElem? (i := 1346) (by decide +kernel)⟩
theorem lw_p81 : lw_okq (⟨"SwapPressModel", "netBy", "(I)I"⟩, 32) := ⟨⟨by decide +kernel, by decide +kernel⟩, List.mem_of_getElem? (i := 1072) (by decide +kernel), List.mem_of_getElem? (i := 1357) (by decide +kernel), List.mem_of_getElem? (i := 1358) (by decide +kernel)⟩
theorem lw_p82 : lw_okq (⟨"SwapPressModel", "amounts", "(III)I"⟩, 32) := ⟨⟨by decide +kernel, by decide +kernel⟩, List.mem_of_getElem? (i := 1072) (by decide +kernel), List.mem_of_getElem? (i := 1361) (by decide +kernel), List.mem_of_getElem? (i := 1362) (by decide +kernel)⟩
theorem lw_p83 : lw_okq (⟨"SwapPressModel", "sumOfFlows", "()I"⟩, 32) := ⟨⟨by decide +kernel, by decide +kernel⟩, List.mem_of_getElem? (i := 1072) (by decide +kernel), List.mem_of_getElem? (i := 1375) (by decide +kernel), List.mem_of_getElem? (i := 1376) (by decide +kernel)⟩
theorem lw_p84 : lw_okq (⟨"SwapPressModel", "positive", "()I"⟩, 32) := ⟨⟨by decide +kernel, by decide +kernel⟩, List.mem_of_getElem? (i := 1072) (by decide +kernel), List.mem_of_getElem? (i := 1379) (by decide +kernel), List.mem_of_getElem? (i := 1380) (by decide +kernel)⟩
theorem lw_p85 : lw_okq (⟨"SwapPressModel", "boundOf", "(II)I"⟩, 32) := ⟨⟨by decide +kernel, by decide +kernel⟩, List.mem_of_getElem? (i := 1072) (by decide +kernel), List.mem_of_getElem? (i := 1387) (by decide +kernel), List.mem_of_getElem? (i := 1388) (by decide +kernel)⟩
theorem lw_p86 : lw_okq (⟨"SwapPressModel", "laysRing", "()I"⟩, 32) := ⟨⟨by decide +kernel, by decide +kernel⟩, List.mem_of_getElem? (i := 1072) (by decide +kernel), List.mem_of_getElem? (i := 1395) (by decide +kernel), List.mem_of_getElem? (i := 1396) (by decide +kernel)⟩
theorem lw_p87 : lw_okq (⟨"SwapPressModel", "goesRound", "(III)Z"⟩, 32) := ⟨⟨by decide +kernel, by decide +kernel⟩, List.mem_of_getElem? (i := 1072) (by decide +kernel), List.mem_of_getElem? (i := 1399) (by decide +kernel), List.mem_of_getElem? (i := 1400) (by decide +kernel)⟩
theorem lw_p88 : lw_okq (⟨"SwapPressModel", "loadOf", "()I"⟩, 32) := ⟨⟨by decide +kernel, by decide +kernel⟩, List.mem_of_getElem? (i := 1072) (by decide +kernel), List.mem_of_getElem? (i := 1407) (by decide +kernel), List.mem_of_getElem? (i := 1408) (by decide +kernel)⟩
theorem lw_p89 : lw_okq (⟨"SwapPressModel", "coupleOf", "(I)I"⟩, 32) := ⟨⟨by decide +kernel, by decide +kernel⟩, List.mem_of_getElem? (i := 1072) (by decide +kernel), List.mem_of_getElem? (i := 1411) (by decide +kernel), List.mem_of_getElem? (i := 1412) (by decide +kernel)⟩
theorem lw_p90 : lw_okq (⟨"SwapPressModel", "ringGoes", "()V"⟩, 32) := ⟨⟨by decide +kernel, by decide +kernel⟩, List.mem_of_getElem? (i := 1072) (by decide +kernel), List.mem_of_getElem? (i := 1419) (by decide +kernel), List.mem_of_getElem? (i := 1420) (by decide +kernel)⟩
theorem lw_p91 : lw_okq (⟨"SwapPressModel", "laysRows", "()I"⟩, 32) := ⟨⟨by decide +kernel, by decide +kernel⟩, List.mem_of_getElem? (i := 1072) (by decide +kernel), List.mem_of_getElem? (i := 1432) (by decide +kernel), List.mem_of_getElem? (i := 1433) (by decide +kernel)⟩
theorem lw_p92 : lw_okq (⟨"SwapPressModel", "nextOf", "(II)I"⟩, 32) := ⟨⟨by decide +kernel, by decide +kernel⟩, List.mem_of_getElem? (i := 1072) (by decide +kernel), List.mem_of_getElem? (i := 1436) (by decide +kernel), List.mem_of_getElem? (i := 1437) (by decide +kernel)⟩
theorem lw_p93 : lw_okq (⟨"SwapPressModel", "laysBounds", "(II)V"⟩, 32) := ⟨⟨by decide +kernel, by decide +kernel⟩, List.mem_of_getElem? (i := 1072) (by decide +kernel), List.mem_of_getElem? (i := 1448) (by decide +kernel), List.mem_of_getElem? (i := 1449) (by decide +kernel)⟩
theorem lw_p94 : lw_okq (⟨"SwapPressModel", "presses", "()Z"⟩, 32) := ⟨⟨by decide +kernel, by decide +kernel⟩, List.mem_of_getElem? (i := 1072) (by decide +kernel), List.mem_of_getElem? (i := 1456) (by decide +kernel), List.mem_of_getElem? (i := 1457) (by decide +kernel)⟩
theorem lw_p95 : lw_okq (⟨"SwapPressModel", "laysWays", "()V"⟩, 32) := ⟨⟨by decide +kernel, by decide +kernel⟩, List.mem_of_getElem? (i := 1072) (by decide +kernel), List.mem_of_getElem? (i := 1461) (by decide +kernel), List.mem_of_getElem? (i := 1462) (by decide +kernel)⟩
def lw_privs_6 : List (MethodName × Nat) := [(⟨"SwapPressModel", "isOf", "(II)Z"⟩, 32), (⟨"SwapPressModel", "netBy", "(I)I"⟩, 32), (⟨"SwapPressModel", "amounts", "(III)I"⟩, 32), (⟨"SwapPressModel", "sumOfFlows", "()I"⟩, 32), (⟨"SwapPressModel", "positive", "()I"⟩, 32), (⟨"SwapPressModel", "boundOf", "(II)I"⟩, 32), (⟨"SwapPressModel", "laysRing", "()I"⟩, 32), (⟨"SwapPressModel", "goesRound", "(III)Z"⟩, 32), (⟨"SwapPressModel", "loadOf", "()I"⟩, 32), (⟨"SwapPressModel", "coupleOf", "(I)I"⟩, 32), (⟨"SwapPressModel", "ringGoes", "()V"⟩, 32), (⟨"SwapPressModel", "laysRows", "()I"⟩, 32), (⟨"SwapPressModel", "nextOf", "(II)I"⟩, 32), (⟨"SwapPressModel", "laysBounds", "(II)V"⟩, 32), (⟨"SwapPressModel", "presses", "()Z"⟩, 32), (⟨"SwapPressModel", "laysWays", "()V"⟩, 32)]
theorem lw_r6 : ∀ q ∈ lw_privs_6, lw_okq q := List.forall_mem_cons.mpr ⟨lw_p80, List.forall_mem_cons.mpr ⟨lw_p81, List.forall_mem_cons.mpr ⟨lw_p82, List.forall_mem_cons.mpr ⟨lw_p83, List.forall_mem_cons.mpr ⟨lw_p84, List.forall_mem_cons.mpr ⟨lw_p85, List.forall_mem_cons.mpr ⟨lw_p86, List.forall_mem_cons.mpr ⟨lw_p87, List.forall_mem_cons.mpr ⟨lw_p88, List.forall_mem_cons.mpr ⟨lw_p89, List.forall_mem_cons.mpr ⟨lw_p90, List.forall_mem_cons.mpr ⟨lw_p91, List.forall_mem_cons.mpr ⟨lw_p92, List.forall_mem_cons.mpr ⟨lw_p93, List.forall_mem_cons.mpr ⟨lw_p94, List.forall_mem_cons.mpr ⟨lw_p95, fun _ h => absurd h List.not_mem_nil⟩⟩⟩⟩⟩⟩⟩⟩⟩⟩⟩⟩⟩⟩⟩⟩
theorem lw_p96 : lw_okq (⟨"SwapPressModel", "stepMay", "(II)I"⟩, 32) := ⟨⟨by decide +kernel, by decide +kernel⟩, List.mem_of_getElem? (i := 1072) (by decide +kernel), List.mem_of_getElem? (i := 1465) (by decide +kernel), List.mem_of_getElem? (i := 1466) (by decide +kernel)⟩
theorem lw_p97 : lw_okq (⟨"SwapPressModel", "firstOf", "(I)I"⟩, 32) := ⟨⟨by decide +kernel, by decide +kernel⟩, List.mem_of_getElem? (i := 1072) (by decide +kernel), List.mem_of_getElem? (i := 1472) (by decide +kernel), List.mem_of_getElem? (i := 1473) (by decide +kernel)⟩
theorem lw_p98 : lw_okq (⟨"SwapPressModel", "wayMay", "(II)I"⟩, 32) := ⟨⟨by decide +kernel, by decide +kernel⟩, List.mem_of_getElem? (i := 1072) (by decide +kernel), List.mem_of_getElem? (i := 1476) (by decide +kernel), List.mem_of_getElem? (i := 1477) (by decide +kernel)⟩
theorem lw_p99 : lw_okq (⟨"SwapPressModel", "sends", "(II)V"⟩, 32) := ⟨⟨by decide +kernel, by decide +kernel⟩, List.mem_of_getElem? (i := 1072) (by decide +kernel), List.mem_of_getElem? (i := 1480) (by decide +kernel), List.mem_of_getElem? (i := 1481) (by decide +kernel)⟩
theorem lw_p100 : lw_okq (⟨"SwapPressModel", "sumOf", "()I"⟩, 32) := ⟨⟨by decide +kernel, by decide +kernel⟩, List.mem_of_getElem? (i := 1072) (by decide +kernel), List.mem_of_getElem? (i := 1484) (by decide +kernel), List.mem_of_getElem? (i := 1485) (by decide +kernel)⟩
theorem lw_p101 : lw_okq (⟨"SwapPressModel", "pressesFirst", "(I)Z"⟩, 32) := ⟨⟨by decide +kernel, by decide +kernel⟩, List.mem_of_getElem? (i := 1072) (by decide +kernel), List.mem_of_getElem? (i := 1492) (by decide +kernel), List.mem_of_getElem? (i := 1493) (by decide +kernel)⟩
theorem lw_p102 : lw_okq (⟨"SwapPressModel", "turns", "(IIZ)V"⟩, 32) := ⟨⟨by decide +kernel, by decide +kernel⟩, List.mem_of_getElem? (i := 1072) (by decide +kernel), List.mem_of_getElem? (i := 1496) (by decide +kernel), List.mem_of_getElem? (i := 1497) (by decide +kernel)⟩
theorem lw_p103 : lw_okq (⟨"SwapPressModel", "shifts", "(IIII)I"⟩, 32) := ⟨⟨by decide +kernel, by decide +kernel⟩, List.mem_of_getElem? (i := 1072) (by decide +kernel), List.mem_of_getElem? (i := 1500) (by decide +kernel), List.mem_of_getElem? (i := 1501) (by decide +kernel)⟩
theorem lw_p104 : lw_okq (⟨"SwapPressModel", "couplesNow", "()I"⟩, 32) := ⟨⟨by decide +kernel, by decide +kernel⟩, List.mem_of_getElem? (i := 1072) (by decide +kernel), List.mem_of_getElem? (i := 1508) (by decide +kernel), List.mem_of_getElem? (i := 1509) (by decide +kernel)⟩
theorem lw_p105 : lw_okq (⟨"SwapPressModel", "reliefOf", "(I)I"⟩, 32) := ⟨⟨by decide +kernel, by decide +kernel⟩, List.mem_of_getElem? (i := 1072) (by decide +kernel), List.mem_of_getElem? (i := 1528) (by decide +kernel), List.mem_of_getElem? (i := 1529) (by decide +kernel)⟩
theorem lw_p106 : lw_okq (⟨"SwapPressModel", "sumBy", "(I)I"⟩, 32) := ⟨⟨by decide +kernel, by decide +kernel⟩, List.mem_of_getElem? (i := 1072) (by decide +kernel), List.mem_of_getElem? (i := 1556) (by decide +kernel), List.mem_of_getElem? (i := 1557) (by decide +kernel)⟩
theorem lw_p107 : lw_okq (⟨"SwapPressModel", "putsName", "(J)V"⟩, 32) := ⟨⟨by decide +kernel, by decide +kernel⟩, List.mem_of_getElem? (i := 1072) (by decide +kernel), List.mem_of_getElem? (i := 1568) (by decide +kernel), List.mem_of_getElem? (i := 1569) (by decide +kernel)⟩
theorem lw_p108 : lw_okq (⟨"SwapPressModel", "puts", "(I)V"⟩, 32) := ⟨⟨by decide +kernel, by decide +kernel⟩, List.mem_of_getElem? (i := 1072) (by decide +kernel), List.mem_of_getElem? (i := 1573) (by decide +kernel), List.mem_of_getElem? (i := 1574) (by decide +kernel)⟩
theorem lw_p109 : lw_okq (⟨"SwapPressModel", "putsNumber", "(I)V"⟩, 32) := ⟨⟨by decide +kernel, by decide +kernel⟩, List.mem_of_getElem? (i := 1072) (by decide +kernel), List.mem_of_getElem? (i := 1577) (by decide +kernel), List.mem_of_getElem? (i := 1578) (by decide +kernel)⟩
theorem lw_p110 : lw_okq (⟨"SwapPressModel", "keptMany", "()I"⟩, 32) := ⟨⟨by decide +kernel, by decide +kernel⟩, List.mem_of_getElem? (i := 1072) (by decide +kernel), List.mem_of_getElem? (i := 1585) (by decide +kernel), List.mem_of_getElem? (i := 1586) (by decide +kernel)⟩
def lw_privs_7 : List (MethodName × Nat) := [(⟨"SwapPressModel", "stepMay", "(II)I"⟩, 32), (⟨"SwapPressModel", "firstOf", "(I)I"⟩, 32), (⟨"SwapPressModel", "wayMay", "(II)I"⟩, 32), (⟨"SwapPressModel", "sends", "(II)V"⟩, 32), (⟨"SwapPressModel", "sumOf", "()I"⟩, 32), (⟨"SwapPressModel", "pressesFirst", "(I)Z"⟩, 32), (⟨"SwapPressModel", "turns", "(IIZ)V"⟩, 32), (⟨"SwapPressModel", "shifts", "(IIII)I"⟩, 32), (⟨"SwapPressModel", "couplesNow", "()I"⟩, 32), (⟨"SwapPressModel", "reliefOf", "(I)I"⟩, 32), (⟨"SwapPressModel", "sumBy", "(I)I"⟩, 32), (⟨"SwapPressModel", "putsName", "(J)V"⟩, 32), (⟨"SwapPressModel", "puts", "(I)V"⟩, 32), (⟨"SwapPressModel", "putsNumber", "(I)V"⟩, 32), (⟨"SwapPressModel", "keptMany", "()I"⟩, 32)]
theorem lw_r7 : ∀ q ∈ lw_privs_7, lw_okq q := List.forall_mem_cons.mpr ⟨lw_p96, List.forall_mem_cons.mpr ⟨lw_p97, List.forall_mem_cons.mpr ⟨lw_p98, List.forall_mem_cons.mpr ⟨lw_p99, List.forall_mem_cons.mpr ⟨lw_p100, List.forall_mem_cons.mpr ⟨lw_p101, List.forall_mem_cons.mpr ⟨lw_p102, List.forall_mem_cons.mpr ⟨lw_p103, List.forall_mem_cons.mpr ⟨lw_p104, List.forall_mem_cons.mpr ⟨lw_p105, List.forall_mem_cons.mpr ⟨lw_p106, List.forall_mem_cons.mpr ⟨lw_p107, List.forall_mem_cons.mpr ⟨lw_p108, List.forall_mem_cons.mpr ⟨lw_p109, List.forall_mem_cons.mpr ⟨lw_p110, fun _ h => absurd h List.not_mem_nil⟩⟩⟩⟩⟩⟩⟩⟩⟩⟩⟩⟩⟩⟩⟩
def lw_privs : List (MethodName × Nat) := lw_privs_1 ++ (lw_privs_2 ++ (lw_privs_3 ++ (lw_privs_4 ++ (lw_privs_5 ++ (lw_privs_6 ++ (lw_privs_7))))))
def lw_tbl : List Cond := k2_sels lw_privs ++ tables_1
theorem lw_privs_ok : ∀ q ∈ lw_privs, lw_okq q := by
  show ∀ q ∈ lw_privs_1 ++ (lw_privs_2 ++ (lw_privs_3 ++ (lw_privs_4 ++ (lw_privs_5 ++ (lw_privs_6 ++ (lw_privs_7)))))), lw_okq q
  exact List.forall_mem_append.mpr ⟨lw_r1, List.forall_mem_append.mpr ⟨lw_r2, List.forall_mem_append.mpr ⟨lw_r3, List.forall_mem_append.mpr ⟨lw_r4, List.forall_mem_append.mpr ⟨lw_r5, List.forall_mem_append.mpr ⟨lw_r6, lw_r7⟩⟩⟩⟩⟩⟩
end
section
def RJ7 : String := "java/util/Arrays"
def RX0 : String := "SwapPress$Book"
def RX1 : String := "SwapPress$Flows"
def RX2 : String := "SwapPress$Groups"
def RX3 : String := "SwapPress$Names"
def RX4 : String := "SwapPress$Page"
def RX5 : String := "SwapPress$Past"
def RX6 : String := "SwapPress$Reader"
def RX7 : String := "SwapPress$Rings"
def RX8 : String := "SwapPress$Row"
def RX9 : String := "SwapPress$Solver"
def RX10 : String := "SwapPress$Tape"
def RX11 : String := "SwapPress"
def RX12 : String := "SwapPressModel"
def TX0 : u_T := fun k => match k with
  | 0 => ("SwapPress$Book", "from", "[I", true)
  | 1 => ("SwapPress$Book", "to", "[I", true)
  | 2 => ("SwapPress$Book", "kind", "[I", true)
  | 3 => ("SwapPress$Book", "amount", "[J", true)
  | 4 => ("SwapPress$Book", "kept", "[Z", true)
  | 5 => ("SwapPress$Book", "caps", "[I", true)
  | 6 => ("SwapPress$Book", "size", "I", false)
  | _ => ("SwapPress$Book", "boundMode", "I", false)
def tyX0 : Nat → FieldType := fun k => match k with
  | 0 => .array .int
  | 1 => .array .int
  | 2 => .array .int
  | 3 => .array .long
  | 4 => .array .boolean
  | 5 => .array .int
  | 6 => .int
  | _ => .int
theorem nmX0 : ∀ a, a < 8 → ∀ b, b < 8 → a ≠ b → (TX0 a).2.1 ≠ (TX0 b).2.1 := by decide +kernel
theorem tyX0_ok : ∀ k, k < 8 → parseFieldDescriptor (TX0 k).2.2.1 = some (tyX0 k) := by decide +kernel
def TX1 : u_T := fun k => match k with
  | 0 => ("SwapPress$Flows", "cells", "[J", true)
  | _ => ("SwapPress$Flows", "parties", "I", false)
def tyX1 : Nat → FieldType := fun k => match k with
  | 0 => .array .long
  | _ => .int
theorem nmX1 : ∀ a, a < 2 → ∀ b, b < 2 → a ≠ b → (TX1 a).2.1 ≠ (TX1 b).2.1 := by decide +kernel
theorem tyX1_ok : ∀ k, k < 2 → parseFieldDescriptor (TX1 k).2.2.1 = some (tyX1 k) := by decide +kernel
def TX2 : u_T := fun k => match k with
  | 0 => ("SwapPress$Groups", "size", "I", false)
  | 1 => ("SwapPress$Groups", "most", "I", false)
  | 2 => ("SwapPress$Groups", "nets", "[J", true)
  | 3 => ("SwapPress$Groups", "sums", "[J", true)
  | _ => ("SwapPress$Groups", "best", "[I", true)
def tyX2 : Nat → FieldType := fun k => match k with
  | 0 => .int
  | 1 => .int
  | 2 => .array .long
  | 3 => .array .long
  | _ => .array .int
theorem nmX2 : ∀ a, a < 5 → ∀ b, b < 5 → a ≠ b → (TX2 a).2.1 ≠ (TX2 b).2.1 := by decide +kernel
theorem tyX2_ok : ∀ k, k < 5 → parseFieldDescriptor (TX2 k).2.2.1 = some (tyX2 k) := by decide +kernel
def TX3 : u_T := fun k => match k with
  | 0 => ("SwapPress$Names", "letters", "[B", true)
  | 1 => ("SwapPress$Names", "lengths", "[I", true)
  | 2 => ("SwapPress$Names", "parties", "I", false)
  | _ => ("SwapPress$Names", "kinds", "I", false)
def tyX3 : Nat → FieldType := fun k => match k with
  | 0 => .array .byte
  | 1 => .array .int
  | 2 => .int
  | _ => .int
theorem nmX3 : ∀ a, a < 4 → ∀ b, b < 4 → a ≠ b → (TX3 a).2.1 ≠ (TX3 b).2.1 := by decide +kernel
theorem tyX3_ok : ∀ k, k < 4 → parseFieldDescriptor (TX3 k).2.2.1 = some (tyX3 k) := by decide +kernel
def TX4 : u_T := fun k => match k with
  | 0 => ("SwapPress$Page", "bytes", "[B", true)
  | 1 => ("SwapPress$Page", "length", "I", false)
  | _ => ("SwapPress$Page", "digits", "[B", true)
def tyX4 : Nat → FieldType := fun k => match k with
  | 0 => .array .byte
  | 1 => .int
  | _ => .array .byte
theorem nmX4 : ∀ a, a < 3 → ∀ b, b < 3 → a ≠ b → (TX4 a).2.1 ≠ (TX4 b).2.1 := by decide +kernel
theorem tyX4_ok : ∀ k, k < 3 → parseFieldDescriptor (TX4 k).2.2.1 = some (tyX4 k) := by decide +kernel
def TX5 : u_T := fun k => match k with
  | 0 => ("SwapPress$Past", "books", "[LSwapPress$Book;", true)
  | _ => ("SwapPress$Past", "size", "I", false)
def tyX5 : Nat → FieldType := fun k => match k with
  | 0 => .array (.object "SwapPress$Book")
  | _ => .int
theorem nmX5 : ∀ a, a < 2 → ∀ b, b < 2 → a ≠ b → (TX5 a).2.1 ≠ (TX5 b).2.1 := by decide +kernel
theorem tyX5_ok : ∀ k, k < 2 → parseFieldDescriptor (TX5 k).2.2.1 = some (tyX5 k) := by decide +kernel
def TX6 : u_T := fun k => match k with
  | 0 => ("SwapPress$Reader", "fault", "I", false)
  | 1 => ("SwapPress$Reader", "place", "I", false)
  | 2 => ("SwapPress$Reader", "names", "LSwapPress$Names;", false)
  | 3 => ("SwapPress$Reader", "book", "LSwapPress$Book;", false)
  | 4 => ("SwapPress$Reader", "text", "[B", true)
  | 5 => ("SwapPress$Reader", "end", "I", false)
  | 6 => ("SwapPress$Reader", "modeTold", "Z", false)
  | 7 => ("SwapPress$Reader", "token", "I", false)
  | 8 => ("SwapPress$Reader", "tokenAt", "I", false)
  | _ => ("SwapPress$Reader", "tokenEnd", "I", false)
def tyX6 : Nat → FieldType := fun k => match k with
  | 0 => .int
  | 1 => .int
  | 2 => .object "SwapPress$Names"
  | 3 => .object "SwapPress$Book"
  | 4 => .array .byte
  | 5 => .int
  | 6 => .boolean
  | 7 => .int
  | 8 => .int
  | _ => .int
theorem nmX6 : ∀ a, a < 10 → ∀ b, b < 10 → a ≠ b → (TX6 a).2.1 ≠ (TX6 b).2.1 := by decide +kernel
theorem tyX6_ok : ∀ k, k < 10 → parseFieldDescriptor (TX6 k).2.2.1 = some (tyX6 k) := by decide +kernel
def TX7 : u_T := fun k => match k with
  | 0 => ("SwapPress$Rings", "party", "[I", true)
  | 1 => ("SwapPress$Rings", "size", "I", false)
  | 2 => ("SwapPress$Rings", "takenAmount", "J", false)
  | 3 => ("SwapPress$Rings", "takenRings", "I", false)
  | 4 => ("SwapPress$Rings", "stepsHome", "[I", true)
  | _ => ("SwapPress$Rings", "queue", "[I", true)
def tyX7 : Nat → FieldType := fun k => match k with
  | 0 => .array .int
  | 1 => .int
  | 2 => .long
  | 3 => .int
  | 4 => .array .int
  | _ => .array .int
theorem nmX7 : ∀ a, a < 6 → ∀ b, b < 6 → a ≠ b → (TX7 a).2.1 ≠ (TX7 b).2.1 := by decide +kernel
theorem tyX7_ok : ∀ k, k < 6 → parseFieldDescriptor (TX7 k).2.2.1 = some (tyX7 k) := by decide +kernel
def TX8 : u_T := fun k => match k with
  | 0 => ("SwapPress$Row", "party", "[I", true)
  | 1 => ("SwapPress$Row", "size", "I", false)
  | _ => ("SwapPress$Row", "longest", "[I", true)
def tyX8 : Nat → FieldType := fun k => match k with
  | 0 => .array .int
  | 1 => .int
  | _ => .array .int
theorem nmX8 : ∀ a, a < 3 → ∀ b, b < 3 → a ≠ b → (TX8 a).2.1 ≠ (TX8 b).2.1 := by decide +kernel
theorem tyX8_ok : ∀ k, k < 3 → parseFieldDescriptor (TX8 k).2.2.1 = some (tyX8 k) := by decide +kernel
def TX9 : u_T := fun k => match k with
  | 0 => ("SwapPress$Solver", "bounds", "[J", true)
  | 1 => ("SwapPress$Solver", "first", "[J", true)
  | 2 => ("SwapPress$Solver", "possible", "Z", false)
  | 3 => ("SwapPress$Solver", "sum", "J", false)
  | 4 => ("SwapPress$Solver", "throughBounds", "[J", true)
  | 5 => ("SwapPress$Solver", "nets", "[J", true)
  | 6 => ("SwapPress$Solver", "room", "[J", true)
  | 7 => ("SwapPress$Solver", "label", "[I", true)
  | 8 => ("SwapPress$Solver", "left", "[J", true)
  | 9 => ("SwapPress$Solver", "before", "[I", true)
  | 10 => ("SwapPress$Solver", "queue", "[I", true)
  | 11 => ("SwapPress$Solver", "parties", "I", false)
  | _ => ("SwapPress$Solver", "nodes", "I", false)
def tyX9 : Nat → FieldType := fun k => match k with
  | 0 => .array .long
  | 1 => .array .long
  | 2 => .boolean
  | 3 => .long
  | 4 => .array .long
  | 5 => .array .long
  | 6 => .array .long
  | 7 => .array .int
  | 8 => .array .long
  | 9 => .array .int
  | 10 => .array .int
  | 11 => .int
  | _ => .int
theorem nmX9 : ∀ a, a < 13 → ∀ b, b < 13 → a ≠ b → (TX9 a).2.1 ≠ (TX9 b).2.1 := by decide +kernel
theorem tyX9_ok : ∀ k, k < 13 → parseFieldDescriptor (TX9 k).2.2.1 = some (tyX9 k) := by decide +kernel
def TX10 : u_T := fun k => match k with
  | 0 => ("SwapPress$Tape", "bytes", "[B", true)
  | _ => ("SwapPress$Tape", "length", "I", false)
def tyX10 : Nat → FieldType := fun k => match k with
  | 0 => .array .byte
  | _ => .int
theorem nmX10 : ∀ a, a < 2 → ∀ b, b < 2 → a ≠ b → (TX10 a).2.1 ≠ (TX10 b).2.1 := by decide +kernel
theorem tyX10_ok : ∀ k, k < 2 → parseFieldDescriptor (TX10 k).2.2.1 = some (tyX10 k) := by decide +kernel
def TX11 : u_T := fun k => match k with
  | 0 => ("SwapPress", "tape", "LSwapPress$Tape;", true)
  | 1 => ("SwapPress", "reader", "LSwapPress$Reader;", true)
  | 2 => ("SwapPress", "past", "LSwapPress$Past;", true)
  | 3 => ("SwapPress", "flows", "LSwapPress$Flows;", true)
  | 4 => ("SwapPress", "rings", "LSwapPress$Rings;", true)
  | 5 => ("SwapPress", "row", "LSwapPress$Row;", true)
  | 6 => ("SwapPress", "solver", "LSwapPress$Solver;", true)
  | 7 => ("SwapPress", "trial", "LSwapPress$Solver;", true)
  | 8 => ("SwapPress", "groups", "LSwapPress$Groups;", true)
  | 9 => ("SwapPress", "page", "LSwapPress$Page;", true)
  | 10 => ("SwapPress", "names", "LSwapPress$Names;", false)
  | 11 => ("SwapPress", "book", "LSwapPress$Book;", false)
  | _ => ("SwapPress", "solvedKind", "I", false)
def tyX11 : Nat → FieldType := fun k => match k with
  | 0 => .object "SwapPress$Tape"
  | 1 => .object "SwapPress$Reader"
  | 2 => .object "SwapPress$Past"
  | 3 => .object "SwapPress$Flows"
  | 4 => .object "SwapPress$Rings"
  | 5 => .object "SwapPress$Row"
  | 6 => .object "SwapPress$Solver"
  | 7 => .object "SwapPress$Solver"
  | 8 => .object "SwapPress$Groups"
  | 9 => .object "SwapPress$Page"
  | 10 => .object "SwapPress$Names"
  | 11 => .object "SwapPress$Book"
  | _ => .int
theorem nmX11 : ∀ a, a < 13 → ∀ b, b < 13 → a ≠ b → (TX11 a).2.1 ≠ (TX11 b).2.1 := by decide +kernel
theorem tyX11_ok : ∀ k, k < 13 → parseFieldDescriptor (TX11 k).2.2.1 = some (tyX11 k) := by decide +kernel
def TX12 : u_T := fun k => match k with
  | 0 => ("SwapPressModel", "s", "[I", true)
  | 1 => ("SwapPressModel", "saved", "[I", true)
  | 2 => ("SwapPressModel", "acts", "[I", true)
  | 3 => ("SwapPressModel", "names", "[J", true)
  | 4 => ("SwapPressModel", "savedNames", "[J", true)
  | 5 => ("SwapPressModel", "parties", "I", false)
  | 6 => ("SwapPressModel", "kinds", "I", false)
  | 7 => ("SwapPressModel", "actMany", "I", false)
  | 8 => ("SwapPressModel", "thrown", "I", false)
  | 9 => ("SwapPressModel", "tape", "[B", true)
  | 10 => ("SwapPressModel", "taped", "I", false)
  | 11 => ("SwapPressModel", "size", "I", false)
  | 12 => ("SwapPressModel", "spot", "I", false)
  | 13 => ("SwapPressModel", "wrong", "I", false)
  | 14 => ("SwapPressModel", "wrongAt", "I", false)
  | 15 => ("SwapPressModel", "seen", "I", false)
  | 16 => ("SwapPressModel", "readAt", "I", false)
  | 17 => ("SwapPressModel", "flows", "[I", true)
  | 18 => ("SwapPressModel", "way", "[I", true)
  | 19 => ("SwapPressModel", "ringMany", "I", false)
  | 20 => ("SwapPressModel", "rowFrom", "[I", true)
  | 21 => ("SwapPressModel", "bounds", "[I", true)
  | 22 => ("SwapPressModel", "its0", "[I", true)
  | 23 => ("SwapPressModel", "may", "[I", true)
  | 24 => ("SwapPressModel", "through", "[I", true)
  | 25 => ("SwapPressModel", "needs", "[I", true)
  | 26 => ("SwapPressModel", "isFixed", "[Z", true)
  | 27 => ("SwapPressModel", "dear", "[I", true)
  | 28 => ("SwapPressModel", "by", "[I", true)
  | 29 => ("SwapPressModel", "groups", "[I", true)
  | 30 => ("SwapPressModel", "bytes", "[I", true)
  | _ => ("SwapPressModel", "byteMany", "I", false)
def tyX12 : Nat → FieldType := fun k => match k with
  | 0 => .array .int
  | 1 => .array .int
  | 2 => .array .int
  | 3 => .array .long
  | 4 => .array .long
  | 5 => .int
  | 6 => .int
  | 7 => .int
  | 8 => .int
  | 9 => .array .byte
  | 10 => .int
  | 11 => .int
  | 12 => .int
  | 13 => .int
  | 14 => .int
  | 15 => .int
  | 16 => .int
  | 17 => .array .int
  | 18 => .array .int
  | 19 => .int
  | 20 => .array .int
  | 21 => .array .int
  | 22 => .array .int
  | 23 => .array .int
  | 24 => .array .int
  | 25 => .array .int
  | 26 => .array .boolean
  | 27 => .array .int
  | 28 => .array .int
  | 29 => .array .int
  | 30 => .array .int
  | _ => .int
theorem nmX12 : ∀ a, a < 32 → ∀ b, b < 32 → a ≠ b → (TX12 a).2.1 ≠ (TX12 b).2.1 := by decide +kernel
theorem tyX12_ok : ∀ k, k < 32 → parseFieldDescriptor (TX12 k).2.2.1 = some (tyX12 k) := by decide +kernel
abbrev cJ7_fill_53178 : ByteArray := prog_21_method_103_code
def yJ7_fill_53178 : MethodName := ⟨RJ7, "fill", "([II)V"⟩
abbrev cX0_init : ByteArray := prog_2_method_1_code
def yX0_init : MethodName := ⟨RX0, "<init>", "()V"⟩
abbrev cX10_init : ByteArray := prog_12_method_1_code
def yX10_init : MethodName := ⟨RX10, "<init>", "()V"⟩
abbrev cX11_bound : ByteArray := prog_1_method_18_code
def yX11_bound : MethodName := ⟨RX11, "bound", "(III)I"⟩
abbrev cX11_cap : ByteArray := prog_1_method_9_code
def yX11_cap : MethodName := ⟨RX11, "cap", "(III)I"⟩
abbrev cX11_chain : ByteArray := prog_1_method_23_code
def yX11_chain : MethodName := ⟨RX11, "chain", "(II)I"⟩
abbrev cX11_cleared : ByteArray := prog_1_method_21_code
def yX11_cleared : MethodName := ⟨RX11, "cleared", "(II)I"⟩
abbrev cX11_couples : ByteArray := prog_1_method_26_code
def yX11_couples : MethodName := ⟨RX11, "couples", "(I)I"⟩
abbrev cX11_drop : ByteArray := prog_1_method_6_code
def yX11_drop : MethodName := ⟨RX11, "drop", "(I)I"⟩
abbrev cX11_enough : ByteArray := prog_1_method_34_code
def yX11_enough : MethodName := ⟨RX11, "enough", "(III)I"⟩
abbrev cX11_even : ByteArray := prog_1_method_36_code
def yX11_even : MethodName := ⟨RX11, "even", "(II)I"⟩
abbrev cX11_fewest : ByteArray := prog_1_method_35_code
def yX11_fewest : MethodName := ⟨RX11, "fewest", "(II)I"⟩
abbrev cX11_flow : ByteArray := prog_1_method_14_code
def yX11_flow : MethodName := ⟨RX11, "flow", "(III)I"⟩
abbrev cX11_gain : ByteArray := prog_1_method_28_code
def yX11_gain : MethodName := ⟨RX11, "gain", "(III)I"⟩
abbrev cX11_keep : ByteArray := prog_1_method_7_code
def yX11_keep : MethodName := ⟨RX11, "keep", "(I)I"⟩
abbrev cX11_least : ByteArray := prog_1_method_24_code
def yX11_least : MethodName := ⟨RX11, "least", "(I)I"⟩
abbrev cX11_line : ByteArray := prog_1_method_37_code
def yX11_line : MethodName := ⟨RX11, "line", "(II)I"⟩
abbrev cX11_load : ByteArray := prog_1_method_20_code
def yX11_load : MethodName := ⟨RX11, "load", "(I)I"⟩
abbrev cX11_net : ByteArray := prog_1_method_15_code
def yX11_net : MethodName := ⟨RX11, "net", "(IIZ)I"⟩
abbrev cX11_noCouple : ByteArray := prog_1_method_40_code
def yX11_noCouple : MethodName := ⟨RX11, "noCouple", "(II)Z"⟩
abbrev cX11_noKind : ByteArray := prog_1_method_41_code
def yX11_noKind : MethodName := ⟨RX11, "noKind", "(I)Z"⟩
abbrev cX11_noParty : ByteArray := prog_1_method_39_code
def yX11_noParty : MethodName := ⟨RX11, "noParty", "(I)Z"⟩
abbrev cX11_noTrade : ByteArray := prog_1_method_42_code
def yX11_noTrade : MethodName := ⟨RX11, "noTrade", "(I)Z"⟩
abbrev cX11_press : ByteArray := prog_1_method_11_code
def yX11_press : MethodName := ⟨RX11, "press", "(I)I"⟩
abbrev cX11_pressed : ByteArray := prog_1_method_25_code
def yX11_pressed : MethodName := ⟨RX11, "pressed", "(III)I"⟩
abbrev cX11_relief : ByteArray := prog_1_method_30_code
def yX11_relief : MethodName := ⟨RX11, "relief", "(II)I"⟩
abbrev cX11_relieved : ByteArray := prog_1_method_32_code
def yX11_relieved : MethodName := ⟨RX11, "relieved", "(I)I"⟩
abbrev cX11_ring : ByteArray := prog_1_method_19_code
def yX11_ring : MethodName := ⟨RX11, "ring", "(II)I"⟩
abbrev cX11_rounds : ByteArray := prog_1_method_22_code
def yX11_rounds : MethodName := ⟨RX11, "rounds", "(II)I"⟩
abbrev cX11_side : ByteArray := prog_1_method_16_code
def yX11_side : MethodName := ⟨RX11, "side", "(III)I"⟩
abbrev cX11_span : ByteArray := prog_1_method_27_code
def yX11_span : MethodName := ⟨RX11, "span", "(IIII)I"⟩
abbrev cX11_takeRing : ByteArray := prog_1_method_10_code
def yX11_takeRing : MethodName := ⟨RX11, "takeRing", "(I)I"⟩
abbrev cX11_through : ByteArray := prog_1_method_31_code
def yX11_through : MethodName := ⟨RX11, "through", "(III)I"⟩
abbrev cX11_total : ByteArray := prog_1_method_17_code
def yX11_total : MethodName := ⟨RX11, "total", "(II)I"⟩
abbrev cX11_trade : ByteArray := prog_1_method_5_code
def yX11_trade : MethodName := ⟨RX11, "trade", "(IIII)I"⟩
abbrev cX11_tradeOf : ByteArray := prog_1_method_13_code
def yX11_tradeOf : MethodName := ⟨RX11, "tradeOf", "(II)I"⟩
abbrev cX11_without : ByteArray := prog_1_method_29_code
def yX11_without : MethodName := ⟨RX11, "without", "(II)I"⟩
abbrev cX12_areTwo : ByteArray := prog_14_method_31_code
def yX12_areTwo : MethodName := ⟨RX12, "areTwo", "(II)Z"⟩
abbrev cX12_bound : ByteArray := prog_14_method_52_code
def yX12_bound : MethodName := ⟨RX12, "bound", "(III)I"⟩
abbrev cX12_cap : ByteArray := prog_14_method_37_code
def yX12_cap : MethodName := ⟨RX12, "cap", "(III)I"⟩
abbrev cX12_chain : ByteArray := prog_14_method_65_code
def yX12_chain : MethodName := ⟨RX12, "chain", "(II)I"⟩
abbrev cX12_cleared : ByteArray := prog_14_method_59_code
def yX12_cleared : MethodName := ⟨RX12, "cleared", "(II)I"⟩
abbrev cX12_couples : ByteArray := prog_14_method_83_code
def yX12_couples : MethodName := ⟨RX12, "couples", "(I)I"⟩
abbrev cX12_drop : ByteArray := prog_14_method_34_code
def yX12_drop : MethodName := ⟨RX12, "drop", "(I)I"⟩
abbrev cX12_enough : ByteArray := prog_14_method_92_code
def yX12_enough : MethodName := ⟨RX12, "enough", "(III)I"⟩
abbrev cX12_even : ByteArray := prog_14_method_96_code
def yX12_even : MethodName := ⟨RX12, "even", "(II)I"⟩
abbrev cX12_fewest : ByteArray := prog_14_method_95_code
def yX12_fewest : MethodName := ⟨RX12, "fewest", "(II)I"⟩
abbrev cX12_flow : ByteArray := prog_14_method_46_code
def yX12_flow : MethodName := ⟨RX12, "flow", "(III)I"⟩
abbrev cX12_gain : ByteArray := prog_14_method_85_code
def yX12_gain : MethodName := ⟨RX12, "gain", "(III)I"⟩
abbrev cX12_isIn : ByteArray := prog_14_method_2_code
def yX12_isIn : MethodName := ⟨RX12, "isIn", "(JJJ)Z"⟩
abbrev cX12_isKind : ByteArray := prog_14_method_29_code
def yX12_isKind : MethodName := ⟨RX12, "isKind", "(I)Z"⟩
abbrev cX12_isParty : ByteArray := prog_14_method_28_code
def yX12_isParty : MethodName := ⟨RX12, "isParty", "(I)Z"⟩
abbrev cX12_isTrade : ByteArray := prog_14_method_30_code
def yX12_isTrade : MethodName := ⟨RX12, "isTrade", "(I)Z"⟩
abbrev cX12_keep : ByteArray := prog_14_method_35_code
def yX12_keep : MethodName := ⟨RX12, "keep", "(I)I"⟩
abbrev cX12_least : ByteArray := prog_14_method_80_code
def yX12_least : MethodName := ⟨RX12, "least", "(I)I"⟩
abbrev cX12_line : ByteArray := prog_14_method_100_code
def yX12_line : MethodName := ⟨RX12, "line", "(II)I"⟩
abbrev cX12_load : ByteArray := prog_14_method_58_code
def yX12_load : MethodName := ⟨RX12, "load", "(I)I"⟩
abbrev cX12_net : ByteArray := prog_14_method_48_code
def yX12_net : MethodName := ⟨RX12, "net", "(IIZ)I"⟩
abbrev cX12_press : ByteArray := prog_14_method_93_code
def yX12_press : MethodName := ⟨RX12, "press", "(I)I"⟩
abbrev cX12_pressed : ByteArray := prog_14_method_81_code
def yX12_pressed : MethodName := ⟨RX12, "pressed", "(III)I"⟩
abbrev cX12_relief : ByteArray := prog_14_method_88_code
def yX12_relief : MethodName := ⟨RX12, "relief", "(II)I"⟩
abbrev cX12_relieved : ByteArray := prog_14_method_89_code
def yX12_relieved : MethodName := ⟨RX12, "relieved", "(I)I"⟩
abbrev cX12_ring : ByteArray := prog_14_method_57_code
def yX12_ring : MethodName := ⟨RX12, "ring", "(II)I"⟩
abbrev cX12_rounds : ByteArray := prog_14_method_62_code
def yX12_rounds : MethodName := ⟨RX12, "rounds", "(II)I"⟩
abbrev cX12_side : ByteArray := prog_14_method_49_code
def yX12_side : MethodName := ⟨RX12, "side", "(III)I"⟩
abbrev cX12_span : ByteArray := prog_14_method_84_code
def yX12_span : MethodName := ⟨RX12, "span", "(IIII)I"⟩
abbrev cX12_takeRing : ByteArray := prog_14_method_66_code
def yX12_takeRing : MethodName := ⟨RX12, "takeRing", "(I)I"⟩
abbrev cX12_through : ByteArray := prog_14_method_90_code
def yX12_through : MethodName := ⟨RX12, "through", "(III)I"⟩
abbrev cX12_total : ByteArray := prog_14_method_50_code
def yX12_total : MethodName := ⟨RX12, "total", "(II)I"⟩
abbrev cX12_trade : ByteArray := prog_14_method_33_code
def yX12_trade : MethodName := ⟨RX12, "trade", "(IIII)I"⟩
abbrev cX12_tradeOf : ByteArray := prog_14_method_45_code
def yX12_tradeOf : MethodName := ⟨RX12, "tradeOf", "(II)I"⟩
abbrev cX12_without : ByteArray := prog_14_method_86_code
def yX12_without : MethodName := ⟨RX12, "without", "(II)I"⟩
abbrev cX1_init : ByteArray := prog_3_method_1_code
def yX1_init : MethodName := ⟨RX1, "<init>", "()V"⟩
abbrev cX2_init : ByteArray := prog_4_method_1_code
def yX2_init : MethodName := ⟨RX2, "<init>", "()V"⟩
abbrev cX3_init : ByteArray := prog_5_method_1_code
def yX3_init : MethodName := ⟨RX3, "<init>", "()V"⟩
abbrev cX4_init : ByteArray := prog_6_method_1_code
def yX4_init : MethodName := ⟨RX4, "<init>", "()V"⟩
abbrev cX7_init : ByteArray := prog_9_method_1_code
def yX7_init : MethodName := ⟨RX7, "<init>", "()V"⟩
abbrev cX8_init : ByteArray := prog_10_method_1_code
def yX8_init : MethodName := ⟨RX8, "<init>", "()V"⟩
abbrev cX9_init : ByteArray := prog_11_method_1_code
def yX9_init : MethodName := ⟨RX9, "<init>", "()V"⟩
abbrev vwCl : List vw_C := [(RX0, TX0, 8), (RX1, TX1, 2), (RX2, TX2, 5), (RX3, TX3, 4), (RX4, TX4, 3), (RX5, TX5, 2), (RX6, TX6, 10), (RX7, TX7, 6), (RX8, TX8, 3), (RX9, TX9, 13), (RX10, TX10, 2), (RX11, TX11, 13), (RX12, TX12, 32)]
end
section
/-! Contracts over explicit cells: one list of words for every method (TB), the start and the end of a contract (pcW, pB). -/
def TB : List Cond := lw_tbl.filter goodWord
theorem mTB {w : Cond} (h : w ∈ tables_1) (hg : goodWord w = true) : w ∈ TB := List.mem_filter.mpr ⟨List.mem_append_right _ h, hg⟩
theorem mSel {y : MethodName} {n : Nat} (h : (y, n) ∈ lw_privs) (hg : goodWord (.selects y.cls y y) = true) : Cond.selects y.cls y y ∈ TB := List.mem_filter.mpr ⟨List.mem_append_left _ (List.mem_map.mpr ⟨(y, n), h, rfl⟩), hg⟩
abbrev wT (y : MethodName) (c : ByteArray) (n : Nat) (r : Option FieldType) : List Cond := .code y c n r :: TB
theorem gO {w : Cond} (h : w ∈ TB) : w ∈ TB ∧ ((w.onTables && w.keeps) = true ∨ ∃ ty, w = .arrayClass ty) := ⟨h, good_of_word (List.mem_filter.mp h).2⟩
theorem gT {y : MethodName} {c : ByteArray} {n : Nat} {r : Option FieldType} (h : Cond.code y c n r ∈ TB) : GoodIn TB (wT y c n r) := fun w hw => (List.mem_cons.mp hw).elim (fun e => e ▸ gO h) (fun h' => gO h')
theorem gV {own C : String} {idx : Nat} {y : MethodName} {c : ByteArray} {n : Nat} {r : Option FieldType} (h1 : Cond.methodLink own idx y ∈ TB) (h2 : Cond.instanceMethod y ∈ TB) (h3 : Cond.selects C y y ∈ TB) (h4 : Cond.initialized C ∈ TB) (h5 : Cond.code y c n r ∈ TB) : GoodIn TB (wsV own idx C y (wT y c n r)) := by
  intro w hw
  rcases List.mem_append.mp hw with h | h
  · rcases List.mem_cons.mp h with e | h
    · exact e ▸ gO h1
    · rcases List.mem_cons.mp h with e | h
      · exact e ▸ gO h2
      · rcases List.mem_cons.mp h with e | h
        · exact e ▸ gO h3
        · exact (List.mem_singleton.mp h) ▸ gO h4
  · exact gT h5 w h
theorem gS {own : String} {idx : Nat} {y : MethodName} {c : ByteArray} {n : Nat} {r : Option FieldType} (h1 : Cond.methodLink own idx y ∈ TB) (h2 : Cond.static y ∈ TB) (h4 : Cond.initialized y.cls ∈ TB) (h5 : Cond.code y c n r ∈ TB) : GoodIn TB (va_wsS own idx y (wT y c n r)) := by
  intro w hw
  rcases List.mem_append.mp hw with h | h
  · rcases List.mem_cons.mp h with e | h
    · exact e ▸ gO h1
    · rcases List.mem_cons.mp h with e | h
      · exact e ▸ gO h2
      · exact (List.mem_singleton.mp h) ▸ gO h4
  · exact gT h5 w h
def pcW (dC : Nat → ClassId) (dI : Nat → Nat → Nat) (av : List Value) (sz : Nat) (ws : va_W) (tys : List (ClassId × FieldType)) : Array Value → State → Prop := va_Pc av (fun U => U.heap.size = sz ∧ va_P (dC, dI) vwCl ws U.heap ∧ va_K (dC, dI) vwCl tys U ∧ va_D (fun _ => True) ws)
theorem pcW.blind {dC : Nat → ClassId} {dI : Nat → Nat → Nat} {av : List Value} {sz : Nat} {ws : va_W} {tys : List (ClassId × FieldType)} : FrameBlind (pcW dC dI av sz ws tys) := fun a U g mk q => by
  obtain ⟨q0, q1, qP, qK, qD⟩ := q
  exact ⟨q0, q1, qP, va_K.moved (u := U) (U := U.calling g mk a) (Vm.Alike.refl U.vm) qK, qD⟩
theorem pcW.pre {dC : Nat → ClassId} {dI : Nat → Nat → Nat} {av : List Value} {ws : va_W} {tys : List (ClassId × FieldType)} {A : Nat → Prop} {s : State} {H : Heap} (hP : va_P (dC, dI) vwCl ws H) (hK : va_K (dC, dI) vwCl tys s) (hD : va_D A ws) : ∀ U : State, U.heap = H → s.WarmedH U.vm → pcW dC dI av H.size ws tys av.toArray U := fun U hU hW => ⟨rfl, by rw [hU], by rw [hU]; exact hP, va_K.moved hW.alike hK, hD.weaken (fun _ _ _ _ => trivial)⟩
abbrev nLk : Type := String × Nat × MethodName × String
def pcN (dC : Nat → ClassId) (dI : Nat → Nat → Nat) (av : List Value) (sz : Nat) (ws : va_W) (tys : List (ClassId × FieldType)) (ns : List nLk) (os : List String) : Array Value → State → Prop := va_Pc av (fun U => U.heap.size = sz ∧ va_P (dC, dI) vwCl ws U.heap ∧ va_K (dC, dI) vwCl tys U ∧ va_D (fun _ => True) ws ∧ (∀ q ∈ ns, va_Nw (.methodLinkNest q.1 q.2.1 q.2.2.1 q.2.2.2) U) ∧ ∀ C ∈ os, va_AO C U)
theorem pcN.blind {dC : Nat → ClassId} {dI : Nat → Nat → Nat} {av : List Value} {sz : Nat} {ws : va_W} {tys : List (ClassId × FieldType)} {ns : List nLk} {os : List String} : FrameBlind (pcN dC dI av sz ws tys ns os) := fun a U g mk q => by
  obtain ⟨q0, q1, qP, qK, qD, qN, qO⟩ := q
  exact ⟨q0, q1, qP, va_K.moved (u := U) (U := U.calling g mk a) (Vm.Alike.refl U.vm) qK, qD, fun q hq => va_Nw.same rfl rfl (qN q hq), fun q hq => va_AO.moved (u := U) (U := U.calling g mk a) (Vm.Alike.refl U.vm) (qO q hq)⟩
theorem pcN.pre {dC : Nat → ClassId} {dI : Nat → Nat → Nat} {av : List Value} {ws : va_W} {tys : List (ClassId × FieldType)} {ns : List nLk} {os : List String} {A : Nat → Prop} {s : State} {H : Heap} (hP : va_P (dC, dI) vwCl ws H) (hK : va_K (dC, dI) vwCl tys s) (hD : va_D A ws) (hN : ∀ q ∈ ns, va_Nw (.methodLinkNest q.1 q.2.1 q.2.2.1 q.2.2.2) s) (hO : ∀ q ∈ os, va_AO q s) : ∀ U : State, U.heap = H → s.WarmedH U.vm → pcN dC dI av H.size ws tys ns os av.toArray U := fun U hU hW => ⟨rfl, by rw [hU], by rw [hU]; exact hP, va_K.moved hW.alike hK, hD.weaken (fun _ _ _ _ => trivial), fun q hq => va_Nw.warmM hW (hN q hq), fun q hq => va_AO.moved hW.alike (hO q hq)⟩
def pB (dC : Nat → ClassId) (dI : Nat → Nat → Nat) (A : Nat → Prop) (ws : va_W) (tys : List (ClassId × FieldType)) (t : State) : Prop := va_P (dC, dI) vwCl ws t.heap ∧ va_K (dC, dI) vwCl tys t ∧ va_D A ws
theorem va_P0 (D : va_G) (cl : List vw_C) (H : Heap) : va_P D cl [] H := fun k q h => by simp at h
theorem va_D0 (A : Nat → Prop) : va_D A [] := ⟨fun i j p q h => by simp at h, fun k q h => by simp at h⟩
theorem i_no {k : Int32} (h1 : ¬ k < 0) (h2 : ¬ 0 ≤ k) : False := by
  rw [Int32.lt_iff_toInt_lt] at h1
  rw [Int32.le_iff_toInt_le] at h2
  omega
theorem isIn_1 {v lo hi : Int64} (h1 : ¬ lg_cmp v lo < 0) (h2 : ¬ 0 < lg_cmp v hi) : (1 : Int32) = (if lo ≤ v ∧ v ≤ hi then 1 else 0) := by
  rw [lg_cmp_lt] at h1
  rw [lg_cmp_gt] at h2
  rw [Int64.lt_iff_toInt_lt] at h1 h2
  rw [if_pos]
  exact ⟨Int64.le_iff_toInt_le.mpr (by omega), Int64.le_iff_toInt_le.mpr (by omega)⟩
theorem isIn_a {v lo hi : Int64} (h1 : lg_cmp v lo < 0) : (0 : Int32) = (if lo ≤ v ∧ v ≤ hi then 1 else 0) := by
  rw [lg_cmp_lt, Int64.lt_iff_toInt_lt] at h1
  rw [if_neg]
  rintro ⟨h, -⟩
  rw [Int64.le_iff_toInt_le] at h
  omega
theorem isIn_b {v lo hi : Int64} (h1 : 0 < lg_cmp v hi) : (0 : Int32) = (if lo ≤ v ∧ v ≤ hi then 1 else 0) := by
  rw [lg_cmp_gt, Int64.lt_iff_toInt_lt] at h1
  rw [if_neg]
  rintro ⟨-, h⟩
  rw [Int64.le_iff_toInt_le] at h
  omega
theorem isIn_0 (v : Int64) : (if 0 ≤ v ∧ v ≤ (-1) then 1 else 0 : Int32) = 0 := by
  rw [if_neg]
  rintro ⟨h, h2⟩
  rw [Int64.le_iff_toInt_le] at h h2
  have e1 : (0 : Int64).toInt = 0 := by decide
  have e2 : (-1 : Int64).toInt = -1 := by decide
  omega

theorem iX0 : ∀ w ∈ u_ws RX0 TX0 8, w ∈ TB := fun w h => mTB ((by decide +kernel : ∀ w ∈ u_ws RX0 TX0 8, w ∈ tables_1) w h) ((by decide +kernel : ∀ w ∈ u_ws RX0 TX0 8, goodWord w = true) w h)
theorem iX1 : ∀ w ∈ u_ws RX1 TX1 2, w ∈ TB := fun w h => mTB ((by decide +kernel : ∀ w ∈ u_ws RX1 TX1 2, w ∈ tables_1) w h) ((by decide +kernel : ∀ w ∈ u_ws RX1 TX1 2, goodWord w = true) w h)
theorem iX2 : ∀ w ∈ u_ws RX2 TX2 5, w ∈ TB := fun w h => mTB ((by decide +kernel : ∀ w ∈ u_ws RX2 TX2 5, w ∈ tables_1) w h) ((by decide +kernel : ∀ w ∈ u_ws RX2 TX2 5, goodWord w = true) w h)
theorem iX3 : ∀ w ∈ u_ws RX3 TX3 4, w ∈ TB := fun w h => mTB ((by decide +kernel : ∀ w ∈ u_ws RX3 TX3 4, w ∈ tables_1) w h) ((by decide +kernel : ∀ w ∈ u_ws RX3 TX3 4, goodWord w = true) w h)
theorem iX4 : ∀ w ∈ u_ws RX4 TX4 3, w ∈ TB := fun w h => mTB ((by decide +kernel : ∀ w ∈ u_ws RX4 TX4 3, w ∈ tables_1) w h) ((by decide +kernel : ∀ w ∈ u_ws RX4 TX4 3, goodWord w = true) w h)
theorem iX5 : ∀ w ∈ u_ws RX5 TX5 2, w ∈ TB := fun w h => mTB ((by decide +kernel : ∀ w ∈ u_ws RX5 TX5 2, w ∈ tables_1) w h) ((by decide +kernel : ∀ w ∈ u_ws RX5 TX5 2, goodWord w = true) w h)
theorem iX6 : ∀ w ∈ u_ws RX6 TX6 10, w ∈ TB := fun w h => mTB ((by decide +kernel : ∀ w ∈ u_ws RX6 TX6 10, w ∈ tables_1) w h) ((by decide +kernel : ∀ w ∈ u_ws RX6 TX6 10, goodWord w = true) w h)
theorem iX7 : ∀ w ∈ u_ws RX7 TX7 6, w ∈ TB := fun w h => mTB ((by decide +kernel : ∀ w ∈ u_ws RX7 TX7 6, w ∈ tables_1) w h) ((by decide +kernel : ∀ w ∈ u_ws RX7 TX7 6, goodWord w = true) w h)
theorem iX8 : ∀ w ∈ u_ws RX8 TX8 3, w ∈ TB := fun w h => mTB ((by decide +kernel : ∀ w ∈ u_ws RX8 TX8 3, w ∈ tables_1) w h) ((by decide +kernel : ∀ w ∈ u_ws RX8 TX8 3, goodWord w = true) w h)
theorem iX9 : ∀ w ∈ u_ws RX9 TX9 13, w ∈ TB := fun w h => mTB ((by decide +kernel : ∀ w ∈ u_ws RX9 TX9 13, w ∈ tables_1) w h) ((by decide +kernel : ∀ w ∈ u_ws RX9 TX9 13, goodWord w = true) w h)
theorem iX10 : ∀ w ∈ u_ws RX10 TX10 2, w ∈ TB := fun w h => mTB ((by decide +kernel : ∀ w ∈ u_ws RX10 TX10 2, w ∈ tables_1) w h) ((by decide +kernel : ∀ w ∈ u_ws RX10 TX10 2, goodWord w = true) w h)
theorem iX11 : ∀ w ∈ u_ws RX11 TX11 13, w ∈ TB := fun w h => mTB ((by decide +kernel : ∀ w ∈ u_ws RX11 TX11 13, w ∈ tables_1) w h) ((by decide +kernel : ∀ w ∈ u_ws RX11 TX11 13, goodWord w = true) w h)
theorem iX12 : ∀ w ∈ u_ws RX12 TX12 32, w ∈ TB := fun w h => mTB ((by decide +kernel : ∀ w ∈ u_ws RX12 TX12 32, w ∈ tables_1) w h) ((by decide +kernel : ∀ w ∈ u_ws RX12 TX12 32, goodWord w = true) w h)
end
section
theorem w1 : (.initialized RX11 : Cond) ∈ TB := mTB (List.mem_of_getElem? (i := 1) (by decide +kernel)) (by decide +kernel)
theorem w6 : (.initialized RJ7 : Cond) ∈ TB := mTB (List.mem_of_getElem? (i := 6) (by decide +kernel)) (by decide +kernel)
theorem w14 : (.initialized RX12 : Cond) ∈ TB := mTB (List.mem_of_getElem? (i := 14) (by decide +kernel)) (by decide +kernel)
theorem w28 : (.instanceMethod objectInit : Cond) ∈ TB := mTB (List.mem_of_getElem? (i := 28) (by decide +kernel)) (by decide +kernel)
theorem w29 : (.code objectInit ⟨#[0xb1]⟩ 1 none : Cond) ∈ TB := mTB (List.mem_of_getElem? (i := 29) (by decide +kernel)) (by decide +kernel)
theorem w35 : (.methodLink RX10 3 objectInit : Cond) ∈ TB := mTB (List.mem_of_getElem? (i := 35) (by decide +kernel)) (by decide +kernel)
theorem w36 : (.fieldLink RX10 9 "SwapPress$Tape" "bytes" "[B" : Cond) ∈ TB := mTB (List.mem_of_getElem? (i := 36) (by decide +kernel)) (by decide +kernel)
theorem w45 : (.arrayClass .byte : Cond) ∈ TB := mTB (List.mem_of_getElem? (i := 45) (by decide +kernel)) (by decide +kernel)
theorem w57 : (.methodLink RX3 3 objectInit : Cond) ∈ TB := mTB (List.mem_of_getElem? (i := 57) (by decide +kernel)) (by decide +kernel)
theorem w58 : (.fieldLink RX3 11 "SwapPress$Names" "letters" "[B" : Cond) ∈ TB := mTB (List.mem_of_getElem? (i := 58) (by decide +kernel)) (by decide +kernel)
theorem w60 : (.fieldLink RX3 15 "SwapPress$Names" "lengths" "[I" : Cond) ∈ TB := mTB (List.mem_of_getElem? (i := 60) (by decide +kernel)) (by decide +kernel)
theorem w64 : (.fieldLink RX11 191 "SwapPress$Names" "parties" "I" : Cond) ∈ TB := mTB (List.mem_of_getElem? (i := 64) (by decide +kernel)) (by decide +kernel)
theorem w67 : (.fieldLink RX11 314 "SwapPress$Names" "kinds" "I" : Cond) ∈ TB := mTB (List.mem_of_getElem? (i := 67) (by decide +kernel)) (by decide +kernel)
theorem w77 : (.arrayClass .int : Cond) ∈ TB := mTB (List.mem_of_getElem? (i := 77) (by decide +kernel)) (by decide +kernel)
theorem w83 : (.methodLink RX0 3 objectInit : Cond) ∈ TB := mTB (List.mem_of_getElem? (i := 83) (by decide +kernel)) (by decide +kernel)
theorem w84 : (.constant RX0 32 99999999 : Cond) ∈ TB := mTB (List.mem_of_getElem? (i := 84) (by decide +kernel)) (by decide +kernel)
theorem w85 : (.methodLink RX0 33 yJ7_fill_53178 : Cond) ∈ TB := mTB (List.mem_of_getElem? (i := 85) (by decide +kernel)) (by decide +kernel)
theorem w86 : (.static yJ7_fill_53178 : Cond) ∈ TB := mTB (List.mem_of_getElem? (i := 86) (by decide +kernel)) (by decide +kernel)
theorem w87 : (.code yJ7_fill_53178 cJ7_fill_53178 4 none : Cond) ∈ TB := mTB (List.mem_of_getElem? (i := 87) (by decide +kernel)) (by decide +kernel)
theorem w88 : (.fieldLink RX0 9 "SwapPress$Book" "from" "[I" : Cond) ∈ TB := mTB (List.mem_of_getElem? (i := 88) (by decide +kernel)) (by decide +kernel)
theorem w92 : (.fieldLink RX0 15 "SwapPress$Book" "to" "[I" : Cond) ∈ TB := mTB (List.mem_of_getElem? (i := 92) (by decide +kernel)) (by decide +kernel)
theorem w96 : (.fieldLink RX0 18 "SwapPress$Book" "kind" "[I" : Cond) ∈ TB := mTB (List.mem_of_getElem? (i := 96) (by decide +kernel)) (by decide +kernel)
theorem w100 : (.fieldLink RX0 21 "SwapPress$Book" "amount" "[J" : Cond) ∈ TB := mTB (List.mem_of_getElem? (i := 100) (by decide +kernel)) (by decide +kernel)
theorem w104 : (.fieldLink RX0 25 "SwapPress$Book" "kept" "[Z" : Cond) ∈ TB := mTB (List.mem_of_getElem? (i := 104) (by decide +kernel)) (by decide +kernel)
theorem w109 : (.fieldLink RX0 29 "SwapPress$Book" "caps" "[I" : Cond) ∈ TB := mTB (List.mem_of_getElem? (i := 109) (by decide +kernel)) (by decide +kernel)
theorem w114 : (.fieldLink RX11 114 "SwapPress$Book" "size" "I" : Cond) ∈ TB := mTB (List.mem_of_getElem? (i := 114) (by decide +kernel)) (by decide +kernel)
theorem w137 : (.arrayClass .long : Cond) ∈ TB := mTB (List.mem_of_getElem? (i := 137) (by decide +kernel)) (by decide +kernel)
theorem w138 : (.arrayClass .boolean : Cond) ∈ TB := mTB (List.mem_of_getElem? (i := 138) (by decide +kernel)) (by decide +kernel)
theorem w196 : (.methodLink RX1 3 objectInit : Cond) ∈ TB := mTB (List.mem_of_getElem? (i := 196) (by decide +kernel)) (by decide +kernel)
theorem w197 : (.fieldLink RX1 9 "SwapPress$Flows" "cells" "[J" : Cond) ∈ TB := mTB (List.mem_of_getElem? (i := 197) (by decide +kernel)) (by decide +kernel)
theorem w215 : (.methodLink RX7 3 objectInit : Cond) ∈ TB := mTB (List.mem_of_getElem? (i := 215) (by decide +kernel)) (by decide +kernel)
theorem w216 : (.fieldLink RX7 9 "SwapPress$Rings" "party" "[I" : Cond) ∈ TB := mTB (List.mem_of_getElem? (i := 216) (by decide +kernel)) (by decide +kernel)
theorem w224 : (.fieldLink RX7 15 "SwapPress$Rings" "stepsHome" "[I" : Cond) ∈ TB := mTB (List.mem_of_getElem? (i := 224) (by decide +kernel)) (by decide +kernel)
theorem w225 : (.fieldLink RX7 18 "SwapPress$Rings" "queue" "[I" : Cond) ∈ TB := mTB (List.mem_of_getElem? (i := 225) (by decide +kernel)) (by decide +kernel)
theorem w244 : (.methodLink RX8 3 objectInit : Cond) ∈ TB := mTB (List.mem_of_getElem? (i := 244) (by decide +kernel)) (by decide +kernel)
theorem w245 : (.fieldLink RX8 9 "SwapPress$Row" "party" "[I" : Cond) ∈ TB := mTB (List.mem_of_getElem? (i := 245) (by decide +kernel)) (by decide +kernel)
theorem w249 : (.fieldLink RX8 15 "SwapPress$Row" "longest" "[I" : Cond) ∈ TB := mTB (List.mem_of_getElem? (i := 249) (by decide +kernel)) (by decide +kernel)
theorem w262 : (.methodLink RX9 3 objectInit : Cond) ∈ TB := mTB (List.mem_of_getElem? (i := 262) (by decide +kernel)) (by decide +kernel)
theorem w263 : (.fieldLink RX9 9 "SwapPress$Solver" "bounds" "[J" : Cond) ∈ TB := mTB (List.mem_of_getElem? (i := 263) (by decide +kernel)) (by decide +kernel)
theorem w265 : (.fieldLink RX9 15 "SwapPress$Solver" "first" "[J" : Cond) ∈ TB := mTB (List.mem_of_getElem? (i := 265) (by decide +kernel)) (by decide +kernel)
theorem w271 : (.fieldLink RX9 18 "SwapPress$Solver" "throughBounds" "[J" : Cond) ∈ TB := mTB (List.mem_of_getElem? (i := 271) (by decide +kernel)) (by decide +kernel)
theorem w272 : (.fieldLink RX9 21 "SwapPress$Solver" "nets" "[J" : Cond) ∈ TB := mTB (List.mem_of_getElem? (i := 272) (by decide +kernel)) (by decide +kernel)
theorem w273 : (.fieldLink RX9 24 "SwapPress$Solver" "room" "[J" : Cond) ∈ TB := mTB (List.mem_of_getElem? (i := 273) (by decide +kernel)) (by decide +kernel)
theorem w274 : (.fieldLink RX9 27 "SwapPress$Solver" "label" "[I" : Cond) ∈ TB := mTB (List.mem_of_getElem? (i := 274) (by decide +kernel)) (by decide +kernel)
theorem w275 : (.fieldLink RX9 31 "SwapPress$Solver" "left" "[J" : Cond) ∈ TB := mTB (List.mem_of_getElem? (i := 275) (by decide +kernel)) (by decide +kernel)
theorem w276 : (.fieldLink RX9 34 "SwapPress$Solver" "before" "[I" : Cond) ∈ TB := mTB (List.mem_of_getElem? (i := 276) (by decide +kernel)) (by decide +kernel)
theorem w277 : (.fieldLink RX9 37 "SwapPress$Solver" "queue" "[I" : Cond) ∈ TB := mTB (List.mem_of_getElem? (i := 277) (by decide +kernel)) (by decide +kernel)
theorem w312 : (.methodLink RX2 3 objectInit : Cond) ∈ TB := mTB (List.mem_of_getElem? (i := 312) (by decide +kernel)) (by decide +kernel)
theorem w317 : (.fieldLink RX2 9 "SwapPress$Groups" "nets" "[J" : Cond) ∈ TB := mTB (List.mem_of_getElem? (i := 317) (by decide +kernel)) (by decide +kernel)
theorem w318 : (.fieldLink RX2 15 "SwapPress$Groups" "sums" "[J" : Cond) ∈ TB := mTB (List.mem_of_getElem? (i := 318) (by decide +kernel)) (by decide +kernel)
theorem w319 : (.fieldLink RX2 18 "SwapPress$Groups" "best" "[I" : Cond) ∈ TB := mTB (List.mem_of_getElem? (i := 319) (by decide +kernel)) (by decide +kernel)
theorem w336 : (.methodLink RX4 3 objectInit : Cond) ∈ TB := mTB (List.mem_of_getElem? (i := 336) (by decide +kernel)) (by decide +kernel)
theorem w337 : (.fieldLink RX4 11 "SwapPress$Page" "bytes" "[B" : Cond) ∈ TB := mTB (List.mem_of_getElem? (i := 337) (by decide +kernel)) (by decide +kernel)
theorem w341 : (.fieldLink RX4 15 "SwapPress$Page" "digits" "[B" : Cond) ∈ TB := mTB (List.mem_of_getElem? (i := 341) (by decide +kernel)) (by decide +kernel)
theorem w363 : (.fieldLink RX11 80 "SwapPress" "names" "LSwapPress$Names;" : Cond) ∈ TB := mTB (List.mem_of_getElem? (i := 363) (by decide +kernel)) (by decide +kernel)
theorem w364 : (.fieldLink RX11 87 "SwapPress" "book" "LSwapPress$Book;" : Cond) ∈ TB := mTB (List.mem_of_getElem? (i := 364) (by decide +kernel)) (by decide +kernel)
theorem w598 : (.methodLink RX11 118 yX11_noCouple : Cond) ∈ TB := mTB (List.mem_of_getElem? (i := 598) (by decide +kernel)) (by decide +kernel)
theorem w600 : (.instanceMethod yX11_noCouple : Cond) ∈ TB := mTB (List.mem_of_getElem? (i := 600) (by decide +kernel)) (by decide +kernel)
theorem w601 : (.code yX11_noCouple cX11_noCouple 3 (some .boolean) : Cond) ∈ TB := mTB (List.mem_of_getElem? (i := 601) (by decide +kernel)) (by decide +kernel)
theorem w602 : (.methodLink RX11 221 yX11_noParty : Cond) ∈ TB := mTB (List.mem_of_getElem? (i := 602) (by decide +kernel)) (by decide +kernel)
theorem w604 : (.instanceMethod yX11_noParty : Cond) ∈ TB := mTB (List.mem_of_getElem? (i := 604) (by decide +kernel)) (by decide +kernel)
theorem w605 : (.code yX11_noParty cX11_noParty 2 (some .boolean) : Cond) ∈ TB := mTB (List.mem_of_getElem? (i := 605) (by decide +kernel)) (by decide +kernel)
theorem w606 : (.methodLink RX11 122 yX11_noKind : Cond) ∈ TB := mTB (List.mem_of_getElem? (i := 606) (by decide +kernel)) (by decide +kernel)
theorem w608 : (.instanceMethod yX11_noKind : Cond) ∈ TB := mTB (List.mem_of_getElem? (i := 608) (by decide +kernel)) (by decide +kernel)
theorem w609 : (.code yX11_noKind cX11_noKind 2 (some .boolean) : Cond) ∈ TB := mTB (List.mem_of_getElem? (i := 609) (by decide +kernel)) (by decide +kernel)
theorem w639 : (.methodLink RX11 133 yX11_noTrade : Cond) ∈ TB := mTB (List.mem_of_getElem? (i := 639) (by decide +kernel)) (by decide +kernel)
theorem w641 : (.instanceMethod yX11_noTrade : Cond) ∈ TB := mTB (List.mem_of_getElem? (i := 641) (by decide +kernel)) (by decide +kernel)
theorem w642 : (.code yX11_noTrade cX11_noTrade 2 (some .boolean) : Cond) ∈ TB := mTB (List.mem_of_getElem? (i := 642) (by decide +kernel)) (by decide +kernel)
theorem w1082 : (.fieldLink RX12 13 "SwapPressModel" "s" "[I" : Cond) ∈ TB := mTB (List.mem_of_getElem? (i := 1082) (by decide +kernel)) (by decide +kernel)
theorem w1087 : (.fieldLink RX12 80 "SwapPressModel" "parties" "I" : Cond) ∈ TB := mTB (List.mem_of_getElem? (i := 1087) (by decide +kernel)) (by decide +kernel)
theorem w1088 : (.fieldLink RX12 83 "SwapPressModel" "kinds" "I" : Cond) ∈ TB := mTB (List.mem_of_getElem? (i := 1088) (by decide +kernel)) (by decide +kernel)
theorem w1090 : (.fieldLink RX12 1 "SwapPressModel" "thrown" "I" : Cond) ∈ TB := mTB (List.mem_of_getElem? (i := 1090) (by decide +kernel)) (by decide +kernel)
theorem w1187 : (.methodLink RX12 103 yX12_isIn : Cond) ∈ TB := mTB (List.mem_of_getElem? (i := 1187) (by decide +kernel)) (by decide +kernel)
theorem w1188 : (.static yX12_isIn : Cond) ∈ TB := mTB (List.mem_of_getElem? (i := 1188) (by decide +kernel)) (by decide +kernel)
theorem w1189 : (.code yX12_isIn cX12_isIn 6 (some .boolean) : Cond) ∈ TB := mTB (List.mem_of_getElem? (i := 1189) (by decide +kernel)) (by decide +kernel)
theorem w1280 : (.methodLink RX12 201 yX12_areTwo : Cond) ∈ TB := mTB (List.mem_of_getElem? (i := 1280) (by decide +kernel)) (by decide +kernel)
theorem w1282 : (.instanceMethod yX12_areTwo : Cond) ∈ TB := mTB (List.mem_of_getElem? (i := 1282) (by decide +kernel)) (by decide +kernel)
theorem w1283 : (.code yX12_areTwo cX12_areTwo 3 (some .boolean) : Cond) ∈ TB := mTB (List.mem_of_getElem? (i := 1283) (by decide +kernel)) (by decide +kernel)
theorem w1284 : (.methodLink RX12 198 yX12_isParty : Cond) ∈ TB := mTB (List.mem_of_getElem? (i := 1284) (by decide +kernel)) (by decide +kernel)
theorem w1286 : (.instanceMethod yX12_isParty : Cond) ∈ TB := mTB (List.mem_of_getElem? (i := 1286) (by decide +kernel)) (by decide +kernel)
theorem w1287 : (.code yX12_isParty cX12_isParty 2 (some .boolean) : Cond) ∈ TB := mTB (List.mem_of_getElem? (i := 1287) (by decide +kernel)) (by decide +kernel)
theorem w1288 : (.methodLink RX12 205 yX12_isKind : Cond) ∈ TB := mTB (List.mem_of_getElem? (i := 1288) (by decide +kernel)) (by decide +kernel)
theorem w1290 : (.instanceMethod yX12_isKind : Cond) ∈ TB := mTB (List.mem_of_getElem? (i := 1290) (by decide +kernel)) (by decide +kernel)
theorem w1291 : (.code yX12_isKind cX12_isKind 2 (some .boolean) : Cond) ∈ TB := mTB (List.mem_of_getElem? (i := 1291) (by decide +kernel)) (by decide +kernel)
theorem w1301 : (.methodLink RX12 213 yX12_isTrade : Cond) ∈ TB := mTB (List.mem_of_getElem? (i := 1301) (by decide +kernel)) (by decide +kernel)
theorem w1303 : (.instanceMethod yX12_isTrade : Cond) ∈ TB := mTB (List.mem_of_getElem? (i := 1303) (by decide +kernel)) (by decide +kernel)
theorem w1304 : (.code yX12_isTrade cX12_isTrade 2 (some .boolean) : Cond) ∈ TB := mTB (List.mem_of_getElem? (i := 1304) (by decide +kernel)) (by decide +kernel)
theorem ws22 : (.selects RX11 yX11_noCouple yX11_noCouple : Cond) ∈ TB := mSel (y := yX11_noCouple) (n := 13) (List.mem_of_getElem? (i := 22) (by decide +kernel)) (by decide +kernel)
theorem ws23 : (.selects RX11 yX11_noParty yX11_noParty : Cond) ∈ TB := mSel (y := yX11_noParty) (n := 13) (List.mem_of_getElem? (i := 23) (by decide +kernel)) (by decide +kernel)
theorem ws24 : (.selects RX11 yX11_noKind yX11_noKind : Cond) ∈ TB := mSel (y := yX11_noKind) (n := 13) (List.mem_of_getElem? (i := 24) (by decide +kernel)) (by decide +kernel)
theorem ws28 : (.selects RX11 yX11_noTrade yX11_noTrade : Cond) ∈ TB := mSel (y := yX11_noTrade) (n := 13) (List.mem_of_getElem? (i := 28) (by decide +kernel)) (by decide +kernel)
theorem ws72 : (.selects RX12 yX12_areTwo yX12_areTwo : Cond) ∈ TB := mSel (y := yX12_areTwo) (n := 32) (List.mem_of_getElem? (i := 72) (by decide +kernel)) (by decide +kernel)
theorem ws73 : (.selects RX12 yX12_isParty yX12_isParty : Cond) ∈ TB := mSel (y := yX12_isParty) (n := 32) (List.mem_of_getElem? (i := 73) (by decide +kernel)) (by decide +kernel)
theorem ws74 : (.selects RX12 yX12_isKind yX12_isKind : Cond) ∈ TB := mSel (y := yX12_isKind) (n := 32) (List.mem_of_getElem? (i := 74) (by decide +kernel)) (by decide +kernel)
theorem ws76 : (.selects RX12 yX12_isTrade yX12_isTrade : Cond) ∈ TB := mSel (y := yX12_isTrade) (n := 32) (List.mem_of_getElem? (i := 76) (by decide +kernel)) (by decide +kernel)
end
section
theorem dJ7_fill_53178_0 : decode cJ7_fill_53178 0 = .ok (.iconst 0, 1) := by decide +kernel
theorem dJ7_fill_53178_1 : decode cJ7_fill_53178 1 = .ok (.istore_n 2, 1) := by decide +kernel
theorem dJ7_fill_53178_2 : decode cJ7_fill_53178 2 = .ok (.aload_n 0, 1) := by decide +kernel
theorem dJ7_fill_53178_3 : decode cJ7_fill_53178 3 = .ok (.arraylength, 1) := by decide +kernel
theorem dJ7_fill_53178_4 : decode cJ7_fill_53178 4 = .ok (.istore_n 3, 1) := by decide +kernel
theorem dJ7_fill_53178_5 : decode cJ7_fill_53178 5 = .ok (.iload_n 2, 1) := by decide +kernel
theorem dJ7_fill_53178_6 : decode cJ7_fill_53178 6 = .ok (.iload_n 3, 1) := by decide +kernel
theorem dJ7_fill_53178_7 : decode cJ7_fill_53178 7 = .ok (.if_icmp .ge 13, 3) := by decide +kernel
theorem dJ7_fill_53178_10 : decode cJ7_fill_53178 10 = .ok (.aload_n 0, 1) := by decide +kernel
theorem dJ7_fill_53178_11 : decode cJ7_fill_53178 11 = .ok (.iload_n 2, 1) := by decide +kernel
theorem dJ7_fill_53178_12 : decode cJ7_fill_53178 12 = .ok (.iload_n 1, 1) := by decide +kernel
theorem dJ7_fill_53178_13 : decode cJ7_fill_53178 13 = .ok (.iastore, 1) := by decide +kernel
theorem dJ7_fill_53178_14 : decode cJ7_fill_53178 14 = .ok (.iinc 2 1, 3) := by decide +kernel
theorem dJ7_fill_53178_17 : decode cJ7_fill_53178 17 = .ok (.goto (-12), 3) := by decide +kernel
theorem dJ7_fill_53178_20 : decode cJ7_fill_53178 20 = .ok (.return_, 1) := by decide +kernel
theorem dX0_init_0 : decode cX0_init 0 = .ok (.aload_n 0, 1) := by decide +kernel
theorem dX0_init_1 : decode cX0_init 1 = .ok (.invokespecial 3, 3) := by decide +kernel
theorem dX0_init_4 : decode cX0_init 4 = .ok (.aload_n 0, 1) := by decide +kernel
theorem dX0_init_5 : decode cX0_init 5 = .ok (.bipush 40, 2) := by decide +kernel
theorem dX0_init_7 : decode cX0_init 7 = .ok (.newarray .int, 2) := by decide +kernel
theorem dX0_init_9 : decode cX0_init 9 = .ok (.putfield 9, 3) := by decide +kernel
theorem dX0_init_12 : decode cX0_init 12 = .ok (.aload_n 0, 1) := by decide +kernel
theorem dX0_init_13 : decode cX0_init 13 = .ok (.bipush 40, 2) := by decide +kernel
theorem dX0_init_15 : decode cX0_init 15 = .ok (.newarray .int, 2) := by decide +kernel
theorem dX0_init_17 : decode cX0_init 17 = .ok (.putfield 15, 3) := by decide +kernel
theorem dX0_init_20 : decode cX0_init 20 = .ok (.aload_n 0, 1) := by decide +kernel
theorem dX0_init_21 : decode cX0_init 21 = .ok (.bipush 40, 2) := by decide +kernel
theorem dX0_init_23 : decode cX0_init 23 = .ok (.newarray .int, 2) := by decide +kernel
theorem dX0_init_25 : decode cX0_init 25 = .ok (.putfield 18, 3) := by decide +kernel
theorem dX0_init_28 : decode cX0_init 28 = .ok (.aload_n 0, 1) := by decide +kernel
theorem dX0_init_29 : decode cX0_init 29 = .ok (.bipush 40, 2) := by decide +kernel
theorem dX0_init_31 : decode cX0_init 31 = .ok (.newarray .long, 2) := by decide +kernel
theorem dX0_init_33 : decode cX0_init 33 = .ok (.putfield 21, 3) := by decide +kernel
theorem dX0_init_36 : decode cX0_init 36 = .ok (.aload_n 0, 1) := by decide +kernel
theorem dX0_init_37 : decode cX0_init 37 = .ok (.bipush 40, 2) := by decide +kernel
theorem dX0_init_39 : decode cX0_init 39 = .ok (.newarray .boolean, 2) := by decide +kernel
theorem dX0_init_41 : decode cX0_init 41 = .ok (.putfield 25, 3) := by decide +kernel
theorem dX0_init_44 : decode cX0_init 44 = .ok (.aload_n 0, 1) := by decide +kernel
theorem dX0_init_45 : decode cX0_init 45 = .ok (.bipush 64, 2) := by decide +kernel
theorem dX0_init_47 : decode cX0_init 47 = .ok (.newarray .int, 2) := by decide +kernel
theorem dX0_init_49 : decode cX0_init 49 = .ok (.putfield 29, 3) := by decide +kernel
theorem dX0_init_52 : decode cX0_init 52 = .ok (.aload_n 0, 1) := by decide +kernel
theorem dX0_init_53 : decode cX0_init 53 = .ok (.getfield 29, 3) := by decide +kernel
theorem dX0_init_56 : decode cX0_init 56 = .ok (.ldc 32, 2) := by decide +kernel
theorem dX0_init_58 : decode cX0_init 58 = .ok (.invokestatic 33, 3) := by decide +kernel
theorem dX0_init_61 : decode cX0_init 61 = .ok (.return_, 1) := by decide +kernel
theorem dX10_init_0 : decode cX10_init 0 = .ok (.aload_n 0, 1) := by decide +kernel
theorem dX10_init_1 : decode cX10_init 1 = .ok (.invokespecial 3, 3) := by decide +kernel
theorem dX10_init_4 : decode cX10_init 4 = .ok (.aload_n 0, 1) := by decide +kernel
theorem dX10_init_5 : decode cX10_init 5 = .ok (.sipush 900, 3) := by decide +kernel
theorem dX10_init_8 : decode cX10_init 8 = .ok (.newarray .byte, 2) := by decide +kernel
theorem dX10_init_10 : decode cX10_init 10 = .ok (.putfield 9, 3) := by decide +kernel
theorem dX10_init_13 : decode cX10_init 13 = .ok (.return_, 1) := by decide +kernel
theorem dX11_bound_0 : decode cX11_bound 0 = .ok (.aload_n 0, 1) := by decide +kernel
theorem dX11_bound_1 : decode cX11_bound 1 = .ok (.iload_n 1, 1) := by decide +kernel
theorem dX11_bound_2 : decode cX11_bound 2 = .ok (.iload_n 2, 1) := by decide +kernel
theorem dX11_bound_3 : decode cX11_bound 3 = .ok (.invokevirtual 118, 3) := by decide +kernel
theorem dX11_bound_6 : decode cX11_bound 6 = .ok (.ifCond .ne 11, 3) := by decide +kernel
theorem dX11_bound_17 : decode cX11_bound 17 = .ok (.bipush (-2), 2) := by decide +kernel
theorem dX11_bound_19 : decode cX11_bound 19 = .ok (.ireturn, 1) := by decide +kernel
theorem dX11_cap_0 : decode cX11_cap 0 = .ok (.aload_n 0, 1) := by decide +kernel
theorem dX11_cap_1 : decode cX11_cap 1 = .ok (.iload_n 1, 1) := by decide +kernel
theorem dX11_cap_2 : decode cX11_cap 2 = .ok (.iload_n 2, 1) := by decide +kernel
theorem dX11_cap_3 : decode cX11_cap 3 = .ok (.invokevirtual 118, 3) := by decide +kernel
theorem dX11_cap_6 : decode cX11_cap 6 = .ok (.ifCond .eq 6, 3) := by decide +kernel
theorem dX11_cap_9 : decode cX11_cap 9 = .ok (.bipush (-2), 2) := by decide +kernel
theorem dX11_cap_11 : decode cX11_cap 11 = .ok (.ireturn, 1) := by decide +kernel
theorem dX11_chain_0 : decode cX11_chain 0 = .ok (.aload_n 0, 1) := by decide +kernel
theorem dX11_chain_1 : decode cX11_chain 1 = .ok (.iload_n 1, 1) := by decide +kernel
theorem dX11_chain_2 : decode cX11_chain 2 = .ok (.invokevirtual 122, 3) := by decide +kernel
theorem dX11_chain_5 : decode cX11_chain 5 = .ok (.ifCond .eq 6, 3) := by decide +kernel
theorem dX11_chain_8 : decode cX11_chain 8 = .ok (.bipush (-2), 2) := by decide +kernel
theorem dX11_chain_10 : decode cX11_chain 10 = .ok (.ireturn, 1) := by decide +kernel
theorem dX11_cleared_0 : decode cX11_cleared 0 = .ok (.aload_n 0, 1) := by decide +kernel
theorem dX11_cleared_1 : decode cX11_cleared 1 = .ok (.iload_n 1, 1) := by decide +kernel
theorem dX11_cleared_2 : decode cX11_cleared 2 = .ok (.invokevirtual 122, 3) := by decide +kernel
theorem dX11_cleared_5 : decode cX11_cleared 5 = .ok (.ifCond .eq 6, 3) := by decide +kernel
theorem dX11_cleared_8 : decode cX11_cleared 8 = .ok (.bipush (-2), 2) := by decide +kernel
theorem dX11_cleared_10 : decode cX11_cleared 10 = .ok (.ireturn, 1) := by decide +kernel
theorem dX11_couples_0 : decode cX11_couples 0 = .ok (.aload_n 0, 1) := by decide +kernel
theorem dX11_couples_1 : decode cX11_couples 1 = .ok (.iload_n 1, 1) := by decide +kernel
theorem dX11_couples_2 : decode cX11_couples 2 = .ok (.invokevirtual 122, 3) := by decide +kernel
theorem dX11_couples_5 : decode cX11_couples 5 = .ok (.ifCond .eq 6, 3) := by decide +kernel
theorem dX11_couples_8 : decode cX11_couples 8 = .ok (.bipush (-2), 2) := by decide +kernel
theorem dX11_couples_10 : decode cX11_couples 10 = .ok (.ireturn, 1) := by decide +kernel
theorem dX11_drop_0 : decode cX11_drop 0 = .ok (.aload_n 0, 1) := by decide +kernel
theorem dX11_drop_1 : decode cX11_drop 1 = .ok (.iload_n 1, 1) := by decide +kernel
theorem dX11_drop_2 : decode cX11_drop 2 = .ok (.invokevirtual 133, 3) := by decide +kernel
theorem dX11_drop_5 : decode cX11_drop 5 = .ok (.ifCond .eq 6, 3) := by decide +kernel
theorem dX11_drop_8 : decode cX11_drop 8 = .ok (.bipush (-2), 2) := by decide +kernel
theorem dX11_drop_10 : decode cX11_drop 10 = .ok (.ireturn, 1) := by decide +kernel
theorem dX11_enough_0 : decode cX11_enough 0 = .ok (.aload_n 0, 1) := by decide +kernel
theorem dX11_enough_1 : decode cX11_enough 1 = .ok (.iload_n 1, 1) := by decide +kernel
theorem dX11_enough_2 : decode cX11_enough 2 = .ok (.iload_n 2, 1) := by decide +kernel
theorem dX11_enough_3 : decode cX11_enough 3 = .ok (.invokevirtual 118, 3) := by decide +kernel
theorem dX11_enough_6 : decode cX11_enough 6 = .ok (.ifCond .ne 11, 3) := by decide +kernel
theorem dX11_enough_17 : decode cX11_enough 17 = .ok (.bipush (-2), 2) := by decide +kernel
theorem dX11_enough_19 : decode cX11_enough 19 = .ok (.ireturn, 1) := by decide +kernel
theorem dX11_even_0 : decode cX11_even 0 = .ok (.aload_n 0, 1) := by decide +kernel
theorem dX11_even_1 : decode cX11_even 1 = .ok (.iload_n 2, 1) := by decide +kernel
theorem dX11_even_2 : decode cX11_even 2 = .ok (.invokevirtual 122, 3) := by decide +kernel
theorem dX11_even_5 : decode cX11_even 5 = .ok (.ifCond .ne 15, 3) := by decide +kernel
theorem dX11_even_20 : decode cX11_even 20 = .ok (.bipush (-2), 2) := by decide +kernel
theorem dX11_even_22 : decode cX11_even 22 = .ok (.ireturn, 1) := by decide +kernel
theorem dX11_fewest_0 : decode cX11_fewest 0 = .ok (.aload_n 0, 1) := by decide +kernel
theorem dX11_fewest_1 : decode cX11_fewest 1 = .ok (.iload_n 1, 1) := by decide +kernel
theorem dX11_fewest_2 : decode cX11_fewest 2 = .ok (.invokevirtual 122, 3) := by decide +kernel
theorem dX11_fewest_5 : decode cX11_fewest 5 = .ok (.ifCond .eq 6, 3) := by decide +kernel
theorem dX11_fewest_8 : decode cX11_fewest 8 = .ok (.bipush (-2), 2) := by decide +kernel
theorem dX11_fewest_10 : decode cX11_fewest 10 = .ok (.ireturn, 1) := by decide +kernel
theorem dX11_flow_0 : decode cX11_flow 0 = .ok (.aload_n 0, 1) := by decide +kernel
theorem dX11_flow_1 : decode cX11_flow 1 = .ok (.iload_n 1, 1) := by decide +kernel
theorem dX11_flow_2 : decode cX11_flow 2 = .ok (.iload_n 2, 1) := by decide +kernel
theorem dX11_flow_3 : decode cX11_flow 3 = .ok (.invokevirtual 118, 3) := by decide +kernel
theorem dX11_flow_6 : decode cX11_flow 6 = .ok (.ifCond .ne 11, 3) := by decide +kernel
theorem dX11_flow_17 : decode cX11_flow 17 = .ok (.bipush (-2), 2) := by decide +kernel
theorem dX11_flow_19 : decode cX11_flow 19 = .ok (.ireturn, 1) := by decide +kernel
theorem dX11_gain_0 : decode cX11_gain 0 = .ok (.aload_n 0, 1) := by decide +kernel
theorem dX11_gain_1 : decode cX11_gain 1 = .ok (.iload_n 1, 1) := by decide +kernel
theorem dX11_gain_2 : decode cX11_gain 2 = .ok (.iload_n 2, 1) := by decide +kernel
theorem dX11_gain_3 : decode cX11_gain 3 = .ok (.invokevirtual 118, 3) := by decide +kernel
theorem dX11_gain_6 : decode cX11_gain 6 = .ok (.ifCond .ne 11, 3) := by decide +kernel
theorem dX11_gain_17 : decode cX11_gain 17 = .ok (.bipush (-2), 2) := by decide +kernel
theorem dX11_gain_19 : decode cX11_gain 19 = .ok (.ireturn, 1) := by decide +kernel
theorem dX11_keep_0 : decode cX11_keep 0 = .ok (.aload_n 0, 1) := by decide +kernel
theorem dX11_keep_1 : decode cX11_keep 1 = .ok (.iload_n 1, 1) := by decide +kernel
theorem dX11_keep_2 : decode cX11_keep 2 = .ok (.invokevirtual 133, 3) := by decide +kernel
theorem dX11_keep_5 : decode cX11_keep 5 = .ok (.ifCond .eq 6, 3) := by decide +kernel
theorem dX11_keep_8 : decode cX11_keep 8 = .ok (.bipush (-2), 2) := by decide +kernel
theorem dX11_keep_10 : decode cX11_keep 10 = .ok (.ireturn, 1) := by decide +kernel
theorem dX11_least_0 : decode cX11_least 0 = .ok (.aload_n 0, 1) := by decide +kernel
theorem dX11_least_1 : decode cX11_least 1 = .ok (.iload_n 1, 1) := by decide +kernel
theorem dX11_least_2 : decode cX11_least 2 = .ok (.invokevirtual 122, 3) := by decide +kernel
theorem dX11_least_5 : decode cX11_least 5 = .ok (.ifCond .eq 6, 3) := by decide +kernel
theorem dX11_least_8 : decode cX11_least 8 = .ok (.bipush (-2), 2) := by decide +kernel
theorem dX11_least_10 : decode cX11_least 10 = .ok (.ireturn, 1) := by decide +kernel
theorem dX11_line_0 : decode cX11_line 0 = .ok (.aload_n 0, 1) := by decide +kernel
theorem dX11_line_1 : decode cX11_line 1 = .ok (.iload_n 1, 1) := by decide +kernel
theorem dX11_line_2 : decode cX11_line 2 = .ok (.invokevirtual 133, 3) := by decide +kernel
theorem dX11_line_5 : decode cX11_line 5 = .ok (.ifCond .eq 6, 3) := by decide +kernel
theorem dX11_line_8 : decode cX11_line 8 = .ok (.bipush (-2), 2) := by decide +kernel
theorem dX11_line_10 : decode cX11_line 10 = .ok (.ireturn, 1) := by decide +kernel
theorem dX11_load_0 : decode cX11_load 0 = .ok (.aload_n 0, 1) := by decide +kernel
theorem dX11_load_1 : decode cX11_load 1 = .ok (.iload_n 1, 1) := by decide +kernel
theorem dX11_load_2 : decode cX11_load 2 = .ok (.invokevirtual 122, 3) := by decide +kernel
theorem dX11_load_5 : decode cX11_load 5 = .ok (.ifCond .eq 6, 3) := by decide +kernel
theorem dX11_load_8 : decode cX11_load 8 = .ok (.bipush (-2), 2) := by decide +kernel
theorem dX11_load_10 : decode cX11_load 10 = .ok (.ireturn, 1) := by decide +kernel
theorem dX11_net_0 : decode cX11_net 0 = .ok (.aload_n 0, 1) := by decide +kernel
theorem dX11_net_1 : decode cX11_net 1 = .ok (.iload_n 1, 1) := by decide +kernel
theorem dX11_net_2 : decode cX11_net 2 = .ok (.invokevirtual 221, 3) := by decide +kernel
theorem dX11_net_5 : decode cX11_net 5 = .ok (.ifCond .ne 11, 3) := by decide +kernel
theorem dX11_net_16 : decode cX11_net 16 = .ok (.bipush (-2), 2) := by decide +kernel
theorem dX11_net_18 : decode cX11_net 18 = .ok (.ireturn, 1) := by decide +kernel
theorem dX11_noCouple_0 : decode cX11_noCouple 0 = .ok (.aload_n 0, 1) := by decide +kernel
theorem dX11_noCouple_1 : decode cX11_noCouple 1 = .ok (.iload_n 1, 1) := by decide +kernel
theorem dX11_noCouple_2 : decode cX11_noCouple 2 = .ok (.invokevirtual 221, 3) := by decide +kernel
theorem dX11_noCouple_5 : decode cX11_noCouple 5 = .ok (.ifCond .ne 16, 3) := by decide +kernel
theorem dX11_noCouple_21 : decode cX11_noCouple 21 = .ok (.iconst 1, 1) := by decide +kernel
theorem dX11_noCouple_22 : decode cX11_noCouple 22 = .ok (.goto 4, 3) := by decide +kernel
theorem dX11_noCouple_26 : decode cX11_noCouple 26 = .ok (.ireturn, 1) := by decide +kernel
theorem dX11_noKind_0 : decode cX11_noKind 0 = .ok (.iload_n 1, 1) := by decide +kernel
theorem dX11_noKind_1 : decode cX11_noKind 1 = .ok (.ifCond .lt 14, 3) := by decide +kernel
theorem dX11_noKind_4 : decode cX11_noKind 4 = .ok (.iload_n 1, 1) := by decide +kernel
theorem dX11_noKind_5 : decode cX11_noKind 5 = .ok (.aload_n 0, 1) := by decide +kernel
theorem dX11_noKind_6 : decode cX11_noKind 6 = .ok (.getfield 80, 3) := by decide +kernel
theorem dX11_noKind_9 : decode cX11_noKind 9 = .ok (.getfield 314, 3) := by decide +kernel
theorem dX11_noKind_12 : decode cX11_noKind 12 = .ok (.if_icmp .lt 7, 3) := by decide +kernel
theorem dX11_noKind_15 : decode cX11_noKind 15 = .ok (.iconst 1, 1) := by decide +kernel
theorem dX11_noKind_16 : decode cX11_noKind 16 = .ok (.goto 4, 3) := by decide +kernel
theorem dX11_noKind_20 : decode cX11_noKind 20 = .ok (.ireturn, 1) := by decide +kernel
theorem dX11_noParty_0 : decode cX11_noParty 0 = .ok (.iload_n 1, 1) := by decide +kernel
theorem dX11_noParty_1 : decode cX11_noParty 1 = .ok (.ifCond .lt 14, 3) := by decide +kernel
theorem dX11_noParty_4 : decode cX11_noParty 4 = .ok (.iload_n 1, 1) := by decide +kernel
theorem dX11_noParty_5 : decode cX11_noParty 5 = .ok (.aload_n 0, 1) := by decide +kernel
theorem dX11_noParty_6 : decode cX11_noParty 6 = .ok (.getfield 80, 3) := by decide +kernel
theorem dX11_noParty_9 : decode cX11_noParty 9 = .ok (.getfield 191, 3) := by decide +kernel
theorem dX11_noParty_12 : decode cX11_noParty 12 = .ok (.if_icmp .lt 7, 3) := by decide +kernel
theorem dX11_noParty_15 : decode cX11_noParty 15 = .ok (.iconst 1, 1) := by decide +kernel
theorem dX11_noParty_16 : decode cX11_noParty 16 = .ok (.goto 4, 3) := by decide +kernel
theorem dX11_noParty_20 : decode cX11_noParty 20 = .ok (.ireturn, 1) := by decide +kernel
theorem dX11_noTrade_0 : decode cX11_noTrade 0 = .ok (.iload_n 1, 1) := by decide +kernel
theorem dX11_noTrade_1 : decode cX11_noTrade 1 = .ok (.ifCond .lt 14, 3) := by decide +kernel
theorem dX11_noTrade_4 : decode cX11_noTrade 4 = .ok (.iload_n 1, 1) := by decide +kernel
theorem dX11_noTrade_5 : decode cX11_noTrade 5 = .ok (.aload_n 0, 1) := by decide +kernel
theorem dX11_noTrade_6 : decode cX11_noTrade 6 = .ok (.getfield 87, 3) := by decide +kernel
theorem dX11_noTrade_9 : decode cX11_noTrade 9 = .ok (.getfield 114, 3) := by decide +kernel
theorem dX11_noTrade_12 : decode cX11_noTrade 12 = .ok (.if_icmp .lt 7, 3) := by decide +kernel
theorem dX11_noTrade_15 : decode cX11_noTrade 15 = .ok (.iconst 1, 1) := by decide +kernel
theorem dX11_noTrade_16 : decode cX11_noTrade 16 = .ok (.goto 4, 3) := by decide +kernel
theorem dX11_noTrade_20 : decode cX11_noTrade 20 = .ok (.ireturn, 1) := by decide +kernel
theorem dX11_press_0 : decode cX11_press 0 = .ok (.aload_n 0, 1) := by decide +kernel
theorem dX11_press_1 : decode cX11_press 1 = .ok (.iload_n 1, 1) := by decide +kernel
theorem dX11_press_2 : decode cX11_press 2 = .ok (.invokevirtual 122, 3) := by decide +kernel
theorem dX11_press_5 : decode cX11_press 5 = .ok (.ifCond .eq 6, 3) := by decide +kernel
theorem dX11_press_8 : decode cX11_press 8 = .ok (.bipush (-2), 2) := by decide +kernel
theorem dX11_press_10 : decode cX11_press 10 = .ok (.ireturn, 1) := by decide +kernel
theorem dX11_pressed_0 : decode cX11_pressed 0 = .ok (.aload_n 0, 1) := by decide +kernel
theorem dX11_pressed_1 : decode cX11_pressed 1 = .ok (.iload_n 1, 1) := by decide +kernel
theorem dX11_pressed_2 : decode cX11_pressed 2 = .ok (.iload_n 2, 1) := by decide +kernel
theorem dX11_pressed_3 : decode cX11_pressed 3 = .ok (.invokevirtual 118, 3) := by decide +kernel
theorem dX11_pressed_6 : decode cX11_pressed 6 = .ok (.ifCond .ne 11, 3) := by decide +kernel
theorem dX11_pressed_17 : decode cX11_pressed 17 = .ok (.bipush (-2), 2) := by decide +kernel
theorem dX11_pressed_19 : decode cX11_pressed 19 = .ok (.ireturn, 1) := by decide +kernel
theorem dX11_relief_0 : decode cX11_relief 0 = .ok (.aload_n 0, 1) := by decide +kernel
theorem dX11_relief_1 : decode cX11_relief 1 = .ok (.iload_n 1, 1) := by decide +kernel
theorem dX11_relief_2 : decode cX11_relief 2 = .ok (.invokevirtual 221, 3) := by decide +kernel
theorem dX11_relief_5 : decode cX11_relief 5 = .ok (.ifCond .ne 11, 3) := by decide +kernel
theorem dX11_relief_16 : decode cX11_relief 16 = .ok (.bipush (-2), 2) := by decide +kernel
theorem dX11_relief_18 : decode cX11_relief 18 = .ok (.ireturn, 1) := by decide +kernel
theorem dX11_relieved_0 : decode cX11_relieved 0 = .ok (.aload_n 0, 1) := by decide +kernel
theorem dX11_relieved_1 : decode cX11_relieved 1 = .ok (.iload_n 1, 1) := by decide +kernel
theorem dX11_relieved_2 : decode cX11_relieved 2 = .ok (.invokevirtual 122, 3) := by decide +kernel
theorem dX11_relieved_5 : decode cX11_relieved 5 = .ok (.ifCond .eq 6, 3) := by decide +kernel
theorem dX11_relieved_8 : decode cX11_relieved 8 = .ok (.bipush (-2), 2) := by decide +kernel
theorem dX11_relieved_10 : decode cX11_relieved 10 = .ok (.ireturn, 1) := by decide +kernel
theorem dX11_ring_0 : decode cX11_ring 0 = .ok (.aload_n 0, 1) := by decide +kernel
theorem dX11_ring_1 : decode cX11_ring 1 = .ok (.iload_n 1, 1) := by decide +kernel
theorem dX11_ring_2 : decode cX11_ring 2 = .ok (.invokevirtual 122, 3) := by decide +kernel
theorem dX11_ring_5 : decode cX11_ring 5 = .ok (.ifCond .eq 6, 3) := by decide +kernel
theorem dX11_ring_8 : decode cX11_ring 8 = .ok (.bipush (-2), 2) := by decide +kernel
theorem dX11_ring_10 : decode cX11_ring 10 = .ok (.ireturn, 1) := by decide +kernel
theorem dX11_rounds_0 : decode cX11_rounds 0 = .ok (.aload_n 0, 1) := by decide +kernel
theorem dX11_rounds_1 : decode cX11_rounds 1 = .ok (.iload_n 1, 1) := by decide +kernel
theorem dX11_rounds_2 : decode cX11_rounds 2 = .ok (.invokevirtual 122, 3) := by decide +kernel
theorem dX11_rounds_5 : decode cX11_rounds 5 = .ok (.ifCond .eq 6, 3) := by decide +kernel
theorem dX11_rounds_8 : decode cX11_rounds 8 = .ok (.bipush (-2), 2) := by decide +kernel
theorem dX11_rounds_10 : decode cX11_rounds 10 = .ok (.ireturn, 1) := by decide +kernel
theorem dX11_side_0 : decode cX11_side 0 = .ok (.aload_n 0, 1) := by decide +kernel
theorem dX11_side_1 : decode cX11_side 1 = .ok (.iload_n 1, 1) := by decide +kernel
theorem dX11_side_2 : decode cX11_side 2 = .ok (.invokevirtual 221, 3) := by decide +kernel
theorem dX11_side_5 : decode cX11_side 5 = .ok (.ifCond .ne 11, 3) := by decide +kernel
theorem dX11_side_16 : decode cX11_side 16 = .ok (.bipush (-2), 2) := by decide +kernel
theorem dX11_side_18 : decode cX11_side 18 = .ok (.ireturn, 1) := by decide +kernel
theorem dX11_span_0 : decode cX11_span 0 = .ok (.aload_n 0, 1) := by decide +kernel
theorem dX11_span_1 : decode cX11_span 1 = .ok (.iload_n 1, 1) := by decide +kernel
theorem dX11_span_2 : decode cX11_span 2 = .ok (.iload_n 2, 1) := by decide +kernel
theorem dX11_span_3 : decode cX11_span 3 = .ok (.invokevirtual 118, 3) := by decide +kernel
theorem dX11_span_6 : decode cX11_span 6 = .ok (.ifCond .ne 11, 3) := by decide +kernel
theorem dX11_span_17 : decode cX11_span 17 = .ok (.bipush (-2), 2) := by decide +kernel
theorem dX11_span_19 : decode cX11_span 19 = .ok (.ireturn, 1) := by decide +kernel
theorem dX11_takeRing_0 : decode cX11_takeRing 0 = .ok (.aload_n 0, 1) := by decide +kernel
theorem dX11_takeRing_1 : decode cX11_takeRing 1 = .ok (.iload_n 1, 1) := by decide +kernel
theorem dX11_takeRing_2 : decode cX11_takeRing 2 = .ok (.invokevirtual 122, 3) := by decide +kernel
theorem dX11_takeRing_5 : decode cX11_takeRing 5 = .ok (.ifCond .eq 6, 3) := by decide +kernel
theorem dX11_takeRing_8 : decode cX11_takeRing 8 = .ok (.bipush (-2), 2) := by decide +kernel
theorem dX11_takeRing_10 : decode cX11_takeRing 10 = .ok (.ireturn, 1) := by decide +kernel
theorem dX11_through_0 : decode cX11_through 0 = .ok (.aload_n 0, 1) := by decide +kernel
theorem dX11_through_1 : decode cX11_through 1 = .ok (.iload_n 1, 1) := by decide +kernel
theorem dX11_through_2 : decode cX11_through 2 = .ok (.invokevirtual 221, 3) := by decide +kernel
theorem dX11_through_5 : decode cX11_through 5 = .ok (.ifCond .ne 11, 3) := by decide +kernel
theorem dX11_through_16 : decode cX11_through 16 = .ok (.bipush (-2), 2) := by decide +kernel
theorem dX11_through_18 : decode cX11_through 18 = .ok (.ireturn, 1) := by decide +kernel
theorem dX11_total_0 : decode cX11_total 0 = .ok (.aload_n 0, 1) := by decide +kernel
theorem dX11_total_1 : decode cX11_total 1 = .ok (.iload_n 1, 1) := by decide +kernel
theorem dX11_total_2 : decode cX11_total 2 = .ok (.invokevirtual 122, 3) := by decide +kernel
theorem dX11_total_5 : decode cX11_total 5 = .ok (.ifCond .eq 6, 3) := by decide +kernel
theorem dX11_total_8 : decode cX11_total 8 = .ok (.bipush (-2), 2) := by decide +kernel
theorem dX11_total_10 : decode cX11_total 10 = .ok (.ireturn, 1) := by decide +kernel
theorem dX11_trade_0 : decode cX11_trade 0 = .ok (.aload_n 0, 1) := by decide +kernel
theorem dX11_trade_1 : decode cX11_trade 1 = .ok (.iload_n 1, 1) := by decide +kernel
theorem dX11_trade_2 : decode cX11_trade 2 = .ok (.iload_n 2, 1) := by decide +kernel
theorem dX11_trade_3 : decode cX11_trade 3 = .ok (.invokevirtual 118, 3) := by decide +kernel
theorem dX11_trade_6 : decode cX11_trade 6 = .ok (.ifCond .ne 12, 3) := by decide +kernel
theorem dX11_trade_18 : decode cX11_trade 18 = .ok (.bipush (-2), 2) := by decide +kernel
theorem dX11_trade_20 : decode cX11_trade 20 = .ok (.ireturn, 1) := by decide +kernel
theorem dX11_tradeOf_0 : decode cX11_tradeOf 0 = .ok (.aload_n 0, 1) := by decide +kernel
theorem dX11_tradeOf_1 : decode cX11_tradeOf 1 = .ok (.iload_n 1, 1) := by decide +kernel
theorem dX11_tradeOf_2 : decode cX11_tradeOf 2 = .ok (.invokevirtual 133, 3) := by decide +kernel
theorem dX11_tradeOf_5 : decode cX11_tradeOf 5 = .ok (.ifCond .eq 6, 3) := by decide +kernel
theorem dX11_tradeOf_8 : decode cX11_tradeOf 8 = .ok (.bipush (-2), 2) := by decide +kernel
theorem dX11_tradeOf_10 : decode cX11_tradeOf 10 = .ok (.ireturn, 1) := by decide +kernel
theorem dX11_without_0 : decode cX11_without 0 = .ok (.aload_n 0, 1) := by decide +kernel
theorem dX11_without_1 : decode cX11_without 1 = .ok (.iload_n 1, 1) := by decide +kernel
theorem dX11_without_2 : decode cX11_without 2 = .ok (.invokevirtual 221, 3) := by decide +kernel
theorem dX11_without_5 : decode cX11_without 5 = .ok (.ifCond .ne 11, 3) := by decide +kernel
theorem dX11_without_16 : decode cX11_without 16 = .ok (.bipush (-2), 2) := by decide +kernel
theorem dX11_without_18 : decode cX11_without 18 = .ok (.ireturn, 1) := by decide +kernel
theorem dX12_areTwo_0 : decode cX12_areTwo 0 = .ok (.aload_n 0, 1) := by decide +kernel
theorem dX12_areTwo_1 : decode cX12_areTwo 1 = .ok (.iload_n 1, 1) := by decide +kernel
theorem dX12_areTwo_2 : decode cX12_areTwo 2 = .ok (.invokevirtual 198, 3) := by decide +kernel
theorem dX12_areTwo_5 : decode cX12_areTwo 5 = .ok (.ifCond .eq 20, 3) := by decide +kernel
theorem dX12_areTwo_25 : decode cX12_areTwo 25 = .ok (.iconst 0, 1) := by decide +kernel
theorem dX12_areTwo_26 : decode cX12_areTwo 26 = .ok (.ireturn, 1) := by decide +kernel
theorem dX12_bound_0 : decode cX12_bound 0 = .ok (.aload_n 0, 1) := by decide +kernel
theorem dX12_bound_1 : decode cX12_bound 1 = .ok (.iconst 0, 1) := by decide +kernel
theorem dX12_bound_2 : decode cX12_bound 2 = .ok (.putfield 1, 3) := by decide +kernel
theorem dX12_bound_5 : decode cX12_bound 5 = .ok (.aload_n 0, 1) := by decide +kernel
theorem dX12_bound_6 : decode cX12_bound 6 = .ok (.iload_n 1, 1) := by decide +kernel
theorem dX12_bound_7 : decode cX12_bound 7 = .ok (.iload_n 2, 1) := by decide +kernel
theorem dX12_bound_8 : decode cX12_bound 8 = .ok (.invokevirtual 201, 3) := by decide +kernel
theorem dX12_bound_11 : decode cX12_bound 11 = .ok (.ifCond .eq 11, 3) := by decide +kernel
theorem dX12_bound_22 : decode cX12_bound 22 = .ok (.bipush (-2), 2) := by decide +kernel
theorem dX12_bound_24 : decode cX12_bound 24 = .ok (.ireturn, 1) := by decide +kernel
theorem dX12_cap_0 : decode cX12_cap 0 = .ok (.aload_n 0, 1) := by decide +kernel
theorem dX12_cap_1 : decode cX12_cap 1 = .ok (.iconst 0, 1) := by decide +kernel
theorem dX12_cap_2 : decode cX12_cap 2 = .ok (.putfield 1, 3) := by decide +kernel
theorem dX12_cap_5 : decode cX12_cap 5 = .ok (.aload_n 0, 1) := by decide +kernel
theorem dX12_cap_6 : decode cX12_cap 6 = .ok (.iload_n 1, 1) := by decide +kernel
theorem dX12_cap_7 : decode cX12_cap 7 = .ok (.iload_n 2, 1) := by decide +kernel
theorem dX12_cap_8 : decode cX12_cap 8 = .ok (.invokevirtual 201, 3) := by decide +kernel
theorem dX12_cap_11 : decode cX12_cap 11 = .ok (.ifCond .ne 6, 3) := by decide +kernel
theorem dX12_cap_14 : decode cX12_cap 14 = .ok (.bipush (-2), 2) := by decide +kernel
theorem dX12_cap_16 : decode cX12_cap 16 = .ok (.ireturn, 1) := by decide +kernel
theorem dX12_chain_0 : decode cX12_chain 0 = .ok (.aload_n 0, 1) := by decide +kernel
theorem dX12_chain_1 : decode cX12_chain 1 = .ok (.iconst 0, 1) := by decide +kernel
theorem dX12_chain_2 : decode cX12_chain 2 = .ok (.putfield 1, 3) := by decide +kernel
theorem dX12_chain_5 : decode cX12_chain 5 = .ok (.aload_n 0, 1) := by decide +kernel
theorem dX12_chain_6 : decode cX12_chain 6 = .ok (.iload_n 1, 1) := by decide +kernel
theorem dX12_chain_7 : decode cX12_chain 7 = .ok (.invokevirtual 205, 3) := by decide +kernel
theorem dX12_chain_10 : decode cX12_chain 10 = .ok (.ifCond .ne 6, 3) := by decide +kernel
theorem dX12_chain_13 : decode cX12_chain 13 = .ok (.bipush (-2), 2) := by decide +kernel
theorem dX12_chain_15 : decode cX12_chain 15 = .ok (.ireturn, 1) := by decide +kernel
theorem dX12_cleared_0 : decode cX12_cleared 0 = .ok (.aload_n 0, 1) := by decide +kernel
theorem dX12_cleared_1 : decode cX12_cleared 1 = .ok (.iconst 0, 1) := by decide +kernel
theorem dX12_cleared_2 : decode cX12_cleared 2 = .ok (.putfield 1, 3) := by decide +kernel
theorem dX12_cleared_5 : decode cX12_cleared 5 = .ok (.aload_n 0, 1) := by decide +kernel
theorem dX12_cleared_6 : decode cX12_cleared 6 = .ok (.iload_n 1, 1) := by decide +kernel
theorem dX12_cleared_7 : decode cX12_cleared 7 = .ok (.invokevirtual 205, 3) := by decide +kernel
theorem dX12_cleared_10 : decode cX12_cleared 10 = .ok (.ifCond .eq 15, 3) := by decide +kernel
theorem dX12_cleared_25 : decode cX12_cleared 25 = .ok (.bipush (-2), 2) := by decide +kernel
theorem dX12_cleared_27 : decode cX12_cleared 27 = .ok (.ireturn, 1) := by decide +kernel
theorem dX12_couples_0 : decode cX12_couples 0 = .ok (.aload_n 0, 1) := by decide +kernel
theorem dX12_couples_1 : decode cX12_couples 1 = .ok (.iconst 0, 1) := by decide +kernel
theorem dX12_couples_2 : decode cX12_couples 2 = .ok (.putfield 1, 3) := by decide +kernel
theorem dX12_couples_5 : decode cX12_couples 5 = .ok (.aload_n 0, 1) := by decide +kernel
theorem dX12_couples_6 : decode cX12_couples 6 = .ok (.iload_n 1, 1) := by decide +kernel
theorem dX12_couples_7 : decode cX12_couples 7 = .ok (.invokevirtual 205, 3) := by decide +kernel
theorem dX12_couples_10 : decode cX12_couples 10 = .ok (.ifCond .ne 6, 3) := by decide +kernel
theorem dX12_couples_13 : decode cX12_couples 13 = .ok (.bipush (-2), 2) := by decide +kernel
theorem dX12_couples_15 : decode cX12_couples 15 = .ok (.ireturn, 1) := by decide +kernel
theorem dX12_drop_0 : decode cX12_drop 0 = .ok (.aload_n 0, 1) := by decide +kernel
theorem dX12_drop_1 : decode cX12_drop 1 = .ok (.iconst 0, 1) := by decide +kernel
theorem dX12_drop_2 : decode cX12_drop 2 = .ok (.putfield 1, 3) := by decide +kernel
theorem dX12_drop_5 : decode cX12_drop 5 = .ok (.aload_n 0, 1) := by decide +kernel
theorem dX12_drop_6 : decode cX12_drop 6 = .ok (.iload_n 1, 1) := by decide +kernel
theorem dX12_drop_7 : decode cX12_drop 7 = .ok (.invokevirtual 213, 3) := by decide +kernel
theorem dX12_drop_10 : decode cX12_drop 10 = .ok (.ifCond .ne 6, 3) := by decide +kernel
theorem dX12_drop_13 : decode cX12_drop 13 = .ok (.bipush (-2), 2) := by decide +kernel
theorem dX12_drop_15 : decode cX12_drop 15 = .ok (.ireturn, 1) := by decide +kernel
theorem dX12_enough_0 : decode cX12_enough 0 = .ok (.aload_n 0, 1) := by decide +kernel
theorem dX12_enough_1 : decode cX12_enough 1 = .ok (.iconst 0, 1) := by decide +kernel
theorem dX12_enough_2 : decode cX12_enough 2 = .ok (.putfield 1, 3) := by decide +kernel
theorem dX12_enough_5 : decode cX12_enough 5 = .ok (.aload_n 0, 1) := by decide +kernel
theorem dX12_enough_6 : decode cX12_enough 6 = .ok (.iload_n 1, 1) := by decide +kernel
theorem dX12_enough_7 : decode cX12_enough 7 = .ok (.iload_n 2, 1) := by decide +kernel
theorem dX12_enough_8 : decode cX12_enough 8 = .ok (.invokevirtual 201, 3) := by decide +kernel
theorem dX12_enough_11 : decode cX12_enough 11 = .ok (.ifCond .eq 11, 3) := by decide +kernel
theorem dX12_enough_22 : decode cX12_enough 22 = .ok (.bipush (-2), 2) := by decide +kernel
theorem dX12_enough_24 : decode cX12_enough 24 = .ok (.ireturn, 1) := by decide +kernel
theorem dX12_even_0 : decode cX12_even 0 = .ok (.aload_n 0, 1) := by decide +kernel
theorem dX12_even_1 : decode cX12_even 1 = .ok (.iconst 0, 1) := by decide +kernel
theorem dX12_even_2 : decode cX12_even 2 = .ok (.putfield 1, 3) := by decide +kernel
theorem dX12_even_5 : decode cX12_even 5 = .ok (.aload_n 0, 1) := by decide +kernel
theorem dX12_even_6 : decode cX12_even 6 = .ok (.iload_n 2, 1) := by decide +kernel
theorem dX12_even_7 : decode cX12_even 7 = .ok (.invokevirtual 205, 3) := by decide +kernel
theorem dX12_even_10 : decode cX12_even 10 = .ok (.ifCond .eq 21, 3) := by decide +kernel
theorem dX12_even_31 : decode cX12_even 31 = .ok (.bipush (-2), 2) := by decide +kernel
theorem dX12_even_33 : decode cX12_even 33 = .ok (.ireturn, 1) := by decide +kernel
theorem dX12_fewest_0 : decode cX12_fewest 0 = .ok (.aload_n 0, 1) := by decide +kernel
theorem dX12_fewest_1 : decode cX12_fewest 1 = .ok (.iconst 0, 1) := by decide +kernel
theorem dX12_fewest_2 : decode cX12_fewest 2 = .ok (.putfield 1, 3) := by decide +kernel
theorem dX12_fewest_5 : decode cX12_fewest 5 = .ok (.aload_n 0, 1) := by decide +kernel
theorem dX12_fewest_6 : decode cX12_fewest 6 = .ok (.iload_n 1, 1) := by decide +kernel
theorem dX12_fewest_7 : decode cX12_fewest 7 = .ok (.invokevirtual 205, 3) := by decide +kernel
theorem dX12_fewest_10 : decode cX12_fewest 10 = .ok (.ifCond .eq 13, 3) := by decide +kernel
theorem dX12_fewest_23 : decode cX12_fewest 23 = .ok (.bipush (-2), 2) := by decide +kernel
theorem dX12_fewest_25 : decode cX12_fewest 25 = .ok (.ireturn, 1) := by decide +kernel
theorem dX12_flow_0 : decode cX12_flow 0 = .ok (.aload_n 0, 1) := by decide +kernel
theorem dX12_flow_1 : decode cX12_flow 1 = .ok (.iconst 0, 1) := by decide +kernel
theorem dX12_flow_2 : decode cX12_flow 2 = .ok (.putfield 1, 3) := by decide +kernel
theorem dX12_flow_5 : decode cX12_flow 5 = .ok (.aload_n 0, 1) := by decide +kernel
theorem dX12_flow_6 : decode cX12_flow 6 = .ok (.iload_n 1, 1) := by decide +kernel
theorem dX12_flow_7 : decode cX12_flow 7 = .ok (.iload_n 2, 1) := by decide +kernel
theorem dX12_flow_8 : decode cX12_flow 8 = .ok (.invokevirtual 201, 3) := by decide +kernel
theorem dX12_flow_11 : decode cX12_flow 11 = .ok (.ifCond .eq 11, 3) := by decide +kernel
theorem dX12_flow_22 : decode cX12_flow 22 = .ok (.bipush (-2), 2) := by decide +kernel
theorem dX12_flow_24 : decode cX12_flow 24 = .ok (.ireturn, 1) := by decide +kernel
theorem dX12_gain_0 : decode cX12_gain 0 = .ok (.aload_n 0, 1) := by decide +kernel
theorem dX12_gain_1 : decode cX12_gain 1 = .ok (.iconst 0, 1) := by decide +kernel
theorem dX12_gain_2 : decode cX12_gain 2 = .ok (.putfield 1, 3) := by decide +kernel
theorem dX12_gain_5 : decode cX12_gain 5 = .ok (.aload_n 0, 1) := by decide +kernel
theorem dX12_gain_6 : decode cX12_gain 6 = .ok (.iload_n 1, 1) := by decide +kernel
theorem dX12_gain_7 : decode cX12_gain 7 = .ok (.iload_n 2, 1) := by decide +kernel
theorem dX12_gain_8 : decode cX12_gain 8 = .ok (.invokevirtual 201, 3) := by decide +kernel
theorem dX12_gain_11 : decode cX12_gain 11 = .ok (.ifCond .eq 11, 3) := by decide +kernel
theorem dX12_gain_22 : decode cX12_gain 22 = .ok (.bipush (-2), 2) := by decide +kernel
theorem dX12_gain_24 : decode cX12_gain 24 = .ok (.ireturn, 1) := by decide +kernel
theorem dX12_isIn_0 : decode cX12_isIn 0 = .ok (.lload_n 0, 1) := by decide +kernel
theorem dX12_isIn_1 : decode cX12_isIn 1 = .ok (.lload_n 2, 1) := by decide +kernel
theorem dX12_isIn_2 : decode cX12_isIn 2 = .ok (.lcmp, 1) := by decide +kernel
theorem dX12_isIn_3 : decode cX12_isIn 3 = .ok (.ifCond .lt 14, 3) := by decide +kernel
theorem dX12_isIn_6 : decode cX12_isIn 6 = .ok (.lload_n 0, 1) := by decide +kernel
theorem dX12_isIn_7 : decode cX12_isIn 7 = .ok (.lload 4, 2) := by decide +kernel
theorem dX12_isIn_9 : decode cX12_isIn 9 = .ok (.lcmp, 1) := by decide +kernel
theorem dX12_isIn_10 : decode cX12_isIn 10 = .ok (.ifCond .gt 7, 3) := by decide +kernel
theorem dX12_isIn_13 : decode cX12_isIn 13 = .ok (.iconst 1, 1) := by decide +kernel
theorem dX12_isIn_14 : decode cX12_isIn 14 = .ok (.goto 4, 3) := by decide +kernel
theorem dX12_isIn_17 : decode cX12_isIn 17 = .ok (.iconst 0, 1) := by decide +kernel
theorem dX12_isIn_18 : decode cX12_isIn 18 = .ok (.ireturn, 1) := by decide +kernel
theorem dX12_isKind_0 : decode cX12_isKind 0 = .ok (.iload_n 1, 1) := by decide +kernel
theorem dX12_isKind_1 : decode cX12_isKind 1 = .ok (.i2l, 1) := by decide +kernel
theorem dX12_isKind_2 : decode cX12_isKind 2 = .ok (.lconst 0, 1) := by decide +kernel
theorem dX12_isKind_3 : decode cX12_isKind 3 = .ok (.aload_n 0, 1) := by decide +kernel
theorem dX12_isKind_4 : decode cX12_isKind 4 = .ok (.getfield 83, 3) := by decide +kernel
theorem dX12_isKind_7 : decode cX12_isKind 7 = .ok (.iconst 1, 1) := by decide +kernel
theorem dX12_isKind_8 : decode cX12_isKind 8 = .ok (.isub, 1) := by decide +kernel
theorem dX12_isKind_9 : decode cX12_isKind 9 = .ok (.i2l, 1) := by decide +kernel
theorem dX12_isKind_10 : decode cX12_isKind 10 = .ok (.invokestatic 103, 3) := by decide +kernel
theorem dX12_isKind_13 : decode cX12_isKind 13 = .ok (.ireturn, 1) := by decide +kernel
theorem dX12_isParty_0 : decode cX12_isParty 0 = .ok (.iload_n 1, 1) := by decide +kernel
theorem dX12_isParty_1 : decode cX12_isParty 1 = .ok (.i2l, 1) := by decide +kernel
theorem dX12_isParty_2 : decode cX12_isParty 2 = .ok (.lconst 0, 1) := by decide +kernel
theorem dX12_isParty_3 : decode cX12_isParty 3 = .ok (.aload_n 0, 1) := by decide +kernel
theorem dX12_isParty_4 : decode cX12_isParty 4 = .ok (.getfield 80, 3) := by decide +kernel
theorem dX12_isParty_7 : decode cX12_isParty 7 = .ok (.iconst 1, 1) := by decide +kernel
theorem dX12_isParty_8 : decode cX12_isParty 8 = .ok (.isub, 1) := by decide +kernel
theorem dX12_isParty_9 : decode cX12_isParty 9 = .ok (.i2l, 1) := by decide +kernel
theorem dX12_isParty_10 : decode cX12_isParty 10 = .ok (.invokestatic 103, 3) := by decide +kernel
theorem dX12_isParty_13 : decode cX12_isParty 13 = .ok (.ireturn, 1) := by decide +kernel
theorem dX12_isTrade_0 : decode cX12_isTrade 0 = .ok (.iload_n 1, 1) := by decide +kernel
theorem dX12_isTrade_1 : decode cX12_isTrade 1 = .ok (.i2l, 1) := by decide +kernel
theorem dX12_isTrade_2 : decode cX12_isTrade 2 = .ok (.lconst 0, 1) := by decide +kernel
theorem dX12_isTrade_3 : decode cX12_isTrade 3 = .ok (.aload_n 0, 1) := by decide +kernel
theorem dX12_isTrade_4 : decode cX12_isTrade 4 = .ok (.getfield 13, 3) := by decide +kernel
theorem dX12_isTrade_7 : decode cX12_isTrade 7 = .ok (.iconst 0, 1) := by decide +kernel
theorem dX12_isTrade_8 : decode cX12_isTrade 8 = .ok (.iaload, 1) := by decide +kernel
theorem dX12_isTrade_9 : decode cX12_isTrade 9 = .ok (.iconst 1, 1) := by decide +kernel
theorem dX12_isTrade_10 : decode cX12_isTrade 10 = .ok (.isub, 1) := by decide +kernel
theorem dX12_isTrade_11 : decode cX12_isTrade 11 = .ok (.i2l, 1) := by decide +kernel
theorem dX12_isTrade_12 : decode cX12_isTrade 12 = .ok (.invokestatic 103, 3) := by decide +kernel
theorem dX12_isTrade_15 : decode cX12_isTrade 15 = .ok (.ireturn, 1) := by decide +kernel
theorem dX12_keep_0 : decode cX12_keep 0 = .ok (.aload_n 0, 1) := by decide +kernel
theorem dX12_keep_1 : decode cX12_keep 1 = .ok (.iconst 0, 1) := by decide +kernel
theorem dX12_keep_2 : decode cX12_keep 2 = .ok (.putfield 1, 3) := by decide +kernel
theorem dX12_keep_5 : decode cX12_keep 5 = .ok (.aload_n 0, 1) := by decide +kernel
theorem dX12_keep_6 : decode cX12_keep 6 = .ok (.iload_n 1, 1) := by decide +kernel
theorem dX12_keep_7 : decode cX12_keep 7 = .ok (.invokevirtual 213, 3) := by decide +kernel
theorem dX12_keep_10 : decode cX12_keep 10 = .ok (.ifCond .ne 6, 3) := by decide +kernel
theorem dX12_keep_13 : decode cX12_keep 13 = .ok (.bipush (-2), 2) := by decide +kernel
theorem dX12_keep_15 : decode cX12_keep 15 = .ok (.ireturn, 1) := by decide +kernel
theorem dX12_least_0 : decode cX12_least 0 = .ok (.aload_n 0, 1) := by decide +kernel
theorem dX12_least_1 : decode cX12_least 1 = .ok (.iconst 0, 1) := by decide +kernel
theorem dX12_least_2 : decode cX12_least 2 = .ok (.putfield 1, 3) := by decide +kernel
theorem dX12_least_5 : decode cX12_least 5 = .ok (.aload_n 0, 1) := by decide +kernel
theorem dX12_least_6 : decode cX12_least 6 = .ok (.iload_n 1, 1) := by decide +kernel
theorem dX12_least_7 : decode cX12_least 7 = .ok (.invokevirtual 205, 3) := by decide +kernel
theorem dX12_least_10 : decode cX12_least 10 = .ok (.ifCond .ne 6, 3) := by decide +kernel
theorem dX12_least_13 : decode cX12_least 13 = .ok (.bipush (-2), 2) := by decide +kernel
theorem dX12_least_15 : decode cX12_least 15 = .ok (.ireturn, 1) := by decide +kernel
theorem dX12_line_0 : decode cX12_line 0 = .ok (.aload_n 0, 1) := by decide +kernel
theorem dX12_line_1 : decode cX12_line 1 = .ok (.iconst 0, 1) := by decide +kernel
theorem dX12_line_2 : decode cX12_line 2 = .ok (.putfield 1, 3) := by decide +kernel
theorem dX12_line_5 : decode cX12_line 5 = .ok (.aload_n 0, 1) := by decide +kernel
theorem dX12_line_6 : decode cX12_line 6 = .ok (.iload_n 1, 1) := by decide +kernel
theorem dX12_line_7 : decode cX12_line 7 = .ok (.invokevirtual 213, 3) := by decide +kernel
theorem dX12_line_10 : decode cX12_line 10 = .ok (.ifCond .ne 6, 3) := by decide +kernel
theorem dX12_line_13 : decode cX12_line 13 = .ok (.bipush (-2), 2) := by decide +kernel
theorem dX12_line_15 : decode cX12_line 15 = .ok (.ireturn, 1) := by decide +kernel
theorem dX12_load_0 : decode cX12_load 0 = .ok (.aload_n 0, 1) := by decide +kernel
theorem dX12_load_1 : decode cX12_load 1 = .ok (.iconst 0, 1) := by decide +kernel
theorem dX12_load_2 : decode cX12_load 2 = .ok (.putfield 1, 3) := by decide +kernel
theorem dX12_load_5 : decode cX12_load 5 = .ok (.aload_n 0, 1) := by decide +kernel
theorem dX12_load_6 : decode cX12_load 6 = .ok (.iload_n 1, 1) := by decide +kernel
theorem dX12_load_7 : decode cX12_load 7 = .ok (.invokevirtual 205, 3) := by decide +kernel
theorem dX12_load_10 : decode cX12_load 10 = .ok (.ifCond .ne 6, 3) := by decide +kernel
theorem dX12_load_13 : decode cX12_load 13 = .ok (.bipush (-2), 2) := by decide +kernel
theorem dX12_load_15 : decode cX12_load 15 = .ok (.ireturn, 1) := by decide +kernel
theorem dX12_net_0 : decode cX12_net 0 = .ok (.aload_n 0, 1) := by decide +kernel
theorem dX12_net_1 : decode cX12_net 1 = .ok (.iconst 0, 1) := by decide +kernel
theorem dX12_net_2 : decode cX12_net 2 = .ok (.putfield 1, 3) := by decide +kernel
theorem dX12_net_5 : decode cX12_net 5 = .ok (.aload_n 0, 1) := by decide +kernel
theorem dX12_net_6 : decode cX12_net 6 = .ok (.iload_n 1, 1) := by decide +kernel
theorem dX12_net_7 : decode cX12_net 7 = .ok (.invokevirtual 198, 3) := by decide +kernel
theorem dX12_net_10 : decode cX12_net 10 = .ok (.ifCond .eq 11, 3) := by decide +kernel
theorem dX12_net_21 : decode cX12_net 21 = .ok (.bipush (-2), 2) := by decide +kernel
theorem dX12_net_23 : decode cX12_net 23 = .ok (.ireturn, 1) := by decide +kernel
theorem dX12_press_0 : decode cX12_press 0 = .ok (.aload_n 0, 1) := by decide +kernel
theorem dX12_press_1 : decode cX12_press 1 = .ok (.iconst 0, 1) := by decide +kernel
theorem dX12_press_2 : decode cX12_press 2 = .ok (.putfield 1, 3) := by decide +kernel
theorem dX12_press_5 : decode cX12_press 5 = .ok (.aload_n 0, 1) := by decide +kernel
theorem dX12_press_6 : decode cX12_press 6 = .ok (.iload_n 1, 1) := by decide +kernel
theorem dX12_press_7 : decode cX12_press 7 = .ok (.invokevirtual 205, 3) := by decide +kernel
theorem dX12_press_10 : decode cX12_press 10 = .ok (.ifCond .ne 6, 3) := by decide +kernel
theorem dX12_press_13 : decode cX12_press 13 = .ok (.bipush (-2), 2) := by decide +kernel
theorem dX12_press_15 : decode cX12_press 15 = .ok (.ireturn, 1) := by decide +kernel
theorem dX12_pressed_0 : decode cX12_pressed 0 = .ok (.aload_n 0, 1) := by decide +kernel
theorem dX12_pressed_1 : decode cX12_pressed 1 = .ok (.iconst 0, 1) := by decide +kernel
theorem dX12_pressed_2 : decode cX12_pressed 2 = .ok (.putfield 1, 3) := by decide +kernel
theorem dX12_pressed_5 : decode cX12_pressed 5 = .ok (.aload_n 0, 1) := by decide +kernel
theorem dX12_pressed_6 : decode cX12_pressed 6 = .ok (.iload_n 1, 1) := by decide +kernel
theorem dX12_pressed_7 : decode cX12_pressed 7 = .ok (.iload_n 2, 1) := by decide +kernel
theorem dX12_pressed_8 : decode cX12_pressed 8 = .ok (.invokevirtual 201, 3) := by decide +kernel
theorem dX12_pressed_11 : decode cX12_pressed 11 = .ok (.ifCond .eq 11, 3) := by decide +kernel
theorem dX12_pressed_22 : decode cX12_pressed 22 = .ok (.bipush (-2), 2) := by decide +kernel
theorem dX12_pressed_24 : decode cX12_pressed 24 = .ok (.ireturn, 1) := by decide +kernel
theorem dX12_relief_0 : decode cX12_relief 0 = .ok (.aload_n 0, 1) := by decide +kernel
theorem dX12_relief_1 : decode cX12_relief 1 = .ok (.iconst 0, 1) := by decide +kernel
theorem dX12_relief_2 : decode cX12_relief 2 = .ok (.putfield 1, 3) := by decide +kernel
theorem dX12_relief_5 : decode cX12_relief 5 = .ok (.aload_n 0, 1) := by decide +kernel
theorem dX12_relief_6 : decode cX12_relief 6 = .ok (.iload_n 1, 1) := by decide +kernel
theorem dX12_relief_7 : decode cX12_relief 7 = .ok (.invokevirtual 198, 3) := by decide +kernel
theorem dX12_relief_10 : decode cX12_relief 10 = .ok (.ifCond .eq 11, 3) := by decide +kernel
theorem dX12_relief_21 : decode cX12_relief 21 = .ok (.bipush (-2), 2) := by decide +kernel
theorem dX12_relief_23 : decode cX12_relief 23 = .ok (.ireturn, 1) := by decide +kernel
theorem dX12_relieved_0 : decode cX12_relieved 0 = .ok (.aload_n 0, 1) := by decide +kernel
theorem dX12_relieved_1 : decode cX12_relieved 1 = .ok (.iconst 0, 1) := by decide +kernel
theorem dX12_relieved_2 : decode cX12_relieved 2 = .ok (.putfield 1, 3) := by decide +kernel
theorem dX12_relieved_5 : decode cX12_relieved 5 = .ok (.aload_n 0, 1) := by decide +kernel
theorem dX12_relieved_6 : decode cX12_relieved 6 = .ok (.iload_n 1, 1) := by decide +kernel
theorem dX12_relieved_7 : decode cX12_relieved 7 = .ok (.invokevirtual 205, 3) := by decide +kernel
theorem dX12_relieved_10 : decode cX12_relieved 10 = .ok (.ifCond .ne 6, 3) := by decide +kernel
theorem dX12_relieved_13 : decode cX12_relieved 13 = .ok (.bipush (-2), 2) := by decide +kernel
theorem dX12_relieved_15 : decode cX12_relieved 15 = .ok (.ireturn, 1) := by decide +kernel
theorem dX12_ring_0 : decode cX12_ring 0 = .ok (.aload_n 0, 1) := by decide +kernel
theorem dX12_ring_1 : decode cX12_ring 1 = .ok (.iconst 0, 1) := by decide +kernel
theorem dX12_ring_2 : decode cX12_ring 2 = .ok (.putfield 1, 3) := by decide +kernel
theorem dX12_ring_5 : decode cX12_ring 5 = .ok (.aload_n 0, 1) := by decide +kernel
theorem dX12_ring_6 : decode cX12_ring 6 = .ok (.iload_n 1, 1) := by decide +kernel
theorem dX12_ring_7 : decode cX12_ring 7 = .ok (.invokevirtual 205, 3) := by decide +kernel
theorem dX12_ring_10 : decode cX12_ring 10 = .ok (.ifCond .ne 6, 3) := by decide +kernel
theorem dX12_ring_13 : decode cX12_ring 13 = .ok (.bipush (-2), 2) := by decide +kernel
theorem dX12_ring_15 : decode cX12_ring 15 = .ok (.ireturn, 1) := by decide +kernel
theorem dX12_rounds_0 : decode cX12_rounds 0 = .ok (.aload_n 0, 1) := by decide +kernel
theorem dX12_rounds_1 : decode cX12_rounds 1 = .ok (.iconst 0, 1) := by decide +kernel
theorem dX12_rounds_2 : decode cX12_rounds 2 = .ok (.putfield 1, 3) := by decide +kernel
theorem dX12_rounds_5 : decode cX12_rounds 5 = .ok (.aload_n 0, 1) := by decide +kernel
theorem dX12_rounds_6 : decode cX12_rounds 6 = .ok (.iload_n 1, 1) := by decide +kernel
theorem dX12_rounds_7 : decode cX12_rounds 7 = .ok (.invokevirtual 205, 3) := by decide +kernel
theorem dX12_rounds_10 : decode cX12_rounds 10 = .ok (.ifCond .ne 6, 3) := by decide +kernel
theorem dX12_rounds_13 : decode cX12_rounds 13 = .ok (.bipush (-2), 2) := by decide +kernel
theorem dX12_rounds_15 : decode cX12_rounds 15 = .ok (.ireturn, 1) := by decide +kernel
theorem dX12_side_0 : decode cX12_side 0 = .ok (.aload_n 0, 1) := by decide +kernel
theorem dX12_side_1 : decode cX12_side 1 = .ok (.iconst 0, 1) := by decide +kernel
theorem dX12_side_2 : decode cX12_side 2 = .ok (.putfield 1, 3) := by decide +kernel
theorem dX12_side_5 : decode cX12_side 5 = .ok (.aload_n 0, 1) := by decide +kernel
theorem dX12_side_6 : decode cX12_side 6 = .ok (.iload_n 1, 1) := by decide +kernel
theorem dX12_side_7 : decode cX12_side 7 = .ok (.invokevirtual 198, 3) := by decide +kernel
theorem dX12_side_10 : decode cX12_side 10 = .ok (.ifCond .eq 23, 3) := by decide +kernel
theorem dX12_side_33 : decode cX12_side 33 = .ok (.bipush (-2), 2) := by decide +kernel
theorem dX12_side_35 : decode cX12_side 35 = .ok (.ireturn, 1) := by decide +kernel
theorem dX12_span_0 : decode cX12_span 0 = .ok (.aload_n 0, 1) := by decide +kernel
theorem dX12_span_1 : decode cX12_span 1 = .ok (.iconst 0, 1) := by decide +kernel
theorem dX12_span_2 : decode cX12_span 2 = .ok (.putfield 1, 3) := by decide +kernel
theorem dX12_span_5 : decode cX12_span 5 = .ok (.aload_n 0, 1) := by decide +kernel
theorem dX12_span_6 : decode cX12_span 6 = .ok (.iload_n 1, 1) := by decide +kernel
theorem dX12_span_7 : decode cX12_span 7 = .ok (.iload_n 2, 1) := by decide +kernel
theorem dX12_span_8 : decode cX12_span 8 = .ok (.invokevirtual 201, 3) := by decide +kernel
theorem dX12_span_11 : decode cX12_span 11 = .ok (.ifCond .eq 11, 3) := by decide +kernel
theorem dX12_span_22 : decode cX12_span 22 = .ok (.bipush (-2), 2) := by decide +kernel
theorem dX12_span_24 : decode cX12_span 24 = .ok (.ireturn, 1) := by decide +kernel
theorem dX12_takeRing_0 : decode cX12_takeRing 0 = .ok (.aload_n 0, 1) := by decide +kernel
theorem dX12_takeRing_1 : decode cX12_takeRing 1 = .ok (.iconst 0, 1) := by decide +kernel
theorem dX12_takeRing_2 : decode cX12_takeRing 2 = .ok (.putfield 1, 3) := by decide +kernel
theorem dX12_takeRing_5 : decode cX12_takeRing 5 = .ok (.aload_n 0, 1) := by decide +kernel
theorem dX12_takeRing_6 : decode cX12_takeRing 6 = .ok (.iload_n 1, 1) := by decide +kernel
theorem dX12_takeRing_7 : decode cX12_takeRing 7 = .ok (.invokevirtual 205, 3) := by decide +kernel
theorem dX12_takeRing_10 : decode cX12_takeRing 10 = .ok (.ifCond .ne 6, 3) := by decide +kernel
theorem dX12_takeRing_13 : decode cX12_takeRing 13 = .ok (.bipush (-2), 2) := by decide +kernel
theorem dX12_takeRing_15 : decode cX12_takeRing 15 = .ok (.ireturn, 1) := by decide +kernel
theorem dX12_through_0 : decode cX12_through 0 = .ok (.aload_n 0, 1) := by decide +kernel
theorem dX12_through_1 : decode cX12_through 1 = .ok (.iconst 0, 1) := by decide +kernel
theorem dX12_through_2 : decode cX12_through 2 = .ok (.putfield 1, 3) := by decide +kernel
theorem dX12_through_5 : decode cX12_through 5 = .ok (.aload_n 0, 1) := by decide +kernel
theorem dX12_through_6 : decode cX12_through 6 = .ok (.iload_n 1, 1) := by decide +kernel
theorem dX12_through_7 : decode cX12_through 7 = .ok (.invokevirtual 198, 3) := by decide +kernel
theorem dX12_through_10 : decode cX12_through 10 = .ok (.ifCond .eq 21, 3) := by decide +kernel
theorem dX12_through_31 : decode cX12_through 31 = .ok (.bipush (-2), 2) := by decide +kernel
theorem dX12_through_33 : decode cX12_through 33 = .ok (.ireturn, 1) := by decide +kernel
theorem dX12_total_0 : decode cX12_total 0 = .ok (.aload_n 0, 1) := by decide +kernel
theorem dX12_total_1 : decode cX12_total 1 = .ok (.iconst 0, 1) := by decide +kernel
theorem dX12_total_2 : decode cX12_total 2 = .ok (.putfield 1, 3) := by decide +kernel
theorem dX12_total_5 : decode cX12_total 5 = .ok (.aload_n 0, 1) := by decide +kernel
theorem dX12_total_6 : decode cX12_total 6 = .ok (.iload_n 1, 1) := by decide +kernel
theorem dX12_total_7 : decode cX12_total 7 = .ok (.invokevirtual 205, 3) := by decide +kernel
theorem dX12_total_10 : decode cX12_total 10 = .ok (.ifCond .eq 15, 3) := by decide +kernel
theorem dX12_total_25 : decode cX12_total 25 = .ok (.bipush (-2), 2) := by decide +kernel
theorem dX12_total_27 : decode cX12_total 27 = .ok (.ireturn, 1) := by decide +kernel
theorem dX12_trade_0 : decode cX12_trade 0 = .ok (.aload_n 0, 1) := by decide +kernel
theorem dX12_trade_1 : decode cX12_trade 1 = .ok (.iconst 0, 1) := by decide +kernel
theorem dX12_trade_2 : decode cX12_trade 2 = .ok (.putfield 1, 3) := by decide +kernel
theorem dX12_trade_5 : decode cX12_trade 5 = .ok (.aload_n 0, 1) := by decide +kernel
theorem dX12_trade_6 : decode cX12_trade 6 = .ok (.iload_n 1, 1) := by decide +kernel
theorem dX12_trade_7 : decode cX12_trade 7 = .ok (.iload_n 2, 1) := by decide +kernel
theorem dX12_trade_8 : decode cX12_trade 8 = .ok (.invokevirtual 201, 3) := by decide +kernel
theorem dX12_trade_11 : decode cX12_trade 11 = .ok (.ifCond .eq 12, 3) := by decide +kernel
theorem dX12_trade_23 : decode cX12_trade 23 = .ok (.bipush (-2), 2) := by decide +kernel
theorem dX12_trade_25 : decode cX12_trade 25 = .ok (.ireturn, 1) := by decide +kernel
theorem dX12_tradeOf_0 : decode cX12_tradeOf 0 = .ok (.aload_n 0, 1) := by decide +kernel
theorem dX12_tradeOf_1 : decode cX12_tradeOf 1 = .ok (.iconst 0, 1) := by decide +kernel
theorem dX12_tradeOf_2 : decode cX12_tradeOf 2 = .ok (.putfield 1, 3) := by decide +kernel
theorem dX12_tradeOf_5 : decode cX12_tradeOf 5 = .ok (.aload_n 0, 1) := by decide +kernel
theorem dX12_tradeOf_6 : decode cX12_tradeOf 6 = .ok (.iload_n 1, 1) := by decide +kernel
theorem dX12_tradeOf_7 : decode cX12_tradeOf 7 = .ok (.invokevirtual 213, 3) := by decide +kernel
theorem dX12_tradeOf_10 : decode cX12_tradeOf 10 = .ok (.ifCond .eq 24, 3) := by decide +kernel
theorem dX12_tradeOf_34 : decode cX12_tradeOf 34 = .ok (.bipush (-2), 2) := by decide +kernel
theorem dX12_tradeOf_36 : decode cX12_tradeOf 36 = .ok (.ireturn, 1) := by decide +kernel
theorem dX12_without_0 : decode cX12_without 0 = .ok (.aload_n 0, 1) := by decide +kernel
theorem dX12_without_1 : decode cX12_without 1 = .ok (.iconst 0, 1) := by decide +kernel
theorem dX12_without_2 : decode cX12_without 2 = .ok (.putfield 1, 3) := by decide +kernel
theorem dX12_without_5 : decode cX12_without 5 = .ok (.aload_n 0, 1) := by decide +kernel
theorem dX12_without_6 : decode cX12_without 6 = .ok (.iload_n 1, 1) := by decide +kernel
theorem dX12_without_7 : decode cX12_without 7 = .ok (.invokevirtual 198, 3) := by decide +kernel
theorem dX12_without_10 : decode cX12_without 10 = .ok (.ifCond .eq 11, 3) := by decide +kernel
theorem dX12_without_21 : decode cX12_without 21 = .ok (.bipush (-2), 2) := by decide +kernel
theorem dX12_without_23 : decode cX12_without 23 = .ok (.ireturn, 1) := by decide +kernel
theorem dX1_init_0 : decode cX1_init 0 = .ok (.aload_n 0, 1) := by decide +kernel
theorem dX1_init_1 : decode cX1_init 1 = .ok (.invokespecial 3, 3) := by decide +kernel
theorem dX1_init_4 : decode cX1_init 4 = .ok (.aload_n 0, 1) := by decide +kernel
theorem dX1_init_5 : decode cX1_init 5 = .ok (.bipush 64, 2) := by decide +kernel
theorem dX1_init_7 : decode cX1_init 7 = .ok (.newarray .long, 2) := by decide +kernel
theorem dX1_init_9 : decode cX1_init 9 = .ok (.putfield 9, 3) := by decide +kernel
theorem dX1_init_12 : decode cX1_init 12 = .ok (.return_, 1) := by decide +kernel
theorem dX2_init_0 : decode cX2_init 0 = .ok (.aload_n 0, 1) := by decide +kernel
theorem dX2_init_1 : decode cX2_init 1 = .ok (.invokespecial 3, 3) := by decide +kernel
theorem dX2_init_4 : decode cX2_init 4 = .ok (.aload_n 0, 1) := by decide +kernel
theorem dX2_init_5 : decode cX2_init 5 = .ok (.bipush 8, 2) := by decide +kernel
theorem dX2_init_7 : decode cX2_init 7 = .ok (.newarray .long, 2) := by decide +kernel
theorem dX2_init_9 : decode cX2_init 9 = .ok (.putfield 9, 3) := by decide +kernel
theorem dX2_init_12 : decode cX2_init 12 = .ok (.aload_n 0, 1) := by decide +kernel
theorem dX2_init_13 : decode cX2_init 13 = .ok (.sipush 256, 3) := by decide +kernel
theorem dX2_init_16 : decode cX2_init 16 = .ok (.newarray .long, 2) := by decide +kernel
theorem dX2_init_18 : decode cX2_init 18 = .ok (.putfield 15, 3) := by decide +kernel
theorem dX2_init_21 : decode cX2_init 21 = .ok (.aload_n 0, 1) := by decide +kernel
theorem dX2_init_22 : decode cX2_init 22 = .ok (.sipush 256, 3) := by decide +kernel
theorem dX2_init_25 : decode cX2_init 25 = .ok (.newarray .int, 2) := by decide +kernel
theorem dX2_init_27 : decode cX2_init 27 = .ok (.putfield 18, 3) := by decide +kernel
theorem dX2_init_30 : decode cX2_init 30 = .ok (.return_, 1) := by decide +kernel
theorem dX3_init_0 : decode cX3_init 0 = .ok (.aload_n 0, 1) := by decide +kernel
theorem dX3_init_1 : decode cX3_init 1 = .ok (.invokespecial 3, 3) := by decide +kernel
theorem dX3_init_4 : decode cX3_init 4 = .ok (.aload_n 0, 1) := by decide +kernel
theorem dX3_init_5 : decode cX3_init 5 = .ok (.bipush 96, 2) := by decide +kernel
theorem dX3_init_7 : decode cX3_init 7 = .ok (.newarray .byte, 2) := by decide +kernel
theorem dX3_init_9 : decode cX3_init 9 = .ok (.putfield 11, 3) := by decide +kernel
theorem dX3_init_12 : decode cX3_init 12 = .ok (.aload_n 0, 1) := by decide +kernel
theorem dX3_init_13 : decode cX3_init 13 = .ok (.bipush 12, 2) := by decide +kernel
theorem dX3_init_15 : decode cX3_init 15 = .ok (.newarray .int, 2) := by decide +kernel
theorem dX3_init_17 : decode cX3_init 17 = .ok (.putfield 15, 3) := by decide +kernel
theorem dX3_init_20 : decode cX3_init 20 = .ok (.return_, 1) := by decide +kernel
theorem dX4_init_0 : decode cX4_init 0 = .ok (.aload_n 0, 1) := by decide +kernel
theorem dX4_init_1 : decode cX4_init 1 = .ok (.invokespecial 3, 3) := by decide +kernel
theorem dX4_init_4 : decode cX4_init 4 = .ok (.aload_n 0, 1) := by decide +kernel
theorem dX4_init_5 : decode cX4_init 5 = .ok (.bipush 64, 2) := by decide +kernel
theorem dX4_init_7 : decode cX4_init 7 = .ok (.newarray .byte, 2) := by decide +kernel
theorem dX4_init_9 : decode cX4_init 9 = .ok (.putfield 11, 3) := by decide +kernel
theorem dX4_init_12 : decode cX4_init 12 = .ok (.aload_n 0, 1) := by decide +kernel
theorem dX4_init_13 : decode cX4_init 13 = .ok (.bipush 19, 2) := by decide +kernel
theorem dX4_init_15 : decode cX4_init 15 = .ok (.newarray .byte, 2) := by decide +kernel
theorem dX4_init_17 : decode cX4_init 17 = .ok (.putfield 15, 3) := by decide +kernel
theorem dX4_init_20 : decode cX4_init 20 = .ok (.return_, 1) := by decide +kernel
theorem dX7_init_0 : decode cX7_init 0 = .ok (.aload_n 0, 1) := by decide +kernel
theorem dX7_init_1 : decode cX7_init 1 = .ok (.invokespecial 3, 3) := by decide +kernel
theorem dX7_init_4 : decode cX7_init 4 = .ok (.aload_n 0, 1) := by decide +kernel
theorem dX7_init_5 : decode cX7_init 5 = .ok (.bipush 8, 2) := by decide +kernel
theorem dX7_init_7 : decode cX7_init 7 = .ok (.newarray .int, 2) := by decide +kernel
theorem dX7_init_9 : decode cX7_init 9 = .ok (.putfield 9, 3) := by decide +kernel
theorem dX7_init_12 : decode cX7_init 12 = .ok (.aload_n 0, 1) := by decide +kernel
theorem dX7_init_13 : decode cX7_init 13 = .ok (.bipush 8, 2) := by decide +kernel
theorem dX7_init_15 : decode cX7_init 15 = .ok (.newarray .int, 2) := by decide +kernel
theorem dX7_init_17 : decode cX7_init 17 = .ok (.putfield 15, 3) := by decide +kernel
theorem dX7_init_20 : decode cX7_init 20 = .ok (.aload_n 0, 1) := by decide +kernel
theorem dX7_init_21 : decode cX7_init 21 = .ok (.bipush 8, 2) := by decide +kernel
theorem dX7_init_23 : decode cX7_init 23 = .ok (.newarray .int, 2) := by decide +kernel
theorem dX7_init_25 : decode cX7_init 25 = .ok (.putfield 18, 3) := by decide +kernel
theorem dX7_init_28 : decode cX7_init 28 = .ok (.return_, 1) := by decide +kernel
theorem dX8_init_0 : decode cX8_init 0 = .ok (.aload_n 0, 1) := by decide +kernel
theorem dX8_init_1 : decode cX8_init 1 = .ok (.invokespecial 3, 3) := by decide +kernel
theorem dX8_init_4 : decode cX8_init 4 = .ok (.aload_n 0, 1) := by decide +kernel
theorem dX8_init_5 : decode cX8_init 5 = .ok (.bipush 8, 2) := by decide +kernel
theorem dX8_init_7 : decode cX8_init 7 = .ok (.newarray .int, 2) := by decide +kernel
theorem dX8_init_9 : decode cX8_init 9 = .ok (.putfield 9, 3) := by decide +kernel
theorem dX8_init_12 : decode cX8_init 12 = .ok (.aload_n 0, 1) := by decide +kernel
theorem dX8_init_13 : decode cX8_init 13 = .ok (.bipush 8, 2) := by decide +kernel
theorem dX8_init_15 : decode cX8_init 15 = .ok (.newarray .int, 2) := by decide +kernel
theorem dX8_init_17 : decode cX8_init 17 = .ok (.putfield 15, 3) := by decide +kernel
theorem dX8_init_20 : decode cX8_init 20 = .ok (.return_, 1) := by decide +kernel
theorem dX9_init_0 : decode cX9_init 0 = .ok (.aload_n 0, 1) := by decide +kernel
theorem dX9_init_1 : decode cX9_init 1 = .ok (.invokespecial 3, 3) := by decide +kernel
theorem dX9_init_4 : decode cX9_init 4 = .ok (.aload_n 0, 1) := by decide +kernel
theorem dX9_init_5 : decode cX9_init 5 = .ok (.bipush 64, 2) := by decide +kernel
theorem dX9_init_7 : decode cX9_init 7 = .ok (.newarray .long, 2) := by decide +kernel
theorem dX9_init_9 : decode cX9_init 9 = .ok (.putfield 9, 3) := by decide +kernel
theorem dX9_init_12 : decode cX9_init 12 = .ok (.aload_n 0, 1) := by decide +kernel
theorem dX9_init_13 : decode cX9_init 13 = .ok (.bipush 64, 2) := by decide +kernel
theorem dX9_init_15 : decode cX9_init 15 = .ok (.newarray .long, 2) := by decide +kernel
theorem dX9_init_17 : decode cX9_init 17 = .ok (.putfield 15, 3) := by decide +kernel
theorem dX9_init_20 : decode cX9_init 20 = .ok (.aload_n 0, 1) := by decide +kernel
theorem dX9_init_21 : decode cX9_init 21 = .ok (.bipush 8, 2) := by decide +kernel
theorem dX9_init_23 : decode cX9_init 23 = .ok (.newarray .long, 2) := by decide +kernel
theorem dX9_init_25 : decode cX9_init 25 = .ok (.putfield 18, 3) := by decide +kernel
theorem dX9_init_28 : decode cX9_init 28 = .ok (.aload_n 0, 1) := by decide +kernel
theorem dX9_init_29 : decode cX9_init 29 = .ok (.bipush 8, 2) := by decide +kernel
theorem dX9_init_31 : decode cX9_init 31 = .ok (.newarray .long, 2) := by decide +kernel
theorem dX9_init_33 : decode cX9_init 33 = .ok (.putfield 21, 3) := by decide +kernel
theorem dX9_init_36 : decode cX9_init 36 = .ok (.aload_n 0, 1) := by decide +kernel
theorem dX9_init_37 : decode cX9_init 37 = .ok (.sipush 256, 3) := by decide +kernel
theorem dX9_init_40 : decode cX9_init 40 = .ok (.newarray .long, 2) := by decide +kernel
theorem dX9_init_42 : decode cX9_init 42 = .ok (.putfield 24, 3) := by decide +kernel
theorem dX9_init_45 : decode cX9_init 45 = .ok (.aload_n 0, 1) := by decide +kernel
theorem dX9_init_46 : decode cX9_init 46 = .ok (.bipush 16, 2) := by decide +kernel
theorem dX9_init_48 : decode cX9_init 48 = .ok (.newarray .int, 2) := by decide +kernel
theorem dX9_init_50 : decode cX9_init 50 = .ok (.putfield 27, 3) := by decide +kernel
theorem dX9_init_53 : decode cX9_init 53 = .ok (.aload_n 0, 1) := by decide +kernel
theorem dX9_init_54 : decode cX9_init 54 = .ok (.bipush 16, 2) := by decide +kernel
theorem dX9_init_56 : decode cX9_init 56 = .ok (.newarray .long, 2) := by decide +kernel
theorem dX9_init_58 : decode cX9_init 58 = .ok (.putfield 31, 3) := by decide +kernel
theorem dX9_init_61 : decode cX9_init 61 = .ok (.aload_n 0, 1) := by decide +kernel
theorem dX9_init_62 : decode cX9_init 62 = .ok (.bipush 16, 2) := by decide +kernel
theorem dX9_init_64 : decode cX9_init 64 = .ok (.newarray .int, 2) := by decide +kernel
theorem dX9_init_66 : decode cX9_init 66 = .ok (.putfield 34, 3) := by decide +kernel
theorem dX9_init_69 : decode cX9_init 69 = .ok (.aload_n 0, 1) := by decide +kernel
theorem dX9_init_70 : decode cX9_init 70 = .ok (.bipush 16, 2) := by decide +kernel
theorem dX9_init_72 : decode cX9_init 72 = .ok (.newarray .int, 2) := by decide +kernel
theorem dX9_init_74 : decode cX9_init 74 = .ok (.putfield 37, 3) := by decide +kernel
theorem dX9_init_77 : decode cX9_init 77 = .ok (.return_, 1) := by decide +kernel
end
section
set_option maxHeartbeats 4000000 in
set_option maxRecDepth 100000 in
/-- noParty on a new object -/
theorem c_noParty (l : Launch) (dC : Nat → ClassId) (dI : Nat → Nat → Nat) (h0 : Nat) (a0 : Nat) (a1 : Nat) (a2 : Nat) (a3 : Nat) (a4 : Nat) (a5 : Nat) (a6 : Nat) (a7 : Nat) (a8 : Nat) (a9 : Nat) (n0 : Nat) (b0 : Nat) (l0 : Nat) (l1 : Nat) (sz : Nat) (k : Int32) : Met l yX11_noParty (wT yX11_noParty cX11_noParty 2 (some .boolean)) ({ frames := 0, cells := 0, slots := 0, locals := 0 }) (pcW dC dI [.ref h0, .int k] sz [(h0, .inr (11, [.ref a0, .ref a1, .ref a2, .ref a3, .ref a4, .ref a5, .ref a6, .ref a7, .ref a8, .ref a9, .ref n0, .ref b0, .int (-1)])), (n0, .inr (3, [.ref l0, .ref l1, .int 0, .int 0]))] []) (vp_Si (fun r => r = 1)) 0 0 (fun _ => False) := by
  refine Met.ofW (cc := cX11_noParty) (maxL := 2) (ret := (some .boolean)) (by decide) rfl ?_
  intro p e s m args below meth c s₁ B hml hv
  obtain ⟨rfl, hsz, hP, hK, hD0⟩ := hv
  have hx := B.exec
  have hb := B.bytes
  have hr := B.returns
  have hT : ∀ w ∈ TB, w.before [.ref h0, .int k].toArray s = true := fun w h => atoms_spec (ws := wT yX11_noParty cX11_noParty 2 (some .boolean)) B.pre w (List.mem_cons_of_mem _ h)
  have hown : s.vm.findClass RX11 = some m.cls := findClass_of_methodNamed B.named
  have hlocks := B.notSynchronized
  subst hsz
  have hD := hD0
  have hP : va_P (dC, dI) vwCl [(h0, .inr (11, [.ref a0, .ref a1, .ref a2, .ref a3, .ref a4, .ref a5, .ref a6, .ref a7, .ref a8, .ref a9, .ref n0, .ref b0, .int (-1)])), (n0, .inr (3, [.ref l0, .ref l1, .int 0, .int 0]))] s.heap := hP
  have hl := lv_entry ([.ref h0, .int k]) (n := 2) (Nat.le_of_ble_eq_true rfl)
  rw [lg_entry_eq]
  generalize (lg_sl ([.ref h0, .int k]) ++ List.replicate (2 - (lg_sl ([.ref h0, .int k])).length) Slot.unset).toArray = ls at hl ⊢
  have hl : lv_has ls 2 [(0, .ref h0), (1, .int k)] := hl
  refine lv_iload_n hx hb dX11_noParty_0 rfl (lv_at hl 1 rfl) ?_
  refine lv_if_lt (tgt := 15) hx hb dX11_noParty_1 (by decide) (fun c_1 => ?_) (fun c_1 => ?_)
  · refine lv_iconst (v := 1) hx hb dX11_noParty_15 (by decide) ?_
    refine lv_goto (tgt := 20) hx hb dX11_noParty_16 (by decide) ?_
    exact W.zret (ty := .boolean) (v := 1) hx hb hr (by decide) (fun t ht hW => ⟨1, rfl, rfl, ht⟩) (fun q h => by cases h) dX11_noParty_20
  · refine lv_iload_n hx hb dX11_noParty_4 rfl (lv_at hl 1 rfl) ?_
    refine lv_aload_n hx hb dX11_noParty_5 rfl (lv_at hl 0 rfl) ?_
    refine va_get (D := (dC, dI)) (ci := 11) (v := .ref n0) (C := RX11) (T := TX11) (N := 13) hx hb hT iX11 hown hK hP 0 rfl rfl 10 (by decide) (hT _ w363) (fun _ h9 => h9) rfl dX11_noParty_6 ?_
    refine va_get (D := (dC, dI)) (ci := 3) (v := .int 0) (C := RX3) (T := TX3) (N := 4) hx hb hT iX3 hown hK hP 1 rfl rfl 2 (by decide) (hT _ w64) (fun _ h9 => h9) rfl dX11_noParty_9 ?_
    refine lv_icmp_lt (tgt := 19) hx hb dX11_noParty_12 (by decide) (fun h => absurd h c_1) (fun _ => ?_)
    refine lv_iconst (v := 1) hx hb dX11_noParty_15 (by decide) ?_
    refine lv_goto (tgt := 20) hx hb dX11_noParty_16 (by decide) ?_
    exact W.zret (ty := .boolean) (v := 1) hx hb hr (by decide) (fun t ht hW => ⟨1, rfl, rfl, ht⟩) (fun q h => by cases h) dX11_noParty_20

set_option maxHeartbeats 4000000 in
set_option maxRecDepth 100000 in
/-- noKind on a new object -/
theorem c_noKind (l : Launch) (dC : Nat → ClassId) (dI : Nat → Nat → Nat) (h0 : Nat) (a0 : Nat) (a1 : Nat) (a2 : Nat) (a3 : Nat) (a4 : Nat) (a5 : Nat) (a6 : Nat) (a7 : Nat) (a8 : Nat) (a9 : Nat) (n0 : Nat) (b0 : Nat) (l0 : Nat) (l1 : Nat) (sz : Nat) (k : Int32) : Met l yX11_noKind (wT yX11_noKind cX11_noKind 2 (some .boolean)) ({ frames := 0, cells := 0, slots := 0, locals := 0 }) (pcW dC dI [.ref h0, .int k] sz [(h0, .inr (11, [.ref a0, .ref a1, .ref a2, .ref a3, .ref a4, .ref a5, .ref a6, .ref a7, .ref a8, .ref a9, .ref n0, .ref b0, .int (-1)])), (n0, .inr (3, [.ref l0, .ref l1, .int 0, .int 0]))] []) (vp_Si (fun r => r = 1)) 0 0 (fun _ => False) := by
  refine Met.ofW (cc := cX11_noKind) (maxL := 2) (ret := (some .boolean)) (by decide) rfl ?_
  intro p e s m args below meth c s₁ B hml hv
  obtain ⟨rfl, hsz, hP, hK, hD0⟩ := hv
  have hx := B.exec
  have hb := B.bytes
  have hr := B.returns
  have hT : ∀ w ∈ TB, w.before [.ref h0, .int k].toArray s = true := fun w h => atoms_spec (ws := wT yX11_noKind cX11_noKind 2 (some .boolean)) B.pre w (List.mem_cons_of_mem _ h)
  have hown : s.vm.findClass RX11 = some m.cls := findClass_of_methodNamed B.named
  have hlocks := B.notSynchronized
  subst hsz
  have hD := hD0
  have hP : va_P (dC, dI) vwCl [(h0, .inr (11, [.ref a0, .ref a1, .ref a2, .ref a3, .ref a4, .ref a5, .ref a6, .ref a7, .ref a8, .ref a9, .ref n0, .ref b0, .int (-1)])), (n0, .inr (3, [.ref l0, .ref l1, .int 0, .int 0]))] s.heap := hP
  have hl := lv_entry ([.ref h0, .int k]) (n := 2) (Nat.le_of_ble_eq_true rfl)
  rw [lg_entry_eq]
  generalize (lg_sl ([.ref h0, .int k]) ++ List.replicate (2 - (lg_sl ([.ref h0, .int k])).length) Slot.unset).toArray = ls at hl ⊢
  have hl : lv_has ls 2 [(0, .ref h0), (1, .int k)] := hl
  refine lv_iload_n hx hb dX11_noKind_0 rfl (lv_at hl 1 rfl) ?_
  refine lv_if_lt (tgt := 15) hx hb dX11_noKind_1 (by decide) (fun c_1 => ?_) (fun c_1 => ?_)
  · refine lv_iconst (v := 1) hx hb dX11_noKind_15 (by decide) ?_
    refine lv_goto (tgt := 20) hx hb dX11_noKind_16 (by decide) ?_
    exact W.zret (ty := .boolean) (v := 1) hx hb hr (by decide) (fun t ht hW => ⟨1, rfl, rfl, ht⟩) (fun q h => by cases h) dX11_noKind_20
  · refine lv_iload_n hx hb dX11_noKind_4 rfl (lv_at hl 1 rfl) ?_
    refine lv_aload_n hx hb dX11_noKind_5 rfl (lv_at hl 0 rfl) ?_
    refine va_get (D := (dC, dI)) (ci := 11) (v := .ref n0) (C := RX11) (T := TX11) (N := 13) hx hb hT iX11 hown hK hP 0 rfl rfl 10 (by decide) (hT _ w363) (fun _ h9 => h9) rfl dX11_noKind_6 ?_
    refine va_get (D := (dC, dI)) (ci := 3) (v := .int 0) (C := RX3) (T := TX3) (N := 4) hx hb hT iX3 hown hK hP 1 rfl rfl 3 (by decide) (hT _ w67) (fun _ h9 => h9) rfl dX11_noKind_9 ?_
    refine lv_icmp_lt (tgt := 19) hx hb dX11_noKind_12 (by decide) (fun h => absurd h c_1) (fun _ => ?_)
    refine lv_iconst (v := 1) hx hb dX11_noKind_15 (by decide) ?_
    refine lv_goto (tgt := 20) hx hb dX11_noKind_16 (by decide) ?_
    exact W.zret (ty := .boolean) (v := 1) hx hb hr (by decide) (fun t ht hW => ⟨1, rfl, rfl, ht⟩) (fun q h => by cases h) dX11_noKind_20

set_option maxHeartbeats 4000000 in
set_option maxRecDepth 100000 in
/-- noTrade on a new object -/
theorem c_noTrade (l : Launch) (dC : Nat → ClassId) (dI : Nat → Nat → Nat) (h0 : Nat) (a0 : Nat) (a1 : Nat) (a2 : Nat) (a3 : Nat) (a4 : Nat) (a5 : Nat) (a6 : Nat) (a7 : Nat) (a8 : Nat) (a9 : Nat) (n0 : Nat) (b0 : Nat) (e0 : Nat) (e1 : Nat) (e2 : Nat) (e3 : Nat) (e4 : Nat) (e5 : Nat) (sz : Nat) (k : Int32) : Met l yX11_noTrade (wT yX11_noTrade cX11_noTrade 2 (some .boolean)) ({ frames := 0, cells := 0, slots := 0, locals := 0 }) (pcW dC dI [.ref h0, .int k] sz [(h0, .inr (11, [.ref a0, .ref a1, .ref a2, .ref a3, .ref a4, .ref a5, .ref a6, .ref a7, .ref a8, .ref a9, .ref n0, .ref b0, .int (-1)])), (b0, .inr (0, [.ref e0, .ref e1, .ref e2, .ref e3, .ref e4, .ref e5, .int 0, .int 0]))] []) (vp_Si (fun r => r = 1)) 0 0 (fun _ => False) := by
  refine Met.ofW (cc := cX11_noTrade) (maxL := 2) (ret := (some .boolean)) (by decide) rfl ?_
  intro p e s m args below meth c s₁ B hml hv
  obtain ⟨rfl, hsz, hP, hK, hD0⟩ := hv
  have hx := B.exec
  have hb := B.bytes
  have hr := B.returns
  have hT : ∀ w ∈ TB, w.before [.ref h0, .int k].toArray s = true := fun w h => atoms_spec (ws := wT yX11_noTrade cX11_noTrade 2 (some .boolean)) B.pre w (List.mem_cons_of_mem _ h)
  have hown : s.vm.findClass RX11 = some m.cls := findClass_of_methodNamed B.named
  have hlocks := B.notSynchronized
  subst hsz
  have hD := hD0
  have hP : va_P (dC, dI) vwCl [(h0, .inr (11, [.ref a0, .ref a1, .ref a2, .ref a3, .ref a4, .ref a5, .ref a6, .ref a7, .ref a8, .ref a9, .ref n0, .ref b0, .int (-1)])), (b0, .inr (0, [.ref e0, .ref e1, .ref e2, .ref e3, .ref e4, .ref e5, .int 0, .int 0]))] s.heap := hP
  have hl := lv_entry ([.ref h0, .int k]) (n := 2) (Nat.le_of_ble_eq_true rfl)
  rw [lg_entry_eq]
  generalize (lg_sl ([.ref h0, .int k]) ++ List.replicate (2 - (lg_sl ([.ref h0, .int k])).length) Slot.unset).toArray = ls at hl ⊢
  have hl : lv_has ls 2 [(0, .ref h0), (1, .int k)] := hl
  refine lv_iload_n hx hb dX11_noTrade_0 rfl (lv_at hl 1 rfl) ?_
  refine lv_if_lt (tgt := 15) hx hb dX11_noTrade_1 (by decide) (fun c_1 => ?_) (fun c_1 => ?_)
  · refine lv_iconst (v := 1) hx hb dX11_noTrade_15 (by decide) ?_
    refine lv_goto (tgt := 20) hx hb dX11_noTrade_16 (by decide) ?_
    exact W.zret (ty := .boolean) (v := 1) hx hb hr (by decide) (fun t ht hW => ⟨1, rfl, rfl, ht⟩) (fun q h => by cases h) dX11_noTrade_20
  · refine lv_iload_n hx hb dX11_noTrade_4 rfl (lv_at hl 1 rfl) ?_
    refine lv_aload_n hx hb dX11_noTrade_5 rfl (lv_at hl 0 rfl) ?_
    refine va_get (D := (dC, dI)) (ci := 11) (v := .ref b0) (C := RX11) (T := TX11) (N := 13) hx hb hT iX11 hown hK hP 0 rfl rfl 11 (by decide) (hT _ w364) (fun _ h9 => h9) rfl dX11_noTrade_6 ?_
    refine va_get (D := (dC, dI)) (ci := 0) (v := .int 0) (C := RX0) (T := TX0) (N := 8) hx hb hT iX0 hown hK hP 1 rfl rfl 6 (by decide) (hT _ w114) (fun _ h9 => h9) rfl dX11_noTrade_9 ?_
    refine lv_icmp_lt (tgt := 19) hx hb dX11_noTrade_12 (by decide) (fun h => absurd h c_1) (fun _ => ?_)
    refine lv_iconst (v := 1) hx hb dX11_noTrade_15 (by decide) ?_
    refine lv_goto (tgt := 20) hx hb dX11_noTrade_16 (by decide) ?_
    exact W.zret (ty := .boolean) (v := 1) hx hb hr (by decide) (fun t ht hW => ⟨1, rfl, rfl, ht⟩) (fun q h => by cases h) dX11_noTrade_20

set_option maxHeartbeats 4000000 in
set_option maxRecDepth 100000 in
theorem c_noCouple (l : Launch) (dC : Nat → ClassId) (dI : Nat → Nat → Nat) (h0 : Nat) (a0 : Nat) (a1 : Nat) (a2 : Nat) (a3 : Nat) (a4 : Nat) (a5 : Nat) (a6 : Nat) (a7 : Nat) (a8 : Nat) (a9 : Nat) (n0 : Nat) (b0 : Nat) (l0 : Nat) (l1 : Nat) (sz : Nat) (k : Int32) (k2 : Int32) : Met l yX11_noCouple (wT yX11_noCouple cX11_noCouple 3 (some .boolean)) ({ frames := 1, cells := 0, slots := 0, locals := 21 }) (pcW dC dI [.ref h0, .int k, .int k2] sz [(h0, .inr (11, [.ref a0, .ref a1, .ref a2, .ref a3, .ref a4, .ref a5, .ref a6, .ref a7, .ref a8, .ref a9, .ref n0, .ref b0, .int (-1)])), (n0, .inr (3, [.ref l0, .ref l1, .int 0, .int 0]))] []) (vp_Si (fun r => r = 1)) 0 0 (fun _ => False) := by
  refine Met.ofW (cc := cX11_noCouple) (maxL := 3) (ret := (some .boolean)) (by decide) rfl ?_
  intro p e s m args below meth c s₁ B hml hv
  obtain ⟨rfl, hsz, hP, hK, hD0⟩ := hv
  have hx := B.exec
  have hb := B.bytes
  have hr := B.returns
  have hT : ∀ w ∈ TB, w.before [.ref h0, .int k, .int k2].toArray s = true := fun w h => atoms_spec (ws := wT yX11_noCouple cX11_noCouple 3 (some .boolean)) B.pre w (List.mem_cons_of_mem _ h)
  have hown : s.vm.findClass RX11 = some m.cls := findClass_of_methodNamed B.named
  have hlocks := B.notSynchronized
  subst hsz
  have hD := hD0
  have hP : va_P (dC, dI) vwCl [(h0, .inr (11, [.ref a0, .ref a1, .ref a2, .ref a3, .ref a4, .ref a5, .ref a6, .ref a7, .ref a8, .ref a9, .ref n0, .ref b0, .int (-1)])), (n0, .inr (3, [.ref l0, .ref l1, .int 0, .int 0]))] s.heap := hP
  have hl := lv_entry ([.ref h0, .int k, .int k2]) (n := 3) (Nat.le_of_ble_eq_true rfl)
  rw [lg_entry_eq]
  generalize (lg_sl ([.ref h0, .int k, .int k2]) ++ List.replicate (3 - (lg_sl ([.ref h0, .int k, .int k2])).length) Slot.unset).toArray = ls at hl ⊢
  have hl : lv_has ls 3 [(0, .ref h0), (1, .int k), (2, .int k2)] := hl
  refine lv_aload_n hx hb dX11_noCouple_0 rfl (lv_at hl 0 rfl) ?_
  refine lv_iload_n hx hb dX11_noCouple_1 rfl (lv_at hl 1 rfl) ?_
  have hPc := hP.sub (ws' := [(h0, .inr (11, [.ref a0, .ref a1, .ref a2, .ref a3, .ref a4, .ref a5, .ref a6, .ref a7, .ref a8, .ref a9, .ref n0, .ref b0, .int (-1)])), (n0, .inr (3, [.ref l0, .ref l1, .int 0, .int 0]))]) [0, 1] rfl
  have hDc := hD.sub (ws' := [(h0, .inr (11, [.ref a0, .ref a1, .ref a2, .ref a3, .ref a4, .ref a5, .ref a6, .ref a7, .ref a8, .ref a9, .ref n0, .ref b0, .int (-1)])), (n0, .inr (3, [.ref l0, .ref l1, .int 0, .int 0]))]) [0, 1] (by decide) rfl
  have hKc := hK.sub (tys' := []) [] rfl
  refine vp_callSi (va_Run.run (va_runV (As := [.int k]) (rest := []) ⟨hx, hb, hml, hown, hT⟩ (c_noParty l dC dI h0 a0 a1 a2 a3 a4 a5 a6 a7 a8 a9 n0 b0 l0 l1 s.heap.size k) (cwV 1 hT (gV w602 w604 ws23 w1 w605) rfl rfl rfl (by decide +kernel) ⟨(Nat.le_of_ble_eq_true rfl), (Nat.le_of_ble_eq_true rfl)⟩) ⟨pcW.blind, va_recv hKc hPc (ci := 11) (q0 := 0) rfl rfl, pcW.pre hPc hKc hDc⟩ rfl rfl hl.1 rfl (lv_room (Nat.le_of_ble_eq_true rfl)) dX11_noCouple_2 ⟨(Nat.le_of_ble_eq_true rfl), (Nat.le_of_ble_eq_true rfl)⟩)) (fun r_2 hr_2 => ?_)
  obtain rfl : r_2 = 1 := hr_2
  refine lv_if_ne (tgt := 21) hx hb dX11_noCouple_5 (by decide) (fun _ => ?_) (fun h => absurd h (by decide))
  refine lv_iconst (v := 1) hx hb dX11_noCouple_21 (by decide) ?_
  refine lv_goto (tgt := 26) hx hb dX11_noCouple_22 (by decide) ?_
  exact W.zret (ty := .boolean) (v := 1) hx hb hr (by decide) (fun t ht hW => ⟨1, rfl, rfl, ht⟩) (fun q h => by cases h) dX11_noCouple_26

set_option maxHeartbeats 4000000 in
set_option maxRecDepth 100000 in
theorem m_isIn (l : Launch) (dC : Nat → ClassId) (dI : Nat → Nat → Nat) (sz : Nat) (v : Int64) (lo : Int64) (hi : Int64) : Met l yX12_isIn (wT yX12_isIn cX12_isIn 6 (some .boolean)) ({ frames := 0, cells := 0, slots := 0, locals := 0 }) (pcW dC dI [.long v, .long lo, .long hi] sz [] []) (vp_Si (fun r => r = (if lo ≤ v ∧ v ≤ hi then 1 else 0))) 0 0 (fun _ => False) := by
  refine Met.ofW (cc := cX12_isIn) (maxL := 6) (ret := (some .boolean)) (by decide) rfl ?_
  intro p e s m args below meth c s₁ B hml hv
  obtain ⟨rfl, hsz, hP, hK, hD0⟩ := hv
  have hx := B.exec
  have hb := B.bytes
  have hr := B.returns
  have hT : ∀ w ∈ TB, w.before [.long v, .long lo, .long hi].toArray s = true := fun w h => atoms_spec (ws := wT yX12_isIn cX12_isIn 6 (some .boolean)) B.pre w (List.mem_cons_of_mem _ h)
  have hown : s.vm.findClass RX12 = some m.cls := findClass_of_methodNamed B.named
  have hlocks := B.notSynchronized
  subst hsz
  have hD := hD0
  have hP : va_P (dC, dI) vwCl [] s.heap := hP
  have hl := lv_entry ([.long v, .long lo, .long hi]) (n := 6) (Nat.le_of_ble_eq_true rfl)
  rw [lg_entry_eq]
  generalize (lg_sl ([.long v, .long lo, .long hi]) ++ List.replicate (6 - (lg_sl ([.long v, .long lo, .long hi])).length) Slot.unset).toArray = ls at hl ⊢
  have hl : lv_has ls 6 [(0, .long v), (2, .long lo), (4, .long hi)] := hl
  refine lv_lload_n hx hb dX12_isIn_0 rfl (lv_at hl 0 rfl) ?_
  refine lv_lload_n hx hb dX12_isIn_1 rfl (lv_at hl 1 rfl) ?_
  refine W.lcmp hx hb dX12_isIn_2 ?_
  refine lv_if_lt (tgt := 17) hx hb dX12_isIn_3 (by decide) (fun c_3 => ?_) (fun c_3 => ?_)
  · refine lv_iconst (v := 0) hx hb dX12_isIn_17 (by decide) ?_
    exact W.zret (ty := .boolean) (v := 0) hx hb hr (by decide) (fun t ht hW => ⟨0, rfl, (isIn_a c_3), ht⟩) (fun q h => by cases h) dX12_isIn_18
  · refine lv_lload_n hx hb dX12_isIn_6 rfl (lv_at hl 0 rfl) ?_
    refine lv_lload hx hb dX12_isIn_7 (lv_at hl 2 rfl) ?_
    refine W.lcmp hx hb dX12_isIn_9 ?_
    refine lv_if_gt (tgt := 17) hx hb dX12_isIn_10 (by decide) (fun c_10 => ?_) (fun c_10 => ?_)
    · refine lv_iconst (v := 0) hx hb dX12_isIn_17 (by decide) ?_
      exact W.zret (ty := .boolean) (v := 0) hx hb hr (by decide) (fun t ht hW => ⟨0, rfl, (isIn_b c_10), ht⟩) (fun q h => by cases h) dX12_isIn_18
    · refine lv_iconst (v := 1) hx hb dX12_isIn_13 (by decide) ?_
      refine lv_goto (tgt := 18) hx hb dX12_isIn_14 (by decide) ?_
      exact W.zret (ty := .boolean) (v := 1) hx hb hr (by decide) (fun t ht hW => ⟨1, rfl, (isIn_1 c_3 c_10), ht⟩) (fun q h => by cases h) dX12_isIn_18

set_option maxHeartbeats 4000000 in
set_option maxRecDepth 100000 in
theorem m_isParty (l : Launch) (dC : Nat → ClassId) (dI : Nat → Nat → Nat) (m0 : Nat) (g0 : Nat) (g1 : Nat) (g2 : Nat) (g3 : Nat) (g4 : Nat) (g9 : Nat) (g17 : Nat) (g18 : Nat) (g20 : Nat) (g21 : Nat) (g22 : Nat) (g23 : Nat) (g24 : Nat) (g25 : Nat) (g26 : Nat) (g27 : Nat) (g28 : Nat) (g29 : Nat) (g30 : Nat) (sz : Nat) (k : Int32) : Met l yX12_isParty (wT yX12_isParty cX12_isParty 2 (some .boolean)) ({ frames := 1, cells := 0, slots := 0, locals := 25 }) (pcW dC dI [.ref m0, .int k] sz [(m0, .inr (12, [.ref g0, .ref g1, .ref g2, .ref g3, .ref g4, .int 0, .int 0, .int 0, .int 0, .ref g9, .int 0, .int 0, .int 0, .int 0, .int (-1), .int 0, .int 0, .ref g17, .ref g18, .int 0, .ref g20, .ref g21, .ref g22, .ref g23, .ref g24, .ref g25, .ref g26, .ref g27, .ref g28, .ref g29, .ref g30, .int 0]))] []) (vp_Si (fun r => r = 0)) 0 0 (fun _ => False) := by
  refine Met.ofW (cc := cX12_isParty) (maxL := 2) (ret := (some .boolean)) (by decide) rfl ?_
  intro p e s m args below meth c s₁ B hml hv
  obtain ⟨rfl, hsz, hP, hK, hD0⟩ := hv
  have hx := B.exec
  have hb := B.bytes
  have hr := B.returns
  have hT : ∀ w ∈ TB, w.before [.ref m0, .int k].toArray s = true := fun w h => atoms_spec (ws := wT yX12_isParty cX12_isParty 2 (some .boolean)) B.pre w (List.mem_cons_of_mem _ h)
  have hown : s.vm.findClass RX12 = some m.cls := findClass_of_methodNamed B.named
  have hlocks := B.notSynchronized
  subst hsz
  have hD := hD0
  have hP : va_P (dC, dI) vwCl [(m0, .inr (12, [.ref g0, .ref g1, .ref g2, .ref g3, .ref g4, .int 0, .int 0, .int 0, .int 0, .ref g9, .int 0, .int 0, .int 0, .int 0, .int (-1), .int 0, .int 0, .ref g17, .ref g18, .int 0, .ref g20, .ref g21, .ref g22, .ref g23, .ref g24, .ref g25, .ref g26, .ref g27, .ref g28, .ref g29, .ref g30, .int 0]))] s.heap := hP
  have hl := lv_entry ([.ref m0, .int k]) (n := 2) (Nat.le_of_ble_eq_true rfl)
  rw [lg_entry_eq]
  generalize (lg_sl ([.ref m0, .int k]) ++ List.replicate (2 - (lg_sl ([.ref m0, .int k])).length) Slot.unset).toArray = ls at hl ⊢
  have hl : lv_has ls 2 [(0, .ref m0), (1, .int k)] := hl
  refine lv_iload_n hx hb dX12_isParty_0 rfl (lv_at hl 1 rfl) ?_
  refine lv_i2l hx hb dX12_isParty_1 rfl ?_
  refine lv_topl (fun z_1 ez_1 => ?_)
  refine lv_lconst (v := 0) hx hb dX12_isParty_2 (by decide) ?_
  refine lv_aload_n hx hb dX12_isParty_3 rfl (lv_at hl 0 rfl) ?_
  refine va_get (D := (dC, dI)) (ci := 12) (v := .int 0) (C := RX12) (T := TX12) (N := 32) hx hb hT iX12 hown hK hP 0 rfl rfl 5 (by decide) (hT _ w1087) (fun _ h9 => h9) rfl dX12_isParty_4 ?_
  refine lv_iconst (v := 1) hx hb dX12_isParty_7 (by decide) ?_
  refine lv_isub hx hb dX12_isParty_8 ?_
  refine lv_topi (fun z_2 ez_2 => ?_)
  obtain rfl : z_2 = (-1) := ez_2.trans (by decide)
  refine lv_i2l (v := (-1)) hx hb dX12_isParty_9 (by decide) ?_
  have hPc := hP.sub (ws' := []) [] rfl
  have hDc := hD.sub (ws' := []) [] (by decide) rfl
  have hKc := hK.sub (tys' := []) [] rfl
  refine vp_callSi (va_Run.run (va_runS (As := [.long z_1, .long 0, .long (-1)]) (rest := []) ⟨hx, hb, hml, hown, hT⟩ (m_isIn l dC dI s.heap.size z_1 0 (-1)) (va_cwS 3 hT (gS w1187 w1188 w14 w1189) rfl rfl rfl (by decide +kernel) ⟨(Nat.le_of_ble_eq_true rfl), (Nat.le_of_ble_eq_true rfl)⟩) ⟨pcW.blind, pcW.pre hPc hKc hDc⟩ rfl rfl hl.1 rfl (lv_room (Nat.le_of_ble_eq_true rfl)) dX12_isParty_10 ⟨(Nat.le_of_ble_eq_true rfl), (Nat.le_of_ble_eq_true rfl)⟩)) (fun r_10 hr_10 => ?_)
  obtain rfl : r_10 = 0 := hr_10.trans (isIn_0 _)
  exact W.zret (ty := .boolean) (v := 0) hx hb hr (by decide) (fun t ht hW => ⟨0, rfl, rfl, ht⟩) (fun q h => by cases h) dX12_isParty_13

set_option maxHeartbeats 4000000 in
set_option maxRecDepth 100000 in
theorem m_isKind (l : Launch) (dC : Nat → ClassId) (dI : Nat → Nat → Nat) (m0 : Nat) (g0 : Nat) (g1 : Nat) (g2 : Nat) (g3 : Nat) (g4 : Nat) (g9 : Nat) (g17 : Nat) (g18 : Nat) (g20 : Nat) (g21 : Nat) (g22 : Nat) (g23 : Nat) (g24 : Nat) (g25 : Nat) (g26 : Nat) (g27 : Nat) (g28 : Nat) (g29 : Nat) (g30 : Nat) (sz : Nat) (k : Int32) : Met l yX12_isKind (wT yX12_isKind cX12_isKind 2 (some .boolean)) ({ frames := 1, cells := 0, slots := 0, locals := 25 }) (pcW dC dI [.ref m0, .int k] sz [(m0, .inr (12, [.ref g0, .ref g1, .ref g2, .ref g3, .ref g4, .int 0, .int 0, .int 0, .int 0, .ref g9, .int 0, .int 0, .int 0, .int 0, .int (-1), .int 0, .int 0, .ref g17, .ref g18, .int 0, .ref g20, .ref g21, .ref g22, .ref g23, .ref g24, .ref g25, .ref g26, .ref g27, .ref g28, .ref g29, .ref g30, .int 0]))] []) (vp_Si (fun r => r = 0)) 0 0 (fun _ => False) := by
  refine Met.ofW (cc := cX12_isKind) (maxL := 2) (ret := (some .boolean)) (by decide) rfl ?_
  intro p e s m args below meth c s₁ B hml hv
  obtain ⟨rfl, hsz, hP, hK, hD0⟩ := hv
  have hx := B.exec
  have hb := B.bytes
  have hr := B.returns
  have hT : ∀ w ∈ TB, w.before [.ref m0, .int k].toArray s = true := fun w h => atoms_spec (ws := wT yX12_isKind cX12_isKind 2 (some .boolean)) B.pre w (List.mem_cons_of_mem _ h)
  have hown : s.vm.findClass RX12 = some m.cls := findClass_of_methodNamed B.named
  have hlocks := B.notSynchronized
  subst hsz
  have hD := hD0
  have hP : va_P (dC, dI) vwCl [(m0, .inr (12, [.ref g0, .ref g1, .ref g2, .ref g3, .ref g4, .int 0, .int 0, .int 0, .int 0, .ref g9, .int 0, .int 0, .int 0, .int 0, .int (-1), .int 0, .int 0, .ref g17, .ref g18, .int 0, .ref g20, .ref g21, .ref g22, .ref g23, .ref g24, .ref g25, .ref g26, .ref g27, .ref g28, .ref g29, .ref g30, .int 0]))] s.heap := hP
  have hl := lv_entry ([.ref m0, .int k]) (n := 2) (Nat.le_of_ble_eq_true rfl)
  rw [lg_entry_eq]
  generalize (lg_sl ([.ref m0, .int k]) ++ List.replicate (2 - (lg_sl ([.ref m0, .int k])).length) Slot.unset).toArray = ls at hl ⊢
  have hl : lv_has ls 2 [(0, .ref m0), (1, .int k)] := hl
  refine lv_iload_n hx hb dX12_isKind_0 rfl (lv_at hl 1 rfl) ?_
  refine lv_i2l hx hb dX12_isKind_1 rfl ?_
  refine lv_topl (fun z_1 ez_1 => ?_)
  refine lv_lconst (v := 0) hx hb dX12_isKind_2 (by decide) ?_
  refine lv_aload_n hx hb dX12_isKind_3 rfl (lv_at hl 0 rfl) ?_
  refine va_get (D := (dC, dI)) (ci := 12) (v := .int 0) (C := RX12) (T := TX12) (N := 32) hx hb hT iX12 hown hK hP 0 rfl rfl 6 (by decide) (hT _ w1088) (fun _ h9 => h9) rfl dX12_isKind_4 ?_
  refine lv_iconst (v := 1) hx hb dX12_isKind_7 (by decide) ?_
  refine lv_isub hx hb dX12_isKind_8 ?_
  refine lv_topi (fun z_2 ez_2 => ?_)
  obtain rfl : z_2 = (-1) := ez_2.trans (by decide)
  refine lv_i2l (v := (-1)) hx hb dX12_isKind_9 (by decide) ?_
  have hPc := hP.sub (ws' := []) [] rfl
  have hDc := hD.sub (ws' := []) [] (by decide) rfl
  have hKc := hK.sub (tys' := []) [] rfl
  refine vp_callSi (va_Run.run (va_runS (As := [.long z_1, .long 0, .long (-1)]) (rest := []) ⟨hx, hb, hml, hown, hT⟩ (m_isIn l dC dI s.heap.size z_1 0 (-1)) (va_cwS 3 hT (gS w1187 w1188 w14 w1189) rfl rfl rfl (by decide +kernel) ⟨(Nat.le_of_ble_eq_true rfl), (Nat.le_of_ble_eq_true rfl)⟩) ⟨pcW.blind, pcW.pre hPc hKc hDc⟩ rfl rfl hl.1 rfl (lv_room (Nat.le_of_ble_eq_true rfl)) dX12_isKind_10 ⟨(Nat.le_of_ble_eq_true rfl), (Nat.le_of_ble_eq_true rfl)⟩)) (fun r_10 hr_10 => ?_)
  obtain rfl : r_10 = 0 := hr_10.trans (isIn_0 _)
  exact W.zret (ty := .boolean) (v := 0) hx hb hr (by decide) (fun t ht hW => ⟨0, rfl, rfl, ht⟩) (fun q h => by cases h) dX12_isKind_13

set_option maxHeartbeats 4000000 in
set_option maxRecDepth 100000 in
theorem m_isTrade (l : Launch) (dC : Nat → ClassId) (dI : Nat → Nat → Nat) (m0 : Nat) (g0 : Nat) (g1 : Nat) (g2 : Nat) (g3 : Nat) (g4 : Nat) (g9 : Nat) (g17 : Nat) (g18 : Nat) (g20 : Nat) (g21 : Nat) (g22 : Nat) (g23 : Nat) (g24 : Nat) (g25 : Nat) (g26 : Nat) (g27 : Nat) (g28 : Nat) (g29 : Nat) (g30 : Nat) (cS : ClassId) (f : Nat → Int32) (sz : Nat) (k : Int32) (hf0 : f 0 = 0) : Met l yX12_isTrade (wT yX12_isTrade cX12_isTrade 2 (some .boolean)) ({ frames := 1, cells := 0, slots := 0, locals := 25 }) (pcW dC dI [.ref m0, .int k] sz [(m0, .inr (12, [.ref g0, .ref g1, .ref g2, .ref g3, .ref g4, .int 0, .int 0, .int 0, .int 0, .ref g9, .int 0, .int 0, .int 0, .int 0, .int (-1), .int 0, .int 0, .ref g17, .ref g18, .int 0, .ref g20, .ref g21, .ref g22, .ref g23, .ref g24, .ref g25, .ref g26, .ref g27, .ref g28, .ref g29, .ref g30, .int 0])), (g0, .inl (cS, 266, .inl f))] [(cS, .int)]) (vp_Si (fun r => r = 0)) 0 0 (fun _ => False) := by
  refine Met.ofW (cc := cX12_isTrade) (maxL := 2) (ret := (some .boolean)) (by decide) rfl ?_
  intro p e s m args below meth c s₁ B hml hv
  obtain ⟨rfl, hsz, hP, hK, hD0⟩ := hv
  have hx := B.exec
  have hb := B.bytes
  have hr := B.returns
  have hT : ∀ w ∈ TB, w.before [.ref m0, .int k].toArray s = true := fun w h => atoms_spec (ws := wT yX12_isTrade cX12_isTrade 2 (some .boolean)) B.pre w (List.mem_cons_of_mem _ h)
  have hown : s.vm.findClass RX12 = some m.cls := findClass_of_methodNamed B.named
  have hlocks := B.notSynchronized
  subst hsz
  have hD := hD0
  have hP : va_P (dC, dI) vwCl [(m0, .inr (12, [.ref g0, .ref g1, .ref g2, .ref g3, .ref g4, .int 0, .int 0, .int 0, .int 0, .ref g9, .int 0, .int 0, .int 0, .int 0, .int (-1), .int 0, .int 0, .ref g17, .ref g18, .int 0, .ref g20, .ref g21, .ref g22, .ref g23, .ref g24, .ref g25, .ref g26, .ref g27, .ref g28, .ref g29, .ref g30, .int 0])), (g0, .inl (cS, 266, .inl f))] s.heap := hP
  have hl := lv_entry ([.ref m0, .int k]) (n := 2) (Nat.le_of_ble_eq_true rfl)
  rw [lg_entry_eq]
  generalize (lg_sl ([.ref m0, .int k]) ++ List.replicate (2 - (lg_sl ([.ref m0, .int k])).length) Slot.unset).toArray = ls at hl ⊢
  have hl : lv_has ls 2 [(0, .ref m0), (1, .int k)] := hl
  refine lv_iload_n hx hb dX12_isTrade_0 rfl (lv_at hl 1 rfl) ?_
  refine lv_i2l hx hb dX12_isTrade_1 rfl ?_
  refine lv_topl (fun z_1 ez_1 => ?_)
  refine lv_lconst (v := 0) hx hb dX12_isTrade_2 (by decide) ?_
  refine lv_aload_n hx hb dX12_isTrade_3 rfl (lv_at hl 0 rfl) ?_
  refine va_get (D := (dC, dI)) (ci := 12) (v := .ref g0) (C := RX12) (T := TX12) (N := 32) hx hb hT iX12 hown hK hP 0 rfl rfl 0 (by decide) (hT _ w1082) (fun _ h9 => h9) rfl dX12_isTrade_4 ?_
  refine lv_iconst (v := 0) hx hb dX12_isTrade_7 (by decide) ?_
  refine va_iald hx hb hK hP 1 0 rfl rfl (by unfold vp_in; decide) dX12_isTrade_8 ?_
  refine lv_topi (fun x_2 ex_2 => ?_)
  obtain rfl : x_2 = 0 := ex_2.trans hf0
  refine lv_iconst (v := 1) hx hb dX12_isTrade_9 (by decide) ?_
  refine lv_isub hx hb dX12_isTrade_10 ?_
  refine lv_topi (fun z_3 ez_3 => ?_)
  obtain rfl : z_3 = (-1) := ez_3.trans (by decide)
  refine lv_i2l (v := (-1)) hx hb dX12_isTrade_11 (by decide) ?_
  have hPc := hP.sub (ws' := []) [] rfl
  have hDc := hD.sub (ws' := []) [] (by decide) rfl
  have hKc := hK.sub (tys' := []) [] rfl
  refine vp_callSi (va_Run.run (va_runS (As := [.long z_1, .long 0, .long (-1)]) (rest := []) ⟨hx, hb, hml, hown, hT⟩ (m_isIn l dC dI s.heap.size z_1 0 (-1)) (va_cwS 3 hT (gS w1187 w1188 w14 w1189) rfl rfl rfl (by decide +kernel) ⟨(Nat.le_of_ble_eq_true rfl), (Nat.le_of_ble_eq_true rfl)⟩) ⟨pcW.blind, pcW.pre hPc hKc hDc⟩ rfl rfl hl.1 rfl (lv_room (Nat.le_of_ble_eq_true rfl)) dX12_isTrade_12 ⟨(Nat.le_of_ble_eq_true rfl), (Nat.le_of_ble_eq_true rfl)⟩)) (fun r_12 hr_12 => ?_)
  obtain rfl : r_12 = 0 := hr_12.trans (isIn_0 _)
  exact W.zret (ty := .boolean) (v := 0) hx hb hr (by decide) (fun t ht hW => ⟨0, rfl, rfl, ht⟩) (fun q h => by cases h) dX12_isTrade_15

set_option maxHeartbeats 4000000 in
set_option maxRecDepth 100000 in
theorem m_areTwo (l : Launch) (dC : Nat → ClassId) (dI : Nat → Nat → Nat) (m0 : Nat) (g0 : Nat) (g1 : Nat) (g2 : Nat) (g3 : Nat) (g4 : Nat) (g9 : Nat) (g17 : Nat) (g18 : Nat) (g20 : Nat) (g21 : Nat) (g22 : Nat) (g23 : Nat) (g24 : Nat) (g25 : Nat) (g26 : Nat) (g27 : Nat) (g28 : Nat) (g29 : Nat) (g30 : Nat) (sz : Nat) (k : Int32) (k2 : Int32) : Met l yX12_areTwo (wT yX12_areTwo cX12_areTwo 3 (some .boolean)) ({ frames := 2, cells := 0, slots := 0, locals := 46 }) (pcW dC dI [.ref m0, .int k, .int k2] sz [(m0, .inr (12, [.ref g0, .ref g1, .ref g2, .ref g3, .ref g4, .int 0, .int 0, .int 0, .int 0, .ref g9, .int 0, .int 0, .int 0, .int 0, .int (-1), .int 0, .int 0, .ref g17, .ref g18, .int 0, .ref g20, .ref g21, .ref g22, .ref g23, .ref g24, .ref g25, .ref g26, .ref g27, .ref g28, .ref g29, .ref g30, .int 0]))] []) (vp_Si (fun r => r = 0)) 0 0 (fun _ => False) := by
  refine Met.ofW (cc := cX12_areTwo) (maxL := 3) (ret := (some .boolean)) (by decide) rfl ?_
  intro p e s m args below meth c s₁ B hml hv
  obtain ⟨rfl, hsz, hP, hK, hD0⟩ := hv
  have hx := B.exec
  have hb := B.bytes
  have hr := B.returns
  have hT : ∀ w ∈ TB, w.before [.ref m0, .int k, .int k2].toArray s = true := fun w h => atoms_spec (ws := wT yX12_areTwo cX12_areTwo 3 (some .boolean)) B.pre w (List.mem_cons_of_mem _ h)
  have hown : s.vm.findClass RX12 = some m.cls := findClass_of_methodNamed B.named
  have hlocks := B.notSynchronized
  subst hsz
  have hD := hD0
  have hP : va_P (dC, dI) vwCl [(m0, .inr (12, [.ref g0, .ref g1, .ref g2, .ref g3, .ref g4, .int 0, .int 0, .int 0, .int 0, .ref g9, .int 0, .int 0, .int 0, .int 0, .int (-1), .int 0, .int 0, .ref g17, .ref g18, .int 0, .ref g20, .ref g21, .ref g22, .ref g23, .ref g24, .ref g25, .ref g26, .ref g27, .ref g28, .ref g29, .ref g30, .int 0]))] s.heap := hP
  have hl := lv_entry ([.ref m0, .int k, .int k2]) (n := 3) (Nat.le_of_ble_eq_true rfl)
  rw [lg_entry_eq]
  generalize (lg_sl ([.ref m0, .int k, .int k2]) ++ List.replicate (3 - (lg_sl ([.ref m0, .int k, .int k2])).length) Slot.unset).toArray = ls at hl ⊢
  have hl : lv_has ls 3 [(0, .ref m0), (1, .int k), (2, .int k2)] := hl
  refine lv_aload_n hx hb dX12_areTwo_0 rfl (lv_at hl 0 rfl) ?_
  refine lv_iload_n hx hb dX12_areTwo_1 rfl (lv_at hl 1 rfl) ?_
  have hPc := hP.sub (ws' := [(m0, .inr (12, [.ref g0, .ref g1, .ref g2, .ref g3, .ref g4, .int 0, .int 0, .int 0, .int 0, .ref g9, .int 0, .int 0, .int 0, .int 0, .int (-1), .int 0, .int 0, .ref g17, .ref g18, .int 0, .ref g20, .ref g21, .ref g22, .ref g23, .ref g24, .ref g25, .ref g26, .ref g27, .ref g28, .ref g29, .ref g30, .int 0]))]) [0] rfl
  have hDc := hD.sub (ws' := [(m0, .inr (12, [.ref g0, .ref g1, .ref g2, .ref g3, .ref g4, .int 0, .int 0, .int 0, .int 0, .ref g9, .int 0, .int 0, .int 0, .int 0, .int (-1), .int 0, .int 0, .ref g17, .ref g18, .int 0, .ref g20, .ref g21, .ref g22, .ref g23, .ref g24, .ref g25, .ref g26, .ref g27, .ref g28, .ref g29, .ref g30, .int 0]))]) [0] (by decide) rfl
  have hKc := hK.sub (tys' := []) [] rfl
  refine vp_callSi (va_Run.run (va_runV (As := [.int k]) (rest := []) ⟨hx, hb, hml, hown, hT⟩ (m_isParty l dC dI m0 g0 g1 g2 g3 g4 g9 g17 g18 g20 g21 g22 g23 g24 g25 g26 g27 g28 g29 g30 s.heap.size k) (cwV 1 hT (gV w1284 w1286 ws73 w14 w1287) rfl rfl rfl (by decide +kernel) ⟨(Nat.le_of_ble_eq_true rfl), (Nat.le_of_ble_eq_true rfl)⟩) ⟨pcW.blind, va_recv hKc hPc (ci := 12) (q0 := 0) rfl rfl, pcW.pre hPc hKc hDc⟩ rfl rfl hl.1 rfl (lv_room (Nat.le_of_ble_eq_true rfl)) dX12_areTwo_2 ⟨(Nat.le_of_ble_eq_true rfl), (Nat.le_of_ble_eq_true rfl)⟩)) (fun r_2 hr_2 => ?_)
  obtain rfl : r_2 = 0 := hr_2
  refine lv_if_eq (tgt := 25) hx hb dX12_areTwo_5 (by decide) (fun _ => ?_) (fun h => absurd (by decide) h)
  refine lv_iconst (v := 0) hx hb dX12_areTwo_25 (by decide) ?_
  exact W.zret (ty := .boolean) (v := 0) hx hb hr (by decide) (fun t ht hW => ⟨0, rfl, rfl, ht⟩) (fun q h => by cases h) dX12_areTwo_26
end
section
set_option maxHeartbeats 4000000 in
set_option maxRecDepth 100000 in
theorem c_trade (l : Launch) (dC : Nat → ClassId) (dI : Nat → Nat → Nat) (h0 : Nat) (a0 : Nat) (a1 : Nat) (a2 : Nat) (a3 : Nat) (a4 : Nat) (a5 : Nat) (a6 : Nat) (a7 : Nat) (a8 : Nat) (a9 : Nat) (n0 : Nat) (b0 : Nat) (l0 : Nat) (l1 : Nat) (sz : Nat) (k0 : Int32) (k1 : Int32) (k2 : Int32) (k3 : Int32) : Met l yX11_trade (wT yX11_trade cX11_trade 5 (some .int)) ({ frames := 2, cells := 0, slots := 0, locals := 43 }) (pcW dC dI [.ref h0, .int k0, .int k1, .int k2, .int k3] sz [(h0, .inr (11, [.ref a0, .ref a1, .ref a2, .ref a3, .ref a4, .ref a5, .ref a6, .ref a7, .ref a8, .ref a9, .ref n0, .ref b0, .int (-1)])), (n0, .inr (3, [.ref l0, .ref l1, .int 0, .int 0]))] []) (vp_Si (fun r => r = (-2))) 0 0 (fun _ => False) := by
  refine Met.ofW (cc := cX11_trade) (maxL := 5) (ret := (some .int)) (by decide) rfl ?_
  intro p e s m args below meth c s₁ B hml hv
  obtain ⟨rfl, hsz, hP, hK, hD0⟩ := hv
  have hx := B.exec
  have hb := B.bytes
  have hr := B.returns
  have hT : ∀ w ∈ TB, w.before [.ref h0, .int k0, .int k1, .int k2, .int k3].toArray s = true := fun w h => atoms_spec (ws := wT yX11_trade cX11_trade 5 (some .int)) B.pre w (List.mem_cons_of_mem _ h)
  have hown : s.vm.findClass RX11 = some m.cls := findClass_of_methodNamed B.named
  have hlocks := B.notSynchronized
  subst hsz
  have hD := hD0
  have hP : va_P (dC, dI) vwCl [(h0, .inr (11, [.ref a0, .ref a1, .ref a2, .ref a3, .ref a4, .ref a5, .ref a6, .ref a7, .ref a8, .ref a9, .ref n0, .ref b0, .int (-1)])), (n0, .inr (3, [.ref l0, .ref l1, .int 0, .int 0]))] s.heap := hP
  have hl := lv_entry ([.ref h0, .int k0, .int k1, .int k2, .int k3]) (n := 5) (Nat.le_of_ble_eq_true rfl)
  rw [lg_entry_eq]
  generalize (lg_sl ([.ref h0, .int k0, .int k1, .int k2, .int k3]) ++ List.replicate (5 - (lg_sl ([.ref h0, .int k0, .int k1, .int k2, .int k3])).length) Slot.unset).toArray = ls at hl ⊢
  have hl : lv_has ls 5 [(0, .ref h0), (1, .int k0), (2, .int k1), (3, .int k2), (4, .int k3)] := hl
  refine lv_aload_n hx hb dX11_trade_0 rfl (lv_at hl 0 rfl) ?_
  refine lv_iload_n hx hb dX11_trade_1 rfl (lv_at hl 1 rfl) ?_
  refine lv_iload_n hx hb dX11_trade_2 rfl (lv_at hl 2 rfl) ?_
  have hPc := hP.sub (ws' := [(h0, .inr (11, [.ref a0, .ref a1, .ref a2, .ref a3, .ref a4, .ref a5, .ref a6, .ref a7, .ref a8, .ref a9, .ref n0, .ref b0, .int (-1)])), (n0, .inr (3, [.ref l0, .ref l1, .int 0, .int 0]))]) [0, 1] rfl
  have hDc := hD.sub (ws' := [(h0, .inr (11, [.ref a0, .ref a1, .ref a2, .ref a3, .ref a4, .ref a5, .ref a6, .ref a7, .ref a8, .ref a9, .ref n0, .ref b0, .int (-1)])), (n0, .inr (3, [.ref l0, .ref l1, .int 0, .int 0]))]) [0, 1] (by decide) rfl
  have hKc := hK.sub (tys' := []) [] rfl
  refine vp_callSi (va_Run.run (va_runV (As := [.int k0, .int k1]) (rest := []) ⟨hx, hb, hml, hown, hT⟩ (c_noCouple l dC dI h0 a0 a1 a2 a3 a4 a5 a6 a7 a8 a9 n0 b0 l0 l1 s.heap.size k0 k1) (cwV 2 hT (gV w598 w600 ws22 w1 w601) rfl rfl rfl (by decide +kernel) ⟨(Nat.le_of_ble_eq_true rfl), (Nat.le_of_ble_eq_true rfl)⟩) ⟨pcW.blind, va_recv hKc hPc (ci := 11) (q0 := 0) rfl rfl, pcW.pre hPc hKc hDc⟩ rfl rfl hl.1 rfl (lv_room (Nat.le_of_ble_eq_true rfl)) dX11_trade_3 ⟨(Nat.le_of_ble_eq_true rfl), (Nat.le_of_ble_eq_true rfl)⟩)) (fun r_3 hr_3 => ?_)
  obtain rfl : r_3 = 1 := hr_3
  refine lv_if_ne (tgt := 18) hx hb dX11_trade_6 (by decide) (fun _ => ?_) (fun h => absurd h (by decide))
  refine lv_bipush (v := (-2)) hx hb dX11_trade_18 (by decide) ?_
  exact W.iret (v := (-2)) hx hb hr (fun t ht hW => ⟨(-2), rfl, rfl, ht⟩) (fun q h => by cases h) dX11_trade_20

set_option maxHeartbeats 4000000 in
set_option maxRecDepth 100000 in
theorem c_cap (l : Launch) (dC : Nat → ClassId) (dI : Nat → Nat → Nat) (h0 : Nat) (a0 : Nat) (a1 : Nat) (a2 : Nat) (a3 : Nat) (a4 : Nat) (a5 : Nat) (a6 : Nat) (a7 : Nat) (a8 : Nat) (a9 : Nat) (n0 : Nat) (b0 : Nat) (l0 : Nat) (l1 : Nat) (sz : Nat) (k0 : Int32) (k1 : Int32) (k2 : Int32) : Met l yX11_cap (wT yX11_cap cX11_cap 5 (some .int)) ({ frames := 2, cells := 0, slots := 0, locals := 43 }) (pcW dC dI [.ref h0, .int k0, .int k1, .int k2] sz [(h0, .inr (11, [.ref a0, .ref a1, .ref a2, .ref a3, .ref a4, .ref a5, .ref a6, .ref a7, .ref a8, .ref a9, .ref n0, .ref b0, .int (-1)])), (n0, .inr (3, [.ref l0, .ref l1, .int 0, .int 0]))] []) (vp_Si (fun r => r = (-2))) 0 0 (fun _ => False) := by
  refine Met.ofW (cc := cX11_cap) (maxL := 5) (ret := (some .int)) (by decide) rfl ?_
  intro p e s m args below meth c s₁ B hml hv
  obtain ⟨rfl, hsz, hP, hK, hD0⟩ := hv
  have hx := B.exec
  have hb := B.bytes
  have hr := B.returns
  have hT : ∀ w ∈ TB, w.before [.ref h0, .int k0, .int k1, .int k2].toArray s = true := fun w h => atoms_spec (ws := wT yX11_cap cX11_cap 5 (some .int)) B.pre w (List.mem_cons_of_mem _ h)
  have hown : s.vm.findClass RX11 = some m.cls := findClass_of_methodNamed B.named
  have hlocks := B.notSynchronized
  subst hsz
  have hD := hD0
  have hP : va_P (dC, dI) vwCl [(h0, .inr (11, [.ref a0, .ref a1, .ref a2, .ref a3, .ref a4, .ref a5, .ref a6, .ref a7, .ref a8, .ref a9, .ref n0, .ref b0, .int (-1)])), (n0, .inr (3, [.ref l0, .ref l1, .int 0, .int 0]))] s.heap := hP
  have hl := lv_entry ([.ref h0, .int k0, .int k1, .int k2]) (n := 5) (Nat.le_of_ble_eq_true rfl)
  rw [lg_entry_eq]
  generalize (lg_sl ([.ref h0, .int k0, .int k1, .int k2]) ++ List.replicate (5 - (lg_sl ([.ref h0, .int k0, .int k1, .int k2])).length) Slot.unset).toArray = ls at hl ⊢
  have hl : lv_has ls 5 [(0, .ref h0), (1, .int k0), (2, .int k1), (3, .int k2)] := hl
  refine lv_aload_n hx hb dX11_cap_0 rfl (lv_at hl 0 rfl) ?_
  refine lv_iload_n hx hb dX11_cap_1 rfl (lv_at hl 1 rfl) ?_
  refine lv_iload_n hx hb dX11_cap_2 rfl (lv_at hl 2 rfl) ?_
  have hPc := hP.sub (ws' := [(h0, .inr (11, [.ref a0, .ref a1, .ref a2, .ref a3, .ref a4, .ref a5, .ref a6, .ref a7, .ref a8, .ref a9, .ref n0, .ref b0, .int (-1)])), (n0, .inr (3, [.ref l0, .ref l1, .int 0, .int 0]))]) [0, 1] rfl
  have hDc := hD.sub (ws' := [(h0, .inr (11, [.ref a0, .ref a1, .ref a2, .ref a3, .ref a4, .ref a5, .ref a6, .ref a7, .ref a8, .ref a9, .ref n0, .ref b0, .int (-1)])), (n0, .inr (3, [.ref l0, .ref l1, .int 0, .int 0]))]) [0, 1] (by decide) rfl
  have hKc := hK.sub (tys' := []) [] rfl
  refine vp_callSi (va_Run.run (va_runV (As := [.int k0, .int k1]) (rest := []) ⟨hx, hb, hml, hown, hT⟩ (c_noCouple l dC dI h0 a0 a1 a2 a3 a4 a5 a6 a7 a8 a9 n0 b0 l0 l1 s.heap.size k0 k1) (cwV 2 hT (gV w598 w600 ws22 w1 w601) rfl rfl rfl (by decide +kernel) ⟨(Nat.le_of_ble_eq_true rfl), (Nat.le_of_ble_eq_true rfl)⟩) ⟨pcW.blind, va_recv hKc hPc (ci := 11) (q0 := 0) rfl rfl, pcW.pre hPc hKc hDc⟩ rfl rfl hl.1 rfl (lv_room (Nat.le_of_ble_eq_true rfl)) dX11_cap_3 ⟨(Nat.le_of_ble_eq_true rfl), (Nat.le_of_ble_eq_true rfl)⟩)) (fun r_3 hr_3 => ?_)
  obtain rfl : r_3 = 1 := hr_3
  refine lv_if_eq (tgt := 12) hx hb dX11_cap_6 (by decide) (fun h => absurd h (by decide)) (fun _ => ?_)
  refine lv_bipush (v := (-2)) hx hb dX11_cap_9 (by decide) ?_
  exact W.iret (v := (-2)) hx hb hr (fun t ht hW => ⟨(-2), rfl, rfl, ht⟩) (fun q h => by cases h) dX11_cap_11

set_option maxHeartbeats 4000000 in
set_option maxRecDepth 100000 in
theorem c_flow (l : Launch) (dC : Nat → ClassId) (dI : Nat → Nat → Nat) (h0 : Nat) (a0 : Nat) (a1 : Nat) (a2 : Nat) (a3 : Nat) (a4 : Nat) (a5 : Nat) (a6 : Nat) (a7 : Nat) (a8 : Nat) (a9 : Nat) (n0 : Nat) (b0 : Nat) (l0 : Nat) (l1 : Nat) (sz : Nat) (k0 : Int32) (k1 : Int32) (k2 : Int32) : Met l yX11_flow (wT yX11_flow cX11_flow 4 (some .int)) ({ frames := 2, cells := 0, slots := 0, locals := 43 }) (pcW dC dI [.ref h0, .int k0, .int k1, .int k2] sz [(h0, .inr (11, [.ref a0, .ref a1, .ref a2, .ref a3, .ref a4, .ref a5, .ref a6, .ref a7, .ref a8, .ref a9, .ref n0, .ref b0, .int (-1)])), (n0, .inr (3, [.ref l0, .ref l1, .int 0, .int 0]))] []) (vp_Si (fun r => r = (-2))) 0 0 (fun _ => False) := by
  refine Met.ofW (cc := cX11_flow) (maxL := 4) (ret := (some .int)) (by decide) rfl ?_
  intro p e s m args below meth c s₁ B hml hv
  obtain ⟨rfl, hsz, hP, hK, hD0⟩ := hv
  have hx := B.exec
  have hb := B.bytes
  have hr := B.returns
  have hT : ∀ w ∈ TB, w.before [.ref h0, .int k0, .int k1, .int k2].toArray s = true := fun w h => atoms_spec (ws := wT yX11_flow cX11_flow 4 (some .int)) B.pre w (List.mem_cons_of_mem _ h)
  have hown : s.vm.findClass RX11 = some m.cls := findClass_of_methodNamed B.named
  have hlocks := B.notSynchronized
  subst hsz
  have hD := hD0
  have hP : va_P (dC, dI) vwCl [(h0, .inr (11, [.ref a0, .ref a1, .ref a2, .ref a3, .ref a4, .ref a5, .ref a6, .ref a7, .ref a8, .ref a9, .ref n0, .ref b0, .int (-1)])), (n0, .inr (3, [.ref l0, .ref l1, .int 0, .int 0]))] s.heap := hP
  have hl := lv_entry ([.ref h0, .int k0, .int k1, .int k2]) (n := 4) (Nat.le_of_ble_eq_true rfl)
  rw [lg_entry_eq]
  generalize (lg_sl ([.ref h0, .int k0, .int k1, .int k2]) ++ List.replicate (4 - (lg_sl ([.ref h0, .int k0, .int k1, .int k2])).length) Slot.unset).toArray = ls at hl ⊢
  have hl : lv_has ls 4 [(0, .ref h0), (1, .int k0), (2, .int k1), (3, .int k2)] := hl
  refine lv_aload_n hx hb dX11_flow_0 rfl (lv_at hl 0 rfl) ?_
  refine lv_iload_n hx hb dX11_flow_1 rfl (lv_at hl 1 rfl) ?_
  refine lv_iload_n hx hb dX11_flow_2 rfl (lv_at hl 2 rfl) ?_
  have hPc := hP.sub (ws' := [(h0, .inr (11, [.ref a0, .ref a1, .ref a2, .ref a3, .ref a4, .ref a5, .ref a6, .ref a7, .ref a8, .ref a9, .ref n0, .ref b0, .int (-1)])), (n0, .inr (3, [.ref l0, .ref l1, .int 0, .int 0]))]) [0, 1] rfl
  have hDc := hD.sub (ws' := [(h0, .inr (11, [.ref a0, .ref a1, .ref a2, .ref a3, .ref a4, .ref a5, .ref a6, .ref a7, .ref a8, .ref a9, .ref n0, .ref b0, .int (-1)])), (n0, .inr (3, [.ref l0, .ref l1, .int 0, .int 0]))]) [0, 1] (by decide) rfl
  have hKc := hK.sub (tys' := []) [] rfl
  refine vp_callSi (va_Run.run (va_runV (As := [.int k0, .int k1]) (rest := []) ⟨hx, hb, hml, hown, hT⟩ (c_noCouple l dC dI h0 a0 a1 a2 a3 a4 a5 a6 a7 a8 a9 n0 b0 l0 l1 s.heap.size k0 k1) (cwV 2 hT (gV w598 w600 ws22 w1 w601) rfl rfl rfl (by decide +kernel) ⟨(Nat.le_of_ble_eq_true rfl), (Nat.le_of_ble_eq_true rfl)⟩) ⟨pcW.blind, va_recv hKc hPc (ci := 11) (q0 := 0) rfl rfl, pcW.pre hPc hKc hDc⟩ rfl rfl hl.1 rfl (lv_room (Nat.le_of_ble_eq_true rfl)) dX11_flow_3 ⟨(Nat.le_of_ble_eq_true rfl), (Nat.le_of_ble_eq_true rfl)⟩)) (fun r_3 hr_3 => ?_)
  obtain rfl : r_3 = 1 := hr_3
  refine lv_if_ne (tgt := 17) hx hb dX11_flow_6 (by decide) (fun _ => ?_) (fun h => absurd h (by decide))
  refine lv_bipush (v := (-2)) hx hb dX11_flow_17 (by decide) ?_
  exact W.iret (v := (-2)) hx hb hr (fun t ht hW => ⟨(-2), rfl, rfl, ht⟩) (fun q h => by cases h) dX11_flow_19

set_option maxHeartbeats 4000000 in
set_option maxRecDepth 100000 in
theorem c_bound (l : Launch) (dC : Nat → ClassId) (dI : Nat → Nat → Nat) (h0 : Nat) (a0 : Nat) (a1 : Nat) (a2 : Nat) (a3 : Nat) (a4 : Nat) (a5 : Nat) (a6 : Nat) (a7 : Nat) (a8 : Nat) (a9 : Nat) (n0 : Nat) (b0 : Nat) (l0 : Nat) (l1 : Nat) (sz : Nat) (k0 : Int32) (k1 : Int32) (k2 : Int32) : Met l yX11_bound (wT yX11_bound cX11_bound 4 (some .int)) ({ frames := 2, cells := 0, slots := 0, locals := 43 }) (pcW dC dI [.ref h0, .int k0, .int k1, .int k2] sz [(h0, .inr (11, [.ref a0, .ref a1, .ref a2, .ref a3, .ref a4, .ref a5, .ref a6, .ref a7, .ref a8, .ref a9, .ref n0, .ref b0, .int (-1)])), (n0, .inr (3, [.ref l0, .ref l1, .int 0, .int 0]))] []) (vp_Si (fun r => r = (-2))) 0 0 (fun _ => False) := by
  refine Met.ofW (cc := cX11_bound) (maxL := 4) (ret := (some .int)) (by decide) rfl ?_
  intro p e s m args below meth c s₁ B hml hv
  obtain ⟨rfl, hsz, hP, hK, hD0⟩ := hv
  have hx := B.exec
  have hb := B.bytes
  have hr := B.returns
  have hT : ∀ w ∈ TB, w.before [.ref h0, .int k0, .int k1, .int k2].toArray s = true := fun w h => atoms_spec (ws := wT yX11_bound cX11_bound 4 (some .int)) B.pre w (List.mem_cons_of_mem _ h)
  have hown : s.vm.findClass RX11 = some m.cls := findClass_of_methodNamed B.named
  have hlocks := B.notSynchronized
  subst hsz
  have hD := hD0
  have hP : va_P (dC, dI) vwCl [(h0, .inr (11, [.ref a0, .ref a1, .ref a2, .ref a3, .ref a4, .ref a5, .ref a6, .ref a7, .ref a8, .ref a9, .ref n0, .ref b0, .int (-1)])), (n0, .inr (3, [.ref l0, .ref l1, .int 0, .int 0]))] s.heap := hP
  have hl := lv_entry ([.ref h0, .int k0, .int k1, .int k2]) (n := 4) (Nat.le_of_ble_eq_true rfl)
  rw [lg_entry_eq]
  generalize (lg_sl ([.ref h0, .int k0, .int k1, .int k2]) ++ List.replicate (4 - (lg_sl ([.ref h0, .int k0, .int k1, .int k2])).length) Slot.unset).toArray = ls at hl ⊢
  have hl : lv_has ls 4 [(0, .ref h0), (1, .int k0), (2, .int k1), (3, .int k2)] := hl
  refine lv_aload_n hx hb dX11_bound_0 rfl (lv_at hl 0 rfl) ?_
  refine lv_iload_n hx hb dX11_bound_1 rfl (lv_at hl 1 rfl) ?_
  refine lv_iload_n hx hb dX11_bound_2 rfl (lv_at hl 2 rfl) ?_
  have hPc := hP.sub (ws' := [(h0, .inr (11, [.ref a0, .ref a1, .ref a2, .ref a3, .ref a4, .ref a5, .ref a6, .ref a7, .ref a8, .ref a9, .ref n0, .ref b0, .int (-1)])), (n0, .inr (3, [.ref l0, .ref l1, .int 0, .int 0]))]) [0, 1] rfl
  have hDc := hD.sub (ws' := [(h0, .inr (11, [.ref a0, .ref a1, .ref a2, .ref a3, .ref a4, .ref a5, .ref a6, .ref a7, .ref a8, .ref a9, .ref n0, .ref b0, .int (-1)])), (n0, .inr (3, [.ref l0, .ref l1, .int 0, .int 0]))]) [0, 1] (by decide) rfl
  have hKc := hK.sub (tys' := []) [] rfl
  refine vp_callSi (va_Run.run (va_runV (As := [.int k0, .int k1]) (rest := []) ⟨hx, hb, hml, hown, hT⟩ (c_noCouple l dC dI h0 a0 a1 a2 a3 a4 a5 a6 a7 a8 a9 n0 b0 l0 l1 s.heap.size k0 k1) (cwV 2 hT (gV w598 w600 ws22 w1 w601) rfl rfl rfl (by decide +kernel) ⟨(Nat.le_of_ble_eq_true rfl), (Nat.le_of_ble_eq_true rfl)⟩) ⟨pcW.blind, va_recv hKc hPc (ci := 11) (q0 := 0) rfl rfl, pcW.pre hPc hKc hDc⟩ rfl rfl hl.1 rfl (lv_room (Nat.le_of_ble_eq_true rfl)) dX11_bound_3 ⟨(Nat.le_of_ble_eq_true rfl), (Nat.le_of_ble_eq_true rfl)⟩)) (fun r_3 hr_3 => ?_)
  obtain rfl : r_3 = 1 := hr_3
  refine lv_if_ne (tgt := 17) hx hb dX11_bound_6 (by decide) (fun _ => ?_) (fun h => absurd h (by decide))
  refine lv_bipush (v := (-2)) hx hb dX11_bound_17 (by decide) ?_
  exact W.iret (v := (-2)) hx hb hr (fun t ht hW => ⟨(-2), rfl, rfl, ht⟩) (fun q h => by cases h) dX11_bound_19

set_option maxHeartbeats 4000000 in
set_option maxRecDepth 100000 in
theorem c_pressed (l : Launch) (dC : Nat → ClassId) (dI : Nat → Nat → Nat) (h0 : Nat) (a0 : Nat) (a1 : Nat) (a2 : Nat) (a3 : Nat) (a4 : Nat) (a5 : Nat) (a6 : Nat) (a7 : Nat) (a8 : Nat) (a9 : Nat) (n0 : Nat) (b0 : Nat) (l0 : Nat) (l1 : Nat) (sz : Nat) (k0 : Int32) (k1 : Int32) (k2 : Int32) : Met l yX11_pressed (wT yX11_pressed cX11_pressed 4 (some .int)) ({ frames := 2, cells := 0, slots := 0, locals := 43 }) (pcW dC dI [.ref h0, .int k0, .int k1, .int k2] sz [(h0, .inr (11, [.ref a0, .ref a1, .ref a2, .ref a3, .ref a4, .ref a5, .ref a6, .ref a7, .ref a8, .ref a9, .ref n0, .ref b0, .int (-1)])), (n0, .inr (3, [.ref l0, .ref l1, .int 0, .int 0]))] []) (vp_Si (fun r => r = (-2))) 0 0 (fun _ => False) := by
  refine Met.ofW (cc := cX11_pressed) (maxL := 4) (ret := (some .int)) (by decide) rfl ?_
  intro p e s m args below meth c s₁ B hml hv
  obtain ⟨rfl, hsz, hP, hK, hD0⟩ := hv
  have hx := B.exec
  have hb := B.bytes
  have hr := B.returns
  have hT : ∀ w ∈ TB, w.before [.ref h0, .int k0, .int k1, .int k2].toArray s = true := fun w h => atoms_spec (ws := wT yX11_pressed cX11_pressed 4 (some .int)) B.pre w (List.mem_cons_of_mem _ h)
  have hown : s.vm.findClass RX11 = some m.cls := findClass_of_methodNamed B.named
  have hlocks := B.notSynchronized
  subst hsz
  have hD := hD0
  have hP : va_P (dC, dI) vwCl [(h0, .inr (11, [.ref a0, .ref a1, .ref a2, .ref a3, .ref a4, .ref a5, .ref a6, .ref a7, .ref a8, .ref a9, .ref n0, .ref b0, .int (-1)])), (n0, .inr (3, [.ref l0, .ref l1, .int 0, .int 0]))] s.heap := hP
  have hl := lv_entry ([.ref h0, .int k0, .int k1, .int k2]) (n := 4) (Nat.le_of_ble_eq_true rfl)
  rw [lg_entry_eq]
  generalize (lg_sl ([.ref h0, .int k0, .int k1, .int k2]) ++ List.replicate (4 - (lg_sl ([.ref h0, .int k0, .int k1, .int k2])).length) Slot.unset).toArray = ls at hl ⊢
  have hl : lv_has ls 4 [(0, .ref h0), (1, .int k0), (2, .int k1), (3, .int k2)] := hl
  refine lv_aload_n hx hb dX11_pressed_0 rfl (lv_at hl 0 rfl) ?_
  refine lv_iload_n hx hb dX11_pressed_1 rfl (lv_at hl 1 rfl) ?_
  refine lv_iload_n hx hb dX11_pressed_2 rfl (lv_at hl 2 rfl) ?_
  have hPc := hP.sub (ws' := [(h0, .inr (11, [.ref a0, .ref a1, .ref a2, .ref a3, .ref a4, .ref a5, .ref a6, .ref a7, .ref a8, .ref a9, .ref n0, .ref b0, .int (-1)])), (n0, .inr (3, [.ref l0, .ref l1, .int 0, .int 0]))]) [0, 1] rfl
  have hDc := hD.sub (ws' := [(h0, .inr (11, [.ref a0, .ref a1, .ref a2, .ref a3, .ref a4, .ref a5, .ref a6, .ref a7, .ref a8, .ref a9, .ref n0, .ref b0, .int (-1)])), (n0, .inr (3, [.ref l0, .ref l1, .int 0, .int 0]))]) [0, 1] (by decide) rfl
  have hKc := hK.sub (tys' := []) [] rfl
  refine vp_callSi (va_Run.run (va_runV (As := [.int k0, .int k1]) (rest := []) ⟨hx, hb, hml, hown, hT⟩ (c_noCouple l dC dI h0 a0 a1 a2 a3 a4 a5 a6 a7 a8 a9 n0 b0 l0 l1 s.heap.size k0 k1) (cwV 2 hT (gV w598 w600 ws22 w1 w601) rfl rfl rfl (by decide +kernel) ⟨(Nat.le_of_ble_eq_true rfl), (Nat.le_of_ble_eq_true rfl)⟩) ⟨pcW.blind, va_recv hKc hPc (ci := 11) (q0 := 0) rfl rfl, pcW.pre hPc hKc hDc⟩ rfl rfl hl.1 rfl (lv_room (Nat.le_of_ble_eq_true rfl)) dX11_pressed_3 ⟨(Nat.le_of_ble_eq_true rfl), (Nat.le_of_ble_eq_true rfl)⟩)) (fun r_3 hr_3 => ?_)
  obtain rfl : r_3 = 1 := hr_3
  refine lv_if_ne (tgt := 17) hx hb dX11_pressed_6 (by decide) (fun _ => ?_) (fun h => absurd h (by decide))
  refine lv_bipush (v := (-2)) hx hb dX11_pressed_17 (by decide) ?_
  exact W.iret (v := (-2)) hx hb hr (fun t ht hW => ⟨(-2), rfl, rfl, ht⟩) (fun q h => by cases h) dX11_pressed_19

set_option maxHeartbeats 4000000 in
set_option maxRecDepth 100000 in
theorem c_span (l : Launch) (dC : Nat → ClassId) (dI : Nat → Nat → Nat) (h0 : Nat) (a0 : Nat) (a1 : Nat) (a2 : Nat) (a3 : Nat) (a4 : Nat) (a5 : Nat) (a6 : Nat) (a7 : Nat) (a8 : Nat) (a9 : Nat) (n0 : Nat) (b0 : Nat) (l0 : Nat) (l1 : Nat) (sz : Nat) (k0 : Int32) (k1 : Int32) (k2 : Int32) (k3 : Int32) : Met l yX11_span (wT yX11_span cX11_span 5 (some .int)) ({ frames := 2, cells := 0, slots := 0, locals := 43 }) (pcW dC dI [.ref h0, .int k0, .int k1, .int k2, .int k3] sz [(h0, .inr (11, [.ref a0, .ref a1, .ref a2, .ref a3, .ref a4, .ref a5, .ref a6, .ref a7, .ref a8, .ref a9, .ref n0, .ref b0, .int (-1)])), (n0, .inr (3, [.ref l0, .ref l1, .int 0, .int 0]))] []) (vp_Si (fun r => r = (-2))) 0 0 (fun _ => False) := by
  refine Met.ofW (cc := cX11_span) (maxL := 5) (ret := (some .int)) (by decide) rfl ?_
  intro p e s m args below meth c s₁ B hml hv
  obtain ⟨rfl, hsz, hP, hK, hD0⟩ := hv
  have hx := B.exec
  have hb := B.bytes
  have hr := B.returns
  have hT : ∀ w ∈ TB, w.before [.ref h0, .int k0, .int k1, .int k2, .int k3].toArray s = true := fun w h => atoms_spec (ws := wT yX11_span cX11_span 5 (some .int)) B.pre w (List.mem_cons_of_mem _ h)
  have hown : s.vm.findClass RX11 = some m.cls := findClass_of_methodNamed B.named
  have hlocks := B.notSynchronized
  subst hsz
  have hD := hD0
  have hP : va_P (dC, dI) vwCl [(h0, .inr (11, [.ref a0, .ref a1, .ref a2, .ref a3, .ref a4, .ref a5, .ref a6, .ref a7, .ref a8, .ref a9, .ref n0, .ref b0, .int (-1)])), (n0, .inr (3, [.ref l0, .ref l1, .int 0, .int 0]))] s.heap := hP
  have hl := lv_entry ([.ref h0, .int k0, .int k1, .int k2, .int k3]) (n := 5) (Nat.le_of_ble_eq_true rfl)
  rw [lg_entry_eq]
  generalize (lg_sl ([.ref h0, .int k0, .int k1, .int k2, .int k3]) ++ List.replicate (5 - (lg_sl ([.ref h0, .int k0, .int k1, .int k2, .int k3])).length) Slot.unset).toArray = ls at hl ⊢
  have hl : lv_has ls 5 [(0, .ref h0), (1, .int k0), (2, .int k1), (3, .int k2), (4, .int k3)] := hl
  refine lv_aload_n hx hb dX11_span_0 rfl (lv_at hl 0 rfl) ?_
  refine lv_iload_n hx hb dX11_span_1 rfl (lv_at hl 1 rfl) ?_
  refine lv_iload_n hx hb dX11_span_2 rfl (lv_at hl 2 rfl) ?_
  have hPc := hP.sub (ws' := [(h0, .inr (11, [.ref a0, .ref a1, .ref a2, .ref a3, .ref a4, .ref a5, .ref a6, .ref a7, .ref a8, .ref a9, .ref n0, .ref b0, .int (-1)])), (n0, .inr (3, [.ref l0, .ref l1, .int 0, .int 0]))]) [0, 1] rfl
  have hDc := hD.sub (ws' := [(h0, .inr (11, [.ref a0, .ref a1, .ref a2, .ref a3, .ref a4, .ref a5, .ref a6, .ref a7, .ref a8, .ref a9, .ref n0, .ref b0, .int (-1)])), (n0, .inr (3, [.ref l0, .ref l1, .int 0, .int 0]))]) [0, 1] (by decide) rfl
  have hKc := hK.sub (tys' := []) [] rfl
  refine vp_callSi (va_Run.run (va_runV (As := [.int k0, .int k1]) (rest := []) ⟨hx, hb, hml, hown, hT⟩ (c_noCouple l dC dI h0 a0 a1 a2 a3 a4 a5 a6 a7 a8 a9 n0 b0 l0 l1 s.heap.size k0 k1) (cwV 2 hT (gV w598 w600 ws22 w1 w601) rfl rfl rfl (by decide +kernel) ⟨(Nat.le_of_ble_eq_true rfl), (Nat.le_of_ble_eq_true rfl)⟩) ⟨pcW.blind, va_recv hKc hPc (ci := 11) (q0 := 0) rfl rfl, pcW.pre hPc hKc hDc⟩ rfl rfl hl.1 rfl (lv_room (Nat.le_of_ble_eq_true rfl)) dX11_span_3 ⟨(Nat.le_of_ble_eq_true rfl), (Nat.le_of_ble_eq_true rfl)⟩)) (fun r_3 hr_3 => ?_)
  obtain rfl : r_3 = 1 := hr_3
  refine lv_if_ne (tgt := 17) hx hb dX11_span_6 (by decide) (fun _ => ?_) (fun h => absurd h (by decide))
  refine lv_bipush (v := (-2)) hx hb dX11_span_17 (by decide) ?_
  exact W.iret (v := (-2)) hx hb hr (fun t ht hW => ⟨(-2), rfl, rfl, ht⟩) (fun q h => by cases h) dX11_span_19

set_option maxHeartbeats 4000000 in
set_option maxRecDepth 100000 in
theorem c_gain (l : Launch) (dC : Nat → ClassId) (dI : Nat → Nat → Nat) (h0 : Nat) (a0 : Nat) (a1 : Nat) (a2 : Nat) (a3 : Nat) (a4 : Nat) (a5 : Nat) (a6 : Nat) (a7 : Nat) (a8 : Nat) (a9 : Nat) (n0 : Nat) (b0 : Nat) (l0 : Nat) (l1 : Nat) (sz : Nat) (k0 : Int32) (k1 : Int32) (k2 : Int32) : Met l yX11_gain (wT yX11_gain cX11_gain 4 (some .int)) ({ frames := 2, cells := 0, slots := 0, locals := 43 }) (pcW dC dI [.ref h0, .int k0, .int k1, .int k2] sz [(h0, .inr (11, [.ref a0, .ref a1, .ref a2, .ref a3, .ref a4, .ref a5, .ref a6, .ref a7, .ref a8, .ref a9, .ref n0, .ref b0, .int (-1)])), (n0, .inr (3, [.ref l0, .ref l1, .int 0, .int 0]))] []) (vp_Si (fun r => r = (-2))) 0 0 (fun _ => False) := by
  refine Met.ofW (cc := cX11_gain) (maxL := 4) (ret := (some .int)) (by decide) rfl ?_
  intro p e s m args below meth c s₁ B hml hv
  obtain ⟨rfl, hsz, hP, hK, hD0⟩ := hv
  have hx := B.exec
  have hb := B.bytes
  have hr := B.returns
  have hT : ∀ w ∈ TB, w.before [.ref h0, .int k0, .int k1, .int k2].toArray s = true := fun w h => atoms_spec (ws := wT yX11_gain cX11_gain 4 (some .int)) B.pre w (List.mem_cons_of_mem _ h)
  have hown : s.vm.findClass RX11 = some m.cls := findClass_of_methodNamed B.named
  have hlocks := B.notSynchronized
  subst hsz
  have hD := hD0
  have hP : va_P (dC, dI) vwCl [(h0, .inr (11, [.ref a0, .ref a1, .ref a2, .ref a3, .ref a4, .ref a5, .ref a6, .ref a7, .ref a8, .ref a9, .ref n0, .ref b0, .int (-1)])), (n0, .inr (3, [.ref l0, .ref l1, .int 0, .int 0]))] s.heap := hP
  have hl := lv_entry ([.ref h0, .int k0, .int k1, .int k2]) (n := 4) (Nat.le_of_ble_eq_true rfl)
  rw [lg_entry_eq]
  generalize (lg_sl ([.ref h0, .int k0, .int k1, .int k2]) ++ List.replicate (4 - (lg_sl ([.ref h0, .int k0, .int k1, .int k2])).length) Slot.unset).toArray = ls at hl ⊢
  have hl : lv_has ls 4 [(0, .ref h0), (1, .int k0), (2, .int k1), (3, .int k2)] := hl
  refine lv_aload_n hx hb dX11_gain_0 rfl (lv_at hl 0 rfl) ?_
  refine lv_iload_n hx hb dX11_gain_1 rfl (lv_at hl 1 rfl) ?_
  refine lv_iload_n hx hb dX11_gain_2 rfl (lv_at hl 2 rfl) ?_
  have hPc := hP.sub (ws' := [(h0, .inr (11, [.ref a0, .ref a1, .ref a2, .ref a3, .ref a4, .ref a5, .ref a6, .ref a7, .ref a8, .ref a9, .ref n0, .ref b0, .int (-1)])), (n0, .inr (3, [.ref l0, .ref l1, .int 0, .int 0]))]) [0, 1] rfl
  have hDc := hD.sub (ws' := [(h0, .inr (11, [.ref a0, .ref a1, .ref a2, .ref a3, .ref a4, .ref a5, .ref a6, .ref a7, .ref a8, .ref a9, .ref n0, .ref b0, .int (-1)])), (n0, .inr (3, [.ref l0, .ref l1, .int 0, .int 0]))]) [0, 1] (by decide) rfl
  have hKc := hK.sub (tys' := []) [] rfl
  refine vp_callSi (va_Run.run (va_runV (As := [.int k0, .int k1]) (rest := []) ⟨hx, hb, hml, hown, hT⟩ (c_noCouple l dC dI h0 a0 a1 a2 a3 a4 a5 a6 a7 a8 a9 n0 b0 l0 l1 s.heap.size k0 k1) (cwV 2 hT (gV w598 w600 ws22 w1 w601) rfl rfl rfl (by decide +kernel) ⟨(Nat.le_of_ble_eq_true rfl), (Nat.le_of_ble_eq_true rfl)⟩) ⟨pcW.blind, va_recv hKc hPc (ci := 11) (q0 := 0) rfl rfl, pcW.pre hPc hKc hDc⟩ rfl rfl hl.1 rfl (lv_room (Nat.le_of_ble_eq_true rfl)) dX11_gain_3 ⟨(Nat.le_of_ble_eq_true rfl), (Nat.le_of_ble_eq_true rfl)⟩)) (fun r_3 hr_3 => ?_)
  obtain rfl : r_3 = 1 := hr_3
  refine lv_if_ne (tgt := 17) hx hb dX11_gain_6 (by decide) (fun _ => ?_) (fun h => absurd h (by decide))
  refine lv_bipush (v := (-2)) hx hb dX11_gain_17 (by decide) ?_
  exact W.iret (v := (-2)) hx hb hr (fun t ht hW => ⟨(-2), rfl, rfl, ht⟩) (fun q h => by cases h) dX11_gain_19

set_option maxHeartbeats 4000000 in
set_option maxRecDepth 100000 in
theorem c_enough (l : Launch) (dC : Nat → ClassId) (dI : Nat → Nat → Nat) (h0 : Nat) (a0 : Nat) (a1 : Nat) (a2 : Nat) (a3 : Nat) (a4 : Nat) (a5 : Nat) (a6 : Nat) (a7 : Nat) (a8 : Nat) (a9 : Nat) (n0 : Nat) (b0 : Nat) (l0 : Nat) (l1 : Nat) (sz : Nat) (k0 : Int32) (k1 : Int32) (k2 : Int32) : Met l yX11_enough (wT yX11_enough cX11_enough 4 (some .int)) ({ frames := 2, cells := 0, slots := 0, locals := 43 }) (pcW dC dI [.ref h0, .int k0, .int k1, .int k2] sz [(h0, .inr (11, [.ref a0, .ref a1, .ref a2, .ref a3, .ref a4, .ref a5, .ref a6, .ref a7, .ref a8, .ref a9, .ref n0, .ref b0, .int (-1)])), (n0, .inr (3, [.ref l0, .ref l1, .int 0, .int 0]))] []) (vp_Si (fun r => r = (-2))) 0 0 (fun _ => False) := by
  refine Met.ofW (cc := cX11_enough) (maxL := 4) (ret := (some .int)) (by decide) rfl ?_
  intro p e s m args below meth c s₁ B hml hv
  obtain ⟨rfl, hsz, hP, hK, hD0⟩ := hv
  have hx := B.exec
  have hb := B.bytes
  have hr := B.returns
  have hT : ∀ w ∈ TB, w.before [.ref h0, .int k0, .int k1, .int k2].toArray s = true := fun w h => atoms_spec (ws := wT yX11_enough cX11_enough 4 (some .int)) B.pre w (List.mem_cons_of_mem _ h)
  have hown : s.vm.findClass RX11 = some m.cls := findClass_of_methodNamed B.named
  have hlocks := B.notSynchronized
  subst hsz
  have hD := hD0
  have hP : va_P (dC, dI) vwCl [(h0, .inr (11, [.ref a0, .ref a1, .ref a2, .ref a3, .ref a4, .ref a5, .ref a6, .ref a7, .ref a8, .ref a9, .ref n0, .ref b0, .int (-1)])), (n0, .inr (3, [.ref l0, .ref l1, .int 0, .int 0]))] s.heap := hP
  have hl := lv_entry ([.ref h0, .int k0, .int k1, .int k2]) (n := 4) (Nat.le_of_ble_eq_true rfl)
  rw [lg_entry_eq]
  generalize (lg_sl ([.ref h0, .int k0, .int k1, .int k2]) ++ List.replicate (4 - (lg_sl ([.ref h0, .int k0, .int k1, .int k2])).length) Slot.unset).toArray = ls at hl ⊢
  have hl : lv_has ls 4 [(0, .ref h0), (1, .int k0), (2, .int k1), (3, .int k2)] := hl
  refine lv_aload_n hx hb dX11_enough_0 rfl (lv_at hl 0 rfl) ?_
  refine lv_iload_n hx hb dX11_enough_1 rfl (lv_at hl 1 rfl) ?_
  refine lv_iload_n hx hb dX11_enough_2 rfl (lv_at hl 2 rfl) ?_
  have hPc := hP.sub (ws' := [(h0, .inr (11, [.ref a0, .ref a1, .ref a2, .ref a3, .ref a4, .ref a5, .ref a6, .ref a7, .ref a8, .ref a9, .ref n0, .ref b0, .int (-1)])), (n0, .inr (3, [.ref l0, .ref l1, .int 0, .int 0]))]) [0, 1] rfl
  have hDc := hD.sub (ws' := [(h0, .inr (11, [.ref a0, .ref a1, .ref a2, .ref a3, .ref a4, .ref a5, .ref a6, .ref a7, .ref a8, .ref a9, .ref n0, .ref b0, .int (-1)])), (n0, .inr (3, [.ref l0, .ref l1, .int 0, .int 0]))]) [0, 1] (by decide) rfl
  have hKc := hK.sub (tys' := []) [] rfl
  refine vp_callSi (va_Run.run (va_runV (As := [.int k0, .int k1]) (rest := []) ⟨hx, hb, hml, hown, hT⟩ (c_noCouple l dC dI h0 a0 a1 a2 a3 a4 a5 a6 a7 a8 a9 n0 b0 l0 l1 s.heap.size k0 k1) (cwV 2 hT (gV w598 w600 ws22 w1 w601) rfl rfl rfl (by decide +kernel) ⟨(Nat.le_of_ble_eq_true rfl), (Nat.le_of_ble_eq_true rfl)⟩) ⟨pcW.blind, va_recv hKc hPc (ci := 11) (q0 := 0) rfl rfl, pcW.pre hPc hKc hDc⟩ rfl rfl hl.1 rfl (lv_room (Nat.le_of_ble_eq_true rfl)) dX11_enough_3 ⟨(Nat.le_of_ble_eq_true rfl), (Nat.le_of_ble_eq_true rfl)⟩)) (fun r_3 hr_3 => ?_)
  obtain rfl : r_3 = 1 := hr_3
  refine lv_if_ne (tgt := 17) hx hb dX11_enough_6 (by decide) (fun _ => ?_) (fun h => absurd h (by decide))
  refine lv_bipush (v := (-2)) hx hb dX11_enough_17 (by decide) ?_
  exact W.iret (v := (-2)) hx hb hr (fun t ht hW => ⟨(-2), rfl, rfl, ht⟩) (fun q h => by cases h) dX11_enough_19

set_option maxHeartbeats 4000000 in
set_option maxRecDepth 100000 in
theorem c_net (l : Launch) (dC : Nat → ClassId) (dI : Nat → Nat → Nat) (h0 : Nat) (a0 : Nat) (a1 : Nat) (a2 : Nat) (a3 : Nat) (a4 : Nat) (a5 : Nat) (a6 : Nat) (a7 : Nat) (a8 : Nat) (a9 : Nat) (n0 : Nat) (b0 : Nat) (l0 : Nat) (l1 : Nat) (sz : Nat) (k0 : Int32) (k1 : Int32) (k2 : Int32) : Met l yX11_net (wT yX11_net cX11_net 4 (some .int)) ({ frames := 1, cells := 0, slots := 0, locals := 21 }) (pcW dC dI [.ref h0, .int k0, .int k1, .int k2] sz [(h0, .inr (11, [.ref a0, .ref a1, .ref a2, .ref a3, .ref a4, .ref a5, .ref a6, .ref a7, .ref a8, .ref a9, .ref n0, .ref b0, .int (-1)])), (n0, .inr (3, [.ref l0, .ref l1, .int 0, .int 0]))] []) (vp_Si (fun r => r = (-2))) 0 0 (fun _ => False) := by
  refine Met.ofW (cc := cX11_net) (maxL := 4) (ret := (some .int)) (by decide) rfl ?_
  intro p e s m args below meth c s₁ B hml hv
  obtain ⟨rfl, hsz, hP, hK, hD0⟩ := hv
  have hx := B.exec
  have hb := B.bytes
  have hr := B.returns
  have hT : ∀ w ∈ TB, w.before [.ref h0, .int k0, .int k1, .int k2].toArray s = true := fun w h => atoms_spec (ws := wT yX11_net cX11_net 4 (some .int)) B.pre w (List.mem_cons_of_mem _ h)
  have hown : s.vm.findClass RX11 = some m.cls := findClass_of_methodNamed B.named
  have hlocks := B.notSynchronized
  subst hsz
  have hD := hD0
  have hP : va_P (dC, dI) vwCl [(h0, .inr (11, [.ref a0, .ref a1, .ref a2, .ref a3, .ref a4, .ref a5, .ref a6, .ref a7, .ref a8, .ref a9, .ref n0, .ref b0, .int (-1)])), (n0, .inr (3, [.ref l0, .ref l1, .int 0, .int 0]))] s.heap := hP
  have hl := lv_entry ([.ref h0, .int k0, .int k1, .int k2]) (n := 4) (Nat.le_of_ble_eq_true rfl)
  rw [lg_entry_eq]
  generalize (lg_sl ([.ref h0, .int k0, .int k1, .int k2]) ++ List.replicate (4 - (lg_sl ([.ref h0, .int k0, .int k1, .int k2])).length) Slot.unset).toArray = ls at hl ⊢
  have hl : lv_has ls 4 [(0, .ref h0), (1, .int k0), (2, .int k1), (3, .int k2)] := hl
  refine lv_aload_n hx hb dX11_net_0 rfl (lv_at hl 0 rfl) ?_
  refine lv_iload_n hx hb dX11_net_1 rfl (lv_at hl 1 rfl) ?_
  have hPc := hP.sub (ws' := [(h0, .inr (11, [.ref a0, .ref a1, .ref a2, .ref a3, .ref a4, .ref a5, .ref a6, .ref a7, .ref a8, .ref a9, .ref n0, .ref b0, .int (-1)])), (n0, .inr (3, [.ref l0, .ref l1, .int 0, .int 0]))]) [0, 1] rfl
  have hDc := hD.sub (ws' := [(h0, .inr (11, [.ref a0, .ref a1, .ref a2, .ref a3, .ref a4, .ref a5, .ref a6, .ref a7, .ref a8, .ref a9, .ref n0, .ref b0, .int (-1)])), (n0, .inr (3, [.ref l0, .ref l1, .int 0, .int 0]))]) [0, 1] (by decide) rfl
  have hKc := hK.sub (tys' := []) [] rfl
  refine vp_callSi (va_Run.run (va_runV (As := [.int k0]) (rest := []) ⟨hx, hb, hml, hown, hT⟩ (c_noParty l dC dI h0 a0 a1 a2 a3 a4 a5 a6 a7 a8 a9 n0 b0 l0 l1 s.heap.size k0) (cwV 1 hT (gV w602 w604 ws23 w1 w605) rfl rfl rfl (by decide +kernel) ⟨(Nat.le_of_ble_eq_true rfl), (Nat.le_of_ble_eq_true rfl)⟩) ⟨pcW.blind, va_recv hKc hPc (ci := 11) (q0 := 0) rfl rfl, pcW.pre hPc hKc hDc⟩ rfl rfl hl.1 rfl (lv_room (Nat.le_of_ble_eq_true rfl)) dX11_net_2 ⟨(Nat.le_of_ble_eq_true rfl), (Nat.le_of_ble_eq_true rfl)⟩)) (fun r_2 hr_2 => ?_)
  obtain rfl : r_2 = 1 := hr_2
  refine lv_if_ne (tgt := 16) hx hb dX11_net_5 (by decide) (fun _ => ?_) (fun h => absurd h (by decide))
  refine lv_bipush (v := (-2)) hx hb dX11_net_16 (by decide) ?_
  exact W.iret (v := (-2)) hx hb hr (fun t ht hW => ⟨(-2), rfl, rfl, ht⟩) (fun q h => by cases h) dX11_net_18

set_option maxHeartbeats 4000000 in
set_option maxRecDepth 100000 in
theorem c_side (l : Launch) (dC : Nat → ClassId) (dI : Nat → Nat → Nat) (h0 : Nat) (a0 : Nat) (a1 : Nat) (a2 : Nat) (a3 : Nat) (a4 : Nat) (a5 : Nat) (a6 : Nat) (a7 : Nat) (a8 : Nat) (a9 : Nat) (n0 : Nat) (b0 : Nat) (l0 : Nat) (l1 : Nat) (sz : Nat) (k0 : Int32) (k1 : Int32) (k2 : Int32) : Met l yX11_side (wT yX11_side cX11_side 4 (some .int)) ({ frames := 1, cells := 0, slots := 0, locals := 21 }) (pcW dC dI [.ref h0, .int k0, .int k1, .int k2] sz [(h0, .inr (11, [.ref a0, .ref a1, .ref a2, .ref a3, .ref a4, .ref a5, .ref a6, .ref a7, .ref a8, .ref a9, .ref n0, .ref b0, .int (-1)])), (n0, .inr (3, [.ref l0, .ref l1, .int 0, .int 0]))] []) (vp_Si (fun r => r = (-2))) 0 0 (fun _ => False) := by
  refine Met.ofW (cc := cX11_side) (maxL := 4) (ret := (some .int)) (by decide) rfl ?_
  intro p e s m args below meth c s₁ B hml hv
  obtain ⟨rfl, hsz, hP, hK, hD0⟩ := hv
  have hx := B.exec
  have hb := B.bytes
  have hr := B.returns
  have hT : ∀ w ∈ TB, w.before [.ref h0, .int k0, .int k1, .int k2].toArray s = true := fun w h => atoms_spec (ws := wT yX11_side cX11_side 4 (some .int)) B.pre w (List.mem_cons_of_mem _ h)
  have hown : s.vm.findClass RX11 = some m.cls := findClass_of_methodNamed B.named
  have hlocks := B.notSynchronized
  subst hsz
  have hD := hD0
  have hP : va_P (dC, dI) vwCl [(h0, .inr (11, [.ref a0, .ref a1, .ref a2, .ref a3, .ref a4, .ref a5, .ref a6, .ref a7, .ref a8, .ref a9, .ref n0, .ref b0, .int (-1)])), (n0, .inr (3, [.ref l0, .ref l1, .int 0, .int 0]))] s.heap := hP
  have hl := lv_entry ([.ref h0, .int k0, .int k1, .int k2]) (n := 4) (Nat.le_of_ble_eq_true rfl)
  rw [lg_entry_eq]
  generalize (lg_sl ([.ref h0, .int k0, .int k1, .int k2]) ++ List.replicate (4 - (lg_sl ([.ref h0, .int k0, .int k1, .int k2])).length) Slot.unset).toArray = ls at hl ⊢
  have hl : lv_has ls 4 [(0, .ref h0), (1, .int k0), (2, .int k1), (3, .int k2)] := hl
  refine lv_aload_n hx hb dX11_side_0 rfl (lv_at hl 0 rfl) ?_
  refine lv_iload_n hx hb dX11_side_1 rfl (lv_at hl 1 rfl) ?_
  have hPc := hP.sub (ws' := [(h0, .inr (11, [.ref a0, .ref a1, .ref a2, .ref a3, .ref a4, .ref a5, .ref a6, .ref a7, .ref a8, .ref a9, .ref n0, .ref b0, .int (-1)])), (n0, .inr (3, [.ref l0, .ref l1, .int 0, .int 0]))]) [0, 1] rfl
  have hDc := hD.sub (ws' := [(h0, .inr (11, [.ref a0, .ref a1, .ref a2, .ref a3, .ref a4, .ref a5, .ref a6, .ref a7, .ref a8, .ref a9, .ref n0, .ref b0, .int (-1)])), (n0, .inr (3, [.ref l0, .ref l1, .int 0, .int 0]))]) [0, 1] (by decide) rfl
  have hKc := hK.sub (tys' := []) [] rfl
  refine vp_callSi (va_Run.run (va_runV (As := [.int k0]) (rest := []) ⟨hx, hb, hml, hown, hT⟩ (c_noParty l dC dI h0 a0 a1 a2 a3 a4 a5 a6 a7 a8 a9 n0 b0 l0 l1 s.heap.size k0) (cwV 1 hT (gV w602 w604 ws23 w1 w605) rfl rfl rfl (by decide +kernel) ⟨(Nat.le_of_ble_eq_true rfl), (Nat.le_of_ble_eq_true rfl)⟩) ⟨pcW.blind, va_recv hKc hPc (ci := 11) (q0 := 0) rfl rfl, pcW.pre hPc hKc hDc⟩ rfl rfl hl.1 rfl (lv_room (Nat.le_of_ble_eq_true rfl)) dX11_side_2 ⟨(Nat.le_of_ble_eq_true rfl), (Nat.le_of_ble_eq_true rfl)⟩)) (fun r_2 hr_2 => ?_)
  obtain rfl : r_2 = 1 := hr_2
  refine lv_if_ne (tgt := 16) hx hb dX11_side_5 (by decide) (fun _ => ?_) (fun h => absurd h (by decide))
  refine lv_bipush (v := (-2)) hx hb dX11_side_16 (by decide) ?_
  exact W.iret (v := (-2)) hx hb hr (fun t ht hW => ⟨(-2), rfl, rfl, ht⟩) (fun q h => by cases h) dX11_side_18

set_option maxHeartbeats 4000000 in
set_option maxRecDepth 100000 in
theorem c_without (l : Launch) (dC : Nat → ClassId) (dI : Nat → Nat → Nat) (h0 : Nat) (a0 : Nat) (a1 : Nat) (a2 : Nat) (a3 : Nat) (a4 : Nat) (a5 : Nat) (a6 : Nat) (a7 : Nat) (a8 : Nat) (a9 : Nat) (n0 : Nat) (b0 : Nat) (l0 : Nat) (l1 : Nat) (sz : Nat) (k0 : Int32) (k1 : Int32) : Met l yX11_without (wT yX11_without cX11_without 5 (some .int)) ({ frames := 1, cells := 0, slots := 0, locals := 21 }) (pcW dC dI [.ref h0, .int k0, .int k1] sz [(h0, .inr (11, [.ref a0, .ref a1, .ref a2, .ref a3, .ref a4, .ref a5, .ref a6, .ref a7, .ref a8, .ref a9, .ref n0, .ref b0, .int (-1)])), (n0, .inr (3, [.ref l0, .ref l1, .int 0, .int 0]))] []) (vp_Si (fun r => r = (-2))) 0 0 (fun _ => False) := by
  refine Met.ofW (cc := cX11_without) (maxL := 5) (ret := (some .int)) (by decide) rfl ?_
  intro p e s m args below meth c s₁ B hml hv
  obtain ⟨rfl, hsz, hP, hK, hD0⟩ := hv
  have hx := B.exec
  have hb := B.bytes
  have hr := B.returns
  have hT : ∀ w ∈ TB, w.before [.ref h0, .int k0, .int k1].toArray s = true := fun w h => atoms_spec (ws := wT yX11_without cX11_without 5 (some .int)) B.pre w (List.mem_cons_of_mem _ h)
  have hown : s.vm.findClass RX11 = some m.cls := findClass_of_methodNamed B.named
  have hlocks := B.notSynchronized
  subst hsz
  have hD := hD0
  have hP : va_P (dC, dI) vwCl [(h0, .inr (11, [.ref a0, .ref a1, .ref a2, .ref a3, .ref a4, .ref a5, .ref a6, .ref a7, .ref a8, .ref a9, .ref n0, .ref b0, .int (-1)])), (n0, .inr (3, [.ref l0, .ref l1, .int 0, .int 0]))] s.heap := hP
  have hl := lv_entry ([.ref h0, .int k0, .int k1]) (n := 5) (Nat.le_of_ble_eq_true rfl)
  rw [lg_entry_eq]
  generalize (lg_sl ([.ref h0, .int k0, .int k1]) ++ List.replicate (5 - (lg_sl ([.ref h0, .int k0, .int k1])).length) Slot.unset).toArray = ls at hl ⊢
  have hl : lv_has ls 5 [(0, .ref h0), (1, .int k0), (2, .int k1)] := hl
  refine lv_aload_n hx hb dX11_without_0 rfl (lv_at hl 0 rfl) ?_
  refine lv_iload_n hx hb dX11_without_1 rfl (lv_at hl 1 rfl) ?_
  have hPc := hP.sub (ws' := [(h0, .inr (11, [.ref a0, .ref a1, .ref a2, .ref a3, .ref a4, .ref a5, .ref a6, .ref a7, .ref a8, .ref a9, .ref n0, .ref b0, .int (-1)])), (n0, .inr (3, [.ref l0, .ref l1, .int 0, .int 0]))]) [0, 1] rfl
  have hDc := hD.sub (ws' := [(h0, .inr (11, [.ref a0, .ref a1, .ref a2, .ref a3, .ref a4, .ref a5, .ref a6, .ref a7, .ref a8, .ref a9, .ref n0, .ref b0, .int (-1)])), (n0, .inr (3, [.ref l0, .ref l1, .int 0, .int 0]))]) [0, 1] (by decide) rfl
  have hKc := hK.sub (tys' := []) [] rfl
  refine vp_callSi (va_Run.run (va_runV (As := [.int k0]) (rest := []) ⟨hx, hb, hml, hown, hT⟩ (c_noParty l dC dI h0 a0 a1 a2 a3 a4 a5 a6 a7 a8 a9 n0 b0 l0 l1 s.heap.size k0) (cwV 1 hT (gV w602 w604 ws23 w1 w605) rfl rfl rfl (by decide +kernel) ⟨(Nat.le_of_ble_eq_true rfl), (Nat.le_of_ble_eq_true rfl)⟩) ⟨pcW.blind, va_recv hKc hPc (ci := 11) (q0 := 0) rfl rfl, pcW.pre hPc hKc hDc⟩ rfl rfl hl.1 rfl (lv_room (Nat.le_of_ble_eq_true rfl)) dX11_without_2 ⟨(Nat.le_of_ble_eq_true rfl), (Nat.le_of_ble_eq_true rfl)⟩)) (fun r_2 hr_2 => ?_)
  obtain rfl : r_2 = 1 := hr_2
  refine lv_if_ne (tgt := 16) hx hb dX11_without_5 (by decide) (fun _ => ?_) (fun h => absurd h (by decide))
  refine lv_bipush (v := (-2)) hx hb dX11_without_16 (by decide) ?_
  exact W.iret (v := (-2)) hx hb hr (fun t ht hW => ⟨(-2), rfl, rfl, ht⟩) (fun q h => by cases h) dX11_without_18

set_option maxHeartbeats 4000000 in
set_option maxRecDepth 100000 in
theorem c_relief (l : Launch) (dC : Nat → ClassId) (dI : Nat → Nat → Nat) (h0 : Nat) (a0 : Nat) (a1 : Nat) (a2 : Nat) (a3 : Nat) (a4 : Nat) (a5 : Nat) (a6 : Nat) (a7 : Nat) (a8 : Nat) (a9 : Nat) (n0 : Nat) (b0 : Nat) (l0 : Nat) (l1 : Nat) (sz : Nat) (k0 : Int32) (k1 : Int32) : Met l yX11_relief (wT yX11_relief cX11_relief 3 (some .int)) ({ frames := 1, cells := 0, slots := 0, locals := 21 }) (pcW dC dI [.ref h0, .int k0, .int k1] sz [(h0, .inr (11, [.ref a0, .ref a1, .ref a2, .ref a3, .ref a4, .ref a5, .ref a6, .ref a7, .ref a8, .ref a9, .ref n0, .ref b0, .int (-1)])), (n0, .inr (3, [.ref l0, .ref l1, .int 0, .int 0]))] []) (vp_Si (fun r => r = (-2))) 0 0 (fun _ => False) := by
  refine Met.ofW (cc := cX11_relief) (maxL := 3) (ret := (some .int)) (by decide) rfl ?_
  intro p e s m args below meth c s₁ B hml hv
  obtain ⟨rfl, hsz, hP, hK, hD0⟩ := hv
  have hx := B.exec
  have hb := B.bytes
  have hr := B.returns
  have hT : ∀ w ∈ TB, w.before [.ref h0, .int k0, .int k1].toArray s = true := fun w h => atoms_spec (ws := wT yX11_relief cX11_relief 3 (some .int)) B.pre w (List.mem_cons_of_mem _ h)
  have hown : s.vm.findClass RX11 = some m.cls := findClass_of_methodNamed B.named
  have hlocks := B.notSynchronized
  subst hsz
  have hD := hD0
  have hP : va_P (dC, dI) vwCl [(h0, .inr (11, [.ref a0, .ref a1, .ref a2, .ref a3, .ref a4, .ref a5, .ref a6, .ref a7, .ref a8, .ref a9, .ref n0, .ref b0, .int (-1)])), (n0, .inr (3, [.ref l0, .ref l1, .int 0, .int 0]))] s.heap := hP
  have hl := lv_entry ([.ref h0, .int k0, .int k1]) (n := 3) (Nat.le_of_ble_eq_true rfl)
  rw [lg_entry_eq]
  generalize (lg_sl ([.ref h0, .int k0, .int k1]) ++ List.replicate (3 - (lg_sl ([.ref h0, .int k0, .int k1])).length) Slot.unset).toArray = ls at hl ⊢
  have hl : lv_has ls 3 [(0, .ref h0), (1, .int k0), (2, .int k1)] := hl
  refine lv_aload_n hx hb dX11_relief_0 rfl (lv_at hl 0 rfl) ?_
  refine lv_iload_n hx hb dX11_relief_1 rfl (lv_at hl 1 rfl) ?_
  have hPc := hP.sub (ws' := [(h0, .inr (11, [.ref a0, .ref a1, .ref a2, .ref a3, .ref a4, .ref a5, .ref a6, .ref a7, .ref a8, .ref a9, .ref n0, .ref b0, .int (-1)])), (n0, .inr (3, [.ref l0, .ref l1, .int 0, .int 0]))]) [0, 1] rfl
  have hDc := hD.sub (ws' := [(h0, .inr (11, [.ref a0, .ref a1, .ref a2, .ref a3, .ref a4, .ref a5, .ref a6, .ref a7, .ref a8, .ref a9, .ref n0, .ref b0, .int (-1)])), (n0, .inr (3, [.ref l0, .ref l1, .int 0, .int 0]))]) [0, 1] (by decide) rfl
  have hKc := hK.sub (tys' := []) [] rfl
  refine vp_callSi (va_Run.run (va_runV (As := [.int k0]) (rest := []) ⟨hx, hb, hml, hown, hT⟩ (c_noParty l dC dI h0 a0 a1 a2 a3 a4 a5 a6 a7 a8 a9 n0 b0 l0 l1 s.heap.size k0) (cwV 1 hT (gV w602 w604 ws23 w1 w605) rfl rfl rfl (by decide +kernel) ⟨(Nat.le_of_ble_eq_true rfl), (Nat.le_of_ble_eq_true rfl)⟩) ⟨pcW.blind, va_recv hKc hPc (ci := 11) (q0 := 0) rfl rfl, pcW.pre hPc hKc hDc⟩ rfl rfl hl.1 rfl (lv_room (Nat.le_of_ble_eq_true rfl)) dX11_relief_2 ⟨(Nat.le_of_ble_eq_true rfl), (Nat.le_of_ble_eq_true rfl)⟩)) (fun r_2 hr_2 => ?_)
  obtain rfl : r_2 = 1 := hr_2
  refine lv_if_ne (tgt := 16) hx hb dX11_relief_5 (by decide) (fun _ => ?_) (fun h => absurd h (by decide))
  refine lv_bipush (v := (-2)) hx hb dX11_relief_16 (by decide) ?_
  exact W.iret (v := (-2)) hx hb hr (fun t ht hW => ⟨(-2), rfl, rfl, ht⟩) (fun q h => by cases h) dX11_relief_18

set_option maxHeartbeats 4000000 in
set_option maxRecDepth 100000 in
theorem c_through (l : Launch) (dC : Nat → ClassId) (dI : Nat → Nat → Nat) (h0 : Nat) (a0 : Nat) (a1 : Nat) (a2 : Nat) (a3 : Nat) (a4 : Nat) (a5 : Nat) (a6 : Nat) (a7 : Nat) (a8 : Nat) (a9 : Nat) (n0 : Nat) (b0 : Nat) (l0 : Nat) (l1 : Nat) (sz : Nat) (k0 : Int32) (k1 : Int32) (k2 : Int32) : Met l yX11_through (wT yX11_through cX11_through 4 (some .int)) ({ frames := 1, cells := 0, slots := 0, locals := 21 }) (pcW dC dI [.ref h0, .int k0, .int k1, .int k2] sz [(h0, .inr (11, [.ref a0, .ref a1, .ref a2, .ref a3, .ref a4, .ref a5, .ref a6, .ref a7, .ref a8, .ref a9, .ref n0, .ref b0, .int (-1)])), (n0, .inr (3, [.ref l0, .ref l1, .int 0, .int 0]))] []) (vp_Si (fun r => r = (-2))) 0 0 (fun _ => False) := by
  refine Met.ofW (cc := cX11_through) (maxL := 4) (ret := (some .int)) (by decide) rfl ?_
  intro p e s m args below meth c s₁ B hml hv
  obtain ⟨rfl, hsz, hP, hK, hD0⟩ := hv
  have hx := B.exec
  have hb := B.bytes
  have hr := B.returns
  have hT : ∀ w ∈ TB, w.before [.ref h0, .int k0, .int k1, .int k2].toArray s = true := fun w h => atoms_spec (ws := wT yX11_through cX11_through 4 (some .int)) B.pre w (List.mem_cons_of_mem _ h)
  have hown : s.vm.findClass RX11 = some m.cls := findClass_of_methodNamed B.named
  have hlocks := B.notSynchronized
  subst hsz
  have hD := hD0
  have hP : va_P (dC, dI) vwCl [(h0, .inr (11, [.ref a0, .ref a1, .ref a2, .ref a3, .ref a4, .ref a5, .ref a6, .ref a7, .ref a8, .ref a9, .ref n0, .ref b0, .int (-1)])), (n0, .inr (3, [.ref l0, .ref l1, .int 0, .int 0]))] s.heap := hP
  have hl := lv_entry ([.ref h0, .int k0, .int k1, .int k2]) (n := 4) (Nat.le_of_ble_eq_true rfl)
  rw [lg_entry_eq]
  generalize (lg_sl ([.ref h0, .int k0, .int k1, .int k2]) ++ List.replicate (4 - (lg_sl ([.ref h0, .int k0, .int k1, .int k2])).length) Slot.unset).toArray = ls at hl ⊢
  have hl : lv_has ls 4 [(0, .ref h0), (1, .int k0), (2, .int k1), (3, .int k2)] := hl
  refine lv_aload_n hx hb dX11_through_0 rfl (lv_at hl 0 rfl) ?_
  refine lv_iload_n hx hb dX11_through_1 rfl (lv_at hl 1 rfl) ?_
  have hPc := hP.sub (ws' := [(h0, .inr (11, [.ref a0, .ref a1, .ref a2, .ref a3, .ref a4, .ref a5, .ref a6, .ref a7, .ref a8, .ref a9, .ref n0, .ref b0, .int (-1)])), (n0, .inr (3, [.ref l0, .ref l1, .int 0, .int 0]))]) [0, 1] rfl
  have hDc := hD.sub (ws' := [(h0, .inr (11, [.ref a0, .ref a1, .ref a2, .ref a3, .ref a4, .ref a5, .ref a6, .ref a7, .ref a8, .ref a9, .ref n0, .ref b0, .int (-1)])), (n0, .inr (3, [.ref l0, .ref l1, .int 0, .int 0]))]) [0, 1] (by decide) rfl
  have hKc := hK.sub (tys' := []) [] rfl
  refine vp_callSi (va_Run.run (va_runV (As := [.int k0]) (rest := []) ⟨hx, hb, hml, hown, hT⟩ (c_noParty l dC dI h0 a0 a1 a2 a3 a4 a5 a6 a7 a8 a9 n0 b0 l0 l1 s.heap.size k0) (cwV 1 hT (gV w602 w604 ws23 w1 w605) rfl rfl rfl (by decide +kernel) ⟨(Nat.le_of_ble_eq_true rfl), (Nat.le_of_ble_eq_true rfl)⟩) ⟨pcW.blind, va_recv hKc hPc (ci := 11) (q0 := 0) rfl rfl, pcW.pre hPc hKc hDc⟩ rfl rfl hl.1 rfl (lv_room (Nat.le_of_ble_eq_true rfl)) dX11_through_2 ⟨(Nat.le_of_ble_eq_true rfl), (Nat.le_of_ble_eq_true rfl)⟩)) (fun r_2 hr_2 => ?_)
  obtain rfl : r_2 = 1 := hr_2
  refine lv_if_ne (tgt := 16) hx hb dX11_through_5 (by decide) (fun _ => ?_) (fun h => absurd h (by decide))
  refine lv_bipush (v := (-2)) hx hb dX11_through_16 (by decide) ?_
  exact W.iret (v := (-2)) hx hb hr (fun t ht hW => ⟨(-2), rfl, rfl, ht⟩) (fun q h => by cases h) dX11_through_18

set_option maxHeartbeats 4000000 in
set_option maxRecDepth 100000 in
theorem c_takeRing (l : Launch) (dC : Nat → ClassId) (dI : Nat → Nat → Nat) (h0 : Nat) (a0 : Nat) (a1 : Nat) (a2 : Nat) (a3 : Nat) (a4 : Nat) (a5 : Nat) (a6 : Nat) (a7 : Nat) (a8 : Nat) (a9 : Nat) (n0 : Nat) (b0 : Nat) (l0 : Nat) (l1 : Nat) (sz : Nat) (k0 : Int32) : Met l yX11_takeRing (wT yX11_takeRing cX11_takeRing 5 (some .int)) ({ frames := 1, cells := 0, slots := 0, locals := 21 }) (pcW dC dI [.ref h0, .int k0] sz [(h0, .inr (11, [.ref a0, .ref a1, .ref a2, .ref a3, .ref a4, .ref a5, .ref a6, .ref a7, .ref a8, .ref a9, .ref n0, .ref b0, .int (-1)])), (n0, .inr (3, [.ref l0, .ref l1, .int 0, .int 0]))] []) (vp_Si (fun r => r = (-2))) 0 0 (fun _ => False) := by
  refine Met.ofW (cc := cX11_takeRing) (maxL := 5) (ret := (some .int)) (by decide) rfl ?_
  intro p e s m args below meth c s₁ B hml hv
  obtain ⟨rfl, hsz, hP, hK, hD0⟩ := hv
  have hx := B.exec
  have hb := B.bytes
  have hr := B.returns
  have hT : ∀ w ∈ TB, w.before [.ref h0, .int k0].toArray s = true := fun w h => atoms_spec (ws := wT yX11_takeRing cX11_takeRing 5 (some .int)) B.pre w (List.mem_cons_of_mem _ h)
  have hown : s.vm.findClass RX11 = some m.cls := findClass_of_methodNamed B.named
  have hlocks := B.notSynchronized
  subst hsz
  have hD := hD0
  have hP : va_P (dC, dI) vwCl [(h0, .inr (11, [.ref a0, .ref a1, .ref a2, .ref a3, .ref a4, .ref a5, .ref a6, .ref a7, .ref a8, .ref a9, .ref n0, .ref b0, .int (-1)])), (n0, .inr (3, [.ref l0, .ref l1, .int 0, .int 0]))] s.heap := hP
  have hl := lv_entry ([.ref h0, .int k0]) (n := 5) (Nat.le_of_ble_eq_true rfl)
  rw [lg_entry_eq]
  generalize (lg_sl ([.ref h0, .int k0]) ++ List.replicate (5 - (lg_sl ([.ref h0, .int k0])).length) Slot.unset).toArray = ls at hl ⊢
  have hl : lv_has ls 5 [(0, .ref h0), (1, .int k0)] := hl
  refine lv_aload_n hx hb dX11_takeRing_0 rfl (lv_at hl 0 rfl) ?_
  refine lv_iload_n hx hb dX11_takeRing_1 rfl (lv_at hl 1 rfl) ?_
  have hPc := hP.sub (ws' := [(h0, .inr (11, [.ref a0, .ref a1, .ref a2, .ref a3, .ref a4, .ref a5, .ref a6, .ref a7, .ref a8, .ref a9, .ref n0, .ref b0, .int (-1)])), (n0, .inr (3, [.ref l0, .ref l1, .int 0, .int 0]))]) [0, 1] rfl
  have hDc := hD.sub (ws' := [(h0, .inr (11, [.ref a0, .ref a1, .ref a2, .ref a3, .ref a4, .ref a5, .ref a6, .ref a7, .ref a8, .ref a9, .ref n0, .ref b0, .int (-1)])), (n0, .inr (3, [.ref l0, .ref l1, .int 0, .int 0]))]) [0, 1] (by decide) rfl
  have hKc := hK.sub (tys' := []) [] rfl
  refine vp_callSi (va_Run.run (va_runV (As := [.int k0]) (rest := []) ⟨hx, hb, hml, hown, hT⟩ (c_noKind l dC dI h0 a0 a1 a2 a3 a4 a5 a6 a7 a8 a9 n0 b0 l0 l1 s.heap.size k0) (cwV 1 hT (gV w606 w608 ws24 w1 w609) rfl rfl rfl (by decide +kernel) ⟨(Nat.le_of_ble_eq_true rfl), (Nat.le_of_ble_eq_true rfl)⟩) ⟨pcW.blind, va_recv hKc hPc (ci := 11) (q0 := 0) rfl rfl, pcW.pre hPc hKc hDc⟩ rfl rfl hl.1 rfl (lv_room (Nat.le_of_ble_eq_true rfl)) dX11_takeRing_2 ⟨(Nat.le_of_ble_eq_true rfl), (Nat.le_of_ble_eq_true rfl)⟩)) (fun r_2 hr_2 => ?_)
  obtain rfl : r_2 = 1 := hr_2
  refine lv_if_eq (tgt := 11) hx hb dX11_takeRing_5 (by decide) (fun h => absurd h (by decide)) (fun _ => ?_)
  refine lv_bipush (v := (-2)) hx hb dX11_takeRing_8 (by decide) ?_
  exact W.iret (v := (-2)) hx hb hr (fun t ht hW => ⟨(-2), rfl, rfl, ht⟩) (fun q h => by cases h) dX11_takeRing_10

set_option maxHeartbeats 4000000 in
set_option maxRecDepth 100000 in
theorem c_press (l : Launch) (dC : Nat → ClassId) (dI : Nat → Nat → Nat) (h0 : Nat) (a0 : Nat) (a1 : Nat) (a2 : Nat) (a3 : Nat) (a4 : Nat) (a5 : Nat) (a6 : Nat) (a7 : Nat) (a8 : Nat) (a9 : Nat) (n0 : Nat) (b0 : Nat) (l0 : Nat) (l1 : Nat) (sz : Nat) (k0 : Int32) : Met l yX11_press (wT yX11_press cX11_press 6 (some .int)) ({ frames := 1, cells := 0, slots := 0, locals := 21 }) (pcW dC dI [.ref h0, .int k0] sz [(h0, .inr (11, [.ref a0, .ref a1, .ref a2, .ref a3, .ref a4, .ref a5, .ref a6, .ref a7, .ref a8, .ref a9, .ref n0, .ref b0, .int (-1)])), (n0, .inr (3, [.ref l0, .ref l1, .int 0, .int 0]))] []) (vp_Si (fun r => r = (-2))) 0 0 (fun _ => False) := by
  refine Met.ofW (cc := cX11_press) (maxL := 6) (ret := (some .int)) (by decide) rfl ?_
  intro p e s m args below meth c s₁ B hml hv
  obtain ⟨rfl, hsz, hP, hK, hD0⟩ := hv
  have hx := B.exec
  have hb := B.bytes
  have hr := B.returns
  have hT : ∀ w ∈ TB, w.before [.ref h0, .int k0].toArray s = true := fun w h => atoms_spec (ws := wT yX11_press cX11_press 6 (some .int)) B.pre w (List.mem_cons_of_mem _ h)
  have hown : s.vm.findClass RX11 = some m.cls := findClass_of_methodNamed B.named
  have hlocks := B.notSynchronized
  subst hsz
  have hD := hD0
  have hP : va_P (dC, dI) vwCl [(h0, .inr (11, [.ref a0, .ref a1, .ref a2, .ref a3, .ref a4, .ref a5, .ref a6, .ref a7, .ref a8, .ref a9, .ref n0, .ref b0, .int (-1)])), (n0, .inr (3, [.ref l0, .ref l1, .int 0, .int 0]))] s.heap := hP
  have hl := lv_entry ([.ref h0, .int k0]) (n := 6) (Nat.le_of_ble_eq_true rfl)
  rw [lg_entry_eq]
  generalize (lg_sl ([.ref h0, .int k0]) ++ List.replicate (6 - (lg_sl ([.ref h0, .int k0])).length) Slot.unset).toArray = ls at hl ⊢
  have hl : lv_has ls 6 [(0, .ref h0), (1, .int k0)] := hl
  refine lv_aload_n hx hb dX11_press_0 rfl (lv_at hl 0 rfl) ?_
  refine lv_iload_n hx hb dX11_press_1 rfl (lv_at hl 1 rfl) ?_
  have hPc := hP.sub (ws' := [(h0, .inr (11, [.ref a0, .ref a1, .ref a2, .ref a3, .ref a4, .ref a5, .ref a6, .ref a7, .ref a8, .ref a9, .ref n0, .ref b0, .int (-1)])), (n0, .inr (3, [.ref l0, .ref l1, .int 0, .int 0]))]) [0, 1] rfl
  have hDc := hD.sub (ws' := [(h0, .inr (11, [.ref a0, .ref a1, .ref a2, .ref a3, .ref a4, .ref a5, .ref a6, .ref a7, .ref a8, .ref a9, .ref n0, .ref b0, .int (-1)])), (n0, .inr (3, [.ref l0, .ref l1, .int 0, .int 0]))]) [0, 1] (by decide) rfl
  have hKc := hK.sub (tys' := []) [] rfl
  refine vp_callSi (va_Run.run (va_runV (As := [.int k0]) (rest := []) ⟨hx, hb, hml, hown, hT⟩ (c_noKind l dC dI h0 a0 a1 a2 a3 a4 a5 a6 a7 a8 a9 n0 b0 l0 l1 s.heap.size k0) (cwV 1 hT (gV w606 w608 ws24 w1 w609) rfl rfl rfl (by decide +kernel) ⟨(Nat.le_of_ble_eq_true rfl), (Nat.le_of_ble_eq_true rfl)⟩) ⟨pcW.blind, va_recv hKc hPc (ci := 11) (q0 := 0) rfl rfl, pcW.pre hPc hKc hDc⟩ rfl rfl hl.1 rfl (lv_room (Nat.le_of_ble_eq_true rfl)) dX11_press_2 ⟨(Nat.le_of_ble_eq_true rfl), (Nat.le_of_ble_eq_true rfl)⟩)) (fun r_2 hr_2 => ?_)
  obtain rfl : r_2 = 1 := hr_2
  refine lv_if_eq (tgt := 11) hx hb dX11_press_5 (by decide) (fun h => absurd h (by decide)) (fun _ => ?_)
  refine lv_bipush (v := (-2)) hx hb dX11_press_8 (by decide) ?_
  exact W.iret (v := (-2)) hx hb hr (fun t ht hW => ⟨(-2), rfl, rfl, ht⟩) (fun q h => by cases h) dX11_press_10

set_option maxHeartbeats 4000000 in
set_option maxRecDepth 100000 in
theorem c_total (l : Launch) (dC : Nat → ClassId) (dI : Nat → Nat → Nat) (h0 : Nat) (a0 : Nat) (a1 : Nat) (a2 : Nat) (a3 : Nat) (a4 : Nat) (a5 : Nat) (a6 : Nat) (a7 : Nat) (a8 : Nat) (a9 : Nat) (n0 : Nat) (b0 : Nat) (l0 : Nat) (l1 : Nat) (sz : Nat) (k0 : Int32) (k1 : Int32) : Met l yX11_total (wT yX11_total cX11_total 3 (some .int)) ({ frames := 1, cells := 0, slots := 0, locals := 21 }) (pcW dC dI [.ref h0, .int k0, .int k1] sz [(h0, .inr (11, [.ref a0, .ref a1, .ref a2, .ref a3, .ref a4, .ref a5, .ref a6, .ref a7, .ref a8, .ref a9, .ref n0, .ref b0, .int (-1)])), (n0, .inr (3, [.ref l0, .ref l1, .int 0, .int 0]))] []) (vp_Si (fun r => r = (-2))) 0 0 (fun _ => False) := by
  refine Met.ofW (cc := cX11_total) (maxL := 3) (ret := (some .int)) (by decide) rfl ?_
  intro p e s m args below meth c s₁ B hml hv
  obtain ⟨rfl, hsz, hP, hK, hD0⟩ := hv
  have hx := B.exec
  have hb := B.bytes
  have hr := B.returns
  have hT : ∀ w ∈ TB, w.before [.ref h0, .int k0, .int k1].toArray s = true := fun w h => atoms_spec (ws := wT yX11_total cX11_total 3 (some .int)) B.pre w (List.mem_cons_of_mem _ h)
  have hown : s.vm.findClass RX11 = some m.cls := findClass_of_methodNamed B.named
  have hlocks := B.notSynchronized
  subst hsz
  have hD := hD0
  have hP : va_P (dC, dI) vwCl [(h0, .inr (11, [.ref a0, .ref a1, .ref a2, .ref a3, .ref a4, .ref a5, .ref a6, .ref a7, .ref a8, .ref a9, .ref n0, .ref b0, .int (-1)])), (n0, .inr (3, [.ref l0, .ref l1, .int 0, .int 0]))] s.heap := hP
  have hl := lv_entry ([.ref h0, .int k0, .int k1]) (n := 3) (Nat.le_of_ble_eq_true rfl)
  rw [lg_entry_eq]
  generalize (lg_sl ([.ref h0, .int k0, .int k1]) ++ List.replicate (3 - (lg_sl ([.ref h0, .int k0, .int k1])).length) Slot.unset).toArray = ls at hl ⊢
  have hl : lv_has ls 3 [(0, .ref h0), (1, .int k0), (2, .int k1)] := hl
  refine lv_aload_n hx hb dX11_total_0 rfl (lv_at hl 0 rfl) ?_
  refine lv_iload_n hx hb dX11_total_1 rfl (lv_at hl 1 rfl) ?_
  have hPc := hP.sub (ws' := [(h0, .inr (11, [.ref a0, .ref a1, .ref a2, .ref a3, .ref a4, .ref a5, .ref a6, .ref a7, .ref a8, .ref a9, .ref n0, .ref b0, .int (-1)])), (n0, .inr (3, [.ref l0, .ref l1, .int 0, .int 0]))]) [0, 1] rfl
  have hDc := hD.sub (ws' := [(h0, .inr (11, [.ref a0, .ref a1, .ref a2, .ref a3, .ref a4, .ref a5, .ref a6, .ref a7, .ref a8, .ref a9, .ref n0, .ref b0, .int (-1)])), (n0, .inr (3, [.ref l0, .ref l1, .int 0, .int 0]))]) [0, 1] (by decide) rfl
  have hKc := hK.sub (tys' := []) [] rfl
  refine vp_callSi (va_Run.run (va_runV (As := [.int k0]) (rest := []) ⟨hx, hb, hml, hown, hT⟩ (c_noKind l dC dI h0 a0 a1 a2 a3 a4 a5 a6 a7 a8 a9 n0 b0 l0 l1 s.heap.size k0) (cwV 1 hT (gV w606 w608 ws24 w1 w609) rfl rfl rfl (by decide +kernel) ⟨(Nat.le_of_ble_eq_true rfl), (Nat.le_of_ble_eq_true rfl)⟩) ⟨pcW.blind, va_recv hKc hPc (ci := 11) (q0 := 0) rfl rfl, pcW.pre hPc hKc hDc⟩ rfl rfl hl.1 rfl (lv_room (Nat.le_of_ble_eq_true rfl)) dX11_total_2 ⟨(Nat.le_of_ble_eq_true rfl), (Nat.le_of_ble_eq_true rfl)⟩)) (fun r_2 hr_2 => ?_)
  obtain rfl : r_2 = 1 := hr_2
  refine lv_if_eq (tgt := 11) hx hb dX11_total_5 (by decide) (fun h => absurd h (by decide)) (fun _ => ?_)
  refine lv_bipush (v := (-2)) hx hb dX11_total_8 (by decide) ?_
  exact W.iret (v := (-2)) hx hb hr (fun t ht hW => ⟨(-2), rfl, rfl, ht⟩) (fun q h => by cases h) dX11_total_10

set_option maxHeartbeats 4000000 in
set_option maxRecDepth 100000 in
theorem c_ring (l : Launch) (dC : Nat → ClassId) (dI : Nat → Nat → Nat) (h0 : Nat) (a0 : Nat) (a1 : Nat) (a2 : Nat) (a3 : Nat) (a4 : Nat) (a5 : Nat) (a6 : Nat) (a7 : Nat) (a8 : Nat) (a9 : Nat) (n0 : Nat) (b0 : Nat) (l0 : Nat) (l1 : Nat) (sz : Nat) (k0 : Int32) (k1 : Int32) : Met l yX11_ring (wT yX11_ring cX11_ring 3 (some .int)) ({ frames := 1, cells := 0, slots := 0, locals := 21 }) (pcW dC dI [.ref h0, .int k0, .int k1] sz [(h0, .inr (11, [.ref a0, .ref a1, .ref a2, .ref a3, .ref a4, .ref a5, .ref a6, .ref a7, .ref a8, .ref a9, .ref n0, .ref b0, .int (-1)])), (n0, .inr (3, [.ref l0, .ref l1, .int 0, .int 0]))] []) (vp_Si (fun r => r = (-2))) 0 0 (fun _ => False) := by
  refine Met.ofW (cc := cX11_ring) (maxL := 3) (ret := (some .int)) (by decide) rfl ?_
  intro p e s m args below meth c s₁ B hml hv
  obtain ⟨rfl, hsz, hP, hK, hD0⟩ := hv
  have hx := B.exec
  have hb := B.bytes
  have hr := B.returns
  have hT : ∀ w ∈ TB, w.before [.ref h0, .int k0, .int k1].toArray s = true := fun w h => atoms_spec (ws := wT yX11_ring cX11_ring 3 (some .int)) B.pre w (List.mem_cons_of_mem _ h)
  have hown : s.vm.findClass RX11 = some m.cls := findClass_of_methodNamed B.named
  have hlocks := B.notSynchronized
  subst hsz
  have hD := hD0
  have hP : va_P (dC, dI) vwCl [(h0, .inr (11, [.ref a0, .ref a1, .ref a2, .ref a3, .ref a4, .ref a5, .ref a6, .ref a7, .ref a8, .ref a9, .ref n0, .ref b0, .int (-1)])), (n0, .inr (3, [.ref l0, .ref l1, .int 0, .int 0]))] s.heap := hP
  have hl := lv_entry ([.ref h0, .int k0, .int k1]) (n := 3) (Nat.le_of_ble_eq_true rfl)
  rw [lg_entry_eq]
  generalize (lg_sl ([.ref h0, .int k0, .int k1]) ++ List.replicate (3 - (lg_sl ([.ref h0, .int k0, .int k1])).length) Slot.unset).toArray = ls at hl ⊢
  have hl : lv_has ls 3 [(0, .ref h0), (1, .int k0), (2, .int k1)] := hl
  refine lv_aload_n hx hb dX11_ring_0 rfl (lv_at hl 0 rfl) ?_
  refine lv_iload_n hx hb dX11_ring_1 rfl (lv_at hl 1 rfl) ?_
  have hPc := hP.sub (ws' := [(h0, .inr (11, [.ref a0, .ref a1, .ref a2, .ref a3, .ref a4, .ref a5, .ref a6, .ref a7, .ref a8, .ref a9, .ref n0, .ref b0, .int (-1)])), (n0, .inr (3, [.ref l0, .ref l1, .int 0, .int 0]))]) [0, 1] rfl
  have hDc := hD.sub (ws' := [(h0, .inr (11, [.ref a0, .ref a1, .ref a2, .ref a3, .ref a4, .ref a5, .ref a6, .ref a7, .ref a8, .ref a9, .ref n0, .ref b0, .int (-1)])), (n0, .inr (3, [.ref l0, .ref l1, .int 0, .int 0]))]) [0, 1] (by decide) rfl
  have hKc := hK.sub (tys' := []) [] rfl
  refine vp_callSi (va_Run.run (va_runV (As := [.int k0]) (rest := []) ⟨hx, hb, hml, hown, hT⟩ (c_noKind l dC dI h0 a0 a1 a2 a3 a4 a5 a6 a7 a8 a9 n0 b0 l0 l1 s.heap.size k0) (cwV 1 hT (gV w606 w608 ws24 w1 w609) rfl rfl rfl (by decide +kernel) ⟨(Nat.le_of_ble_eq_true rfl), (Nat.le_of_ble_eq_true rfl)⟩) ⟨pcW.blind, va_recv hKc hPc (ci := 11) (q0 := 0) rfl rfl, pcW.pre hPc hKc hDc⟩ rfl rfl hl.1 rfl (lv_room (Nat.le_of_ble_eq_true rfl)) dX11_ring_2 ⟨(Nat.le_of_ble_eq_true rfl), (Nat.le_of_ble_eq_true rfl)⟩)) (fun r_2 hr_2 => ?_)
  obtain rfl : r_2 = 1 := hr_2
  refine lv_if_eq (tgt := 11) hx hb dX11_ring_5 (by decide) (fun h => absurd h (by decide)) (fun _ => ?_)
  refine lv_bipush (v := (-2)) hx hb dX11_ring_8 (by decide) ?_
  exact W.iret (v := (-2)) hx hb hr (fun t ht hW => ⟨(-2), rfl, rfl, ht⟩) (fun q h => by cases h) dX11_ring_10

set_option maxHeartbeats 4000000 in
set_option maxRecDepth 100000 in
theorem c_load (l : Launch) (dC : Nat → ClassId) (dI : Nat → Nat → Nat) (h0 : Nat) (a0 : Nat) (a1 : Nat) (a2 : Nat) (a3 : Nat) (a4 : Nat) (a5 : Nat) (a6 : Nat) (a7 : Nat) (a8 : Nat) (a9 : Nat) (n0 : Nat) (b0 : Nat) (l0 : Nat) (l1 : Nat) (sz : Nat) (k0 : Int32) : Met l yX11_load (wT yX11_load cX11_load 2 (some .int)) ({ frames := 1, cells := 0, slots := 0, locals := 21 }) (pcW dC dI [.ref h0, .int k0] sz [(h0, .inr (11, [.ref a0, .ref a1, .ref a2, .ref a3, .ref a4, .ref a5, .ref a6, .ref a7, .ref a8, .ref a9, .ref n0, .ref b0, .int (-1)])), (n0, .inr (3, [.ref l0, .ref l1, .int 0, .int 0]))] []) (vp_Si (fun r => r = (-2))) 0 0 (fun _ => False) := by
  refine Met.ofW (cc := cX11_load) (maxL := 2) (ret := (some .int)) (by decide) rfl ?_
  intro p e s m args below meth c s₁ B hml hv
  obtain ⟨rfl, hsz, hP, hK, hD0⟩ := hv
  have hx := B.exec
  have hb := B.bytes
  have hr := B.returns
  have hT : ∀ w ∈ TB, w.before [.ref h0, .int k0].toArray s = true := fun w h => atoms_spec (ws := wT yX11_load cX11_load 2 (some .int)) B.pre w (List.mem_cons_of_mem _ h)
  have hown : s.vm.findClass RX11 = some m.cls := findClass_of_methodNamed B.named
  have hlocks := B.notSynchronized
  subst hsz
  have hD := hD0
  have hP : va_P (dC, dI) vwCl [(h0, .inr (11, [.ref a0, .ref a1, .ref a2, .ref a3, .ref a4, .ref a5, .ref a6, .ref a7, .ref a8, .ref a9, .ref n0, .ref b0, .int (-1)])), (n0, .inr (3, [.ref l0, .ref l1, .int 0, .int 0]))] s.heap := hP
  have hl := lv_entry ([.ref h0, .int k0]) (n := 2) (Nat.le_of_ble_eq_true rfl)
  rw [lg_entry_eq]
  generalize (lg_sl ([.ref h0, .int k0]) ++ List.replicate (2 - (lg_sl ([.ref h0, .int k0])).length) Slot.unset).toArray = ls at hl ⊢
  have hl : lv_has ls 2 [(0, .ref h0), (1, .int k0)] := hl
  refine lv_aload_n hx hb dX11_load_0 rfl (lv_at hl 0 rfl) ?_
  refine lv_iload_n hx hb dX11_load_1 rfl (lv_at hl 1 rfl) ?_
  have hPc := hP.sub (ws' := [(h0, .inr (11, [.ref a0, .ref a1, .ref a2, .ref a3, .ref a4, .ref a5, .ref a6, .ref a7, .ref a8, .ref a9, .ref n0, .ref b0, .int (-1)])), (n0, .inr (3, [.ref l0, .ref l1, .int 0, .int 0]))]) [0, 1] rfl
  have hDc := hD.sub (ws' := [(h0, .inr (11, [.ref a0, .ref a1, .ref a2, .ref a3, .ref a4, .ref a5, .ref a6, .ref a7, .ref a8, .ref a9, .ref n0, .ref b0, .int (-1)])), (n0, .inr (3, [.ref l0, .ref l1, .int 0, .int 0]))]) [0, 1] (by decide) rfl
  have hKc := hK.sub (tys' := []) [] rfl
  refine vp_callSi (va_Run.run (va_runV (As := [.int k0]) (rest := []) ⟨hx, hb, hml, hown, hT⟩ (c_noKind l dC dI h0 a0 a1 a2 a3 a4 a5 a6 a7 a8 a9 n0 b0 l0 l1 s.heap.size k0) (cwV 1 hT (gV w606 w608 ws24 w1 w609) rfl rfl rfl (by decide +kernel) ⟨(Nat.le_of_ble_eq_true rfl), (Nat.le_of_ble_eq_true rfl)⟩) ⟨pcW.blind, va_recv hKc hPc (ci := 11) (q0 := 0) rfl rfl, pcW.pre hPc hKc hDc⟩ rfl rfl hl.1 rfl (lv_room (Nat.le_of_ble_eq_true rfl)) dX11_load_2 ⟨(Nat.le_of_ble_eq_true rfl), (Nat.le_of_ble_eq_true rfl)⟩)) (fun r_2 hr_2 => ?_)
  obtain rfl : r_2 = 1 := hr_2
  refine lv_if_eq (tgt := 11) hx hb dX11_load_5 (by decide) (fun h => absurd h (by decide)) (fun _ => ?_)
  refine lv_bipush (v := (-2)) hx hb dX11_load_8 (by decide) ?_
  exact W.iret (v := (-2)) hx hb hr (fun t ht hW => ⟨(-2), rfl, rfl, ht⟩) (fun q h => by cases h) dX11_load_10

set_option maxHeartbeats 4000000 in
set_option maxRecDepth 100000 in
theorem c_cleared (l : Launch) (dC : Nat → ClassId) (dI : Nat → Nat → Nat) (h0 : Nat) (a0 : Nat) (a1 : Nat) (a2 : Nat) (a3 : Nat) (a4 : Nat) (a5 : Nat) (a6 : Nat) (a7 : Nat) (a8 : Nat) (a9 : Nat) (n0 : Nat) (b0 : Nat) (l0 : Nat) (l1 : Nat) (sz : Nat) (k0 : Int32) (k1 : Int32) : Met l yX11_cleared (wT yX11_cleared cX11_cleared 3 (some .int)) ({ frames := 1, cells := 0, slots := 0, locals := 21 }) (pcW dC dI [.ref h0, .int k0, .int k1] sz [(h0, .inr (11, [.ref a0, .ref a1, .ref a2, .ref a3, .ref a4, .ref a5, .ref a6, .ref a7, .ref a8, .ref a9, .ref n0, .ref b0, .int (-1)])), (n0, .inr (3, [.ref l0, .ref l1, .int 0, .int 0]))] []) (vp_Si (fun r => r = (-2))) 0 0 (fun _ => False) := by
  refine Met.ofW (cc := cX11_cleared) (maxL := 3) (ret := (some .int)) (by decide) rfl ?_
  intro p e s m args below meth c s₁ B hml hv
  obtain ⟨rfl, hsz, hP, hK, hD0⟩ := hv
  have hx := B.exec
  have hb := B.bytes
  have hr := B.returns
  have hT : ∀ w ∈ TB, w.before [.ref h0, .int k0, .int k1].toArray s = true := fun w h => atoms_spec (ws := wT yX11_cleared cX11_cleared 3 (some .int)) B.pre w (List.mem_cons_of_mem _ h)
  have hown : s.vm.findClass RX11 = some m.cls := findClass_of_methodNamed B.named
  have hlocks := B.notSynchronized
  subst hsz
  have hD := hD0
  have hP : va_P (dC, dI) vwCl [(h0, .inr (11, [.ref a0, .ref a1, .ref a2, .ref a3, .ref a4, .ref a5, .ref a6, .ref a7, .ref a8, .ref a9, .ref n0, .ref b0, .int (-1)])), (n0, .inr (3, [.ref l0, .ref l1, .int 0, .int 0]))] s.heap := hP
  have hl := lv_entry ([.ref h0, .int k0, .int k1]) (n := 3) (Nat.le_of_ble_eq_true rfl)
  rw [lg_entry_eq]
  generalize (lg_sl ([.ref h0, .int k0, .int k1]) ++ List.replicate (3 - (lg_sl ([.ref h0, .int k0, .int k1])).length) Slot.unset).toArray = ls at hl ⊢
  have hl : lv_has ls 3 [(0, .ref h0), (1, .int k0), (2, .int k1)] := hl
  refine lv_aload_n hx hb dX11_cleared_0 rfl (lv_at hl 0 rfl) ?_
  refine lv_iload_n hx hb dX11_cleared_1 rfl (lv_at hl 1 rfl) ?_
  have hPc := hP.sub (ws' := [(h0, .inr (11, [.ref a0, .ref a1, .ref a2, .ref a3, .ref a4, .ref a5, .ref a6, .ref a7, .ref a8, .ref a9, .ref n0, .ref b0, .int (-1)])), (n0, .inr (3, [.ref l0, .ref l1, .int 0, .int 0]))]) [0, 1] rfl
  have hDc := hD.sub (ws' := [(h0, .inr (11, [.ref a0, .ref a1, .ref a2, .ref a3, .ref a4, .ref a5, .ref a6, .ref a7, .ref a8, .ref a9, .ref n0, .ref b0, .int (-1)])), (n0, .inr (3, [.ref l0, .ref l1, .int 0, .int 0]))]) [0, 1] (by decide) rfl
  have hKc := hK.sub (tys' := []) [] rfl
  refine vp_callSi (va_Run.run (va_runV (As := [.int k0]) (rest := []) ⟨hx, hb, hml, hown, hT⟩ (c_noKind l dC dI h0 a0 a1 a2 a3 a4 a5 a6 a7 a8 a9 n0 b0 l0 l1 s.heap.size k0) (cwV 1 hT (gV w606 w608 ws24 w1 w609) rfl rfl rfl (by decide +kernel) ⟨(Nat.le_of_ble_eq_true rfl), (Nat.le_of_ble_eq_true rfl)⟩) ⟨pcW.blind, va_recv hKc hPc (ci := 11) (q0 := 0) rfl rfl, pcW.pre hPc hKc hDc⟩ rfl rfl hl.1 rfl (lv_room (Nat.le_of_ble_eq_true rfl)) dX11_cleared_2 ⟨(Nat.le_of_ble_eq_true rfl), (Nat.le_of_ble_eq_true rfl)⟩)) (fun r_2 hr_2 => ?_)
  obtain rfl : r_2 = 1 := hr_2
  refine lv_if_eq (tgt := 11) hx hb dX11_cleared_5 (by decide) (fun h => absurd h (by decide)) (fun _ => ?_)
  refine lv_bipush (v := (-2)) hx hb dX11_cleared_8 (by decide) ?_
  exact W.iret (v := (-2)) hx hb hr (fun t ht hW => ⟨(-2), rfl, rfl, ht⟩) (fun q h => by cases h) dX11_cleared_10

set_option maxHeartbeats 4000000 in
set_option maxRecDepth 100000 in
theorem c_rounds (l : Launch) (dC : Nat → ClassId) (dI : Nat → Nat → Nat) (h0 : Nat) (a0 : Nat) (a1 : Nat) (a2 : Nat) (a3 : Nat) (a4 : Nat) (a5 : Nat) (a6 : Nat) (a7 : Nat) (a8 : Nat) (a9 : Nat) (n0 : Nat) (b0 : Nat) (l0 : Nat) (l1 : Nat) (sz : Nat) (k0 : Int32) (k1 : Int32) : Met l yX11_rounds (wT yX11_rounds cX11_rounds 3 (some .int)) ({ frames := 1, cells := 0, slots := 0, locals := 21 }) (pcW dC dI [.ref h0, .int k0, .int k1] sz [(h0, .inr (11, [.ref a0, .ref a1, .ref a2, .ref a3, .ref a4, .ref a5, .ref a6, .ref a7, .ref a8, .ref a9, .ref n0, .ref b0, .int (-1)])), (n0, .inr (3, [.ref l0, .ref l1, .int 0, .int 0]))] []) (vp_Si (fun r => r = (-2))) 0 0 (fun _ => False) := by
  refine Met.ofW (cc := cX11_rounds) (maxL := 3) (ret := (some .int)) (by decide) rfl ?_
  intro p e s m args below meth c s₁ B hml hv
  obtain ⟨rfl, hsz, hP, hK, hD0⟩ := hv
  have hx := B.exec
  have hb := B.bytes
  have hr := B.returns
  have hT : ∀ w ∈ TB, w.before [.ref h0, .int k0, .int k1].toArray s = true := fun w h => atoms_spec (ws := wT yX11_rounds cX11_rounds 3 (some .int)) B.pre w (List.mem_cons_of_mem _ h)
  have hown : s.vm.findClass RX11 = some m.cls := findClass_of_methodNamed B.named
  have hlocks := B.notSynchronized
  subst hsz
  have hD := hD0
  have hP : va_P (dC, dI) vwCl [(h0, .inr (11, [.ref a0, .ref a1, .ref a2, .ref a3, .ref a4, .ref a5, .ref a6, .ref a7, .ref a8, .ref a9, .ref n0, .ref b0, .int (-1)])), (n0, .inr (3, [.ref l0, .ref l1, .int 0, .int 0]))] s.heap := hP
  have hl := lv_entry ([.ref h0, .int k0, .int k1]) (n := 3) (Nat.le_of_ble_eq_true rfl)
  rw [lg_entry_eq]
  generalize (lg_sl ([.ref h0, .int k0, .int k1]) ++ List.replicate (3 - (lg_sl ([.ref h0, .int k0, .int k1])).length) Slot.unset).toArray = ls at hl ⊢
  have hl : lv_has ls 3 [(0, .ref h0), (1, .int k0), (2, .int k1)] := hl
  refine lv_aload_n hx hb dX11_rounds_0 rfl (lv_at hl 0 rfl) ?_
  refine lv_iload_n hx hb dX11_rounds_1 rfl (lv_at hl 1 rfl) ?_
  have hPc := hP.sub (ws' := [(h0, .inr (11, [.ref a0, .ref a1, .ref a2, .ref a3, .ref a4, .ref a5, .ref a6, .ref a7, .ref a8, .ref a9, .ref n0, .ref b0, .int (-1)])), (n0, .inr (3, [.ref l0, .ref l1, .int 0, .int 0]))]) [0, 1] rfl
  have hDc := hD.sub (ws' := [(h0, .inr (11, [.ref a0, .ref a1, .ref a2, .ref a3, .ref a4, .ref a5, .ref a6, .ref a7, .ref a8, .ref a9, .ref n0, .ref b0, .int (-1)])), (n0, .inr (3, [.ref l0, .ref l1, .int 0, .int 0]))]) [0, 1] (by decide) rfl
  have hKc := hK.sub (tys' := []) [] rfl
  refine vp_callSi (va_Run.run (va_runV (As := [.int k0]) (rest := []) ⟨hx, hb, hml, hown, hT⟩ (c_noKind l dC dI h0 a0 a1 a2 a3 a4 a5 a6 a7 a8 a9 n0 b0 l0 l1 s.heap.size k0) (cwV 1 hT (gV w606 w608 ws24 w1 w609) rfl rfl rfl (by decide +kernel) ⟨(Nat.le_of_ble_eq_true rfl), (Nat.le_of_ble_eq_true rfl)⟩) ⟨pcW.blind, va_recv hKc hPc (ci := 11) (q0 := 0) rfl rfl, pcW.pre hPc hKc hDc⟩ rfl rfl hl.1 rfl (lv_room (Nat.le_of_ble_eq_true rfl)) dX11_rounds_2 ⟨(Nat.le_of_ble_eq_true rfl), (Nat.le_of_ble_eq_true rfl)⟩)) (fun r_2 hr_2 => ?_)
  obtain rfl : r_2 = 1 := hr_2
  refine lv_if_eq (tgt := 11) hx hb dX11_rounds_5 (by decide) (fun h => absurd h (by decide)) (fun _ => ?_)
  refine lv_bipush (v := (-2)) hx hb dX11_rounds_8 (by decide) ?_
  exact W.iret (v := (-2)) hx hb hr (fun t ht hW => ⟨(-2), rfl, rfl, ht⟩) (fun q h => by cases h) dX11_rounds_10

set_option maxHeartbeats 4000000 in
set_option maxRecDepth 100000 in
theorem c_chain (l : Launch) (dC : Nat → ClassId) (dI : Nat → Nat → Nat) (h0 : Nat) (a0 : Nat) (a1 : Nat) (a2 : Nat) (a3 : Nat) (a4 : Nat) (a5 : Nat) (a6 : Nat) (a7 : Nat) (a8 : Nat) (a9 : Nat) (n0 : Nat) (b0 : Nat) (l0 : Nat) (l1 : Nat) (sz : Nat) (k0 : Int32) (k1 : Int32) : Met l yX11_chain (wT yX11_chain cX11_chain 3 (some .int)) ({ frames := 1, cells := 0, slots := 0, locals := 21 }) (pcW dC dI [.ref h0, .int k0, .int k1] sz [(h0, .inr (11, [.ref a0, .ref a1, .ref a2, .ref a3, .ref a4, .ref a5, .ref a6, .ref a7, .ref a8, .ref a9, .ref n0, .ref b0, .int (-1)])), (n0, .inr (3, [.ref l0, .ref l1, .int 0, .int 0]))] []) (vp_Si (fun r => r = (-2))) 0 0 (fun _ => False) := by
  refine Met.ofW (cc := cX11_chain) (maxL := 3) (ret := (some .int)) (by decide) rfl ?_
  intro p e s m args below meth c s₁ B hml hv
  obtain ⟨rfl, hsz, hP, hK, hD0⟩ := hv
  have hx := B.exec
  have hb := B.bytes
  have hr := B.returns
  have hT : ∀ w ∈ TB, w.before [.ref h0, .int k0, .int k1].toArray s = true := fun w h => atoms_spec (ws := wT yX11_chain cX11_chain 3 (some .int)) B.pre w (List.mem_cons_of_mem _ h)
  have hown : s.vm.findClass RX11 = some m.cls := findClass_of_methodNamed B.named
  have hlocks := B.notSynchronized
  subst hsz
  have hD := hD0
  have hP : va_P (dC, dI) vwCl [(h0, .inr (11, [.ref a0, .ref a1, .ref a2, .ref a3, .ref a4, .ref a5, .ref a6, .ref a7, .ref a8, .ref a9, .ref n0, .ref b0, .int (-1)])), (n0, .inr (3, [.ref l0, .ref l1, .int 0, .int 0]))] s.heap := hP
  have hl := lv_entry ([.ref h0, .int k0, .int k1]) (n := 3) (Nat.le_of_ble_eq_true rfl)
  rw [lg_entry_eq]
  generalize (lg_sl ([.ref h0, .int k0, .int k1]) ++ List.replicate (3 - (lg_sl ([.ref h0, .int k0, .int k1])).length) Slot.unset).toArray = ls at hl ⊢
  have hl : lv_has ls 3 [(0, .ref h0), (1, .int k0), (2, .int k1)] := hl
  refine lv_aload_n hx hb dX11_chain_0 rfl (lv_at hl 0 rfl) ?_
  refine lv_iload_n hx hb dX11_chain_1 rfl (lv_at hl 1 rfl) ?_
  have hPc := hP.sub (ws' := [(h0, .inr (11, [.ref a0, .ref a1, .ref a2, .ref a3, .ref a4, .ref a5, .ref a6, .ref a7, .ref a8, .ref a9, .ref n0, .ref b0, .int (-1)])), (n0, .inr (3, [.ref l0, .ref l1, .int 0, .int 0]))]) [0, 1] rfl
  have hDc := hD.sub (ws' := [(h0, .inr (11, [.ref a0, .ref a1, .ref a2, .ref a3, .ref a4, .ref a5, .ref a6, .ref a7, .ref a8, .ref a9, .ref n0, .ref b0, .int (-1)])), (n0, .inr (3, [.ref l0, .ref l1, .int 0, .int 0]))]) [0, 1] (by decide) rfl
  have hKc := hK.sub (tys' := []) [] rfl
  refine vp_callSi (va_Run.run (va_runV (As := [.int k0]) (rest := []) ⟨hx, hb, hml, hown, hT⟩ (c_noKind l dC dI h0 a0 a1 a2 a3 a4 a5 a6 a7 a8 a9 n0 b0 l0 l1 s.heap.size k0) (cwV 1 hT (gV w606 w608 ws24 w1 w609) rfl rfl rfl (by decide +kernel) ⟨(Nat.le_of_ble_eq_true rfl), (Nat.le_of_ble_eq_true rfl)⟩) ⟨pcW.blind, va_recv hKc hPc (ci := 11) (q0 := 0) rfl rfl, pcW.pre hPc hKc hDc⟩ rfl rfl hl.1 rfl (lv_room (Nat.le_of_ble_eq_true rfl)) dX11_chain_2 ⟨(Nat.le_of_ble_eq_true rfl), (Nat.le_of_ble_eq_true rfl)⟩)) (fun r_2 hr_2 => ?_)
  obtain rfl : r_2 = 1 := hr_2
  refine lv_if_eq (tgt := 11) hx hb dX11_chain_5 (by decide) (fun h => absurd h (by decide)) (fun _ => ?_)
  refine lv_bipush (v := (-2)) hx hb dX11_chain_8 (by decide) ?_
  exact W.iret (v := (-2)) hx hb hr (fun t ht hW => ⟨(-2), rfl, rfl, ht⟩) (fun q h => by cases h) dX11_chain_10

set_option maxHeartbeats 4000000 in
set_option maxRecDepth 100000 in
theorem c_least (l : Launch) (dC : Nat → ClassId) (dI : Nat → Nat → Nat) (h0 : Nat) (a0 : Nat) (a1 : Nat) (a2 : Nat) (a3 : Nat) (a4 : Nat) (a5 : Nat) (a6 : Nat) (a7 : Nat) (a8 : Nat) (a9 : Nat) (n0 : Nat) (b0 : Nat) (l0 : Nat) (l1 : Nat) (sz : Nat) (k0 : Int32) : Met l yX11_least (wT yX11_least cX11_least 2 (some .int)) ({ frames := 1, cells := 0, slots := 0, locals := 21 }) (pcW dC dI [.ref h0, .int k0] sz [(h0, .inr (11, [.ref a0, .ref a1, .ref a2, .ref a3, .ref a4, .ref a5, .ref a6, .ref a7, .ref a8, .ref a9, .ref n0, .ref b0, .int (-1)])), (n0, .inr (3, [.ref l0, .ref l1, .int 0, .int 0]))] []) (vp_Si (fun r => r = (-2))) 0 0 (fun _ => False) := by
  refine Met.ofW (cc := cX11_least) (maxL := 2) (ret := (some .int)) (by decide) rfl ?_
  intro p e s m args below meth c s₁ B hml hv
  obtain ⟨rfl, hsz, hP, hK, hD0⟩ := hv
  have hx := B.exec
  have hb := B.bytes
  have hr := B.returns
  have hT : ∀ w ∈ TB, w.before [.ref h0, .int k0].toArray s = true := fun w h => atoms_spec (ws := wT yX11_least cX11_least 2 (some .int)) B.pre w (List.mem_cons_of_mem _ h)
  have hown : s.vm.findClass RX11 = some m.cls := findClass_of_methodNamed B.named
  have hlocks := B.notSynchronized
  subst hsz
  have hD := hD0
  have hP : va_P (dC, dI) vwCl [(h0, .inr (11, [.ref a0, .ref a1, .ref a2, .ref a3, .ref a4, .ref a5, .ref a6, .ref a7, .ref a8, .ref a9, .ref n0, .ref b0, .int (-1)])), (n0, .inr (3, [.ref l0, .ref l1, .int 0, .int 0]))] s.heap := hP
  have hl := lv_entry ([.ref h0, .int k0]) (n := 2) (Nat.le_of_ble_eq_true rfl)
  rw [lg_entry_eq]
  generalize (lg_sl ([.ref h0, .int k0]) ++ List.replicate (2 - (lg_sl ([.ref h0, .int k0])).length) Slot.unset).toArray = ls at hl ⊢
  have hl : lv_has ls 2 [(0, .ref h0), (1, .int k0)] := hl
  refine lv_aload_n hx hb dX11_least_0 rfl (lv_at hl 0 rfl) ?_
  refine lv_iload_n hx hb dX11_least_1 rfl (lv_at hl 1 rfl) ?_
  have hPc := hP.sub (ws' := [(h0, .inr (11, [.ref a0, .ref a1, .ref a2, .ref a3, .ref a4, .ref a5, .ref a6, .ref a7, .ref a8, .ref a9, .ref n0, .ref b0, .int (-1)])), (n0, .inr (3, [.ref l0, .ref l1, .int 0, .int 0]))]) [0, 1] rfl
  have hDc := hD.sub (ws' := [(h0, .inr (11, [.ref a0, .ref a1, .ref a2, .ref a3, .ref a4, .ref a5, .ref a6, .ref a7, .ref a8, .ref a9, .ref n0, .ref b0, .int (-1)])), (n0, .inr (3, [.ref l0, .ref l1, .int 0, .int 0]))]) [0, 1] (by decide) rfl
  have hKc := hK.sub (tys' := []) [] rfl
  refine vp_callSi (va_Run.run (va_runV (As := [.int k0]) (rest := []) ⟨hx, hb, hml, hown, hT⟩ (c_noKind l dC dI h0 a0 a1 a2 a3 a4 a5 a6 a7 a8 a9 n0 b0 l0 l1 s.heap.size k0) (cwV 1 hT (gV w606 w608 ws24 w1 w609) rfl rfl rfl (by decide +kernel) ⟨(Nat.le_of_ble_eq_true rfl), (Nat.le_of_ble_eq_true rfl)⟩) ⟨pcW.blind, va_recv hKc hPc (ci := 11) (q0 := 0) rfl rfl, pcW.pre hPc hKc hDc⟩ rfl rfl hl.1 rfl (lv_room (Nat.le_of_ble_eq_true rfl)) dX11_least_2 ⟨(Nat.le_of_ble_eq_true rfl), (Nat.le_of_ble_eq_true rfl)⟩)) (fun r_2 hr_2 => ?_)
  obtain rfl : r_2 = 1 := hr_2
  refine lv_if_eq (tgt := 11) hx hb dX11_least_5 (by decide) (fun h => absurd h (by decide)) (fun _ => ?_)
  refine lv_bipush (v := (-2)) hx hb dX11_least_8 (by decide) ?_
  exact W.iret (v := (-2)) hx hb hr (fun t ht hW => ⟨(-2), rfl, rfl, ht⟩) (fun q h => by cases h) dX11_least_10

set_option maxHeartbeats 4000000 in
set_option maxRecDepth 100000 in
theorem c_couples (l : Launch) (dC : Nat → ClassId) (dI : Nat → Nat → Nat) (h0 : Nat) (a0 : Nat) (a1 : Nat) (a2 : Nat) (a3 : Nat) (a4 : Nat) (a5 : Nat) (a6 : Nat) (a7 : Nat) (a8 : Nat) (a9 : Nat) (n0 : Nat) (b0 : Nat) (l0 : Nat) (l1 : Nat) (sz : Nat) (k0 : Int32) : Met l yX11_couples (wT yX11_couples cX11_couples 2 (some .int)) ({ frames := 1, cells := 0, slots := 0, locals := 21 }) (pcW dC dI [.ref h0, .int k0] sz [(h0, .inr (11, [.ref a0, .ref a1, .ref a2, .ref a3, .ref a4, .ref a5, .ref a6, .ref a7, .ref a8, .ref a9, .ref n0, .ref b0, .int (-1)])), (n0, .inr (3, [.ref l0, .ref l1, .int 0, .int 0]))] []) (vp_Si (fun r => r = (-2))) 0 0 (fun _ => False) := by
  refine Met.ofW (cc := cX11_couples) (maxL := 2) (ret := (some .int)) (by decide) rfl ?_
  intro p e s m args below meth c s₁ B hml hv
  obtain ⟨rfl, hsz, hP, hK, hD0⟩ := hv
  have hx := B.exec
  have hb := B.bytes
  have hr := B.returns
  have hT : ∀ w ∈ TB, w.before [.ref h0, .int k0].toArray s = true := fun w h => atoms_spec (ws := wT yX11_couples cX11_couples 2 (some .int)) B.pre w (List.mem_cons_of_mem _ h)
  have hown : s.vm.findClass RX11 = some m.cls := findClass_of_methodNamed B.named
  have hlocks := B.notSynchronized
  subst hsz
  have hD := hD0
  have hP : va_P (dC, dI) vwCl [(h0, .inr (11, [.ref a0, .ref a1, .ref a2, .ref a3, .ref a4, .ref a5, .ref a6, .ref a7, .ref a8, .ref a9, .ref n0, .ref b0, .int (-1)])), (n0, .inr (3, [.ref l0, .ref l1, .int 0, .int 0]))] s.heap := hP
  have hl := lv_entry ([.ref h0, .int k0]) (n := 2) (Nat.le_of_ble_eq_true rfl)
  rw [lg_entry_eq]
  generalize (lg_sl ([.ref h0, .int k0]) ++ List.replicate (2 - (lg_sl ([.ref h0, .int k0])).length) Slot.unset).toArray = ls at hl ⊢
  have hl : lv_has ls 2 [(0, .ref h0), (1, .int k0)] := hl
  refine lv_aload_n hx hb dX11_couples_0 rfl (lv_at hl 0 rfl) ?_
  refine lv_iload_n hx hb dX11_couples_1 rfl (lv_at hl 1 rfl) ?_
  have hPc := hP.sub (ws' := [(h0, .inr (11, [.ref a0, .ref a1, .ref a2, .ref a3, .ref a4, .ref a5, .ref a6, .ref a7, .ref a8, .ref a9, .ref n0, .ref b0, .int (-1)])), (n0, .inr (3, [.ref l0, .ref l1, .int 0, .int 0]))]) [0, 1] rfl
  have hDc := hD.sub (ws' := [(h0, .inr (11, [.ref a0, .ref a1, .ref a2, .ref a3, .ref a4, .ref a5, .ref a6, .ref a7, .ref a8, .ref a9, .ref n0, .ref b0, .int (-1)])), (n0, .inr (3, [.ref l0, .ref l1, .int 0, .int 0]))]) [0, 1] (by decide) rfl
  have hKc := hK.sub (tys' := []) [] rfl
  refine vp_callSi (va_Run.run (va_runV (As := [.int k0]) (rest := []) ⟨hx, hb, hml, hown, hT⟩ (c_noKind l dC dI h0 a0 a1 a2 a3 a4 a5 a6 a7 a8 a9 n0 b0 l0 l1 s.heap.size k0) (cwV 1 hT (gV w606 w608 ws24 w1 w609) rfl rfl rfl (by decide +kernel) ⟨(Nat.le_of_ble_eq_true rfl), (Nat.le_of_ble_eq_true rfl)⟩) ⟨pcW.blind, va_recv hKc hPc (ci := 11) (q0 := 0) rfl rfl, pcW.pre hPc hKc hDc⟩ rfl rfl hl.1 rfl (lv_room (Nat.le_of_ble_eq_true rfl)) dX11_couples_2 ⟨(Nat.le_of_ble_eq_true rfl), (Nat.le_of_ble_eq_true rfl)⟩)) (fun r_2 hr_2 => ?_)
  obtain rfl : r_2 = 1 := hr_2
  refine lv_if_eq (tgt := 11) hx hb dX11_couples_5 (by decide) (fun h => absurd h (by decide)) (fun _ => ?_)
  refine lv_bipush (v := (-2)) hx hb dX11_couples_8 (by decide) ?_
  exact W.iret (v := (-2)) hx hb hr (fun t ht hW => ⟨(-2), rfl, rfl, ht⟩) (fun q h => by cases h) dX11_couples_10

set_option maxHeartbeats 4000000 in
set_option maxRecDepth 100000 in
theorem c_relieved (l : Launch) (dC : Nat → ClassId) (dI : Nat → Nat → Nat) (h0 : Nat) (a0 : Nat) (a1 : Nat) (a2 : Nat) (a3 : Nat) (a4 : Nat) (a5 : Nat) (a6 : Nat) (a7 : Nat) (a8 : Nat) (a9 : Nat) (n0 : Nat) (b0 : Nat) (l0 : Nat) (l1 : Nat) (sz : Nat) (k0 : Int32) : Met l yX11_relieved (wT yX11_relieved cX11_relieved 8 (some .int)) ({ frames := 1, cells := 0, slots := 0, locals := 21 }) (pcW dC dI [.ref h0, .int k0] sz [(h0, .inr (11, [.ref a0, .ref a1, .ref a2, .ref a3, .ref a4, .ref a5, .ref a6, .ref a7, .ref a8, .ref a9, .ref n0, .ref b0, .int (-1)])), (n0, .inr (3, [.ref l0, .ref l1, .int 0, .int 0]))] []) (vp_Si (fun r => r = (-2))) 0 0 (fun _ => False) := by
  refine Met.ofW (cc := cX11_relieved) (maxL := 8) (ret := (some .int)) (by decide) rfl ?_
  intro p e s m args below meth c s₁ B hml hv
  obtain ⟨rfl, hsz, hP, hK, hD0⟩ := hv
  have hx := B.exec
  have hb := B.bytes
  have hr := B.returns
  have hT : ∀ w ∈ TB, w.before [.ref h0, .int k0].toArray s = true := fun w h => atoms_spec (ws := wT yX11_relieved cX11_relieved 8 (some .int)) B.pre w (List.mem_cons_of_mem _ h)
  have hown : s.vm.findClass RX11 = some m.cls := findClass_of_methodNamed B.named
  have hlocks := B.notSynchronized
  subst hsz
  have hD := hD0
  have hP : va_P (dC, dI) vwCl [(h0, .inr (11, [.ref a0, .ref a1, .ref a2, .ref a3, .ref a4, .ref a5, .ref a6, .ref a7, .ref a8, .ref a9, .ref n0, .ref b0, .int (-1)])), (n0, .inr (3, [.ref l0, .ref l1, .int 0, .int 0]))] s.heap := hP
  have hl := lv_entry ([.ref h0, .int k0]) (n := 8) (Nat.le_of_ble_eq_true rfl)
  rw [lg_entry_eq]
  generalize (lg_sl ([.ref h0, .int k0]) ++ List.replicate (8 - (lg_sl ([.ref h0, .int k0])).length) Slot.unset).toArray = ls at hl ⊢
  have hl : lv_has ls 8 [(0, .ref h0), (1, .int k0)] := hl
  refine lv_aload_n hx hb dX11_relieved_0 rfl (lv_at hl 0 rfl) ?_
  refine lv_iload_n hx hb dX11_relieved_1 rfl (lv_at hl 1 rfl) ?_
  have hPc := hP.sub (ws' := [(h0, .inr (11, [.ref a0, .ref a1, .ref a2, .ref a3, .ref a4, .ref a5, .ref a6, .ref a7, .ref a8, .ref a9, .ref n0, .ref b0, .int (-1)])), (n0, .inr (3, [.ref l0, .ref l1, .int 0, .int 0]))]) [0, 1] rfl
  have hDc := hD.sub (ws' := [(h0, .inr (11, [.ref a0, .ref a1, .ref a2, .ref a3, .ref a4, .ref a5, .ref a6, .ref a7, .ref a8, .ref a9, .ref n0, .ref b0, .int (-1)])), (n0, .inr (3, [.ref l0, .ref l1, .int 0, .int 0]))]) [0, 1] (by decide) rfl
  have hKc := hK.sub (tys' := []) [] rfl
  refine vp_callSi (va_Run.run (va_runV (As := [.int k0]) (rest := []) ⟨hx, hb, hml, hown, hT⟩ (c_noKind l dC dI h0 a0 a1 a2 a3 a4 a5 a6 a7 a8 a9 n0 b0 l0 l1 s.heap.size k0) (cwV 1 hT (gV w606 w608 ws24 w1 w609) rfl rfl rfl (by decide +kernel) ⟨(Nat.le_of_ble_eq_true rfl), (Nat.le_of_ble_eq_true rfl)⟩) ⟨pcW.blind, va_recv hKc hPc (ci := 11) (q0 := 0) rfl rfl, pcW.pre hPc hKc hDc⟩ rfl rfl hl.1 rfl (lv_room (Nat.le_of_ble_eq_true rfl)) dX11_relieved_2 ⟨(Nat.le_of_ble_eq_true rfl), (Nat.le_of_ble_eq_true rfl)⟩)) (fun r_2 hr_2 => ?_)
  obtain rfl : r_2 = 1 := hr_2
  refine lv_if_eq (tgt := 11) hx hb dX11_relieved_5 (by decide) (fun h => absurd h (by decide)) (fun _ => ?_)
  refine lv_bipush (v := (-2)) hx hb dX11_relieved_8 (by decide) ?_
  exact W.iret (v := (-2)) hx hb hr (fun t ht hW => ⟨(-2), rfl, rfl, ht⟩) (fun q h => by cases h) dX11_relieved_10

set_option maxHeartbeats 4000000 in
set_option maxRecDepth 100000 in
theorem c_fewest (l : Launch) (dC : Nat → ClassId) (dI : Nat → Nat → Nat) (h0 : Nat) (a0 : Nat) (a1 : Nat) (a2 : Nat) (a3 : Nat) (a4 : Nat) (a5 : Nat) (a6 : Nat) (a7 : Nat) (a8 : Nat) (a9 : Nat) (n0 : Nat) (b0 : Nat) (l0 : Nat) (l1 : Nat) (sz : Nat) (k0 : Int32) (k1 : Int32) : Met l yX11_fewest (wT yX11_fewest cX11_fewest 3 (some .int)) ({ frames := 1, cells := 0, slots := 0, locals := 21 }) (pcW dC dI [.ref h0, .int k0, .int k1] sz [(h0, .inr (11, [.ref a0, .ref a1, .ref a2, .ref a3, .ref a4, .ref a5, .ref a6, .ref a7, .ref a8, .ref a9, .ref n0, .ref b0, .int (-1)])), (n0, .inr (3, [.ref l0, .ref l1, .int 0, .int 0]))] []) (vp_Si (fun r => r = (-2))) 0 0 (fun _ => False) := by
  refine Met.ofW (cc := cX11_fewest) (maxL := 3) (ret := (some .int)) (by decide) rfl ?_
  intro p e s m args below meth c s₁ B hml hv
  obtain ⟨rfl, hsz, hP, hK, hD0⟩ := hv
  have hx := B.exec
  have hb := B.bytes
  have hr := B.returns
  have hT : ∀ w ∈ TB, w.before [.ref h0, .int k0, .int k1].toArray s = true := fun w h => atoms_spec (ws := wT yX11_fewest cX11_fewest 3 (some .int)) B.pre w (List.mem_cons_of_mem _ h)
  have hown : s.vm.findClass RX11 = some m.cls := findClass_of_methodNamed B.named
  have hlocks := B.notSynchronized
  subst hsz
  have hD := hD0
  have hP : va_P (dC, dI) vwCl [(h0, .inr (11, [.ref a0, .ref a1, .ref a2, .ref a3, .ref a4, .ref a5, .ref a6, .ref a7, .ref a8, .ref a9, .ref n0, .ref b0, .int (-1)])), (n0, .inr (3, [.ref l0, .ref l1, .int 0, .int 0]))] s.heap := hP
  have hl := lv_entry ([.ref h0, .int k0, .int k1]) (n := 3) (Nat.le_of_ble_eq_true rfl)
  rw [lg_entry_eq]
  generalize (lg_sl ([.ref h0, .int k0, .int k1]) ++ List.replicate (3 - (lg_sl ([.ref h0, .int k0, .int k1])).length) Slot.unset).toArray = ls at hl ⊢
  have hl : lv_has ls 3 [(0, .ref h0), (1, .int k0), (2, .int k1)] := hl
  refine lv_aload_n hx hb dX11_fewest_0 rfl (lv_at hl 0 rfl) ?_
  refine lv_iload_n hx hb dX11_fewest_1 rfl (lv_at hl 1 rfl) ?_
  have hPc := hP.sub (ws' := [(h0, .inr (11, [.ref a0, .ref a1, .ref a2, .ref a3, .ref a4, .ref a5, .ref a6, .ref a7, .ref a8, .ref a9, .ref n0, .ref b0, .int (-1)])), (n0, .inr (3, [.ref l0, .ref l1, .int 0, .int 0]))]) [0, 1] rfl
  have hDc := hD.sub (ws' := [(h0, .inr (11, [.ref a0, .ref a1, .ref a2, .ref a3, .ref a4, .ref a5, .ref a6, .ref a7, .ref a8, .ref a9, .ref n0, .ref b0, .int (-1)])), (n0, .inr (3, [.ref l0, .ref l1, .int 0, .int 0]))]) [0, 1] (by decide) rfl
  have hKc := hK.sub (tys' := []) [] rfl
  refine vp_callSi (va_Run.run (va_runV (As := [.int k0]) (rest := []) ⟨hx, hb, hml, hown, hT⟩ (c_noKind l dC dI h0 a0 a1 a2 a3 a4 a5 a6 a7 a8 a9 n0 b0 l0 l1 s.heap.size k0) (cwV 1 hT (gV w606 w608 ws24 w1 w609) rfl rfl rfl (by decide +kernel) ⟨(Nat.le_of_ble_eq_true rfl), (Nat.le_of_ble_eq_true rfl)⟩) ⟨pcW.blind, va_recv hKc hPc (ci := 11) (q0 := 0) rfl rfl, pcW.pre hPc hKc hDc⟩ rfl rfl hl.1 rfl (lv_room (Nat.le_of_ble_eq_true rfl)) dX11_fewest_2 ⟨(Nat.le_of_ble_eq_true rfl), (Nat.le_of_ble_eq_true rfl)⟩)) (fun r_2 hr_2 => ?_)
  obtain rfl : r_2 = 1 := hr_2
  refine lv_if_eq (tgt := 11) hx hb dX11_fewest_5 (by decide) (fun h => absurd h (by decide)) (fun _ => ?_)
  refine lv_bipush (v := (-2)) hx hb dX11_fewest_8 (by decide) ?_
  exact W.iret (v := (-2)) hx hb hr (fun t ht hW => ⟨(-2), rfl, rfl, ht⟩) (fun q h => by cases h) dX11_fewest_10

set_option maxHeartbeats 4000000 in
set_option maxRecDepth 100000 in
theorem c_even (l : Launch) (dC : Nat → ClassId) (dI : Nat → Nat → Nat) (h0 : Nat) (a0 : Nat) (a1 : Nat) (a2 : Nat) (a3 : Nat) (a4 : Nat) (a5 : Nat) (a6 : Nat) (a7 : Nat) (a8 : Nat) (a9 : Nat) (n0 : Nat) (b0 : Nat) (l0 : Nat) (l1 : Nat) (sz : Nat) (k0 : Int32) (k1 : Int32) : Met l yX11_even (wT yX11_even cX11_even 6 (some .int)) ({ frames := 1, cells := 0, slots := 0, locals := 21 }) (pcW dC dI [.ref h0, .int k0, .int k1] sz [(h0, .inr (11, [.ref a0, .ref a1, .ref a2, .ref a3, .ref a4, .ref a5, .ref a6, .ref a7, .ref a8, .ref a9, .ref n0, .ref b0, .int (-1)])), (n0, .inr (3, [.ref l0, .ref l1, .int 0, .int 0]))] []) (vp_Si (fun r => r = (-2))) 0 0 (fun _ => False) := by
  refine Met.ofW (cc := cX11_even) (maxL := 6) (ret := (some .int)) (by decide) rfl ?_
  intro p e s m args below meth c s₁ B hml hv
  obtain ⟨rfl, hsz, hP, hK, hD0⟩ := hv
  have hx := B.exec
  have hb := B.bytes
  have hr := B.returns
  have hT : ∀ w ∈ TB, w.before [.ref h0, .int k0, .int k1].toArray s = true := fun w h => atoms_spec (ws := wT yX11_even cX11_even 6 (some .int)) B.pre w (List.mem_cons_of_mem _ h)
  have hown : s.vm.findClass RX11 = some m.cls := findClass_of_methodNamed B.named
  have hlocks := B.notSynchronized
  subst hsz
  have hD := hD0
  have hP : va_P (dC, dI) vwCl [(h0, .inr (11, [.ref a0, .ref a1, .ref a2, .ref a3, .ref a4, .ref a5, .ref a6, .ref a7, .ref a8, .ref a9, .ref n0, .ref b0, .int (-1)])), (n0, .inr (3, [.ref l0, .ref l1, .int 0, .int 0]))] s.heap := hP
  have hl := lv_entry ([.ref h0, .int k0, .int k1]) (n := 6) (Nat.le_of_ble_eq_true rfl)
  rw [lg_entry_eq]
  generalize (lg_sl ([.ref h0, .int k0, .int k1]) ++ List.replicate (6 - (lg_sl ([.ref h0, .int k0, .int k1])).length) Slot.unset).toArray = ls at hl ⊢
  have hl : lv_has ls 6 [(0, .ref h0), (1, .int k0), (2, .int k1)] := hl
  refine lv_aload_n hx hb dX11_even_0 rfl (lv_at hl 0 rfl) ?_
  refine lv_iload_n hx hb dX11_even_1 rfl (lv_at hl 2 rfl) ?_
  have hPc := hP.sub (ws' := [(h0, .inr (11, [.ref a0, .ref a1, .ref a2, .ref a3, .ref a4, .ref a5, .ref a6, .ref a7, .ref a8, .ref a9, .ref n0, .ref b0, .int (-1)])), (n0, .inr (3, [.ref l0, .ref l1, .int 0, .int 0]))]) [0, 1] rfl
  have hDc := hD.sub (ws' := [(h0, .inr (11, [.ref a0, .ref a1, .ref a2, .ref a3, .ref a4, .ref a5, .ref a6, .ref a7, .ref a8, .ref a9, .ref n0, .ref b0, .int (-1)])), (n0, .inr (3, [.ref l0, .ref l1, .int 0, .int 0]))]) [0, 1] (by decide) rfl
  have hKc := hK.sub (tys' := []) [] rfl
  refine vp_callSi (va_Run.run (va_runV (As := [.int k1]) (rest := []) ⟨hx, hb, hml, hown, hT⟩ (c_noKind l dC dI h0 a0 a1 a2 a3 a4 a5 a6 a7 a8 a9 n0 b0 l0 l1 s.heap.size k1) (cwV 1 hT (gV w606 w608 ws24 w1 w609) rfl rfl rfl (by decide +kernel) ⟨(Nat.le_of_ble_eq_true rfl), (Nat.le_of_ble_eq_true rfl)⟩) ⟨pcW.blind, va_recv hKc hPc (ci := 11) (q0 := 0) rfl rfl, pcW.pre hPc hKc hDc⟩ rfl rfl hl.1 rfl (lv_room (Nat.le_of_ble_eq_true rfl)) dX11_even_2 ⟨(Nat.le_of_ble_eq_true rfl), (Nat.le_of_ble_eq_true rfl)⟩)) (fun r_2 hr_2 => ?_)
  obtain rfl : r_2 = 1 := hr_2
  refine lv_if_ne (tgt := 20) hx hb dX11_even_5 (by decide) (fun _ => ?_) (fun h => absurd h (by decide))
  refine lv_bipush (v := (-2)) hx hb dX11_even_20 (by decide) ?_
  exact W.iret (v := (-2)) hx hb hr (fun t ht hW => ⟨(-2), rfl, rfl, ht⟩) (fun q h => by cases h) dX11_even_22

set_option maxHeartbeats 4000000 in
set_option maxRecDepth 100000 in
theorem c_drop (l : Launch) (dC : Nat → ClassId) (dI : Nat → Nat → Nat) (h0 : Nat) (a0 : Nat) (a1 : Nat) (a2 : Nat) (a3 : Nat) (a4 : Nat) (a5 : Nat) (a6 : Nat) (a7 : Nat) (a8 : Nat) (a9 : Nat) (n0 : Nat) (b0 : Nat) (e0 : Nat) (e1 : Nat) (e2 : Nat) (e3 : Nat) (e4 : Nat) (e5 : Nat) (sz : Nat) (k0 : Int32) : Met l yX11_drop (wT yX11_drop cX11_drop 2 (some .int)) ({ frames := 1, cells := 0, slots := 0, locals := 21 }) (pcW dC dI [.ref h0, .int k0] sz [(h0, .inr (11, [.ref a0, .ref a1, .ref a2, .ref a3, .ref a4, .ref a5, .ref a6, .ref a7, .ref a8, .ref a9, .ref n0, .ref b0, .int (-1)])), (b0, .inr (0, [.ref e0, .ref e1, .ref e2, .ref e3, .ref e4, .ref e5, .int 0, .int 0]))] []) (vp_Si (fun r => r = (-2))) 0 0 (fun _ => False) := by
  refine Met.ofW (cc := cX11_drop) (maxL := 2) (ret := (some .int)) (by decide) rfl ?_
  intro p e s m args below meth c s₁ B hml hv
  obtain ⟨rfl, hsz, hP, hK, hD0⟩ := hv
  have hx := B.exec
  have hb := B.bytes
  have hr := B.returns
  have hT : ∀ w ∈ TB, w.before [.ref h0, .int k0].toArray s = true := fun w h => atoms_spec (ws := wT yX11_drop cX11_drop 2 (some .int)) B.pre w (List.mem_cons_of_mem _ h)
  have hown : s.vm.findClass RX11 = some m.cls := findClass_of_methodNamed B.named
  have hlocks := B.notSynchronized
  subst hsz
  have hD := hD0
  have hP : va_P (dC, dI) vwCl [(h0, .inr (11, [.ref a0, .ref a1, .ref a2, .ref a3, .ref a4, .ref a5, .ref a6, .ref a7, .ref a8, .ref a9, .ref n0, .ref b0, .int (-1)])), (b0, .inr (0, [.ref e0, .ref e1, .ref e2, .ref e3, .ref e4, .ref e5, .int 0, .int 0]))] s.heap := hP
  have hl := lv_entry ([.ref h0, .int k0]) (n := 2) (Nat.le_of_ble_eq_true rfl)
  rw [lg_entry_eq]
  generalize (lg_sl ([.ref h0, .int k0]) ++ List.replicate (2 - (lg_sl ([.ref h0, .int k0])).length) Slot.unset).toArray = ls at hl ⊢
  have hl : lv_has ls 2 [(0, .ref h0), (1, .int k0)] := hl
  refine lv_aload_n hx hb dX11_drop_0 rfl (lv_at hl 0 rfl) ?_
  refine lv_iload_n hx hb dX11_drop_1 rfl (lv_at hl 1 rfl) ?_
  have hPc := hP.sub (ws' := [(h0, .inr (11, [.ref a0, .ref a1, .ref a2, .ref a3, .ref a4, .ref a5, .ref a6, .ref a7, .ref a8, .ref a9, .ref n0, .ref b0, .int (-1)])), (b0, .inr (0, [.ref e0, .ref e1, .ref e2, .ref e3, .ref e4, .ref e5, .int 0, .int 0]))]) [0, 1] rfl
  have hDc := hD.sub (ws' := [(h0, .inr (11, [.ref a0, .ref a1, .ref a2, .ref a3, .ref a4, .ref a5, .ref a6, .ref a7, .ref a8, .ref a9, .ref n0, .ref b0, .int (-1)])), (b0, .inr (0, [.ref e0, .ref e1, .ref e2, .ref e3, .ref e4, .ref e5, .int 0, .int 0]))]) [0, 1] (by decide) rfl
  have hKc := hK.sub (tys' := []) [] rfl
  refine vp_callSi (va_Run.run (va_runV (As := [.int k0]) (rest := []) ⟨hx, hb, hml, hown, hT⟩ (c_noTrade l dC dI h0 a0 a1 a2 a3 a4 a5 a6 a7 a8 a9 n0 b0 e0 e1 e2 e3 e4 e5 s.heap.size k0) (cwV 1 hT (gV w639 w641 ws28 w1 w642) rfl rfl rfl (by decide +kernel) ⟨(Nat.le_of_ble_eq_true rfl), (Nat.le_of_ble_eq_true rfl)⟩) ⟨pcW.blind, va_recv hKc hPc (ci := 11) (q0 := 0) rfl rfl, pcW.pre hPc hKc hDc⟩ rfl rfl hl.1 rfl (lv_room (Nat.le_of_ble_eq_true rfl)) dX11_drop_2 ⟨(Nat.le_of_ble_eq_true rfl), (Nat.le_of_ble_eq_true rfl)⟩)) (fun r_2 hr_2 => ?_)
  obtain rfl : r_2 = 1 := hr_2
  refine lv_if_eq (tgt := 11) hx hb dX11_drop_5 (by decide) (fun h => absurd h (by decide)) (fun _ => ?_)
  refine lv_bipush (v := (-2)) hx hb dX11_drop_8 (by decide) ?_
  exact W.iret (v := (-2)) hx hb hr (fun t ht hW => ⟨(-2), rfl, rfl, ht⟩) (fun q h => by cases h) dX11_drop_10

set_option maxHeartbeats 4000000 in
set_option maxRecDepth 100000 in
theorem c_keep (l : Launch) (dC : Nat → ClassId) (dI : Nat → Nat → Nat) (h0 : Nat) (a0 : Nat) (a1 : Nat) (a2 : Nat) (a3 : Nat) (a4 : Nat) (a5 : Nat) (a6 : Nat) (a7 : Nat) (a8 : Nat) (a9 : Nat) (n0 : Nat) (b0 : Nat) (e0 : Nat) (e1 : Nat) (e2 : Nat) (e3 : Nat) (e4 : Nat) (e5 : Nat) (sz : Nat) (k0 : Int32) : Met l yX11_keep (wT yX11_keep cX11_keep 2 (some .int)) ({ frames := 1, cells := 0, slots := 0, locals := 21 }) (pcW dC dI [.ref h0, .int k0] sz [(h0, .inr (11, [.ref a0, .ref a1, .ref a2, .ref a3, .ref a4, .ref a5, .ref a6, .ref a7, .ref a8, .ref a9, .ref n0, .ref b0, .int (-1)])), (b0, .inr (0, [.ref e0, .ref e1, .ref e2, .ref e3, .ref e4, .ref e5, .int 0, .int 0]))] []) (vp_Si (fun r => r = (-2))) 0 0 (fun _ => False) := by
  refine Met.ofW (cc := cX11_keep) (maxL := 2) (ret := (some .int)) (by decide) rfl ?_
  intro p e s m args below meth c s₁ B hml hv
  obtain ⟨rfl, hsz, hP, hK, hD0⟩ := hv
  have hx := B.exec
  have hb := B.bytes
  have hr := B.returns
  have hT : ∀ w ∈ TB, w.before [.ref h0, .int k0].toArray s = true := fun w h => atoms_spec (ws := wT yX11_keep cX11_keep 2 (some .int)) B.pre w (List.mem_cons_of_mem _ h)
  have hown : s.vm.findClass RX11 = some m.cls := findClass_of_methodNamed B.named
  have hlocks := B.notSynchronized
  subst hsz
  have hD := hD0
  have hP : va_P (dC, dI) vwCl [(h0, .inr (11, [.ref a0, .ref a1, .ref a2, .ref a3, .ref a4, .ref a5, .ref a6, .ref a7, .ref a8, .ref a9, .ref n0, .ref b0, .int (-1)])), (b0, .inr (0, [.ref e0, .ref e1, .ref e2, .ref e3, .ref e4, .ref e5, .int 0, .int 0]))] s.heap := hP
  have hl := lv_entry ([.ref h0, .int k0]) (n := 2) (Nat.le_of_ble_eq_true rfl)
  rw [lg_entry_eq]
  generalize (lg_sl ([.ref h0, .int k0]) ++ List.replicate (2 - (lg_sl ([.ref h0, .int k0])).length) Slot.unset).toArray = ls at hl ⊢
  have hl : lv_has ls 2 [(0, .ref h0), (1, .int k0)] := hl
  refine lv_aload_n hx hb dX11_keep_0 rfl (lv_at hl 0 rfl) ?_
  refine lv_iload_n hx hb dX11_keep_1 rfl (lv_at hl 1 rfl) ?_
  have hPc := hP.sub (ws' := [(h0, .inr (11, [.ref a0, .ref a1, .ref a2, .ref a3, .ref a4, .ref a5, .ref a6, .ref a7, .ref a8, .ref a9, .ref n0, .ref b0, .int (-1)])), (b0, .inr (0, [.ref e0, .ref e1, .ref e2, .ref e3, .ref e4, .ref e5, .int 0, .int 0]))]) [0, 1] rfl
  have hDc := hD.sub (ws' := [(h0, .inr (11, [.ref a0, .ref a1, .ref a2, .ref a3, .ref a4, .ref a5, .ref a6, .ref a7, .ref a8, .ref a9, .ref n0, .ref b0, .int (-1)])), (b0, .inr (0, [.ref e0, .ref e1, .ref e2, .ref e3, .ref e4, .ref e5, .int 0, .int 0]))]) [0, 1] (by decide) rfl
  have hKc := hK.sub (tys' := []) [] rfl
  refine vp_callSi (va_Run.run (va_runV (As := [.int k0]) (rest := []) ⟨hx, hb, hml, hown, hT⟩ (c_noTrade l dC dI h0 a0 a1 a2 a3 a4 a5 a6 a7 a8 a9 n0 b0 e0 e1 e2 e3 e4 e5 s.heap.size k0) (cwV 1 hT (gV w639 w641 ws28 w1 w642) rfl rfl rfl (by decide +kernel) ⟨(Nat.le_of_ble_eq_true rfl), (Nat.le_of_ble_eq_true rfl)⟩) ⟨pcW.blind, va_recv hKc hPc (ci := 11) (q0 := 0) rfl rfl, pcW.pre hPc hKc hDc⟩ rfl rfl hl.1 rfl (lv_room (Nat.le_of_ble_eq_true rfl)) dX11_keep_2 ⟨(Nat.le_of_ble_eq_true rfl), (Nat.le_of_ble_eq_true rfl)⟩)) (fun r_2 hr_2 => ?_)
  obtain rfl : r_2 = 1 := hr_2
  refine lv_if_eq (tgt := 11) hx hb dX11_keep_5 (by decide) (fun h => absurd h (by decide)) (fun _ => ?_)
  refine lv_bipush (v := (-2)) hx hb dX11_keep_8 (by decide) ?_
  exact W.iret (v := (-2)) hx hb hr (fun t ht hW => ⟨(-2), rfl, rfl, ht⟩) (fun q h => by cases h) dX11_keep_10

set_option maxHeartbeats 4000000 in
set_option maxRecDepth 100000 in
theorem c_tradeOf (l : Launch) (dC : Nat → ClassId) (dI : Nat → Nat → Nat) (h0 : Nat) (a0 : Nat) (a1 : Nat) (a2 : Nat) (a3 : Nat) (a4 : Nat) (a5 : Nat) (a6 : Nat) (a7 : Nat) (a8 : Nat) (a9 : Nat) (n0 : Nat) (b0 : Nat) (e0 : Nat) (e1 : Nat) (e2 : Nat) (e3 : Nat) (e4 : Nat) (e5 : Nat) (sz : Nat) (k0 : Int32) (k1 : Int32) : Met l yX11_tradeOf (wT yX11_tradeOf cX11_tradeOf 3 (some .int)) ({ frames := 1, cells := 0, slots := 0, locals := 21 }) (pcW dC dI [.ref h0, .int k0, .int k1] sz [(h0, .inr (11, [.ref a0, .ref a1, .ref a2, .ref a3, .ref a4, .ref a5, .ref a6, .ref a7, .ref a8, .ref a9, .ref n0, .ref b0, .int (-1)])), (b0, .inr (0, [.ref e0, .ref e1, .ref e2, .ref e3, .ref e4, .ref e5, .int 0, .int 0]))] []) (vp_Si (fun r => r = (-2))) 0 0 (fun _ => False) := by
  refine Met.ofW (cc := cX11_tradeOf) (maxL := 3) (ret := (some .int)) (by decide) rfl ?_
  intro p e s m args below meth c s₁ B hml hv
  obtain ⟨rfl, hsz, hP, hK, hD0⟩ := hv
  have hx := B.exec
  have hb := B.bytes
  have hr := B.returns
  have hT : ∀ w ∈ TB, w.before [.ref h0, .int k0, .int k1].toArray s = true := fun w h => atoms_spec (ws := wT yX11_tradeOf cX11_tradeOf 3 (some .int)) B.pre w (List.mem_cons_of_mem _ h)
  have hown : s.vm.findClass RX11 = some m.cls := findClass_of_methodNamed B.named
  have hlocks := B.notSynchronized
  subst hsz
  have hD := hD0
  have hP : va_P (dC, dI) vwCl [(h0, .inr (11, [.ref a0, .ref a1, .ref a2, .ref a3, .ref a4, .ref a5, .ref a6, .ref a7, .ref a8, .ref a9, .ref n0, .ref b0, .int (-1)])), (b0, .inr (0, [.ref e0, .ref e1, .ref e2, .ref e3, .ref e4, .ref e5, .int 0, .int 0]))] s.heap := hP
  have hl := lv_entry ([.ref h0, .int k0, .int k1]) (n := 3) (Nat.le_of_ble_eq_true rfl)
  rw [lg_entry_eq]
  generalize (lg_sl ([.ref h0, .int k0, .int k1]) ++ List.replicate (3 - (lg_sl ([.ref h0, .int k0, .int k1])).length) Slot.unset).toArray = ls at hl ⊢
  have hl : lv_has ls 3 [(0, .ref h0), (1, .int k0), (2, .int k1)] := hl
  refine lv_aload_n hx hb dX11_tradeOf_0 rfl (lv_at hl 0 rfl) ?_
  refine lv_iload_n hx hb dX11_tradeOf_1 rfl (lv_at hl 1 rfl) ?_
  have hPc := hP.sub (ws' := [(h0, .inr (11, [.ref a0, .ref a1, .ref a2, .ref a3, .ref a4, .ref a5, .ref a6, .ref a7, .ref a8, .ref a9, .ref n0, .ref b0, .int (-1)])), (b0, .inr (0, [.ref e0, .ref e1, .ref e2, .ref e3, .ref e4, .ref e5, .int 0, .int 0]))]) [0, 1] rfl
  have hDc := hD.sub (ws' := [(h0, .inr (11, [.ref a0, .ref a1, .ref a2, .ref a3, .ref a4, .ref a5, .ref a6, .ref a7, .ref a8, .ref a9, .ref n0, .ref b0, .int (-1)])), (b0, .inr (0, [.ref e0, .ref e1, .ref e2, .ref e3, .ref e4, .ref e5, .int 0, .int 0]))]) [0, 1] (by decide) rfl
  have hKc := hK.sub (tys' := []) [] rfl
  refine vp_callSi (va_Run.run (va_runV (As := [.int k0]) (rest := []) ⟨hx, hb, hml, hown, hT⟩ (c_noTrade l dC dI h0 a0 a1 a2 a3 a4 a5 a6 a7 a8 a9 n0 b0 e0 e1 e2 e3 e4 e5 s.heap.size k0) (cwV 1 hT (gV w639 w641 ws28 w1 w642) rfl rfl rfl (by decide +kernel) ⟨(Nat.le_of_ble_eq_true rfl), (Nat.le_of_ble_eq_true rfl)⟩) ⟨pcW.blind, va_recv hKc hPc (ci := 11) (q0 := 0) rfl rfl, pcW.pre hPc hKc hDc⟩ rfl rfl hl.1 rfl (lv_room (Nat.le_of_ble_eq_true rfl)) dX11_tradeOf_2 ⟨(Nat.le_of_ble_eq_true rfl), (Nat.le_of_ble_eq_true rfl)⟩)) (fun r_2 hr_2 => ?_)
  obtain rfl : r_2 = 1 := hr_2
  refine lv_if_eq (tgt := 11) hx hb dX11_tradeOf_5 (by decide) (fun h => absurd h (by decide)) (fun _ => ?_)
  refine lv_bipush (v := (-2)) hx hb dX11_tradeOf_8 (by decide) ?_
  exact W.iret (v := (-2)) hx hb hr (fun t ht hW => ⟨(-2), rfl, rfl, ht⟩) (fun q h => by cases h) dX11_tradeOf_10

set_option maxHeartbeats 4000000 in
set_option maxRecDepth 100000 in
theorem c_line (l : Launch) (dC : Nat → ClassId) (dI : Nat → Nat → Nat) (h0 : Nat) (a0 : Nat) (a1 : Nat) (a2 : Nat) (a3 : Nat) (a4 : Nat) (a5 : Nat) (a6 : Nat) (a7 : Nat) (a8 : Nat) (a9 : Nat) (n0 : Nat) (b0 : Nat) (e0 : Nat) (e1 : Nat) (e2 : Nat) (e3 : Nat) (e4 : Nat) (e5 : Nat) (sz : Nat) (k0 : Int32) (k1 : Int32) : Met l yX11_line (wT yX11_line cX11_line 3 (some .int)) ({ frames := 1, cells := 0, slots := 0, locals := 21 }) (pcW dC dI [.ref h0, .int k0, .int k1] sz [(h0, .inr (11, [.ref a0, .ref a1, .ref a2, .ref a3, .ref a4, .ref a5, .ref a6, .ref a7, .ref a8, .ref a9, .ref n0, .ref b0, .int (-1)])), (b0, .inr (0, [.ref e0, .ref e1, .ref e2, .ref e3, .ref e4, .ref e5, .int 0, .int 0]))] []) (vp_Si (fun r => r = (-2))) 0 0 (fun _ => False) := by
  refine Met.ofW (cc := cX11_line) (maxL := 3) (ret := (some .int)) (by decide) rfl ?_
  intro p e s m args below meth c s₁ B hml hv
  obtain ⟨rfl, hsz, hP, hK, hD0⟩ := hv
  have hx := B.exec
  have hb := B.bytes
  have hr := B.returns
  have hT : ∀ w ∈ TB, w.before [.ref h0, .int k0, .int k1].toArray s = true := fun w h => atoms_spec (ws := wT yX11_line cX11_line 3 (some .int)) B.pre w (List.mem_cons_of_mem _ h)
  have hown : s.vm.findClass RX11 = some m.cls := findClass_of_methodNamed B.named
  have hlocks := B.notSynchronized
  subst hsz
  have hD := hD0
  have hP : va_P (dC, dI) vwCl [(h0, .inr (11, [.ref a0, .ref a1, .ref a2, .ref a3, .ref a4, .ref a5, .ref a6, .ref a7, .ref a8, .ref a9, .ref n0, .ref b0, .int (-1)])), (b0, .inr (0, [.ref e0, .ref e1, .ref e2, .ref e3, .ref e4, .ref e5, .int 0, .int 0]))] s.heap := hP
  have hl := lv_entry ([.ref h0, .int k0, .int k1]) (n := 3) (Nat.le_of_ble_eq_true rfl)
  rw [lg_entry_eq]
  generalize (lg_sl ([.ref h0, .int k0, .int k1]) ++ List.replicate (3 - (lg_sl ([.ref h0, .int k0, .int k1])).length) Slot.unset).toArray = ls at hl ⊢
  have hl : lv_has ls 3 [(0, .ref h0), (1, .int k0), (2, .int k1)] := hl
  refine lv_aload_n hx hb dX11_line_0 rfl (lv_at hl 0 rfl) ?_
  refine lv_iload_n hx hb dX11_line_1 rfl (lv_at hl 1 rfl) ?_
  have hPc := hP.sub (ws' := [(h0, .inr (11, [.ref a0, .ref a1, .ref a2, .ref a3, .ref a4, .ref a5, .ref a6, .ref a7, .ref a8, .ref a9, .ref n0, .ref b0, .int (-1)])), (b0, .inr (0, [.ref e0, .ref e1, .ref e2, .ref e3, .ref e4, .ref e5, .int 0, .int 0]))]) [0, 1] rfl
  have hDc := hD.sub (ws' := [(h0, .inr (11, [.ref a0, .ref a1, .ref a2, .ref a3, .ref a4, .ref a5, .ref a6, .ref a7, .ref a8, .ref a9, .ref n0, .ref b0, .int (-1)])), (b0, .inr (0, [.ref e0, .ref e1, .ref e2, .ref e3, .ref e4, .ref e5, .int 0, .int 0]))]) [0, 1] (by decide) rfl
  have hKc := hK.sub (tys' := []) [] rfl
  refine vp_callSi (va_Run.run (va_runV (As := [.int k0]) (rest := []) ⟨hx, hb, hml, hown, hT⟩ (c_noTrade l dC dI h0 a0 a1 a2 a3 a4 a5 a6 a7 a8 a9 n0 b0 e0 e1 e2 e3 e4 e5 s.heap.size k0) (cwV 1 hT (gV w639 w641 ws28 w1 w642) rfl rfl rfl (by decide +kernel) ⟨(Nat.le_of_ble_eq_true rfl), (Nat.le_of_ble_eq_true rfl)⟩) ⟨pcW.blind, va_recv hKc hPc (ci := 11) (q0 := 0) rfl rfl, pcW.pre hPc hKc hDc⟩ rfl rfl hl.1 rfl (lv_room (Nat.le_of_ble_eq_true rfl)) dX11_line_2 ⟨(Nat.le_of_ble_eq_true rfl), (Nat.le_of_ble_eq_true rfl)⟩)) (fun r_2 hr_2 => ?_)
  obtain rfl : r_2 = 1 := hr_2
  refine lv_if_eq (tgt := 11) hx hb dX11_line_5 (by decide) (fun h => absurd h (by decide)) (fun _ => ?_)
  refine lv_bipush (v := (-2)) hx hb dX11_line_8 (by decide) ?_
  exact W.iret (v := (-2)) hx hb hr (fun t ht hW => ⟨(-2), rfl, rfl, ht⟩) (fun q h => by cases h) dX11_line_10
end
section
set_option maxHeartbeats 4000000 in
set_option maxRecDepth 100000 in
theorem m_trade (l : Launch) (dC : Nat → ClassId) (dI : Nat → Nat → Nat) (m0 : Nat) (g0 : Nat) (g1 : Nat) (g2 : Nat) (g3 : Nat) (g4 : Nat) (g9 : Nat) (g17 : Nat) (g18 : Nat) (g20 : Nat) (g21 : Nat) (g22 : Nat) (g23 : Nat) (g24 : Nat) (g25 : Nat) (g26 : Nat) (g27 : Nat) (g28 : Nat) (g29 : Nat) (g30 : Nat) (sz : Nat) (k0 : Int32) (k1 : Int32) (k2 : Int32) (k3 : Int32) : Met l yX12_trade (wT yX12_trade cX12_trade 5 (some .int)) ({ frames := 3, cells := 0, slots := 0, locals := 68 }) (pcW dC dI [.ref m0, .int k0, .int k1, .int k2, .int k3] sz [(m0, .inr (12, [.ref g0, .ref g1, .ref g2, .ref g3, .ref g4, .int 0, .int 0, .int 0, .int 0, .ref g9, .int 0, .int 0, .int 0, .int 0, .int (-1), .int 0, .int 0, .ref g17, .ref g18, .int 0, .ref g20, .ref g21, .ref g22, .ref g23, .ref g24, .ref g25, .ref g26, .ref g27, .ref g28, .ref g29, .ref g30, .int 0]))] []) (va_Qi (fun (r : Int32) (_ : Unit) => r = (-2)) (fun _ _ => True) (va_A [(m0, .inr (12, [.ref g0, .ref g1, .ref g2, .ref g3, .ref g4, .int 0, .int 0, .int 0, .int 0, .ref g9, .int 0, .int 0, .int 0, .int 0, .int (-1), .int 0, .int 0, .ref g17, .ref g18, .int 0, .ref g20, .ref g21, .ref g22, .ref g23, .ref g24, .ref g25, .ref g26, .ref g27, .ref g28, .ref g29, .ref g30, .int 0]))] sz)) 0 0 (va_A [(m0, .inr (12, [.ref g0, .ref g1, .ref g2, .ref g3, .ref g4, .int 0, .int 0, .int 0, .int 0, .ref g9, .int 0, .int 0, .int 0, .int 0, .int (-1), .int 0, .int 0, .ref g17, .ref g18, .int 0, .ref g20, .ref g21, .ref g22, .ref g23, .ref g24, .ref g25, .ref g26, .ref g27, .ref g28, .ref g29, .ref g30, .int 0]))] sz) := by
  refine Met.ofW (cc := cX12_trade) (maxL := 5) (ret := (some .int)) (by decide) rfl ?_
  intro p e s m args below meth c s₁ B hml hv
  obtain ⟨rfl, hsz, hP, hK, hD0⟩ := hv
  have hx := B.exec
  have hb := B.bytes
  have hr := B.returns
  have hT : ∀ w ∈ TB, w.before [.ref m0, .int k0, .int k1, .int k2, .int k3].toArray s = true := fun w h => atoms_spec (ws := wT yX12_trade cX12_trade 5 (some .int)) B.pre w (List.mem_cons_of_mem _ h)
  have hown : s.vm.findClass RX12 = some m.cls := findClass_of_methodNamed B.named
  have hlocks := B.notSynchronized
  subst hsz
  have hD := hD0.self (sz := s.heap.size)
  generalize hAe : va_A [(m0, .inr (12, [.ref g0, .ref g1, .ref g2, .ref g3, .ref g4, .int 0, .int 0, .int 0, .int 0, .ref g9, .int 0, .int 0, .int 0, .int 0, .int (-1), .int 0, .int 0, .ref g17, .ref g18, .int 0, .ref g20, .ref g21, .ref g22, .ref g23, .ref g24, .ref g25, .ref g26, .ref g27, .ref g28, .ref g29, .ref g30, .int 0]))] s.heap.size = A at hD ⊢
  have hA : ∀ q : Nat, s.heap.size ≤ q → A q := fun q h => by rw [← hAe]; exact Or.inr h
  have hS : va_S A s.heap s.heap [] := va_S.rf
  have hP : va_P (dC, dI) vwCl [(m0, .inr (12, [.ref g0, .ref g1, .ref g2, .ref g3, .ref g4, .int 0, .int 0, .int 0, .int 0, .ref g9, .int 0, .int 0, .int 0, .int 0, .int (-1), .int 0, .int 0, .ref g17, .ref g18, .int 0, .ref g20, .ref g21, .ref g22, .ref g23, .ref g24, .ref g25, .ref g26, .ref g27, .ref g28, .ref g29, .ref g30, .int 0]))] s.heap := hP
  have hl := lv_entry ([.ref m0, .int k0, .int k1, .int k2, .int k3]) (n := 5) (Nat.le_of_ble_eq_true rfl)
  rw [lg_entry_eq]
  generalize (lg_sl ([.ref m0, .int k0, .int k1, .int k2, .int k3]) ++ List.replicate (5 - (lg_sl ([.ref m0, .int k0, .int k1, .int k2, .int k3])).length) Slot.unset).toArray = ls at hl ⊢
  have hl : lv_has ls 5 [(0, .ref m0), (1, .int k0), (2, .int k1), (3, .int k2), (4, .int k3)] := hl
  refine lv_aload_n hx hb dX12_trade_0 rfl (lv_at hl 0 rfl) ?_
  refine lv_iconst (v := 0) hx hb dX12_trade_1 (by decide) ?_
  refine va_put (D := (dC, dI)) (ci := 12) (v := .int 0) (ty := .int) (C := RX12) (T := TX12) (N := 32) hx hb hT iX12 tyX12 tyX12_ok nmX12 hown hK hP hD hS 0 rfl rfl 8 (by decide) (hT _ w1090) (fun _ h9 => h9) rfl (by decide +kernel) rfl rfl (Nat.le_of_ble_eq_true rfl) dX12_trade_2 (fun H locs hP hD hS => ?_)
  have hP : va_P (dC, dI) vwCl [(m0, .inr (12, [.ref g0, .ref g1, .ref g2, .ref g3, .ref g4, .int 0, .int 0, .int 0, .int 0, .ref g9, .int 0, .int 0, .int 0, .int 0, .int (-1), .int 0, .int 0, .ref g17, .ref g18, .int 0, .ref g20, .ref g21, .ref g22, .ref g23, .ref g24, .ref g25, .ref g26, .ref g27, .ref g28, .ref g29, .ref g30, .int 0]))] H := hP
  have hD : va_D A [(m0, .inr (12, [.ref g0, .ref g1, .ref g2, .ref g3, .ref g4, .int 0, .int 0, .int 0, .int 0, .ref g9, .int 0, .int 0, .int 0, .int 0, .int (-1), .int 0, .int 0, .ref g17, .ref g18, .int 0, .ref g20, .ref g21, .ref g22, .ref g23, .ref g24, .ref g25, .ref g26, .ref g27, .ref g28, .ref g29, .ref g30, .int 0]))] := hD
  refine lv_aload_n hx hb dX12_trade_5 rfl (lv_at hl 0 rfl) ?_
  refine lv_iload_n hx hb dX12_trade_6 rfl (lv_at hl 1 rfl) ?_
  refine lv_iload_n hx hb dX12_trade_7 rfl (lv_at hl 2 rfl) ?_
  have hPc := hP.sub (ws' := [(m0, .inr (12, [.ref g0, .ref g1, .ref g2, .ref g3, .ref g4, .int 0, .int 0, .int 0, .int 0, .ref g9, .int 0, .int 0, .int 0, .int 0, .int (-1), .int 0, .int 0, .ref g17, .ref g18, .int 0, .ref g20, .ref g21, .ref g22, .ref g23, .ref g24, .ref g25, .ref g26, .ref g27, .ref g28, .ref g29, .ref g30, .int 0]))]) [0] rfl
  have hDc := hD.sub (ws' := [(m0, .inr (12, [.ref g0, .ref g1, .ref g2, .ref g3, .ref g4, .int 0, .int 0, .int 0, .int 0, .ref g9, .int 0, .int 0, .int 0, .int 0, .int (-1), .int 0, .int 0, .ref g17, .ref g18, .int 0, .ref g20, .ref g21, .ref g22, .ref g23, .ref g24, .ref g25, .ref g26, .ref g27, .ref g28, .ref g29, .ref g30, .int 0]))]) [0] (by decide) rfl
  have hKc := hK.sub (tys' := []) [] rfl
  refine vp_callSi (va_Run.run (va_runV (As := [.int k0, .int k1]) (rest := []) ⟨hx, hb, hml, hown, hT⟩ (m_areTwo l dC dI m0 g0 g1 g2 g3 g4 g9 g17 g18 g20 g21 g22 g23 g24 g25 g26 g27 g28 g29 g30 H.size k0 k1) (cwV 2 hT (gV w1280 w1282 ws72 w14 w1283) rfl rfl rfl (by decide +kernel) ⟨(Nat.le_of_ble_eq_true rfl), (Nat.le_of_ble_eq_true rfl)⟩) ⟨pcW.blind, va_recv hKc hPc (ci := 12) (q0 := 0) rfl rfl, pcW.pre hPc hKc hDc⟩ rfl rfl hl.1 rfl (lv_room (Nat.le_of_ble_eq_true rfl)) dX12_trade_8 ⟨(Nat.le_of_ble_eq_true rfl), (Nat.le_of_ble_eq_true rfl)⟩)) (fun r_8 hr_8 => ?_)
  obtain rfl : r_8 = 0 := hr_8
  refine lv_if_eq (tgt := 23) hx hb dX12_trade_11 (by decide) (fun _ => ?_) (fun h => absurd (by decide) h)
  refine lv_bipush (v := (-2)) hx hb dX12_trade_23 (by decide) ?_
  refine W.widen (k := 0) (n := 0) (Nat.le_of_ble_eq_true rfl) (Nat.le_of_ble_eq_true rfl) ?_
  exact W.iret (v := (-2)) hx hb hr (fun t ht hW => ⟨⟨(-2), (), rfl, rfl, trivial⟩, hS.F ht⟩) hS.2.2 dX12_trade_25

set_option maxHeartbeats 4000000 in
set_option maxRecDepth 100000 in
theorem m_cap (l : Launch) (dC : Nat → ClassId) (dI : Nat → Nat → Nat) (m0 : Nat) (g0 : Nat) (g1 : Nat) (g2 : Nat) (g3 : Nat) (g4 : Nat) (g9 : Nat) (g17 : Nat) (g18 : Nat) (g20 : Nat) (g21 : Nat) (g22 : Nat) (g23 : Nat) (g24 : Nat) (g25 : Nat) (g26 : Nat) (g27 : Nat) (g28 : Nat) (g29 : Nat) (g30 : Nat) (sz : Nat) (k0 : Int32) (k1 : Int32) (k2 : Int32) : Met l yX12_cap (wT yX12_cap cX12_cap 5 (some .int)) ({ frames := 3, cells := 0, slots := 0, locals := 68 }) (pcW dC dI [.ref m0, .int k0, .int k1, .int k2] sz [(m0, .inr (12, [.ref g0, .ref g1, .ref g2, .ref g3, .ref g4, .int 0, .int 0, .int 0, .int 0, .ref g9, .int 0, .int 0, .int 0, .int 0, .int (-1), .int 0, .int 0, .ref g17, .ref g18, .int 0, .ref g20, .ref g21, .ref g22, .ref g23, .ref g24, .ref g25, .ref g26, .ref g27, .ref g28, .ref g29, .ref g30, .int 0]))] []) (va_Qi (fun (r : Int32) (_ : Unit) => r = (-2)) (fun _ _ => True) (va_A [(m0, .inr (12, [.ref g0, .ref g1, .ref g2, .ref g3, .ref g4, .int 0, .int 0, .int 0, .int 0, .ref g9, .int 0, .int 0, .int 0, .int 0, .int (-1), .int 0, .int 0, .ref g17, .ref g18, .int 0, .ref g20, .ref g21, .ref g22, .ref g23, .ref g24, .ref g25, .ref g26, .ref g27, .ref g28, .ref g29, .ref g30, .int 0]))] sz)) 0 0 (va_A [(m0, .inr (12, [.ref g0, .ref g1, .ref g2, .ref g3, .ref g4, .int 0, .int 0, .int 0, .int 0, .ref g9, .int 0, .int 0, .int 0, .int 0, .int (-1), .int 0, .int 0, .ref g17, .ref g18, .int 0, .ref g20, .ref g21, .ref g22, .ref g23, .ref g24, .ref g25, .ref g26, .ref g27, .ref g28, .ref g29, .ref g30, .int 0]))] sz) := by
  refine Met.ofW (cc := cX12_cap) (maxL := 5) (ret := (some .int)) (by decide) rfl ?_
  intro p e s m args below meth c s₁ B hml hv
  obtain ⟨rfl, hsz, hP, hK, hD0⟩ := hv
  have hx := B.exec
  have hb := B.bytes
  have hr := B.returns
  have hT : ∀ w ∈ TB, w.before [.ref m0, .int k0, .int k1, .int k2].toArray s = true := fun w h => atoms_spec (ws := wT yX12_cap cX12_cap 5 (some .int)) B.pre w (List.mem_cons_of_mem _ h)
  have hown : s.vm.findClass RX12 = some m.cls := findClass_of_methodNamed B.named
  have hlocks := B.notSynchronized
  subst hsz
  have hD := hD0.self (sz := s.heap.size)
  generalize hAe : va_A [(m0, .inr (12, [.ref g0, .ref g1, .ref g2, .ref g3, .ref g4, .int 0, .int 0, .int 0, .int 0, .ref g9, .int 0, .int 0, .int 0, .int 0, .int (-1), .int 0, .int 0, .ref g17, .ref g18, .int 0, .ref g20, .ref g21, .ref g22, .ref g23, .ref g24, .ref g25, .ref g26, .ref g27, .ref g28, .ref g29, .ref g30, .int 0]))] s.heap.size = A at hD ⊢
  have hA : ∀ q : Nat, s.heap.size ≤ q → A q := fun q h => by rw [← hAe]; exact Or.inr h
  have hS : va_S A s.heap s.heap [] := va_S.rf
  have hP : va_P (dC, dI) vwCl [(m0, .inr (12, [.ref g0, .ref g1, .ref g2, .ref g3, .ref g4, .int 0, .int 0, .int 0, .int 0, .ref g9, .int 0, .int 0, .int 0, .int 0, .int (-1), .int 0, .int 0, .ref g17, .ref g18, .int 0, .ref g20, .ref g21, .ref g22, .ref g23, .ref g24, .ref g25, .ref g26, .ref g27, .ref g28, .ref g29, .ref g30, .int 0]))] s.heap := hP
  have hl := lv_entry ([.ref m0, .int k0, .int k1, .int k2]) (n := 5) (Nat.le_of_ble_eq_true rfl)
  rw [lg_entry_eq]
  generalize (lg_sl ([.ref m0, .int k0, .int k1, .int k2]) ++ List.replicate (5 - (lg_sl ([.ref m0, .int k0, .int k1, .int k2])).length) Slot.unset).toArray = ls at hl ⊢
  have hl : lv_has ls 5 [(0, .ref m0), (1, .int k0), (2, .int k1), (3, .int k2)] := hl
  refine lv_aload_n hx hb dX12_cap_0 rfl (lv_at hl 0 rfl) ?_
  refine lv_iconst (v := 0) hx hb dX12_cap_1 (by decide) ?_
  refine va_put (D := (dC, dI)) (ci := 12) (v := .int 0) (ty := .int) (C := RX12) (T := TX12) (N := 32) hx hb hT iX12 tyX12 tyX12_ok nmX12 hown hK hP hD hS 0 rfl rfl 8 (by decide) (hT _ w1090) (fun _ h9 => h9) rfl (by decide +kernel) rfl rfl (Nat.le_of_ble_eq_true rfl) dX12_cap_2 (fun H locs hP hD hS => ?_)
  have hP : va_P (dC, dI) vwCl [(m0, .inr (12, [.ref g0, .ref g1, .ref g2, .ref g3, .ref g4, .int 0, .int 0, .int 0, .int 0, .ref g9, .int 0, .int 0, .int 0, .int 0, .int (-1), .int 0, .int 0, .ref g17, .ref g18, .int 0, .ref g20, .ref g21, .ref g22, .ref g23, .ref g24, .ref g25, .ref g26, .ref g27, .ref g28, .ref g29, .ref g30, .int 0]))] H := hP
  have hD : va_D A [(m0, .inr (12, [.ref g0, .ref g1, .ref g2, .ref g3, .ref g4, .int 0, .int 0, .int 0, .int 0, .ref g9, .int 0, .int 0, .int 0, .int 0, .int (-1), .int 0, .int 0, .ref g17, .ref g18, .int 0, .ref g20, .ref g21, .ref g22, .ref g23, .ref g24, .ref g25, .ref g26, .ref g27, .ref g28, .ref g29, .ref g30, .int 0]))] := hD
  refine lv_aload_n hx hb dX12_cap_5 rfl (lv_at hl 0 rfl) ?_
  refine lv_iload_n hx hb dX12_cap_6 rfl (lv_at hl 1 rfl) ?_
  refine lv_iload_n hx hb dX12_cap_7 rfl (lv_at hl 2 rfl) ?_
  have hPc := hP.sub (ws' := [(m0, .inr (12, [.ref g0, .ref g1, .ref g2, .ref g3, .ref g4, .int 0, .int 0, .int 0, .int 0, .ref g9, .int 0, .int 0, .int 0, .int 0, .int (-1), .int 0, .int 0, .ref g17, .ref g18, .int 0, .ref g20, .ref g21, .ref g22, .ref g23, .ref g24, .ref g25, .ref g26, .ref g27, .ref g28, .ref g29, .ref g30, .int 0]))]) [0] rfl
  have hDc := hD.sub (ws' := [(m0, .inr (12, [.ref g0, .ref g1, .ref g2, .ref g3, .ref g4, .int 0, .int 0, .int 0, .int 0, .ref g9, .int 0, .int 0, .int 0, .int 0, .int (-1), .int 0, .int 0, .ref g17, .ref g18, .int 0, .ref g20, .ref g21, .ref g22, .ref g23, .ref g24, .ref g25, .ref g26, .ref g27, .ref g28, .ref g29, .ref g30, .int 0]))]) [0] (by decide) rfl
  have hKc := hK.sub (tys' := []) [] rfl
  refine vp_callSi (va_Run.run (va_runV (As := [.int k0, .int k1]) (rest := []) ⟨hx, hb, hml, hown, hT⟩ (m_areTwo l dC dI m0 g0 g1 g2 g3 g4 g9 g17 g18 g20 g21 g22 g23 g24 g25 g26 g27 g28 g29 g30 H.size k0 k1) (cwV 2 hT (gV w1280 w1282 ws72 w14 w1283) rfl rfl rfl (by decide +kernel) ⟨(Nat.le_of_ble_eq_true rfl), (Nat.le_of_ble_eq_true rfl)⟩) ⟨pcW.blind, va_recv hKc hPc (ci := 12) (q0 := 0) rfl rfl, pcW.pre hPc hKc hDc⟩ rfl rfl hl.1 rfl (lv_room (Nat.le_of_ble_eq_true rfl)) dX12_cap_8 ⟨(Nat.le_of_ble_eq_true rfl), (Nat.le_of_ble_eq_true rfl)⟩)) (fun r_8 hr_8 => ?_)
  obtain rfl : r_8 = 0 := hr_8
  refine lv_if_ne (tgt := 17) hx hb dX12_cap_11 (by decide) (fun h => absurd (by decide) h) (fun _ => ?_)
  refine lv_bipush (v := (-2)) hx hb dX12_cap_14 (by decide) ?_
  refine W.widen (k := 0) (n := 0) (Nat.le_of_ble_eq_true rfl) (Nat.le_of_ble_eq_true rfl) ?_
  exact W.iret (v := (-2)) hx hb hr (fun t ht hW => ⟨⟨(-2), (), rfl, rfl, trivial⟩, hS.F ht⟩) hS.2.2 dX12_cap_16

set_option maxHeartbeats 4000000 in
set_option maxRecDepth 100000 in
theorem m_flow (l : Launch) (dC : Nat → ClassId) (dI : Nat → Nat → Nat) (m0 : Nat) (g0 : Nat) (g1 : Nat) (g2 : Nat) (g3 : Nat) (g4 : Nat) (g9 : Nat) (g17 : Nat) (g18 : Nat) (g20 : Nat) (g21 : Nat) (g22 : Nat) (g23 : Nat) (g24 : Nat) (g25 : Nat) (g26 : Nat) (g27 : Nat) (g28 : Nat) (g29 : Nat) (g30 : Nat) (sz : Nat) (k0 : Int32) (k1 : Int32) (k2 : Int32) : Met l yX12_flow (wT yX12_flow cX12_flow 4 (some .int)) ({ frames := 3, cells := 0, slots := 0, locals := 68 }) (pcW dC dI [.ref m0, .int k0, .int k1, .int k2] sz [(m0, .inr (12, [.ref g0, .ref g1, .ref g2, .ref g3, .ref g4, .int 0, .int 0, .int 0, .int 0, .ref g9, .int 0, .int 0, .int 0, .int 0, .int (-1), .int 0, .int 0, .ref g17, .ref g18, .int 0, .ref g20, .ref g21, .ref g22, .ref g23, .ref g24, .ref g25, .ref g26, .ref g27, .ref g28, .ref g29, .ref g30, .int 0]))] []) (va_Qi (fun (r : Int32) (_ : Unit) => r = (-2)) (fun _ _ => True) (va_A [(m0, .inr (12, [.ref g0, .ref g1, .ref g2, .ref g3, .ref g4, .int 0, .int 0, .int 0, .int 0, .ref g9, .int 0, .int 0, .int 0, .int 0, .int (-1), .int 0, .int 0, .ref g17, .ref g18, .int 0, .ref g20, .ref g21, .ref g22, .ref g23, .ref g24, .ref g25, .ref g26, .ref g27, .ref g28, .ref g29, .ref g30, .int 0]))] sz)) 0 0 (va_A [(m0, .inr (12, [.ref g0, .ref g1, .ref g2, .ref g3, .ref g4, .int 0, .int 0, .int 0, .int 0, .ref g9, .int 0, .int 0, .int 0, .int 0, .int (-1), .int 0, .int 0, .ref g17, .ref g18, .int 0, .ref g20, .ref g21, .ref g22, .ref g23, .ref g24, .ref g25, .ref g26, .ref g27, .ref g28, .ref g29, .ref g30, .int 0]))] sz) := by
  refine Met.ofW (cc := cX12_flow) (maxL := 4) (ret := (some .int)) (by decide) rfl ?_
  intro p e s m args below meth c s₁ B hml hv
  obtain ⟨rfl, hsz, hP, hK, hD0⟩ := hv
  have hx := B.exec
  have hb := B.bytes
  have hr := B.returns
  have hT : ∀ w ∈ TB, w.before [.ref m0, .int k0, .int k1, .int k2].toArray s = true := fun w h => atoms_spec (ws := wT yX12_flow cX12_flow 4 (some .int)) B.pre w (List.mem_cons_of_mem _ h)
  have hown : s.vm.findClass RX12 = some m.cls := findClass_of_methodNamed B.named
  have hlocks := B.notSynchronized
  subst hsz
  have hD := hD0.self (sz := s.heap.size)
  generalize hAe : va_A [(m0, .inr (12, [.ref g0, .ref g1, .ref g2, .ref g3, .ref g4, .int 0, .int 0, .int 0, .int 0, .ref g9, .int 0, .int 0, .int 0, .int 0, .int (-1), .int 0, .int 0, .ref g17, .ref g18, .int 0, .ref g20, .ref g21, .ref g22, .ref g23, .ref g24, .ref g25, .ref g26, .ref g27, .ref g28, .ref g29, .ref g30, .int 0]))] s.heap.size = A at hD ⊢
  have hA : ∀ q : Nat, s.heap.size ≤ q → A q := fun q h => by rw [← hAe]; exact Or.inr h
  have hS : va_S A s.heap s.heap [] := va_S.rf
  have hP : va_P (dC, dI) vwCl [(m0, .inr (12, [.ref g0, .ref g1, .ref g2, .ref g3, .ref g4, .int 0, .int 0, .int 0, .int 0, .ref g9, .int 0, .int 0, .int 0, .int 0, .int (-1), .int 0, .int 0, .ref g17, .ref g18, .int 0, .ref g20, .ref g21, .ref g22, .ref g23, .ref g24, .ref g25, .ref g26, .ref g27, .ref g28, .ref g29, .ref g30, .int 0]))] s.heap := hP
  have hl := lv_entry ([.ref m0, .int k0, .int k1, .int k2]) (n := 4) (Nat.le_of_ble_eq_true rfl)
  rw [lg_entry_eq]
  generalize (lg_sl ([.ref m0, .int k0, .int k1, .int k2]) ++ List.replicate (4 - (lg_sl ([.ref m0, .int k0, .int k1, .int k2])).length) Slot.unset).toArray = ls at hl ⊢
  have hl : lv_has ls 4 [(0, .ref m0), (1, .int k0), (2, .int k1), (3, .int k2)] := hl
  refine lv_aload_n hx hb dX12_flow_0 rfl (lv_at hl 0 rfl) ?_
  refine lv_iconst (v := 0) hx hb dX12_flow_1 (by decide) ?_
  refine va_put (D := (dC, dI)) (ci := 12) (v := .int 0) (ty := .int) (C := RX12) (T := TX12) (N := 32) hx hb hT iX12 tyX12 tyX12_ok nmX12 hown hK hP hD hS 0 rfl rfl 8 (by decide) (hT _ w1090) (fun _ h9 => h9) rfl (by decide +kernel) rfl rfl (Nat.le_of_ble_eq_true rfl) dX12_flow_2 (fun H locs hP hD hS => ?_)
  have hP : va_P (dC, dI) vwCl [(m0, .inr (12, [.ref g0, .ref g1, .ref g2, .ref g3, .ref g4, .int 0, .int 0, .int 0, .int 0, .ref g9, .int 0, .int 0, .int 0, .int 0, .int (-1), .int 0, .int 0, .ref g17, .ref g18, .int 0, .ref g20, .ref g21, .ref g22, .ref g23, .ref g24, .ref g25, .ref g26, .ref g27, .ref g28, .ref g29, .ref g30, .int 0]))] H := hP
  have hD : va_D A [(m0, .inr (12, [.ref g0, .ref g1, .ref g2, .ref g3, .ref g4, .int 0, .int 0, .int 0, .int 0, .ref g9, .int 0, .int 0, .int 0, .int 0, .int (-1), .int 0, .int 0, .ref g17, .ref g18, .int 0, .ref g20, .ref g21, .ref g22, .ref g23, .ref g24, .ref g25, .ref g26, .ref g27, .ref g28, .ref g29, .ref g30, .int 0]))] := hD
  refine lv_aload_n hx hb dX12_flow_5 rfl (lv_at hl 0 rfl) ?_
  refine lv_iload_n hx hb dX12_flow_6 rfl (lv_at hl 1 rfl) ?_
  refine lv_iload_n hx hb dX12_flow_7 rfl (lv_at hl 2 rfl) ?_
  have hPc := hP.sub (ws' := [(m0, .inr (12, [.ref g0, .ref g1, .ref g2, .ref g3, .ref g4, .int 0, .int 0, .int 0, .int 0, .ref g9, .int 0, .int 0, .int 0, .int 0, .int (-1), .int 0, .int 0, .ref g17, .ref g18, .int 0, .ref g20, .ref g21, .ref g22, .ref g23, .ref g24, .ref g25, .ref g26, .ref g27, .ref g28, .ref g29, .ref g30, .int 0]))]) [0] rfl
  have hDc := hD.sub (ws' := [(m0, .inr (12, [.ref g0, .ref g1, .ref g2, .ref g3, .ref g4, .int 0, .int 0, .int 0, .int 0, .ref g9, .int 0, .int 0, .int 0, .int 0, .int (-1), .int 0, .int 0, .ref g17, .ref g18, .int 0, .ref g20, .ref g21, .ref g22, .ref g23, .ref g24, .ref g25, .ref g26, .ref g27, .ref g28, .ref g29, .ref g30, .int 0]))]) [0] (by decide) rfl
  have hKc := hK.sub (tys' := []) [] rfl
  refine vp_callSi (va_Run.run (va_runV (As := [.int k0, .int k1]) (rest := []) ⟨hx, hb, hml, hown, hT⟩ (m_areTwo l dC dI m0 g0 g1 g2 g3 g4 g9 g17 g18 g20 g21 g22 g23 g24 g25 g26 g27 g28 g29 g30 H.size k0 k1) (cwV 2 hT (gV w1280 w1282 ws72 w14 w1283) rfl rfl rfl (by decide +kernel) ⟨(Nat.le_of_ble_eq_true rfl), (Nat.le_of_ble_eq_true rfl)⟩) ⟨pcW.blind, va_recv hKc hPc (ci := 12) (q0 := 0) rfl rfl, pcW.pre hPc hKc hDc⟩ rfl rfl hl.1 rfl (lv_room (Nat.le_of_ble_eq_true rfl)) dX12_flow_8 ⟨(Nat.le_of_ble_eq_true rfl), (Nat.le_of_ble_eq_true rfl)⟩)) (fun r_8 hr_8 => ?_)
  obtain rfl : r_8 = 0 := hr_8
  refine lv_if_eq (tgt := 22) hx hb dX12_flow_11 (by decide) (fun _ => ?_) (fun h => absurd (by decide) h)
  refine lv_bipush (v := (-2)) hx hb dX12_flow_22 (by decide) ?_
  refine W.widen (k := 0) (n := 0) (Nat.le_of_ble_eq_true rfl) (Nat.le_of_ble_eq_true rfl) ?_
  exact W.iret (v := (-2)) hx hb hr (fun t ht hW => ⟨⟨(-2), (), rfl, rfl, trivial⟩, hS.F ht⟩) hS.2.2 dX12_flow_24

set_option maxHeartbeats 4000000 in
set_option maxRecDepth 100000 in
theorem m_bound (l : Launch) (dC : Nat → ClassId) (dI : Nat → Nat → Nat) (m0 : Nat) (g0 : Nat) (g1 : Nat) (g2 : Nat) (g3 : Nat) (g4 : Nat) (g9 : Nat) (g17 : Nat) (g18 : Nat) (g20 : Nat) (g21 : Nat) (g22 : Nat) (g23 : Nat) (g24 : Nat) (g25 : Nat) (g26 : Nat) (g27 : Nat) (g28 : Nat) (g29 : Nat) (g30 : Nat) (sz : Nat) (k0 : Int32) (k1 : Int32) (k2 : Int32) : Met l yX12_bound (wT yX12_bound cX12_bound 4 (some .int)) ({ frames := 3, cells := 0, slots := 0, locals := 68 }) (pcW dC dI [.ref m0, .int k0, .int k1, .int k2] sz [(m0, .inr (12, [.ref g0, .ref g1, .ref g2, .ref g3, .ref g4, .int 0, .int 0, .int 0, .int 0, .ref g9, .int 0, .int 0, .int 0, .int 0, .int (-1), .int 0, .int 0, .ref g17, .ref g18, .int 0, .ref g20, .ref g21, .ref g22, .ref g23, .ref g24, .ref g25, .ref g26, .ref g27, .ref g28, .ref g29, .ref g30, .int 0]))] []) (va_Qi (fun (r : Int32) (_ : Unit) => r = (-2)) (fun _ _ => True) (va_A [(m0, .inr (12, [.ref g0, .ref g1, .ref g2, .ref g3, .ref g4, .int 0, .int 0, .int 0, .int 0, .ref g9, .int 0, .int 0, .int 0, .int 0, .int (-1), .int 0, .int 0, .ref g17, .ref g18, .int 0, .ref g20, .ref g21, .ref g22, .ref g23, .ref g24, .ref g25, .ref g26, .ref g27, .ref g28, .ref g29, .ref g30, .int 0]))] sz)) 0 0 (va_A [(m0, .inr (12, [.ref g0, .ref g1, .ref g2, .ref g3, .ref g4, .int 0, .int 0, .int 0, .int 0, .ref g9, .int 0, .int 0, .int 0, .int 0, .int (-1), .int 0, .int 0, .ref g17, .ref g18, .int 0, .ref g20, .ref g21, .ref g22, .ref g23, .ref g24, .ref g25, .ref g26, .ref g27, .ref g28, .ref g29, .ref g30, .int 0]))] sz) := by
  refine Met.ofW (cc := cX12_bound) (maxL := 4) (ret := (some .int)) (by decide) rfl ?_
  intro p e s m args below meth c s₁ B hml hv
  obtain ⟨rfl, hsz, hP, hK, hD0⟩ := hv
  have hx := B.exec
  have hb := B.bytes
  have hr := B.returns
  have hT : ∀ w ∈ TB, w.before [.ref m0, .int k0, .int k1, .int k2].toArray s = true := fun w h => atoms_spec (ws := wT yX12_bound cX12_bound 4 (some .int)) B.pre w (List.mem_cons_of_mem _ h)
  have hown : s.vm.findClass RX12 = some m.cls := findClass_of_methodNamed B.named
  have hlocks := B.notSynchronized
  subst hsz
  have hD := hD0.self (sz := s.heap.size)
  generalize hAe : va_A [(m0, .inr (12, [.ref g0, .ref g1, .ref g2, .ref g3, .ref g4, .int 0, .int 0, .int 0, .int 0, .ref g9, .int 0, .int 0, .int 0, .int 0, .int (-1), .int 0, .int 0, .ref g17, .ref g18, .int 0, .ref g20, .ref g21, .ref g22, .ref g23, .ref g24, .ref g25, .ref g26, .ref g27, .ref g28, .ref g29, .ref g30, .int 0]))] s.heap.size = A at hD ⊢
  have hA : ∀ q : Nat, s.heap.size ≤ q → A q := fun q h => by rw [← hAe]; exact Or.inr h
  have hS : va_S A s.heap s.heap [] := va_S.rf
  have hP : va_P (dC, dI) vwCl [(m0, .inr (12, [.ref g0, .ref g1, .ref g2, .ref g3, .ref g4, .int 0, .int 0, .int 0, .int 0, .ref g9, .int 0, .int 0, .int 0, .int 0, .int (-1), .int 0, .int 0, .ref g17, .ref g18, .int 0, .ref g20, .ref g21, .ref g22, .ref g23, .ref g24, .ref g25, .ref g26, .ref g27, .ref g28, .ref g29, .ref g30, .int 0]))] s.heap := hP
  have hl := lv_entry ([.ref m0, .int k0, .int k1, .int k2]) (n := 4) (Nat.le_of_ble_eq_true rfl)
  rw [lg_entry_eq]
  generalize (lg_sl ([.ref m0, .int k0, .int k1, .int k2]) ++ List.replicate (4 - (lg_sl ([.ref m0, .int k0, .int k1, .int k2])).length) Slot.unset).toArray = ls at hl ⊢
  have hl : lv_has ls 4 [(0, .ref m0), (1, .int k0), (2, .int k1), (3, .int k2)] := hl
  refine lv_aload_n hx hb dX12_bound_0 rfl (lv_at hl 0 rfl) ?_
  refine lv_iconst (v := 0) hx hb dX12_bound_1 (by decide) ?_
  refine va_put (D := (dC, dI)) (ci := 12) (v := .int 0) (ty := .int) (C := RX12) (T := TX12) (N := 32) hx hb hT iX12 tyX12 tyX12_ok nmX12 hown hK hP hD hS 0 rfl rfl 8 (by decide) (hT _ w1090) (fun _ h9 => h9) rfl (by decide +kernel) rfl rfl (Nat.le_of_ble_eq_true rfl) dX12_bound_2 (fun H locs hP hD hS => ?_)
  have hP : va_P (dC, dI) vwCl [(m0, .inr (12, [.ref g0, .ref g1, .ref g2, .ref g3, .ref g4, .int 0, .int 0, .int 0, .int 0, .ref g9, .int 0, .int 0, .int 0, .int 0, .int (-1), .int 0, .int 0, .ref g17, .ref g18, .int 0, .ref g20, .ref g21, .ref g22, .ref g23, .ref g24, .ref g25, .ref g26, .ref g27, .ref g28, .ref g29, .ref g30, .int 0]))] H := hP
  have hD : va_D A [(m0, .inr (12, [.ref g0, .ref g1, .ref g2, .ref g3, .ref g4, .int 0, .int 0, .int 0, .int 0, .ref g9, .int 0, .int 0, .int 0, .int 0, .int (-1), .int 0, .int 0, .ref g17, .ref g18, .int 0, .ref g20, .ref g21, .ref g22, .ref g23, .ref g24, .ref g25, .ref g26, .ref g27, .ref g28, .ref g29, .ref g30, .int 0]))] := hD
  refine lv_aload_n hx hb dX12_bound_5 rfl (lv_at hl 0 rfl) ?_
  refine lv_iload_n hx hb dX12_bound_6 rfl (lv_at hl 1 rfl) ?_
  refine lv_iload_n hx hb dX12_bound_7 rfl (lv_at hl 2 rfl) ?_
  have hPc := hP.sub (ws' := [(m0, .inr (12, [.ref g0, .ref g1, .ref g2, .ref g3, .ref g4, .int 0, .int 0, .int 0, .int 0, .ref g9, .int 0, .int 0, .int 0, .int 0, .int (-1), .int 0, .int 0, .ref g17, .ref g18, .int 0, .ref g20, .ref g21, .ref g22, .ref g23, .ref g24, .ref g25, .ref g26, .ref g27, .ref g28, .ref g29, .ref g30, .int 0]))]) [0] rfl
  have hDc := hD.sub (ws' := [(m0, .inr (12, [.ref g0, .ref g1, .ref g2, .ref g3, .ref g4, .int 0, .int 0, .int 0, .int 0, .ref g9, .int 0, .int 0, .int 0, .int 0, .int (-1), .int 0, .int 0, .ref g17, .ref g18, .int 0, .ref g20, .ref g21, .ref g22, .ref g23, .ref g24, .ref g25, .ref g26, .ref g27, .ref g28, .ref g29, .ref g30, .int 0]))]) [0] (by decide) rfl
  have hKc := hK.sub (tys' := []) [] rfl
  refine vp_callSi (va_Run.run (va_runV (As := [.int k0, .int k1]) (rest := []) ⟨hx, hb, hml, hown, hT⟩ (m_areTwo l dC dI m0 g0 g1 g2 g3 g4 g9 g17 g18 g20 g21 g22 g23 g24 g25 g26 g27 g28 g29 g30 H.size k0 k1) (cwV 2 hT (gV w1280 w1282 ws72 w14 w1283) rfl rfl rfl (by decide +kernel) ⟨(Nat.le_of_ble_eq_true rfl), (Nat.le_of_ble_eq_true rfl)⟩) ⟨pcW.blind, va_recv hKc hPc (ci := 12) (q0 := 0) rfl rfl, pcW.pre hPc hKc hDc⟩ rfl rfl hl.1 rfl (lv_room (Nat.le_of_ble_eq_true rfl)) dX12_bound_8 ⟨(Nat.le_of_ble_eq_true rfl), (Nat.le_of_ble_eq_true rfl)⟩)) (fun r_8 hr_8 => ?_)
  obtain rfl : r_8 = 0 := hr_8
  refine lv_if_eq (tgt := 22) hx hb dX12_bound_11 (by decide) (fun _ => ?_) (fun h => absurd (by decide) h)
  refine lv_bipush (v := (-2)) hx hb dX12_bound_22 (by decide) ?_
  refine W.widen (k := 0) (n := 0) (Nat.le_of_ble_eq_true rfl) (Nat.le_of_ble_eq_true rfl) ?_
  exact W.iret (v := (-2)) hx hb hr (fun t ht hW => ⟨⟨(-2), (), rfl, rfl, trivial⟩, hS.F ht⟩) hS.2.2 dX12_bound_24

set_option maxHeartbeats 4000000 in
set_option maxRecDepth 100000 in
theorem m_pressed (l : Launch) (dC : Nat → ClassId) (dI : Nat → Nat → Nat) (m0 : Nat) (g0 : Nat) (g1 : Nat) (g2 : Nat) (g3 : Nat) (g4 : Nat) (g9 : Nat) (g17 : Nat) (g18 : Nat) (g20 : Nat) (g21 : Nat) (g22 : Nat) (g23 : Nat) (g24 : Nat) (g25 : Nat) (g26 : Nat) (g27 : Nat) (g28 : Nat) (g29 : Nat) (g30 : Nat) (sz : Nat) (k0 : Int32) (k1 : Int32) (k2 : Int32) : Met l yX12_pressed (wT yX12_pressed cX12_pressed 4 (some .int)) ({ frames := 3, cells := 0, slots := 0, locals := 68 }) (pcW dC dI [.ref m0, .int k0, .int k1, .int k2] sz [(m0, .inr (12, [.ref g0, .ref g1, .ref g2, .ref g3, .ref g4, .int 0, .int 0, .int 0, .int 0, .ref g9, .int 0, .int 0, .int 0, .int 0, .int (-1), .int 0, .int 0, .ref g17, .ref g18, .int 0, .ref g20, .ref g21, .ref g22, .ref g23, .ref g24, .ref g25, .ref g26, .ref g27, .ref g28, .ref g29, .ref g30, .int 0]))] []) (va_Qi (fun (r : Int32) (_ : Unit) => r = (-2)) (fun _ _ => True) (va_A [(m0, .inr (12, [.ref g0, .ref g1, .ref g2, .ref g3, .ref g4, .int 0, .int 0, .int 0, .int 0, .ref g9, .int 0, .int 0, .int 0, .int 0, .int (-1), .int 0, .int 0, .ref g17, .ref g18, .int 0, .ref g20, .ref g21, .ref g22, .ref g23, .ref g24, .ref g25, .ref g26, .ref g27, .ref g28, .ref g29, .ref g30, .int 0]))] sz)) 0 0 (va_A [(m0, .inr (12, [.ref g0, .ref g1, .ref g2, .ref g3, .ref g4, .int 0, .int 0, .int 0, .int 0, .ref g9, .int 0, .int 0, .int 0, .int 0, .int (-1), .int 0, .int 0, .ref g17, .ref g18, .int 0, .ref g20, .ref g21, .ref g22, .ref g23, .ref g24, .ref g25, .ref g26, .ref g27, .ref g28, .ref g29, .ref g30, .int 0]))] sz) := by
  refine Met.ofW (cc := cX12_pressed) (maxL := 4) (ret := (some .int)) (by decide) rfl ?_
  intro p e s m args below meth c s₁ B hml hv
  obtain ⟨rfl, hsz, hP, hK, hD0⟩ := hv
  have hx := B.exec
  have hb := B.bytes
  have hr := B.returns
  have hT : ∀ w ∈ TB, w.before [.ref m0, .int k0, .int k1, .int k2].toArray s = true := fun w h => atoms_spec (ws := wT yX12_pressed cX12_pressed 4 (some .int)) B.pre w (List.mem_cons_of_mem _ h)
  have hown : s.vm.findClass RX12 = some m.cls := findClass_of_methodNamed B.named
  have hlocks := B.notSynchronized
  subst hsz
  have hD := hD0.self (sz := s.heap.size)
  generalize hAe : va_A [(m0, .inr (12, [.ref g0, .ref g1, .ref g2, .ref g3, .ref g4, .int 0, .int 0, .int 0, .int 0, .ref g9, .int 0, .int 0, .int 0, .int 0, .int (-1), .int 0, .int 0, .ref g17, .ref g18, .int 0, .ref g20, .ref g21, .ref g22, .ref g23, .ref g24, .ref g25, .ref g26, .ref g27, .ref g28, .ref g29, .ref g30, .int 0]))] s.heap.size = A at hD ⊢
  have hA : ∀ q : Nat, s.heap.size ≤ q → A q := fun q h => by rw [← hAe]; exact Or.inr h
  have hS : va_S A s.heap s.heap [] := va_S.rf
  have hP : va_P (dC, dI) vwCl [(m0, .inr (12, [.ref g0, .ref g1, .ref g2, .ref g3, .ref g4, .int 0, .int 0, .int 0, .int 0, .ref g9, .int 0, .int 0, .int 0, .int 0, .int (-1), .int 0, .int 0, .ref g17, .ref g18, .int 0, .ref g20, .ref g21, .ref g22, .ref g23, .ref g24, .ref g25, .ref g26, .ref g27, .ref g28, .ref g29, .ref g30, .int 0]))] s.heap := hP
  have hl := lv_entry ([.ref m0, .int k0, .int k1, .int k2]) (n := 4) (Nat.le_of_ble_eq_true rfl)
  rw [lg_entry_eq]
  generalize (lg_sl ([.ref m0, .int k0, .int k1, .int k2]) ++ List.replicate (4 - (lg_sl ([.ref m0, .int k0, .int k1, .int k2])).length) Slot.unset).toArray = ls at hl ⊢
  have hl : lv_has ls 4 [(0, .ref m0), (1, .int k0), (2, .int k1), (3, .int k2)] := hl
  refine lv_aload_n hx hb dX12_pressed_0 rfl (lv_at hl 0 rfl) ?_
  refine lv_iconst (v := 0) hx hb dX12_pressed_1 (by decide) ?_
  refine va_put (D := (dC, dI)) (ci := 12) (v := .int 0) (ty := .int) (C := RX12) (T := TX12) (N := 32) hx hb hT iX12 tyX12 tyX12_ok nmX12 hown hK hP hD hS 0 rfl rfl 8 (by decide) (hT _ w1090) (fun _ h9 => h9) rfl (by decide +kernel) rfl rfl (Nat.le_of_ble_eq_true rfl) dX12_pressed_2 (fun H locs hP hD hS => ?_)
  have hP : va_P (dC, dI) vwCl [(m0, .inr (12, [.ref g0, .ref g1, .ref g2, .ref g3, .ref g4, .int 0, .int 0, .int 0, .int 0, .ref g9, .int 0, .int 0, .int 0, .int 0, .int (-1), .int 0, .int 0, .ref g17, .ref g18, .int 0, .ref g20, .ref g21, .ref g22, .ref g23, .ref g24, .ref g25, .ref g26, .ref g27, .ref g28, .ref g29, .ref g30, .int 0]))] H := hP
  have hD : va_D A [(m0, .inr (12, [.ref g0, .ref g1, .ref g2, .ref g3, .ref g4, .int 0, .int 0, .int 0, .int 0, .ref g9, .int 0, .int 0, .int 0, .int 0, .int (-1), .int 0, .int 0, .ref g17, .ref g18, .int 0, .ref g20, .ref g21, .ref g22, .ref g23, .ref g24, .ref g25, .ref g26, .ref g27, .ref g28, .ref g29, .ref g30, .int 0]))] := hD
  refine lv_aload_n hx hb dX12_pressed_5 rfl (lv_at hl 0 rfl) ?_
  refine lv_iload_n hx hb dX12_pressed_6 rfl (lv_at hl 1 rfl) ?_
  refine lv_iload_n hx hb dX12_pressed_7 rfl (lv_at hl 2 rfl) ?_
  have hPc := hP.sub (ws' := [(m0, .inr (12, [.ref g0, .ref g1, .ref g2, .ref g3, .ref g4, .int 0, .int 0, .int 0, .int 0, .ref g9, .int 0, .int 0, .int 0, .int 0, .int (-1), .int 0, .int 0, .ref g17, .ref g18, .int 0, .ref g20, .ref g21, .ref g22, .ref g23, .ref g24, .ref g25, .ref g26, .ref g27, .ref g28, .ref g29, .ref g30, .int 0]))]) [0] rfl
  have hDc := hD.sub (ws' := [(m0, .inr (12, [.ref g0, .ref g1, .ref g2, .ref g3, .ref g4, .int 0, .int 0, .int 0, .int 0, .ref g9, .int 0, .int 0, .int 0, .int 0, .int (-1), .int 0, .int 0, .ref g17, .ref g18, .int 0, .ref g20, .ref g21, .ref g22, .ref g23, .ref g24, .ref g25, .ref g26, .ref g27, .ref g28, .ref g29, .ref g30, .int 0]))]) [0] (by decide) rfl
  have hKc := hK.sub (tys' := []) [] rfl
  refine vp_callSi (va_Run.run (va_runV (As := [.int k0, .int k1]) (rest := []) ⟨hx, hb, hml, hown, hT⟩ (m_areTwo l dC dI m0 g0 g1 g2 g3 g4 g9 g17 g18 g20 g21 g22 g23 g24 g25 g26 g27 g28 g29 g30 H.size k0 k1) (cwV 2 hT (gV w1280 w1282 ws72 w14 w1283) rfl rfl rfl (by decide +kernel) ⟨(Nat.le_of_ble_eq_true rfl), (Nat.le_of_ble_eq_true rfl)⟩) ⟨pcW.blind, va_recv hKc hPc (ci := 12) (q0 := 0) rfl rfl, pcW.pre hPc hKc hDc⟩ rfl rfl hl.1 rfl (lv_room (Nat.le_of_ble_eq_true rfl)) dX12_pressed_8 ⟨(Nat.le_of_ble_eq_true rfl), (Nat.le_of_ble_eq_true rfl)⟩)) (fun r_8 hr_8 => ?_)
  obtain rfl : r_8 = 0 := hr_8
  refine lv_if_eq (tgt := 22) hx hb dX12_pressed_11 (by decide) (fun _ => ?_) (fun h => absurd (by decide) h)
  refine lv_bipush (v := (-2)) hx hb dX12_pressed_22 (by decide) ?_
  refine W.widen (k := 0) (n := 0) (Nat.le_of_ble_eq_true rfl) (Nat.le_of_ble_eq_true rfl) ?_
  exact W.iret (v := (-2)) hx hb hr (fun t ht hW => ⟨⟨(-2), (), rfl, rfl, trivial⟩, hS.F ht⟩) hS.2.2 dX12_pressed_24

set_option maxHeartbeats 4000000 in
set_option maxRecDepth 100000 in
theorem m_span (l : Launch) (dC : Nat → ClassId) (dI : Nat → Nat → Nat) (m0 : Nat) (g0 : Nat) (g1 : Nat) (g2 : Nat) (g3 : Nat) (g4 : Nat) (g9 : Nat) (g17 : Nat) (g18 : Nat) (g20 : Nat) (g21 : Nat) (g22 : Nat) (g23 : Nat) (g24 : Nat) (g25 : Nat) (g26 : Nat) (g27 : Nat) (g28 : Nat) (g29 : Nat) (g30 : Nat) (sz : Nat) (k0 : Int32) (k1 : Int32) (k2 : Int32) (k3 : Int32) : Met l yX12_span (wT yX12_span cX12_span 5 (some .int)) ({ frames := 3, cells := 0, slots := 0, locals := 68 }) (pcW dC dI [.ref m0, .int k0, .int k1, .int k2, .int k3] sz [(m0, .inr (12, [.ref g0, .ref g1, .ref g2, .ref g3, .ref g4, .int 0, .int 0, .int 0, .int 0, .ref g9, .int 0, .int 0, .int 0, .int 0, .int (-1), .int 0, .int 0, .ref g17, .ref g18, .int 0, .ref g20, .ref g21, .ref g22, .ref g23, .ref g24, .ref g25, .ref g26, .ref g27, .ref g28, .ref g29, .ref g30, .int 0]))] []) (va_Qi (fun (r : Int32) (_ : Unit) => r = (-2)) (fun _ _ => True) (va_A [(m0, .inr (12, [.ref g0, .ref g1, .ref g2, .ref g3, .ref g4, .int 0, .int 0, .int 0, .int 0, .ref g9, .int 0, .int 0, .int 0, .int 0, .int (-1), .int 0, .int 0, .ref g17, .ref g18, .int 0, .ref g20, .ref g21, .ref g22, .ref g23, .ref g24, .ref g25, .ref g26, .ref g27, .ref g28, .ref g29, .ref g30, .int 0]))] sz)) 0 0 (va_A [(m0, .inr (12, [.ref g0, .ref g1, .ref g2, .ref g3, .ref g4, .int 0, .int 0, .int 0, .int 0, .ref g9, .int 0, .int 0, .int 0, .int 0, .int (-1), .int 0, .int 0, .ref g17, .ref g18, .int 0, .ref g20, .ref g21, .ref g22, .ref g23, .ref g24, .ref g25, .ref g26, .ref g27, .ref g28, .ref g29, .ref g30, .int 0]))] sz) := by
  refine Met.ofW (cc := cX12_span) (maxL := 5) (ret := (some .int)) (by decide) rfl ?_
  intro p e s m args below meth c s₁ B hml hv
  obtain ⟨rfl, hsz, hP, hK, hD0⟩ := hv
  have hx := B.exec
  have hb := B.bytes
  have hr := B.returns
  have hT : ∀ w ∈ TB, w.before [.ref m0, .int k0, .int k1, .int k2, .int k3].toArray s = true := fun w h => atoms_spec (ws := wT yX12_span cX12_span 5 (some .int)) B.pre w (List.mem_cons_of_mem _ h)
  have hown : s.vm.findClass RX12 = some m.cls := findClass_of_methodNamed B.named
  have hlocks := B.notSynchronized
  subst hsz
  have hD := hD0.self (sz := s.heap.size)
  generalize hAe : va_A [(m0, .inr (12, [.ref g0, .ref g1, .ref g2, .ref g3, .ref g4, .int 0, .int 0, .int 0, .int 0, .ref g9, .int 0, .int 0, .int 0, .int 0, .int (-1), .int 0, .int 0, .ref g17, .ref g18, .int 0, .ref g20, .ref g21, .ref g22, .ref g23, .ref g24, .ref g25, .ref g26, .ref g27, .ref g28, .ref g29, .ref g30, .int 0]))] s.heap.size = A at hD ⊢
  have hA : ∀ q : Nat, s.heap.size ≤ q → A q := fun q h => by rw [← hAe]; exact Or.inr h
  have hS : va_S A s.heap s.heap [] := va_S.rf
  have hP : va_P (dC, dI) vwCl [(m0, .inr (12, [.ref g0, .ref g1, .ref g2, .ref g3, .ref g4, .int 0, .int 0, .int 0, .int 0, .ref g9, .int 0, .int 0, .int 0, .int 0, .int (-1), .int 0, .int 0, .ref g17, .ref g18, .int 0, .ref g20, .ref g21, .ref g22, .ref g23, .ref g24, .ref g25, .ref g26, .ref g27, .ref g28, .ref g29, .ref g30, .int 0]))] s.heap := hP
  have hl := lv_entry ([.ref m0, .int k0, .int k1, .int k2, .int k3]) (n := 5) (Nat.le_of_ble_eq_true rfl)
  rw [lg_entry_eq]
  generalize (lg_sl ([.ref m0, .int k0, .int k1, .int k2, .int k3]) ++ List.replicate (5 - (lg_sl ([.ref m0, .int k0, .int k1, .int k2, .int k3])).length) Slot.unset).toArray = ls at hl ⊢
  have hl : lv_has ls 5 [(0, .ref m0), (1, .int k0), (2, .int k1), (3, .int k2), (4, .int k3)] := hl
  refine lv_aload_n hx hb dX12_span_0 rfl (lv_at hl 0 rfl) ?_
  refine lv_iconst (v := 0) hx hb dX12_span_1 (by decide) ?_
  refine va_put (D := (dC, dI)) (ci := 12) (v := .int 0) (ty := .int) (C := RX12) (T := TX12) (N := 32) hx hb hT iX12 tyX12 tyX12_ok nmX12 hown hK hP hD hS 0 rfl rfl 8 (by decide) (hT _ w1090) (fun _ h9 => h9) rfl (by decide +kernel) rfl rfl (Nat.le_of_ble_eq_true rfl) dX12_span_2 (fun H locs hP hD hS => ?_)
  have hP : va_P (dC, dI) vwCl [(m0, .inr (12, [.ref g0, .ref g1, .ref g2, .ref g3, .ref g4, .int 0, .int 0, .int 0, .int 0, .ref g9, .int 0, .int 0, .int 0, .int 0, .int (-1), .int 0, .int 0, .ref g17, .ref g18, .int 0, .ref g20, .ref g21, .ref g22, .ref g23, .ref g24, .ref g25, .ref g26, .ref g27, .ref g28, .ref g29, .ref g30, .int 0]))] H := hP
  have hD : va_D A [(m0, .inr (12, [.ref g0, .ref g1, .ref g2, .ref g3, .ref g4, .int 0, .int 0, .int 0, .int 0, .ref g9, .int 0, .int 0, .int 0, .int 0, .int (-1), .int 0, .int 0, .ref g17, .ref g18, .int 0, .ref g20, .ref g21, .ref g22, .ref g23, .ref g24, .ref g25, .ref g26, .ref g27, .ref g28, .ref g29, .ref g30, .int 0]))] := hD
  refine lv_aload_n hx hb dX12_span_5 rfl (lv_at hl 0 rfl) ?_
  refine lv_iload_n hx hb dX12_span_6 rfl (lv_at hl 1 rfl) ?_
  refine lv_iload_n hx hb dX12_span_7 rfl (lv_at hl 2 rfl) ?_
  have hPc := hP.sub (ws' := [(m0, .inr (12, [.ref g0, .ref g1, .ref g2, .ref g3, .ref g4, .int 0, .int 0, .int 0, .int 0, .ref g9, .int 0, .int 0, .int 0, .int 0, .int (-1), .int 0, .int 0, .ref g17, .ref g18, .int 0, .ref g20, .ref g21, .ref g22, .ref g23, .ref g24, .ref g25, .ref g26, .ref g27, .ref g28, .ref g29, .ref g30, .int 0]))]) [0] rfl
  have hDc := hD.sub (ws' := [(m0, .inr (12, [.ref g0, .ref g1, .ref g2, .ref g3, .ref g4, .int 0, .int 0, .int 0, .int 0, .ref g9, .int 0, .int 0, .int 0, .int 0, .int (-1), .int 0, .int 0, .ref g17, .ref g18, .int 0, .ref g20, .ref g21, .ref g22, .ref g23, .ref g24, .ref g25, .ref g26, .ref g27, .ref g28, .ref g29, .ref g30, .int 0]))]) [0] (by decide) rfl
  have hKc := hK.sub (tys' := []) [] rfl
  refine vp_callSi (va_Run.run (va_runV (As := [.int k0, .int k1]) (rest := []) ⟨hx, hb, hml, hown, hT⟩ (m_areTwo l dC dI m0 g0 g1 g2 g3 g4 g9 g17 g18 g20 g21 g22 g23 g24 g25 g26 g27 g28 g29 g30 H.size k0 k1) (cwV 2 hT (gV w1280 w1282 ws72 w14 w1283) rfl rfl rfl (by decide +kernel) ⟨(Nat.le_of_ble_eq_true rfl), (Nat.le_of_ble_eq_true rfl)⟩) ⟨pcW.blind, va_recv hKc hPc (ci := 12) (q0 := 0) rfl rfl, pcW.pre hPc hKc hDc⟩ rfl rfl hl.1 rfl (lv_room (Nat.le_of_ble_eq_true rfl)) dX12_span_8 ⟨(Nat.le_of_ble_eq_true rfl), (Nat.le_of_ble_eq_true rfl)⟩)) (fun r_8 hr_8 => ?_)
  obtain rfl : r_8 = 0 := hr_8
  refine lv_if_eq (tgt := 22) hx hb dX12_span_11 (by decide) (fun _ => ?_) (fun h => absurd (by decide) h)
  refine lv_bipush (v := (-2)) hx hb dX12_span_22 (by decide) ?_
  refine W.widen (k := 0) (n := 0) (Nat.le_of_ble_eq_true rfl) (Nat.le_of_ble_eq_true rfl) ?_
  exact W.iret (v := (-2)) hx hb hr (fun t ht hW => ⟨⟨(-2), (), rfl, rfl, trivial⟩, hS.F ht⟩) hS.2.2 dX12_span_24

set_option maxHeartbeats 4000000 in
set_option maxRecDepth 100000 in
theorem m_gain (l : Launch) (dC : Nat → ClassId) (dI : Nat → Nat → Nat) (m0 : Nat) (g0 : Nat) (g1 : Nat) (g2 : Nat) (g3 : Nat) (g4 : Nat) (g9 : Nat) (g17 : Nat) (g18 : Nat) (g20 : Nat) (g21 : Nat) (g22 : Nat) (g23 : Nat) (g24 : Nat) (g25 : Nat) (g26 : Nat) (g27 : Nat) (g28 : Nat) (g29 : Nat) (g30 : Nat) (sz : Nat) (k0 : Int32) (k1 : Int32) (k2 : Int32) : Met l yX12_gain (wT yX12_gain cX12_gain 5 (some .int)) ({ frames := 3, cells := 0, slots := 0, locals := 68 }) (pcW dC dI [.ref m0, .int k0, .int k1, .int k2] sz [(m0, .inr (12, [.ref g0, .ref g1, .ref g2, .ref g3, .ref g4, .int 0, .int 0, .int 0, .int 0, .ref g9, .int 0, .int 0, .int 0, .int 0, .int (-1), .int 0, .int 0, .ref g17, .ref g18, .int 0, .ref g20, .ref g21, .ref g22, .ref g23, .ref g24, .ref g25, .ref g26, .ref g27, .ref g28, .ref g29, .ref g30, .int 0]))] []) (va_Qi (fun (r : Int32) (_ : Unit) => r = (-2)) (fun _ _ => True) (va_A [(m0, .inr (12, [.ref g0, .ref g1, .ref g2, .ref g3, .ref g4, .int 0, .int 0, .int 0, .int 0, .ref g9, .int 0, .int 0, .int 0, .int 0, .int (-1), .int 0, .int 0, .ref g17, .ref g18, .int 0, .ref g20, .ref g21, .ref g22, .ref g23, .ref g24, .ref g25, .ref g26, .ref g27, .ref g28, .ref g29, .ref g30, .int 0]))] sz)) 0 0 (va_A [(m0, .inr (12, [.ref g0, .ref g1, .ref g2, .ref g3, .ref g4, .int 0, .int 0, .int 0, .int 0, .ref g9, .int 0, .int 0, .int 0, .int 0, .int (-1), .int 0, .int 0, .ref g17, .ref g18, .int 0, .ref g20, .ref g21, .ref g22, .ref g23, .ref g24, .ref g25, .ref g26, .ref g27, .ref g28, .ref g29, .ref g30, .int 0]))] sz) := by
  refine Met.ofW (cc := cX12_gain) (maxL := 5) (ret := (some .int)) (by decide) rfl ?_
  intro p e s m args below meth c s₁ B hml hv
  obtain ⟨rfl, hsz, hP, hK, hD0⟩ := hv
  have hx := B.exec
  have hb := B.bytes
  have hr := B.returns
  have hT : ∀ w ∈ TB, w.before [.ref m0, .int k0, .int k1, .int k2].toArray s = true := fun w h => atoms_spec (ws := wT yX12_gain cX12_gain 5 (some .int)) B.pre w (List.mem_cons_of_mem _ h)
  have hown : s.vm.findClass RX12 = some m.cls := findClass_of_methodNamed B.named
  have hlocks := B.notSynchronized
  subst hsz
  have hD := hD0.self (sz := s.heap.size)
  generalize hAe : va_A [(m0, .inr (12, [.ref g0, .ref g1, .ref g2, .ref g3, .ref g4, .int 0, .int 0, .int 0, .int 0, .ref g9, .int 0, .int 0, .int 0, .int 0, .int (-1), .int 0, .int 0, .ref g17, .ref g18, .int 0, .ref g20, .ref g21, .ref g22, .ref g23, .ref g24, .ref g25, .ref g26, .ref g27, .ref g28, .ref g29, .ref g30, .int 0]))] s.heap.size = A at hD ⊢
  have hA : ∀ q : Nat, s.heap.size ≤ q → A q := fun q h => by rw [← hAe]; exact Or.inr h
  have hS : va_S A s.heap s.heap [] := va_S.rf
  have hP : va_P (dC, dI) vwCl [(m0, .inr (12, [.ref g0, .ref g1, .ref g2, .ref g3, .ref g4, .int 0, .int 0, .int 0, .int 0, .ref g9, .int 0, .int 0, .int 0, .int 0, .int (-1), .int 0, .int 0, .ref g17, .ref g18, .int 0, .ref g20, .ref g21, .ref g22, .ref g23, .ref g24, .ref g25, .ref g26, .ref g27, .ref g28, .ref g29, .ref g30, .int 0]))] s.heap := hP
  have hl := lv_entry ([.ref m0, .int k0, .int k1, .int k2]) (n := 5) (Nat.le_of_ble_eq_true rfl)
  rw [lg_entry_eq]
  generalize (lg_sl ([.ref m0, .int k0, .int k1, .int k2]) ++ List.replicate (5 - (lg_sl ([.ref m0, .int k0, .int k1, .int k2])).length) Slot.unset).toArray = ls at hl ⊢
  have hl : lv_has ls 5 [(0, .ref m0), (1, .int k0), (2, .int k1), (3, .int k2)] := hl
  refine lv_aload_n hx hb dX12_gain_0 rfl (lv_at hl 0 rfl) ?_
  refine lv_iconst (v := 0) hx hb dX12_gain_1 (by decide) ?_
  refine va_put (D := (dC, dI)) (ci := 12) (v := .int 0) (ty := .int) (C := RX12) (T := TX12) (N := 32) hx hb hT iX12 tyX12 tyX12_ok nmX12 hown hK hP hD hS 0 rfl rfl 8 (by decide) (hT _ w1090) (fun _ h9 => h9) rfl (by decide +kernel) rfl rfl (Nat.le_of_ble_eq_true rfl) dX12_gain_2 (fun H locs hP hD hS => ?_)
  have hP : va_P (dC, dI) vwCl [(m0, .inr (12, [.ref g0, .ref g1, .ref g2, .ref g3, .ref g4, .int 0, .int 0, .int 0, .int 0, .ref g9, .int 0, .int 0, .int 0, .int 0, .int (-1), .int 0, .int 0, .ref g17, .ref g18, .int 0, .ref g20, .ref g21, .ref g22, .ref g23, .ref g24, .ref g25, .ref g26, .ref g27, .ref g28, .ref g29, .ref g30, .int 0]))] H := hP
  have hD : va_D A [(m0, .inr (12, [.ref g0, .ref g1, .ref g2, .ref g3, .ref g4, .int 0, .int 0, .int 0, .int 0, .ref g9, .int 0, .int 0, .int 0, .int 0, .int (-1), .int 0, .int 0, .ref g17, .ref g18, .int 0, .ref g20, .ref g21, .ref g22, .ref g23, .ref g24, .ref g25, .ref g26, .ref g27, .ref g28, .ref g29, .ref g30, .int 0]))] := hD
  refine lv_aload_n hx hb dX12_gain_5 rfl (lv_at hl 0 rfl) ?_
  refine lv_iload_n hx hb dX12_gain_6 rfl (lv_at hl 1 rfl) ?_
  refine lv_iload_n hx hb dX12_gain_7 rfl (lv_at hl 2 rfl) ?_
  have hPc := hP.sub (ws' := [(m0, .inr (12, [.ref g0, .ref g1, .ref g2, .ref g3, .ref g4, .int 0, .int 0, .int 0, .int 0, .ref g9, .int 0, .int 0, .int 0, .int 0, .int (-1), .int 0, .int 0, .ref g17, .ref g18, .int 0, .ref g20, .ref g21, .ref g22, .ref g23, .ref g24, .ref g25, .ref g26, .ref g27, .ref g28, .ref g29, .ref g30, .int 0]))]) [0] rfl
  have hDc := hD.sub (ws' := [(m0, .inr (12, [.ref g0, .ref g1, .ref g2, .ref g3, .ref g4, .int 0, .int 0, .int 0, .int 0, .ref g9, .int 0, .int 0, .int 0, .int 0, .int (-1), .int 0, .int 0, .ref g17, .ref g18, .int 0, .ref g20, .ref g21, .ref g22, .ref g23, .ref g24, .ref g25, .ref g26, .ref g27, .ref g28, .ref g29, .ref g30, .int 0]))]) [0] (by decide) rfl
  have hKc := hK.sub (tys' := []) [] rfl
  refine vp_callSi (va_Run.run (va_runV (As := [.int k0, .int k1]) (rest := []) ⟨hx, hb, hml, hown, hT⟩ (m_areTwo l dC dI m0 g0 g1 g2 g3 g4 g9 g17 g18 g20 g21 g22 g23 g24 g25 g26 g27 g28 g29 g30 H.size k0 k1) (cwV 2 hT (gV w1280 w1282 ws72 w14 w1283) rfl rfl rfl (by decide +kernel) ⟨(Nat.le_of_ble_eq_true rfl), (Nat.le_of_ble_eq_true rfl)⟩) ⟨pcW.blind, va_recv hKc hPc (ci := 12) (q0 := 0) rfl rfl, pcW.pre hPc hKc hDc⟩ rfl rfl hl.1 rfl (lv_room (Nat.le_of_ble_eq_true rfl)) dX12_gain_8 ⟨(Nat.le_of_ble_eq_true rfl), (Nat.le_of_ble_eq_true rfl)⟩)) (fun r_8 hr_8 => ?_)
  obtain rfl : r_8 = 0 := hr_8
  refine lv_if_eq (tgt := 22) hx hb dX12_gain_11 (by decide) (fun _ => ?_) (fun h => absurd (by decide) h)
  refine lv_bipush (v := (-2)) hx hb dX12_gain_22 (by decide) ?_
  refine W.widen (k := 0) (n := 0) (Nat.le_of_ble_eq_true rfl) (Nat.le_of_ble_eq_true rfl) ?_
  exact W.iret (v := (-2)) hx hb hr (fun t ht hW => ⟨⟨(-2), (), rfl, rfl, trivial⟩, hS.F ht⟩) hS.2.2 dX12_gain_24

set_option maxHeartbeats 4000000 in
set_option maxRecDepth 100000 in
theorem m_enough (l : Launch) (dC : Nat → ClassId) (dI : Nat → Nat → Nat) (m0 : Nat) (g0 : Nat) (g1 : Nat) (g2 : Nat) (g3 : Nat) (g4 : Nat) (g9 : Nat) (g17 : Nat) (g18 : Nat) (g20 : Nat) (g21 : Nat) (g22 : Nat) (g23 : Nat) (g24 : Nat) (g25 : Nat) (g26 : Nat) (g27 : Nat) (g28 : Nat) (g29 : Nat) (g30 : Nat) (sz : Nat) (k0 : Int32) (k1 : Int32) (k2 : Int32) : Met l yX12_enough (wT yX12_enough cX12_enough 4 (some .int)) ({ frames := 3, cells := 0, slots := 0, locals := 68 }) (pcW dC dI [.ref m0, .int k0, .int k1, .int k2] sz [(m0, .inr (12, [.ref g0, .ref g1, .ref g2, .ref g3, .ref g4, .int 0, .int 0, .int 0, .int 0, .ref g9, .int 0, .int 0, .int 0, .int 0, .int (-1), .int 0, .int 0, .ref g17, .ref g18, .int 0, .ref g20, .ref g21, .ref g22, .ref g23, .ref g24, .ref g25, .ref g26, .ref g27, .ref g28, .ref g29, .ref g30, .int 0]))] []) (va_Qi (fun (r : Int32) (_ : Unit) => r = (-2)) (fun _ _ => True) (va_A [(m0, .inr (12, [.ref g0, .ref g1, .ref g2, .ref g3, .ref g4, .int 0, .int 0, .int 0, .int 0, .ref g9, .int 0, .int 0, .int 0, .int 0, .int (-1), .int 0, .int 0, .ref g17, .ref g18, .int 0, .ref g20, .ref g21, .ref g22, .ref g23, .ref g24, .ref g25, .ref g26, .ref g27, .ref g28, .ref g29, .ref g30, .int 0]))] sz)) 0 0 (va_A [(m0, .inr (12, [.ref g0, .ref g1, .ref g2, .ref g3, .ref g4, .int 0, .int 0, .int 0, .int 0, .ref g9, .int 0, .int 0, .int 0, .int 0, .int (-1), .int 0, .int 0, .ref g17, .ref g18, .int 0, .ref g20, .ref g21, .ref g22, .ref g23, .ref g24, .ref g25, .ref g26, .ref g27, .ref g28, .ref g29, .ref g30, .int 0]))] sz) := by
  refine Met.ofW (cc := cX12_enough) (maxL := 4) (ret := (some .int)) (by decide) rfl ?_
  intro p e s m args below meth c s₁ B hml hv
  obtain ⟨rfl, hsz, hP, hK, hD0⟩ := hv
  have hx := B.exec
  have hb := B.bytes
  have hr := B.returns
  have hT : ∀ w ∈ TB, w.before [.ref m0, .int k0, .int k1, .int k2].toArray s = true := fun w h => atoms_spec (ws := wT yX12_enough cX12_enough 4 (some .int)) B.pre w (List.mem_cons_of_mem _ h)
  have hown : s.vm.findClass RX12 = some m.cls := findClass_of_methodNamed B.named
  have hlocks := B.notSynchronized
  subst hsz
  have hD := hD0.self (sz := s.heap.size)
  generalize hAe : va_A [(m0, .inr (12, [.ref g0, .ref g1, .ref g2, .ref g3, .ref g4, .int 0, .int 0, .int 0, .int 0, .ref g9, .int 0, .int 0, .int 0, .int 0, .int (-1), .int 0, .int 0, .ref g17, .ref g18, .int 0, .ref g20, .ref g21, .ref g22, .ref g23, .ref g24, .ref g25, .ref g26, .ref g27, .ref g28, .ref g29, .ref g30, .int 0]))] s.heap.size = A at hD ⊢
  have hA : ∀ q : Nat, s.heap.size ≤ q → A q := fun q h => by rw [← hAe]; exact Or.inr h
  have hS : va_S A s.heap s.heap [] := va_S.rf
  have hP : va_P (dC, dI) vwCl [(m0, .inr (12, [.ref g0, .ref g1, .ref g2, .ref g3, .ref g4, .int 0, .int 0, .int 0, .int 0, .ref g9, .int 0, .int 0, .int 0, .int 0, .int (-1), .int 0, .int 0, .ref g17, .ref g18, .int 0, .ref g20, .ref g21, .ref g22, .ref g23, .ref g24, .ref g25, .ref g26, .ref g27, .ref g28, .ref g29, .ref g30, .int 0]))] s.heap := hP
  have hl := lv_entry ([.ref m0, .int k0, .int k1, .int k2]) (n := 4) (Nat.le_of_ble_eq_true rfl)
  rw [lg_entry_eq]
  generalize (lg_sl ([.ref m0, .int k0, .int k1, .int k2]) ++ List.replicate (4 - (lg_sl ([.ref m0, .int k0, .int k1, .int k2])).length) Slot.unset).toArray = ls at hl ⊢
  have hl : lv_has ls 4 [(0, .ref m0), (1, .int k0), (2, .int k1), (3, .int k2)] := hl
  refine lv_aload_n hx hb dX12_enough_0 rfl (lv_at hl 0 rfl) ?_
  refine lv_iconst (v := 0) hx hb dX12_enough_1 (by decide) ?_
  refine va_put (D := (dC, dI)) (ci := 12) (v := .int 0) (ty := .int) (C := RX12) (T := TX12) (N := 32) hx hb hT iX12 tyX12 tyX12_ok nmX12 hown hK hP hD hS 0 rfl rfl 8 (by decide) (hT _ w1090) (fun _ h9 => h9) rfl (by decide +kernel) rfl rfl (Nat.le_of_ble_eq_true rfl) dX12_enough_2 (fun H locs hP hD hS => ?_)
  have hP : va_P (dC, dI) vwCl [(m0, .inr (12, [.ref g0, .ref g1, .ref g2, .ref g3, .ref g4, .int 0, .int 0, .int 0, .int 0, .ref g9, .int 0, .int 0, .int 0, .int 0, .int (-1), .int 0, .int 0, .ref g17, .ref g18, .int 0, .ref g20, .ref g21, .ref g22, .ref g23, .ref g24, .ref g25, .ref g26, .ref g27, .ref g28, .ref g29, .ref g30, .int 0]))] H := hP
  have hD : va_D A [(m0, .inr (12, [.ref g0, .ref g1, .ref g2, .ref g3, .ref g4, .int 0, .int 0, .int 0, .int 0, .ref g9, .int 0, .int 0, .int 0, .int 0, .int (-1), .int 0, .int 0, .ref g17, .ref g18, .int 0, .ref g20, .ref g21, .ref g22, .ref g23, .ref g24, .ref g25, .ref g26, .ref g27, .ref g28, .ref g29, .ref g30, .int 0]))] := hD
  refine lv_aload_n hx hb dX12_enough_5 rfl (lv_at hl 0 rfl) ?_
  refine lv_iload_n hx hb dX12_enough_6 rfl (lv_at hl 1 rfl) ?_
  refine lv_iload_n hx hb dX12_enough_7 rfl (lv_at hl 2 rfl) ?_
  have hPc := hP.sub (ws' := [(m0, .inr (12, [.ref g0, .ref g1, .ref g2, .ref g3, .ref g4, .int 0, .int 0, .int 0, .int 0, .ref g9, .int 0, .int 0, .int 0, .int 0, .int (-1), .int 0, .int 0, .ref g17, .ref g18, .int 0, .ref g20, .ref g21, .ref g22, .ref g23, .ref g24, .ref g25, .ref g26, .ref g27, .ref g28, .ref g29, .ref g30, .int 0]))]) [0] rfl
  have hDc := hD.sub (ws' := [(m0, .inr (12, [.ref g0, .ref g1, .ref g2, .ref g3, .ref g4, .int 0, .int 0, .int 0, .int 0, .ref g9, .int 0, .int 0, .int 0, .int 0, .int (-1), .int 0, .int 0, .ref g17, .ref g18, .int 0, .ref g20, .ref g21, .ref g22, .ref g23, .ref g24, .ref g25, .ref g26, .ref g27, .ref g28, .ref g29, .ref g30, .int 0]))]) [0] (by decide) rfl
  have hKc := hK.sub (tys' := []) [] rfl
  refine vp_callSi (va_Run.run (va_runV (As := [.int k0, .int k1]) (rest := []) ⟨hx, hb, hml, hown, hT⟩ (m_areTwo l dC dI m0 g0 g1 g2 g3 g4 g9 g17 g18 g20 g21 g22 g23 g24 g25 g26 g27 g28 g29 g30 H.size k0 k1) (cwV 2 hT (gV w1280 w1282 ws72 w14 w1283) rfl rfl rfl (by decide +kernel) ⟨(Nat.le_of_ble_eq_true rfl), (Nat.le_of_ble_eq_true rfl)⟩) ⟨pcW.blind, va_recv hKc hPc (ci := 12) (q0 := 0) rfl rfl, pcW.pre hPc hKc hDc⟩ rfl rfl hl.1 rfl (lv_room (Nat.le_of_ble_eq_true rfl)) dX12_enough_8 ⟨(Nat.le_of_ble_eq_true rfl), (Nat.le_of_ble_eq_true rfl)⟩)) (fun r_8 hr_8 => ?_)
  obtain rfl : r_8 = 0 := hr_8
  refine lv_if_eq (tgt := 22) hx hb dX12_enough_11 (by decide) (fun _ => ?_) (fun h => absurd (by decide) h)
  refine lv_bipush (v := (-2)) hx hb dX12_enough_22 (by decide) ?_
  refine W.widen (k := 0) (n := 0) (Nat.le_of_ble_eq_true rfl) (Nat.le_of_ble_eq_true rfl) ?_
  exact W.iret (v := (-2)) hx hb hr (fun t ht hW => ⟨⟨(-2), (), rfl, rfl, trivial⟩, hS.F ht⟩) hS.2.2 dX12_enough_24

set_option maxHeartbeats 4000000 in
set_option maxRecDepth 100000 in
theorem m_net (l : Launch) (dC : Nat → ClassId) (dI : Nat → Nat → Nat) (m0 : Nat) (g0 : Nat) (g1 : Nat) (g2 : Nat) (g3 : Nat) (g4 : Nat) (g9 : Nat) (g17 : Nat) (g18 : Nat) (g20 : Nat) (g21 : Nat) (g22 : Nat) (g23 : Nat) (g24 : Nat) (g25 : Nat) (g26 : Nat) (g27 : Nat) (g28 : Nat) (g29 : Nat) (g30 : Nat) (sz : Nat) (k0 : Int32) (k1 : Int32) (k2 : Int32) : Met l yX12_net (wT yX12_net cX12_net 4 (some .int)) ({ frames := 2, cells := 0, slots := 0, locals := 46 }) (pcW dC dI [.ref m0, .int k0, .int k1, .int k2] sz [(m0, .inr (12, [.ref g0, .ref g1, .ref g2, .ref g3, .ref g4, .int 0, .int 0, .int 0, .int 0, .ref g9, .int 0, .int 0, .int 0, .int 0, .int (-1), .int 0, .int 0, .ref g17, .ref g18, .int 0, .ref g20, .ref g21, .ref g22, .ref g23, .ref g24, .ref g25, .ref g26, .ref g27, .ref g28, .ref g29, .ref g30, .int 0]))] []) (va_Qi (fun (r : Int32) (_ : Unit) => r = (-2)) (fun _ _ => True) (va_A [(m0, .inr (12, [.ref g0, .ref g1, .ref g2, .ref g3, .ref g4, .int 0, .int 0, .int 0, .int 0, .ref g9, .int 0, .int 0, .int 0, .int 0, .int (-1), .int 0, .int 0, .ref g17, .ref g18, .int 0, .ref g20, .ref g21, .ref g22, .ref g23, .ref g24, .ref g25, .ref g26, .ref g27, .ref g28, .ref g29, .ref g30, .int 0]))] sz)) 0 0 (va_A [(m0, .inr (12, [.ref g0, .ref g1, .ref g2, .ref g3, .ref g4, .int 0, .int 0, .int 0, .int 0, .ref g9, .int 0, .int 0, .int 0, .int 0, .int (-1), .int 0, .int 0, .ref g17, .ref g18, .int 0, .ref g20, .ref g21, .ref g22, .ref g23, .ref g24, .ref g25, .ref g26, .ref g27, .ref g28, .ref g29, .ref g30, .int 0]))] sz) := by
  refine Met.ofW (cc := cX12_net) (maxL := 4) (ret := (some .int)) (by decide) rfl ?_
  intro p e s m args below meth c s₁ B hml hv
  obtain ⟨rfl, hsz, hP, hK, hD0⟩ := hv
  have hx := B.exec
  have hb := B.bytes
  have hr := B.returns
  have hT : ∀ w ∈ TB, w.before [.ref m0, .int k0, .int k1, .int k2].toArray s = true := fun w h => atoms_spec (ws := wT yX12_net cX12_net 4 (some .int)) B.pre w (List.mem_cons_of_mem _ h)
  have hown : s.vm.findClass RX12 = some m.cls := findClass_of_methodNamed B.named
  have hlocks := B.notSynchronized
  subst hsz
  have hD := hD0.self (sz := s.heap.size)
  generalize hAe : va_A [(m0, .inr (12, [.ref g0, .ref g1, .ref g2, .ref g3, .ref g4, .int 0, .int 0, .int 0, .int 0, .ref g9, .int 0, .int 0, .int 0, .int 0, .int (-1), .int 0, .int 0, .ref g17, .ref g18, .int 0, .ref g20, .ref g21, .ref g22, .ref g23, .ref g24, .ref g25, .ref g26, .ref g27, .ref g28, .ref g29, .ref g30, .int 0]))] s.heap.size = A at hD ⊢
  have hA : ∀ q : Nat, s.heap.size ≤ q → A q := fun q h => by rw [← hAe]; exact Or.inr h
  have hS : va_S A s.heap s.heap [] := va_S.rf
  have hP : va_P (dC, dI) vwCl [(m0, .inr (12, [.ref g0, .ref g1, .ref g2, .ref g3, .ref g4, .int 0, .int 0, .int 0, .int 0, .ref g9, .int 0, .int 0, .int 0, .int 0, .int (-1), .int 0, .int 0, .ref g17, .ref g18, .int 0, .ref g20, .ref g21, .ref g22, .ref g23, .ref g24, .ref g25, .ref g26, .ref g27, .ref g28, .ref g29, .ref g30, .int 0]))] s.heap := hP
  have hl := lv_entry ([.ref m0, .int k0, .int k1, .int k2]) (n := 4) (Nat.le_of_ble_eq_true rfl)
  rw [lg_entry_eq]
  generalize (lg_sl ([.ref m0, .int k0, .int k1, .int k2]) ++ List.replicate (4 - (lg_sl ([.ref m0, .int k0, .int k1, .int k2])).length) Slot.unset).toArray = ls at hl ⊢
  have hl : lv_has ls 4 [(0, .ref m0), (1, .int k0), (2, .int k1), (3, .int k2)] := hl
  refine lv_aload_n hx hb dX12_net_0 rfl (lv_at hl 0 rfl) ?_
  refine lv_iconst (v := 0) hx hb dX12_net_1 (by decide) ?_
  refine va_put (D := (dC, dI)) (ci := 12) (v := .int 0) (ty := .int) (C := RX12) (T := TX12) (N := 32) hx hb hT iX12 tyX12 tyX12_ok nmX12 hown hK hP hD hS 0 rfl rfl 8 (by decide) (hT _ w1090) (fun _ h9 => h9) rfl (by decide +kernel) rfl rfl (Nat.le_of_ble_eq_true rfl) dX12_net_2 (fun H locs hP hD hS => ?_)
  have hP : va_P (dC, dI) vwCl [(m0, .inr (12, [.ref g0, .ref g1, .ref g2, .ref g3, .ref g4, .int 0, .int 0, .int 0, .int 0, .ref g9, .int 0, .int 0, .int 0, .int 0, .int (-1), .int 0, .int 0, .ref g17, .ref g18, .int 0, .ref g20, .ref g21, .ref g22, .ref g23, .ref g24, .ref g25, .ref g26, .ref g27, .ref g28, .ref g29, .ref g30, .int 0]))] H := hP
  have hD : va_D A [(m0, .inr (12, [.ref g0, .ref g1, .ref g2, .ref g3, .ref g4, .int 0, .int 0, .int 0, .int 0, .ref g9, .int 0, .int 0, .int 0, .int 0, .int (-1), .int 0, .int 0, .ref g17, .ref g18, .int 0, .ref g20, .ref g21, .ref g22, .ref g23, .ref g24, .ref g25, .ref g26, .ref g27, .ref g28, .ref g29, .ref g30, .int 0]))] := hD
  refine lv_aload_n hx hb dX12_net_5 rfl (lv_at hl 0 rfl) ?_
  refine lv_iload_n hx hb dX12_net_6 rfl (lv_at hl 1 rfl) ?_
  have hPc := hP.sub (ws' := [(m0, .inr (12, [.ref g0, .ref g1, .ref g2, .ref g3, .ref g4, .int 0, .int 0, .int 0, .int 0, .ref g9, .int 0, .int 0, .int 0, .int 0, .int (-1), .int 0, .int 0, .ref g17, .ref g18, .int 0, .ref g20, .ref g21, .ref g22, .ref g23, .ref g24, .ref g25, .ref g26, .ref g27, .ref g28, .ref g29, .ref g30, .int 0]))]) [0] rfl
  have hDc := hD.sub (ws' := [(m0, .inr (12, [.ref g0, .ref g1, .ref g2, .ref g3, .ref g4, .int 0, .int 0, .int 0, .int 0, .ref g9, .int 0, .int 0, .int 0, .int 0, .int (-1), .int 0, .int 0, .ref g17, .ref g18, .int 0, .ref g20, .ref g21, .ref g22, .ref g23, .ref g24, .ref g25, .ref g26, .ref g27, .ref g28, .ref g29, .ref g30, .int 0]))]) [0] (by decide) rfl
  have hKc := hK.sub (tys' := []) [] rfl
  refine vp_callSi (va_Run.run (va_runV (As := [.int k0]) (rest := []) ⟨hx, hb, hml, hown, hT⟩ (m_isParty l dC dI m0 g0 g1 g2 g3 g4 g9 g17 g18 g20 g21 g22 g23 g24 g25 g26 g27 g28 g29 g30 H.size k0) (cwV 1 hT (gV w1284 w1286 ws73 w14 w1287) rfl rfl rfl (by decide +kernel) ⟨(Nat.le_of_ble_eq_true rfl), (Nat.le_of_ble_eq_true rfl)⟩) ⟨pcW.blind, va_recv hKc hPc (ci := 12) (q0 := 0) rfl rfl, pcW.pre hPc hKc hDc⟩ rfl rfl hl.1 rfl (lv_room (Nat.le_of_ble_eq_true rfl)) dX12_net_7 ⟨(Nat.le_of_ble_eq_true rfl), (Nat.le_of_ble_eq_true rfl)⟩)) (fun r_7 hr_7 => ?_)
  obtain rfl : r_7 = 0 := hr_7
  refine lv_if_eq (tgt := 21) hx hb dX12_net_10 (by decide) (fun _ => ?_) (fun h => absurd (by decide) h)
  refine lv_bipush (v := (-2)) hx hb dX12_net_21 (by decide) ?_
  refine W.widen (k := 0) (n := 0) (Nat.le_of_ble_eq_true rfl) (Nat.le_of_ble_eq_true rfl) ?_
  exact W.iret (v := (-2)) hx hb hr (fun t ht hW => ⟨⟨(-2), (), rfl, rfl, trivial⟩, hS.F ht⟩) hS.2.2 dX12_net_23

set_option maxHeartbeats 4000000 in
set_option maxRecDepth 100000 in
theorem m_side (l : Launch) (dC : Nat → ClassId) (dI : Nat → Nat → Nat) (m0 : Nat) (g0 : Nat) (g1 : Nat) (g2 : Nat) (g3 : Nat) (g4 : Nat) (g9 : Nat) (g17 : Nat) (g18 : Nat) (g20 : Nat) (g21 : Nat) (g22 : Nat) (g23 : Nat) (g24 : Nat) (g25 : Nat) (g26 : Nat) (g27 : Nat) (g28 : Nat) (g29 : Nat) (g30 : Nat) (sz : Nat) (k0 : Int32) (k1 : Int32) (k2 : Int32) : Met l yX12_side (wT yX12_side cX12_side 6 (some .int)) ({ frames := 2, cells := 0, slots := 0, locals := 46 }) (pcW dC dI [.ref m0, .int k0, .int k1, .int k2] sz [(m0, .inr (12, [.ref g0, .ref g1, .ref g2, .ref g3, .ref g4, .int 0, .int 0, .int 0, .int 0, .ref g9, .int 0, .int 0, .int 0, .int 0, .int (-1), .int 0, .int 0, .ref g17, .ref g18, .int 0, .ref g20, .ref g21, .ref g22, .ref g23, .ref g24, .ref g25, .ref g26, .ref g27, .ref g28, .ref g29, .ref g30, .int 0]))] []) (va_Qi (fun (r : Int32) (_ : Unit) => r = (-2)) (fun _ _ => True) (va_A [(m0, .inr (12, [.ref g0, .ref g1, .ref g2, .ref g3, .ref g4, .int 0, .int 0, .int 0, .int 0, .ref g9, .int 0, .int 0, .int 0, .int 0, .int (-1), .int 0, .int 0, .ref g17, .ref g18, .int 0, .ref g20, .ref g21, .ref g22, .ref g23, .ref g24, .ref g25, .ref g26, .ref g27, .ref g28, .ref g29, .ref g30, .int 0]))] sz)) 0 0 (va_A [(m0, .inr (12, [.ref g0, .ref g1, .ref g2, .ref g3, .ref g4, .int 0, .int 0, .int 0, .int 0, .ref g9, .int 0, .int 0, .int 0, .int 0, .int (-1), .int 0, .int 0, .ref g17, .ref g18, .int 0, .ref g20, .ref g21, .ref g22, .ref g23, .ref g24, .ref g25, .ref g26, .ref g27, .ref g28, .ref g29, .ref g30, .int 0]))] sz) := by
  refine Met.ofW (cc := cX12_side) (maxL := 6) (ret := (some .int)) (by decide) rfl ?_
  intro p e s m args below meth c s₁ B hml hv
  obtain ⟨rfl, hsz, hP, hK, hD0⟩ := hv
  have hx := B.exec
  have hb := B.bytes
  have hr := B.returns
  have hT : ∀ w ∈ TB, w.before [.ref m0, .int k0, .int k1, .int k2].toArray s = true := fun w h => atoms_spec (ws := wT yX12_side cX12_side 6 (some .int)) B.pre w (List.mem_cons_of_mem _ h)
  have hown : s.vm.findClass RX12 = some m.cls := findClass_of_methodNamed B.named
  have hlocks := B.notSynchronized
  subst hsz
  have hD := hD0.self (sz := s.heap.size)
  generalize hAe : va_A [(m0, .inr (12, [.ref g0, .ref g1, .ref g2, .ref g3, .ref g4, .int 0, .int 0, .int 0, .int 0, .ref g9, .int 0, .int 0, .int 0, .int 0, .int (-1), .int 0, .int 0, .ref g17, .ref g18, .int 0, .ref g20, .ref g21, .ref g22, .ref g23, .ref g24, .ref g25, .ref g26, .ref g27, .ref g28, .ref g29, .ref g30, .int 0]))] s.heap.size = A at hD ⊢
  have hA : ∀ q : Nat, s.heap.size ≤ q → A q := fun q h => by rw [← hAe]; exact Or.inr h
  have hS : va_S A s.heap s.heap [] := va_S.rf
  have hP : va_P (dC, dI) vwCl [(m0, .inr (12, [.ref g0, .ref g1, .ref g2, .ref g3, .ref g4, .int 0, .int 0, .int 0, .int 0, .ref g9, .int 0, .int 0, .int 0, .int 0, .int (-1), .int 0, .int 0, .ref g17, .ref g18, .int 0, .ref g20, .ref g21, .ref g22, .ref g23, .ref g24, .ref g25, .ref g26, .ref g27, .ref g28, .ref g29, .ref g30, .int 0]))] s.heap := hP
  have hl := lv_entry ([.ref m0, .int k0, .int k1, .int k2]) (n := 6) (Nat.le_of_ble_eq_true rfl)
  rw [lg_entry_eq]
  generalize (lg_sl ([.ref m0, .int k0, .int k1, .int k2]) ++ List.replicate (6 - (lg_sl ([.ref m0, .int k0, .int k1, .int k2])).length) Slot.unset).toArray = ls at hl ⊢
  have hl : lv_has ls 6 [(0, .ref m0), (1, .int k0), (2, .int k1), (3, .int k2)] := hl
  refine lv_aload_n hx hb dX12_side_0 rfl (lv_at hl 0 rfl) ?_
  refine lv_iconst (v := 0) hx hb dX12_side_1 (by decide) ?_
  refine va_put (D := (dC, dI)) (ci := 12) (v := .int 0) (ty := .int) (C := RX12) (T := TX12) (N := 32) hx hb hT iX12 tyX12 tyX12_ok nmX12 hown hK hP hD hS 0 rfl rfl 8 (by decide) (hT _ w1090) (fun _ h9 => h9) rfl (by decide +kernel) rfl rfl (Nat.le_of_ble_eq_true rfl) dX12_side_2 (fun H locs hP hD hS => ?_)
  have hP : va_P (dC, dI) vwCl [(m0, .inr (12, [.ref g0, .ref g1, .ref g2, .ref g3, .ref g4, .int 0, .int 0, .int 0, .int 0, .ref g9, .int 0, .int 0, .int 0, .int 0, .int (-1), .int 0, .int 0, .ref g17, .ref g18, .int 0, .ref g20, .ref g21, .ref g22, .ref g23, .ref g24, .ref g25, .ref g26, .ref g27, .ref g28, .ref g29, .ref g30, .int 0]))] H := hP
  have hD : va_D A [(m0, .inr (12, [.ref g0, .ref g1, .ref g2, .ref g3, .ref g4, .int 0, .int 0, .int 0, .int 0, .ref g9, .int 0, .int 0, .int 0, .int 0, .int (-1), .int 0, .int 0, .ref g17, .ref g18, .int 0, .ref g20, .ref g21, .ref g22, .ref g23, .ref g24, .ref g25, .ref g26, .ref g27, .ref g28, .ref g29, .ref g30, .int 0]))] := hD
  refine lv_aload_n hx hb dX12_side_5 rfl (lv_at hl 0 rfl) ?_
  refine lv_iload_n hx hb dX12_side_6 rfl (lv_at hl 1 rfl) ?_
  have hPc := hP.sub (ws' := [(m0, .inr (12, [.ref g0, .ref g1, .ref g2, .ref g3, .ref g4, .int 0, .int 0, .int 0, .int 0, .ref g9, .int 0, .int 0, .int 0, .int 0, .int (-1), .int 0, .int 0, .ref g17, .ref g18, .int 0, .ref g20, .ref g21, .ref g22, .ref g23, .ref g24, .ref g25, .ref g26, .ref g27, .ref g28, .ref g29, .ref g30, .int 0]))]) [0] rfl
  have hDc := hD.sub (ws' := [(m0, .inr (12, [.ref g0, .ref g1, .ref g2, .ref g3, .ref g4, .int 0, .int 0, .int 0, .int 0, .ref g9, .int 0, .int 0, .int 0, .int 0, .int (-1), .int 0, .int 0, .ref g17, .ref g18, .int 0, .ref g20, .ref g21, .ref g22, .ref g23, .ref g24, .ref g25, .ref g26, .ref g27, .ref g28, .ref g29, .ref g30, .int 0]))]) [0] (by decide) rfl
  have hKc := hK.sub (tys' := []) [] rfl
  refine vp_callSi (va_Run.run (va_runV (As := [.int k0]) (rest := []) ⟨hx, hb, hml, hown, hT⟩ (m_isParty l dC dI m0 g0 g1 g2 g3 g4 g9 g17 g18 g20 g21 g22 g23 g24 g25 g26 g27 g28 g29 g30 H.size k0) (cwV 1 hT (gV w1284 w1286 ws73 w14 w1287) rfl rfl rfl (by decide +kernel) ⟨(Nat.le_of_ble_eq_true rfl), (Nat.le_of_ble_eq_true rfl)⟩) ⟨pcW.blind, va_recv hKc hPc (ci := 12) (q0 := 0) rfl rfl, pcW.pre hPc hKc hDc⟩ rfl rfl hl.1 rfl (lv_room (Nat.le_of_ble_eq_true rfl)) dX12_side_7 ⟨(Nat.le_of_ble_eq_true rfl), (Nat.le_of_ble_eq_true rfl)⟩)) (fun r_7 hr_7 => ?_)
  obtain rfl : r_7 = 0 := hr_7
  refine lv_if_eq (tgt := 33) hx hb dX12_side_10 (by decide) (fun _ => ?_) (fun h => absurd (by decide) h)
  refine lv_bipush (v := (-2)) hx hb dX12_side_33 (by decide) ?_
  refine W.widen (k := 0) (n := 0) (Nat.le_of_ble_eq_true rfl) (Nat.le_of_ble_eq_true rfl) ?_
  exact W.iret (v := (-2)) hx hb hr (fun t ht hW => ⟨⟨(-2), (), rfl, rfl, trivial⟩, hS.F ht⟩) hS.2.2 dX12_side_35

set_option maxHeartbeats 4000000 in
set_option maxRecDepth 100000 in
theorem m_without (l : Launch) (dC : Nat → ClassId) (dI : Nat → Nat → Nat) (m0 : Nat) (g0 : Nat) (g1 : Nat) (g2 : Nat) (g3 : Nat) (g4 : Nat) (g9 : Nat) (g17 : Nat) (g18 : Nat) (g20 : Nat) (g21 : Nat) (g22 : Nat) (g23 : Nat) (g24 : Nat) (g25 : Nat) (g26 : Nat) (g27 : Nat) (g28 : Nat) (g29 : Nat) (g30 : Nat) (sz : Nat) (k0 : Int32) (k1 : Int32) : Met l yX12_without (wT yX12_without cX12_without 5 (some .int)) ({ frames := 2, cells := 0, slots := 0, locals := 46 }) (pcW dC dI [.ref m0, .int k0, .int k1] sz [(m0, .inr (12, [.ref g0, .ref g1, .ref g2, .ref g3, .ref g4, .int 0, .int 0, .int 0, .int 0, .ref g9, .int 0, .int 0, .int 0, .int 0, .int (-1), .int 0, .int 0, .ref g17, .ref g18, .int 0, .ref g20, .ref g21, .ref g22, .ref g23, .ref g24, .ref g25, .ref g26, .ref g27, .ref g28, .ref g29, .ref g30, .int 0]))] []) (va_Qi (fun (r : Int32) (_ : Unit) => r = (-2)) (fun _ _ => True) (va_A [(m0, .inr (12, [.ref g0, .ref g1, .ref g2, .ref g3, .ref g4, .int 0, .int 0, .int 0, .int 0, .ref g9, .int 0, .int 0, .int 0, .int 0, .int (-1), .int 0, .int 0, .ref g17, .ref g18, .int 0, .ref g20, .ref g21, .ref g22, .ref g23, .ref g24, .ref g25, .ref g26, .ref g27, .ref g28, .ref g29, .ref g30, .int 0]))] sz)) 0 0 (va_A [(m0, .inr (12, [.ref g0, .ref g1, .ref g2, .ref g3, .ref g4, .int 0, .int 0, .int 0, .int 0, .ref g9, .int 0, .int 0, .int 0, .int 0, .int (-1), .int 0, .int 0, .ref g17, .ref g18, .int 0, .ref g20, .ref g21, .ref g22, .ref g23, .ref g24, .ref g25, .ref g26, .ref g27, .ref g28, .ref g29, .ref g30, .int 0]))] sz) := by
  refine Met.ofW (cc := cX12_without) (maxL := 5) (ret := (some .int)) (by decide) rfl ?_
  intro p e s m args below meth c s₁ B hml hv
  obtain ⟨rfl, hsz, hP, hK, hD0⟩ := hv
  have hx := B.exec
  have hb := B.bytes
  have hr := B.returns
  have hT : ∀ w ∈ TB, w.before [.ref m0, .int k0, .int k1].toArray s = true := fun w h => atoms_spec (ws := wT yX12_without cX12_without 5 (some .int)) B.pre w (List.mem_cons_of_mem _ h)
  have hown : s.vm.findClass RX12 = some m.cls := findClass_of_methodNamed B.named
  have hlocks := B.notSynchronized
  subst hsz
  have hD := hD0.self (sz := s.heap.size)
  generalize hAe : va_A [(m0, .inr (12, [.ref g0, .ref g1, .ref g2, .ref g3, .ref g4, .int 0, .int 0, .int 0, .int 0, .ref g9, .int 0, .int 0, .int 0, .int 0, .int (-1), .int 0, .int 0, .ref g17, .ref g18, .int 0, .ref g20, .ref g21, .ref g22, .ref g23, .ref g24, .ref g25, .ref g26, .ref g27, .ref g28, .ref g29, .ref g30, .int 0]))] s.heap.size = A at hD ⊢
  have hA : ∀ q : Nat, s.heap.size ≤ q → A q := fun q h => by rw [← hAe]; exact Or.inr h
  have hS : va_S A s.heap s.heap [] := va_S.rf
  have hP : va_P (dC, dI) vwCl [(m0, .inr (12, [.ref g0, .ref g1, .ref g2, .ref g3, .ref g4, .int 0, .int 0, .int 0, .int 0, .ref g9, .int 0, .int 0, .int 0, .int 0, .int (-1), .int 0, .int 0, .ref g17, .ref g18, .int 0, .ref g20, .ref g21, .ref g22, .ref g23, .ref g24, .ref g25, .ref g26, .ref g27, .ref g28, .ref g29, .ref g30, .int 0]))] s.heap := hP
  have hl := lv_entry ([.ref m0, .int k0, .int k1]) (n := 5) (Nat.le_of_ble_eq_true rfl)
  rw [lg_entry_eq]
  generalize (lg_sl ([.ref m0, .int k0, .int k1]) ++ List.replicate (5 - (lg_sl ([.ref m0, .int k0, .int k1])).length) Slot.unset).toArray = ls at hl ⊢
  have hl : lv_has ls 5 [(0, .ref m0), (1, .int k0), (2, .int k1)] := hl
  refine lv_aload_n hx hb dX12_without_0 rfl (lv_at hl 0 rfl) ?_
  refine lv_iconst (v := 0) hx hb dX12_without_1 (by decide) ?_
  refine va_put (D := (dC, dI)) (ci := 12) (v := .int 0) (ty := .int) (C := RX12) (T := TX12) (N := 32) hx hb hT iX12 tyX12 tyX12_ok nmX12 hown hK hP hD hS 0 rfl rfl 8 (by decide) (hT _ w1090) (fun _ h9 => h9) rfl (by decide +kernel) rfl rfl (Nat.le_of_ble_eq_true rfl) dX12_without_2 (fun H locs hP hD hS => ?_)
  have hP : va_P (dC, dI) vwCl [(m0, .inr (12, [.ref g0, .ref g1, .ref g2, .ref g3, .ref g4, .int 0, .int 0, .int 0, .int 0, .ref g9, .int 0, .int 0, .int 0, .int 0, .int (-1), .int 0, .int 0, .ref g17, .ref g18, .int 0, .ref g20, .ref g21, .ref g22, .ref g23, .ref g24, .ref g25, .ref g26, .ref g27, .ref g28, .ref g29, .ref g30, .int 0]))] H := hP
  have hD : va_D A [(m0, .inr (12, [.ref g0, .ref g1, .ref g2, .ref g3, .ref g4, .int 0, .int 0, .int 0, .int 0, .ref g9, .int 0, .int 0, .int 0, .int 0, .int (-1), .int 0, .int 0, .ref g17, .ref g18, .int 0, .ref g20, .ref g21, .ref g22, .ref g23, .ref g24, .ref g25, .ref g26, .ref g27, .ref g28, .ref g29, .ref g30, .int 0]))] := hD
  refine lv_aload_n hx hb dX12_without_5 rfl (lv_at hl 0 rfl) ?_
  refine lv_iload_n hx hb dX12_without_6 rfl (lv_at hl 1 rfl) ?_
  have hPc := hP.sub (ws' := [(m0, .inr (12, [.ref g0, .ref g1, .ref g2, .ref g3, .ref g4, .int 0, .int 0, .int 0, .int 0, .ref g9, .int 0, .int 0, .int 0, .int 0, .int (-1), .int 0, .int 0, .ref g17, .ref g18, .int 0, .ref g20, .ref g21, .ref g22, .ref g23, .ref g24, .ref g25, .ref g26, .ref g27, .ref g28, .ref g29, .ref g30, .int 0]))]) [0] rfl
  have hDc := hD.sub (ws' := [(m0, .inr (12, [.ref g0, .ref g1, .ref g2, .ref g3, .ref g4, .int 0, .int 0, .int 0, .int 0, .ref g9, .int 0, .int 0, .int 0, .int 0, .int (-1), .int 0, .int 0, .ref g17, .ref g18, .int 0, .ref g20, .ref g21, .ref g22, .ref g23, .ref g24, .ref g25, .ref g26, .ref g27, .ref g28, .ref g29, .ref g30, .int 0]))]) [0] (by decide) rfl
  have hKc := hK.sub (tys' := []) [] rfl
  refine vp_callSi (va_Run.run (va_runV (As := [.int k0]) (rest := []) ⟨hx, hb, hml, hown, hT⟩ (m_isParty l dC dI m0 g0 g1 g2 g3 g4 g9 g17 g18 g20 g21 g22 g23 g24 g25 g26 g27 g28 g29 g30 H.size k0) (cwV 1 hT (gV w1284 w1286 ws73 w14 w1287) rfl rfl rfl (by decide +kernel) ⟨(Nat.le_of_ble_eq_true rfl), (Nat.le_of_ble_eq_true rfl)⟩) ⟨pcW.blind, va_recv hKc hPc (ci := 12) (q0 := 0) rfl rfl, pcW.pre hPc hKc hDc⟩ rfl rfl hl.1 rfl (lv_room (Nat.le_of_ble_eq_true rfl)) dX12_without_7 ⟨(Nat.le_of_ble_eq_true rfl), (Nat.le_of_ble_eq_true rfl)⟩)) (fun r_7 hr_7 => ?_)
  obtain rfl : r_7 = 0 := hr_7
  refine lv_if_eq (tgt := 21) hx hb dX12_without_10 (by decide) (fun _ => ?_) (fun h => absurd (by decide) h)
  refine lv_bipush (v := (-2)) hx hb dX12_without_21 (by decide) ?_
  refine W.widen (k := 0) (n := 0) (Nat.le_of_ble_eq_true rfl) (Nat.le_of_ble_eq_true rfl) ?_
  exact W.iret (v := (-2)) hx hb hr (fun t ht hW => ⟨⟨(-2), (), rfl, rfl, trivial⟩, hS.F ht⟩) hS.2.2 dX12_without_23

set_option maxHeartbeats 4000000 in
set_option maxRecDepth 100000 in
theorem m_relief (l : Launch) (dC : Nat → ClassId) (dI : Nat → Nat → Nat) (m0 : Nat) (g0 : Nat) (g1 : Nat) (g2 : Nat) (g3 : Nat) (g4 : Nat) (g9 : Nat) (g17 : Nat) (g18 : Nat) (g20 : Nat) (g21 : Nat) (g22 : Nat) (g23 : Nat) (g24 : Nat) (g25 : Nat) (g26 : Nat) (g27 : Nat) (g28 : Nat) (g29 : Nat) (g30 : Nat) (sz : Nat) (k0 : Int32) (k1 : Int32) : Met l yX12_relief (wT yX12_relief cX12_relief 3 (some .int)) ({ frames := 2, cells := 0, slots := 0, locals := 46 }) (pcW dC dI [.ref m0, .int k0, .int k1] sz [(m0, .inr (12, [.ref g0, .ref g1, .ref g2, .ref g3, .ref g4, .int 0, .int 0, .int 0, .int 0, .ref g9, .int 0, .int 0, .int 0, .int 0, .int (-1), .int 0, .int 0, .ref g17, .ref g18, .int 0, .ref g20, .ref g21, .ref g22, .ref g23, .ref g24, .ref g25, .ref g26, .ref g27, .ref g28, .ref g29, .ref g30, .int 0]))] []) (va_Qi (fun (r : Int32) (_ : Unit) => r = (-2)) (fun _ _ => True) (va_A [(m0, .inr (12, [.ref g0, .ref g1, .ref g2, .ref g3, .ref g4, .int 0, .int 0, .int 0, .int 0, .ref g9, .int 0, .int 0, .int 0, .int 0, .int (-1), .int 0, .int 0, .ref g17, .ref g18, .int 0, .ref g20, .ref g21, .ref g22, .ref g23, .ref g24, .ref g25, .ref g26, .ref g27, .ref g28, .ref g29, .ref g30, .int 0]))] sz)) 0 0 (va_A [(m0, .inr (12, [.ref g0, .ref g1, .ref g2, .ref g3, .ref g4, .int 0, .int 0, .int 0, .int 0, .ref g9, .int 0, .int 0, .int 0, .int 0, .int (-1), .int 0, .int 0, .ref g17, .ref g18, .int 0, .ref g20, .ref g21, .ref g22, .ref g23, .ref g24, .ref g25, .ref g26, .ref g27, .ref g28, .ref g29, .ref g30, .int 0]))] sz) := by
  refine Met.ofW (cc := cX12_relief) (maxL := 3) (ret := (some .int)) (by decide) rfl ?_
  intro p e s m args below meth c s₁ B hml hv
  obtain ⟨rfl, hsz, hP, hK, hD0⟩ := hv
  have hx := B.exec
  have hb := B.bytes
  have hr := B.returns
  have hT : ∀ w ∈ TB, w.before [.ref m0, .int k0, .int k1].toArray s = true := fun w h => atoms_spec (ws := wT yX12_relief cX12_relief 3 (some .int)) B.pre w (List.mem_cons_of_mem _ h)
  have hown : s.vm.findClass RX12 = some m.cls := findClass_of_methodNamed B.named
  have hlocks := B.notSynchronized
  subst hsz
  have hD := hD0.self (sz := s.heap.size)
  generalize hAe : va_A [(m0, .inr (12, [.ref g0, .ref g1, .ref g2, .ref g3, .ref g4, .int 0, .int 0, .int 0, .int 0, .ref g9, .int 0, .int 0, .int 0, .int 0, .int (-1), .int 0, .int 0, .ref g17, .ref g18, .int 0, .ref g20, .ref g21, .ref g22, .ref g23, .ref g24, .ref g25, .ref g26, .ref g27, .ref g28, .ref g29, .ref g30, .int 0]))] s.heap.size = A at hD ⊢
  have hA : ∀ q : Nat, s.heap.size ≤ q → A q := fun q h => by rw [← hAe]; exact Or.inr h
  have hS : va_S A s.heap s.heap [] := va_S.rf
  have hP : va_P (dC, dI) vwCl [(m0, .inr (12, [.ref g0, .ref g1, .ref g2, .ref g3, .ref g4, .int 0, .int 0, .int 0, .int 0, .ref g9, .int 0, .int 0, .int 0, .int 0, .int (-1), .int 0, .int 0, .ref g17, .ref g18, .int 0, .ref g20, .ref g21, .ref g22, .ref g23, .ref g24, .ref g25, .ref g26, .ref g27, .ref g28, .ref g29, .ref g30, .int 0]))] s.heap := hP
  have hl := lv_entry ([.ref m0, .int k0, .int k1]) (n := 3) (Nat.le_of_ble_eq_true rfl)
  rw [lg_entry_eq]
  generalize (lg_sl ([.ref m0, .int k0, .int k1]) ++ List.replicate (3 - (lg_sl ([.ref m0, .int k0, .int k1])).length) Slot.unset).toArray = ls at hl ⊢
  have hl : lv_has ls 3 [(0, .ref m0), (1, .int k0), (2, .int k1)] := hl
  refine lv_aload_n hx hb dX12_relief_0 rfl (lv_at hl 0 rfl) ?_
  refine lv_iconst (v := 0) hx hb dX12_relief_1 (by decide) ?_
  refine va_put (D := (dC, dI)) (ci := 12) (v := .int 0) (ty := .int) (C := RX12) (T := TX12) (N := 32) hx hb hT iX12 tyX12 tyX12_ok nmX12 hown hK hP hD hS 0 rfl rfl 8 (by decide) (hT _ w1090) (fun _ h9 => h9) rfl (by decide +kernel) rfl rfl (Nat.le_of_ble_eq_true rfl) dX12_relief_2 (fun H locs hP hD hS => ?_)
  have hP : va_P (dC, dI) vwCl [(m0, .inr (12, [.ref g0, .ref g1, .ref g2, .ref g3, .ref g4, .int 0, .int 0, .int 0, .int 0, .ref g9, .int 0, .int 0, .int 0, .int 0, .int (-1), .int 0, .int 0, .ref g17, .ref g18, .int 0, .ref g20, .ref g21, .ref g22, .ref g23, .ref g24, .ref g25, .ref g26, .ref g27, .ref g28, .ref g29, .ref g30, .int 0]))] H := hP
  have hD : va_D A [(m0, .inr (12, [.ref g0, .ref g1, .ref g2, .ref g3, .ref g4, .int 0, .int 0, .int 0, .int 0, .ref g9, .int 0, .int 0, .int 0, .int 0, .int (-1), .int 0, .int 0, .ref g17, .ref g18, .int 0, .ref g20, .ref g21, .ref g22, .ref g23, .ref g24, .ref g25, .ref g26, .ref g27, .ref g28, .ref g29, .ref g30, .int 0]))] := hD
  refine lv_aload_n hx hb dX12_relief_5 rfl (lv_at hl 0 rfl) ?_
  refine lv_iload_n hx hb dX12_relief_6 rfl (lv_at hl 1 rfl) ?_
  have hPc := hP.sub (ws' := [(m0, .inr (12, [.ref g0, .ref g1, .ref g2, .ref g3, .ref g4, .int 0, .int 0, .int 0, .int 0, .ref g9, .int 0, .int 0, .int 0, .int 0, .int (-1), .int 0, .int 0, .ref g17, .ref g18, .int 0, .ref g20, .ref g21, .ref g22, .ref g23, .ref g24, .ref g25, .ref g26, .ref g27, .ref g28, .ref g29, .ref g30, .int 0]))]) [0] rfl
  have hDc := hD.sub (ws' := [(m0, .inr (12, [.ref g0, .ref g1, .ref g2, .ref g3, .ref g4, .int 0, .int 0, .int 0, .int 0, .ref g9, .int 0, .int 0, .int 0, .int 0, .int (-1), .int 0, .int 0, .ref g17, .ref g18, .int 0, .ref g20, .ref g21, .ref g22, .ref g23, .ref g24, .ref g25, .ref g26, .ref g27, .ref g28, .ref g29, .ref g30, .int 0]))]) [0] (by decide) rfl
  have hKc := hK.sub (tys' := []) [] rfl
  refine vp_callSi (va_Run.run (va_runV (As := [.int k0]) (rest := []) ⟨hx, hb, hml, hown, hT⟩ (m_isParty l dC dI m0 g0 g1 g2 g3 g4 g9 g17 g18 g20 g21 g22 g23 g24 g25 g26 g27 g28 g29 g30 H.size k0) (cwV 1 hT (gV w1284 w1286 ws73 w14 w1287) rfl rfl rfl (by decide +kernel) ⟨(Nat.le_of_ble_eq_true rfl), (Nat.le_of_ble_eq_true rfl)⟩) ⟨pcW.blind, va_recv hKc hPc (ci := 12) (q0 := 0) rfl rfl, pcW.pre hPc hKc hDc⟩ rfl rfl hl.1 rfl (lv_room (Nat.le_of_ble_eq_true rfl)) dX12_relief_7 ⟨(Nat.le_of_ble_eq_true rfl), (Nat.le_of_ble_eq_true rfl)⟩)) (fun r_7 hr_7 => ?_)
  obtain rfl : r_7 = 0 := hr_7
  refine lv_if_eq (tgt := 21) hx hb dX12_relief_10 (by decide) (fun _ => ?_) (fun h => absurd (by decide) h)
  refine lv_bipush (v := (-2)) hx hb dX12_relief_21 (by decide) ?_
  refine W.widen (k := 0) (n := 0) (Nat.le_of_ble_eq_true rfl) (Nat.le_of_ble_eq_true rfl) ?_
  exact W.iret (v := (-2)) hx hb hr (fun t ht hW => ⟨⟨(-2), (), rfl, rfl, trivial⟩, hS.F ht⟩) hS.2.2 dX12_relief_23

set_option maxHeartbeats 4000000 in
set_option maxRecDepth 100000 in
theorem m_through (l : Launch) (dC : Nat → ClassId) (dI : Nat → Nat → Nat) (m0 : Nat) (g0 : Nat) (g1 : Nat) (g2 : Nat) (g3 : Nat) (g4 : Nat) (g9 : Nat) (g17 : Nat) (g18 : Nat) (g20 : Nat) (g21 : Nat) (g22 : Nat) (g23 : Nat) (g24 : Nat) (g25 : Nat) (g26 : Nat) (g27 : Nat) (g28 : Nat) (g29 : Nat) (g30 : Nat) (sz : Nat) (k0 : Int32) (k1 : Int32) (k2 : Int32) : Met l yX12_through (wT yX12_through cX12_through 4 (some .int)) ({ frames := 2, cells := 0, slots := 0, locals := 46 }) (pcW dC dI [.ref m0, .int k0, .int k1, .int k2] sz [(m0, .inr (12, [.ref g0, .ref g1, .ref g2, .ref g3, .ref g4, .int 0, .int 0, .int 0, .int 0, .ref g9, .int 0, .int 0, .int 0, .int 0, .int (-1), .int 0, .int 0, .ref g17, .ref g18, .int 0, .ref g20, .ref g21, .ref g22, .ref g23, .ref g24, .ref g25, .ref g26, .ref g27, .ref g28, .ref g29, .ref g30, .int 0]))] []) (va_Qi (fun (r : Int32) (_ : Unit) => r = (-2)) (fun _ _ => True) (va_A [(m0, .inr (12, [.ref g0, .ref g1, .ref g2, .ref g3, .ref g4, .int 0, .int 0, .int 0, .int 0, .ref g9, .int 0, .int 0, .int 0, .int 0, .int (-1), .int 0, .int 0, .ref g17, .ref g18, .int 0, .ref g20, .ref g21, .ref g22, .ref g23, .ref g24, .ref g25, .ref g26, .ref g27, .ref g28, .ref g29, .ref g30, .int 0]))] sz)) 0 0 (va_A [(m0, .inr (12, [.ref g0, .ref g1, .ref g2, .ref g3, .ref g4, .int 0, .int 0, .int 0, .int 0, .ref g9, .int 0, .int 0, .int 0, .int 0, .int (-1), .int 0, .int 0, .ref g17, .ref g18, .int 0, .ref g20, .ref g21, .ref g22, .ref g23, .ref g24, .ref g25, .ref g26, .ref g27, .ref g28, .ref g29, .ref g30, .int 0]))] sz) := by
  refine Met.ofW (cc := cX12_through) (maxL := 4) (ret := (some .int)) (by decide) rfl ?_
  intro p e s m args below meth c s₁ B hml hv
  obtain ⟨rfl, hsz, hP, hK, hD0⟩ := hv
  have hx := B.exec
  have hb := B.bytes
  have hr := B.returns
  have hT : ∀ w ∈ TB, w.before [.ref m0, .int k0, .int k1, .int k2].toArray s = true := fun w h => atoms_spec (ws := wT yX12_through cX12_through 4 (some .int)) B.pre w (List.mem_cons_of_mem _ h)
  have hown : s.vm.findClass RX12 = some m.cls := findClass_of_methodNamed B.named
  have hlocks := B.notSynchronized
  subst hsz
  have hD := hD0.self (sz := s.heap.size)
  generalize hAe : va_A [(m0, .inr (12, [.ref g0, .ref g1, .ref g2, .ref g3, .ref g4, .int 0, .int 0, .int 0, .int 0, .ref g9, .int 0, .int 0, .int 0, .int 0, .int (-1), .int 0, .int 0, .ref g17, .ref g18, .int 0, .ref g20, .ref g21, .ref g22, .ref g23, .ref g24, .ref g25, .ref g26, .ref g27, .ref g28, .ref g29, .ref g30, .int 0]))] s.heap.size = A at hD ⊢
  have hA : ∀ q : Nat, s.heap.size ≤ q → A q := fun q h => by rw [← hAe]; exact Or.inr h
  have hS : va_S A s.heap s.heap [] := va_S.rf
  have hP : va_P (dC, dI) vwCl [(m0, .inr (12, [.ref g0, .ref g1, .ref g2, .ref g3, .ref g4, .int 0, .int 0, .int 0, .int 0, .ref g9, .int 0, .int 0, .int 0, .int 0, .int (-1), .int 0, .int 0, .ref g17, .ref g18, .int 0, .ref g20, .ref g21, .ref g22, .ref g23, .ref g24, .ref g25, .ref g26, .ref g27, .ref g28, .ref g29, .ref g30, .int 0]))] s.heap := hP
  have hl := lv_entry ([.ref m0, .int k0, .int k1, .int k2]) (n := 4) (Nat.le_of_ble_eq_true rfl)
  rw [lg_entry_eq]
  generalize (lg_sl ([.ref m0, .int k0, .int k1, .int k2]) ++ List.replicate (4 - (lg_sl ([.ref m0, .int k0, .int k1, .int k2])).length) Slot.unset).toArray = ls at hl ⊢
  have hl : lv_has ls 4 [(0, .ref m0), (1, .int k0), (2, .int k1), (3, .int k2)] := hl
  refine lv_aload_n hx hb dX12_through_0 rfl (lv_at hl 0 rfl) ?_
  refine lv_iconst (v := 0) hx hb dX12_through_1 (by decide) ?_
  refine va_put (D := (dC, dI)) (ci := 12) (v := .int 0) (ty := .int) (C := RX12) (T := TX12) (N := 32) hx hb hT iX12 tyX12 tyX12_ok nmX12 hown hK hP hD hS 0 rfl rfl 8 (by decide) (hT _ w1090) (fun _ h9 => h9) rfl (by decide +kernel) rfl rfl (Nat.le_of_ble_eq_true rfl) dX12_through_2 (fun H locs hP hD hS => ?_)
  have hP : va_P (dC, dI) vwCl [(m0, .inr (12, [.ref g0, .ref g1, .ref g2, .ref g3, .ref g4, .int 0, .int 0, .int 0, .int 0, .ref g9, .int 0, .int 0, .int 0, .int 0, .int (-1), .int 0, .int 0, .ref g17, .ref g18, .int 0, .ref g20, .ref g21, .ref g22, .ref g23, .ref g24, .ref g25, .ref g26, .ref g27, .ref g28, .ref g29, .ref g30, .int 0]))] H := hP
  have hD : va_D A [(m0, .inr (12, [.ref g0, .ref g1, .ref g2, .ref g3, .ref g4, .int 0, .int 0, .int 0, .int 0, .ref g9, .int 0, .int 0, .int 0, .int 0, .int (-1), .int 0, .int 0, .ref g17, .ref g18, .int 0, .ref g20, .ref g21, .ref g22, .ref g23, .ref g24, .ref g25, .ref g26, .ref g27, .ref g28, .ref g29, .ref g30, .int 0]))] := hD
  refine lv_aload_n hx hb dX12_through_5 rfl (lv_at hl 0 rfl) ?_
  refine lv_iload_n hx hb dX12_through_6 rfl (lv_at hl 1 rfl) ?_
  have hPc := hP.sub (ws' := [(m0, .inr (12, [.ref g0, .ref g1, .ref g2, .ref g3, .ref g4, .int 0, .int 0, .int 0, .int 0, .ref g9, .int 0, .int 0, .int 0, .int 0, .int (-1), .int 0, .int 0, .ref g17, .ref g18, .int 0, .ref g20, .ref g21, .ref g22, .ref g23, .ref g24, .ref g25, .ref g26, .ref g27, .ref g28, .ref g29, .ref g30, .int 0]))]) [0] rfl
  have hDc := hD.sub (ws' := [(m0, .inr (12, [.ref g0, .ref g1, .ref g2, .ref g3, .ref g4, .int 0, .int 0, .int 0, .int 0, .ref g9, .int 0, .int 0, .int 0, .int 0, .int (-1), .int 0, .int 0, .ref g17, .ref g18, .int 0, .ref g20, .ref g21, .ref g22, .ref g23, .ref g24, .ref g25, .ref g26, .ref g27, .ref g28, .ref g29, .ref g30, .int 0]))]) [0] (by decide) rfl
  have hKc := hK.sub (tys' := []) [] rfl
  refine vp_callSi (va_Run.run (va_runV (As := [.int k0]) (rest := []) ⟨hx, hb, hml, hown, hT⟩ (m_isParty l dC dI m0 g0 g1 g2 g3 g4 g9 g17 g18 g20 g21 g22 g23 g24 g25 g26 g27 g28 g29 g30 H.size k0) (cwV 1 hT (gV w1284 w1286 ws73 w14 w1287) rfl rfl rfl (by decide +kernel) ⟨(Nat.le_of_ble_eq_true rfl), (Nat.le_of_ble_eq_true rfl)⟩) ⟨pcW.blind, va_recv hKc hPc (ci := 12) (q0 := 0) rfl rfl, pcW.pre hPc hKc hDc⟩ rfl rfl hl.1 rfl (lv_room (Nat.le_of_ble_eq_true rfl)) dX12_through_7 ⟨(Nat.le_of_ble_eq_true rfl), (Nat.le_of_ble_eq_true rfl)⟩)) (fun r_7 hr_7 => ?_)
  obtain rfl : r_7 = 0 := hr_7
  refine lv_if_eq (tgt := 31) hx hb dX12_through_10 (by decide) (fun _ => ?_) (fun h => absurd (by decide) h)
  refine lv_bipush (v := (-2)) hx hb dX12_through_31 (by decide) ?_
  refine W.widen (k := 0) (n := 0) (Nat.le_of_ble_eq_true rfl) (Nat.le_of_ble_eq_true rfl) ?_
  exact W.iret (v := (-2)) hx hb hr (fun t ht hW => ⟨⟨(-2), (), rfl, rfl, trivial⟩, hS.F ht⟩) hS.2.2 dX12_through_33

set_option maxHeartbeats 4000000 in
set_option maxRecDepth 100000 in
theorem m_takeRing (l : Launch) (dC : Nat → ClassId) (dI : Nat → Nat → Nat) (m0 : Nat) (g0 : Nat) (g1 : Nat) (g2 : Nat) (g3 : Nat) (g4 : Nat) (g9 : Nat) (g17 : Nat) (g18 : Nat) (g20 : Nat) (g21 : Nat) (g22 : Nat) (g23 : Nat) (g24 : Nat) (g25 : Nat) (g26 : Nat) (g27 : Nat) (g28 : Nat) (g29 : Nat) (g30 : Nat) (sz : Nat) (k0 : Int32) : Met l yX12_takeRing (wT yX12_takeRing cX12_takeRing 7 (some .int)) ({ frames := 2, cells := 0, slots := 0, locals := 46 }) (pcW dC dI [.ref m0, .int k0] sz [(m0, .inr (12, [.ref g0, .ref g1, .ref g2, .ref g3, .ref g4, .int 0, .int 0, .int 0, .int 0, .ref g9, .int 0, .int 0, .int 0, .int 0, .int (-1), .int 0, .int 0, .ref g17, .ref g18, .int 0, .ref g20, .ref g21, .ref g22, .ref g23, .ref g24, .ref g25, .ref g26, .ref g27, .ref g28, .ref g29, .ref g30, .int 0]))] []) (va_Qi (fun (r : Int32) (_ : Unit) => r = (-2)) (fun _ _ => True) (va_A [(m0, .inr (12, [.ref g0, .ref g1, .ref g2, .ref g3, .ref g4, .int 0, .int 0, .int 0, .int 0, .ref g9, .int 0, .int 0, .int 0, .int 0, .int (-1), .int 0, .int 0, .ref g17, .ref g18, .int 0, .ref g20, .ref g21, .ref g22, .ref g23, .ref g24, .ref g25, .ref g26, .ref g27, .ref g28, .ref g29, .ref g30, .int 0]))] sz)) 0 0 (va_A [(m0, .inr (12, [.ref g0, .ref g1, .ref g2, .ref g3, .ref g4, .int 0, .int 0, .int 0, .int 0, .ref g9, .int 0, .int 0, .int 0, .int 0, .int (-1), .int 0, .int 0, .ref g17, .ref g18, .int 0, .ref g20, .ref g21, .ref g22, .ref g23, .ref g24, .ref g25, .ref g26, .ref g27, .ref g28, .ref g29, .ref g30, .int 0]))] sz) := by
  refine Met.ofW (cc := cX12_takeRing) (maxL := 7) (ret := (some .int)) (by decide) rfl ?_
  intro p e s m args below meth c s₁ B hml hv
  obtain ⟨rfl, hsz, hP, hK, hD0⟩ := hv
  have hx := B.exec
  have hb := B.bytes
  have hr := B.returns
  have hT : ∀ w ∈ TB, w.before [.ref m0, .int k0].toArray s = true := fun w h => atoms_spec (ws := wT yX12_takeRing cX12_takeRing 7 (some .int)) B.pre w (List.mem_cons_of_mem _ h)
  have hown : s.vm.findClass RX12 = some m.cls := findClass_of_methodNamed B.named
  have hlocks := B.notSynchronized
  subst hsz
  have hD := hD0.self (sz := s.heap.size)
  generalize hAe : va_A [(m0, .inr (12, [.ref g0, .ref g1, .ref g2, .ref g3, .ref g4, .int 0, .int 0, .int 0, .int 0, .ref g9, .int 0, .int 0, .int 0, .int 0, .int (-1), .int 0, .int 0, .ref g17, .ref g18, .int 0, .ref g20, .ref g21, .ref g22, .ref g23, .ref g24, .ref g25, .ref g26, .ref g27, .ref g28, .ref g29, .ref g30, .int 0]))] s.heap.size = A at hD ⊢
  have hA : ∀ q : Nat, s.heap.size ≤ q → A q := fun q h => by rw [← hAe]; exact Or.inr h
  have hS : va_S A s.heap s.heap [] := va_S.rf
  have hP : va_P (dC, dI) vwCl [(m0, .inr (12, [.ref g0, .ref g1, .ref g2, .ref g3, .ref g4, .int 0, .int 0, .int 0, .int 0, .ref g9, .int 0, .int 0, .int 0, .int 0, .int (-1), .int 0, .int 0, .ref g17, .ref g18, .int 0, .ref g20, .ref g21, .ref g22, .ref g23, .ref g24, .ref g25, .ref g26, .ref g27, .ref g28, .ref g29, .ref g30, .int 0]))] s.heap := hP
  have hl := lv_entry ([.ref m0, .int k0]) (n := 7) (Nat.le_of_ble_eq_true rfl)
  rw [lg_entry_eq]
  generalize (lg_sl ([.ref m0, .int k0]) ++ List.replicate (7 - (lg_sl ([.ref m0, .int k0])).length) Slot.unset).toArray = ls at hl ⊢
  have hl : lv_has ls 7 [(0, .ref m0), (1, .int k0)] := hl
  refine lv_aload_n hx hb dX12_takeRing_0 rfl (lv_at hl 0 rfl) ?_
  refine lv_iconst (v := 0) hx hb dX12_takeRing_1 (by decide) ?_
  refine va_put (D := (dC, dI)) (ci := 12) (v := .int 0) (ty := .int) (C := RX12) (T := TX12) (N := 32) hx hb hT iX12 tyX12 tyX12_ok nmX12 hown hK hP hD hS 0 rfl rfl 8 (by decide) (hT _ w1090) (fun _ h9 => h9) rfl (by decide +kernel) rfl rfl (Nat.le_of_ble_eq_true rfl) dX12_takeRing_2 (fun H locs hP hD hS => ?_)
  have hP : va_P (dC, dI) vwCl [(m0, .inr (12, [.ref g0, .ref g1, .ref g2, .ref g3, .ref g4, .int 0, .int 0, .int 0, .int 0, .ref g9, .int 0, .int 0, .int 0, .int 0, .int (-1), .int 0, .int 0, .ref g17, .ref g18, .int 0, .ref g20, .ref g21, .ref g22, .ref g23, .ref g24, .ref g25, .ref g26, .ref g27, .ref g28, .ref g29, .ref g30, .int 0]))] H := hP
  have hD : va_D A [(m0, .inr (12, [.ref g0, .ref g1, .ref g2, .ref g3, .ref g4, .int 0, .int 0, .int 0, .int 0, .ref g9, .int 0, .int 0, .int 0, .int 0, .int (-1), .int 0, .int 0, .ref g17, .ref g18, .int 0, .ref g20, .ref g21, .ref g22, .ref g23, .ref g24, .ref g25, .ref g26, .ref g27, .ref g28, .ref g29, .ref g30, .int 0]))] := hD
  refine lv_aload_n hx hb dX12_takeRing_5 rfl (lv_at hl 0 rfl) ?_
  refine lv_iload_n hx hb dX12_takeRing_6 rfl (lv_at hl 1 rfl) ?_
  have hPc := hP.sub (ws' := [(m0, .inr (12, [.ref g0, .ref g1, .ref g2, .ref g3, .ref g4, .int 0, .int 0, .int 0, .int 0, .ref g9, .int 0, .int 0, .int 0, .int 0, .int (-1), .int 0, .int 0, .ref g17, .ref g18, .int 0, .ref g20, .ref g21, .ref g22, .ref g23, .ref g24, .ref g25, .ref g26, .ref g27, .ref g28, .ref g29, .ref g30, .int 0]))]) [0] rfl
  have hDc := hD.sub (ws' := [(m0, .inr (12, [.ref g0, .ref g1, .ref g2, .ref g3, .ref g4, .int 0, .int 0, .int 0, .int 0, .ref g9, .int 0, .int 0, .int 0, .int 0, .int (-1), .int 0, .int 0, .ref g17, .ref g18, .int 0, .ref g20, .ref g21, .ref g22, .ref g23, .ref g24, .ref g25, .ref g26, .ref g27, .ref g28, .ref g29, .ref g30, .int 0]))]) [0] (by decide) rfl
  have hKc := hK.sub (tys' := []) [] rfl
  refine vp_callSi (va_Run.run (va_runV (As := [.int k0]) (rest := []) ⟨hx, hb, hml, hown, hT⟩ (m_isKind l dC dI m0 g0 g1 g2 g3 g4 g9 g17 g18 g20 g21 g22 g23 g24 g25 g26 g27 g28 g29 g30 H.size k0) (cwV 1 hT (gV w1288 w1290 ws74 w14 w1291) rfl rfl rfl (by decide +kernel) ⟨(Nat.le_of_ble_eq_true rfl), (Nat.le_of_ble_eq_true rfl)⟩) ⟨pcW.blind, va_recv hKc hPc (ci := 12) (q0 := 0) rfl rfl, pcW.pre hPc hKc hDc⟩ rfl rfl hl.1 rfl (lv_room (Nat.le_of_ble_eq_true rfl)) dX12_takeRing_7 ⟨(Nat.le_of_ble_eq_true rfl), (Nat.le_of_ble_eq_true rfl)⟩)) (fun r_7 hr_7 => ?_)
  obtain rfl : r_7 = 0 := hr_7
  refine lv_if_ne (tgt := 16) hx hb dX12_takeRing_10 (by decide) (fun h => absurd (by decide) h) (fun _ => ?_)
  refine lv_bipush (v := (-2)) hx hb dX12_takeRing_13 (by decide) ?_
  refine W.widen (k := 0) (n := 0) (Nat.le_of_ble_eq_true rfl) (Nat.le_of_ble_eq_true rfl) ?_
  exact W.iret (v := (-2)) hx hb hr (fun t ht hW => ⟨⟨(-2), (), rfl, rfl, trivial⟩, hS.F ht⟩) hS.2.2 dX12_takeRing_15

set_option maxHeartbeats 4000000 in
set_option maxRecDepth 100000 in
theorem m_press (l : Launch) (dC : Nat → ClassId) (dI : Nat → Nat → Nat) (m0 : Nat) (g0 : Nat) (g1 : Nat) (g2 : Nat) (g3 : Nat) (g4 : Nat) (g9 : Nat) (g17 : Nat) (g18 : Nat) (g20 : Nat) (g21 : Nat) (g22 : Nat) (g23 : Nat) (g24 : Nat) (g25 : Nat) (g26 : Nat) (g27 : Nat) (g28 : Nat) (g29 : Nat) (g30 : Nat) (sz : Nat) (k0 : Int32) : Met l yX12_press (wT yX12_press cX12_press 4 (some .int)) ({ frames := 2, cells := 0, slots := 0, locals := 46 }) (pcW dC dI [.ref m0, .int k0] sz [(m0, .inr (12, [.ref g0, .ref g1, .ref g2, .ref g3, .ref g4, .int 0, .int 0, .int 0, .int 0, .ref g9, .int 0, .int 0, .int 0, .int 0, .int (-1), .int 0, .int 0, .ref g17, .ref g18, .int 0, .ref g20, .ref g21, .ref g22, .ref g23, .ref g24, .ref g25, .ref g26, .ref g27, .ref g28, .ref g29, .ref g30, .int 0]))] []) (va_Qi (fun (r : Int32) (_ : Unit) => r = (-2)) (fun _ _ => True) (va_A [(m0, .inr (12, [.ref g0, .ref g1, .ref g2, .ref g3, .ref g4, .int 0, .int 0, .int 0, .int 0, .ref g9, .int 0, .int 0, .int 0, .int 0, .int (-1), .int 0, .int 0, .ref g17, .ref g18, .int 0, .ref g20, .ref g21, .ref g22, .ref g23, .ref g24, .ref g25, .ref g26, .ref g27, .ref g28, .ref g29, .ref g30, .int 0]))] sz)) 0 0 (va_A [(m0, .inr (12, [.ref g0, .ref g1, .ref g2, .ref g3, .ref g4, .int 0, .int 0, .int 0, .int 0, .ref g9, .int 0, .int 0, .int 0, .int 0, .int (-1), .int 0, .int 0, .ref g17, .ref g18, .int 0, .ref g20, .ref g21, .ref g22, .ref g23, .ref g24, .ref g25, .ref g26, .ref g27, .ref g28, .ref g29, .ref g30, .int 0]))] sz) := by
  refine Met.ofW (cc := cX12_press) (maxL := 4) (ret := (some .int)) (by decide) rfl ?_
  intro p e s m args below meth c s₁ B hml hv
  obtain ⟨rfl, hsz, hP, hK, hD0⟩ := hv
  have hx := B.exec
  have hb := B.bytes
  have hr := B.returns
  have hT : ∀ w ∈ TB, w.before [.ref m0, .int k0].toArray s = true := fun w h => atoms_spec (ws := wT yX12_press cX12_press 4 (some .int)) B.pre w (List.mem_cons_of_mem _ h)
  have hown : s.vm.findClass RX12 = some m.cls := findClass_of_methodNamed B.named
  have hlocks := B.notSynchronized
  subst hsz
  have hD := hD0.self (sz := s.heap.size)
  generalize hAe : va_A [(m0, .inr (12, [.ref g0, .ref g1, .ref g2, .ref g3, .ref g4, .int 0, .int 0, .int 0, .int 0, .ref g9, .int 0, .int 0, .int 0, .int 0, .int (-1), .int 0, .int 0, .ref g17, .ref g18, .int 0, .ref g20, .ref g21, .ref g22, .ref g23, .ref g24, .ref g25, .ref g26, .ref g27, .ref g28, .ref g29, .ref g30, .int 0]))] s.heap.size = A at hD ⊢
  have hA : ∀ q : Nat, s.heap.size ≤ q → A q := fun q h => by rw [← hAe]; exact Or.inr h
  have hS : va_S A s.heap s.heap [] := va_S.rf
  have hP : va_P (dC, dI) vwCl [(m0, .inr (12, [.ref g0, .ref g1, .ref g2, .ref g3, .ref g4, .int 0, .int 0, .int 0, .int 0, .ref g9, .int 0, .int 0, .int 0, .int 0, .int (-1), .int 0, .int 0, .ref g17, .ref g18, .int 0, .ref g20, .ref g21, .ref g22, .ref g23, .ref g24, .ref g25, .ref g26, .ref g27, .ref g28, .ref g29, .ref g30, .int 0]))] s.heap := hP
  have hl := lv_entry ([.ref m0, .int k0]) (n := 4) (Nat.le_of_ble_eq_true rfl)
  rw [lg_entry_eq]
  generalize (lg_sl ([.ref m0, .int k0]) ++ List.replicate (4 - (lg_sl ([.ref m0, .int k0])).length) Slot.unset).toArray = ls at hl ⊢
  have hl : lv_has ls 4 [(0, .ref m0), (1, .int k0)] := hl
  refine lv_aload_n hx hb dX12_press_0 rfl (lv_at hl 0 rfl) ?_
  refine lv_iconst (v := 0) hx hb dX12_press_1 (by decide) ?_
  refine va_put (D := (dC, dI)) (ci := 12) (v := .int 0) (ty := .int) (C := RX12) (T := TX12) (N := 32) hx hb hT iX12 tyX12 tyX12_ok nmX12 hown hK hP hD hS 0 rfl rfl 8 (by decide) (hT _ w1090) (fun _ h9 => h9) rfl (by decide +kernel) rfl rfl (Nat.le_of_ble_eq_true rfl) dX12_press_2 (fun H locs hP hD hS => ?_)
  have hP : va_P (dC, dI) vwCl [(m0, .inr (12, [.ref g0, .ref g1, .ref g2, .ref g3, .ref g4, .int 0, .int 0, .int 0, .int 0, .ref g9, .int 0, .int 0, .int 0, .int 0, .int (-1), .int 0, .int 0, .ref g17, .ref g18, .int 0, .ref g20, .ref g21, .ref g22, .ref g23, .ref g24, .ref g25, .ref g26, .ref g27, .ref g28, .ref g29, .ref g30, .int 0]))] H := hP
  have hD : va_D A [(m0, .inr (12, [.ref g0, .ref g1, .ref g2, .ref g3, .ref g4, .int 0, .int 0, .int 0, .int 0, .ref g9, .int 0, .int 0, .int 0, .int 0, .int (-1), .int 0, .int 0, .ref g17, .ref g18, .int 0, .ref g20, .ref g21, .ref g22, .ref g23, .ref g24, .ref g25, .ref g26, .ref g27, .ref g28, .ref g29, .ref g30, .int 0]))] := hD
  refine lv_aload_n hx hb dX12_press_5 rfl (lv_at hl 0 rfl) ?_
  refine lv_iload_n hx hb dX12_press_6 rfl (lv_at hl 1 rfl) ?_
  have hPc := hP.sub (ws' := [(m0, .inr (12, [.ref g0, .ref g1, .ref g2, .ref g3, .ref g4, .int 0, .int 0, .int 0, .int 0, .ref g9, .int 0, .int 0, .int 0, .int 0, .int (-1), .int 0, .int 0, .ref g17, .ref g18, .int 0, .ref g20, .ref g21, .ref g22, .ref g23, .ref g24, .ref g25, .ref g26, .ref g27, .ref g28, .ref g29, .ref g30, .int 0]))]) [0] rfl
  have hDc := hD.sub (ws' := [(m0, .inr (12, [.ref g0, .ref g1, .ref g2, .ref g3, .ref g4, .int 0, .int 0, .int 0, .int 0, .ref g9, .int 0, .int 0, .int 0, .int 0, .int (-1), .int 0, .int 0, .ref g17, .ref g18, .int 0, .ref g20, .ref g21, .ref g22, .ref g23, .ref g24, .ref g25, .ref g26, .ref g27, .ref g28, .ref g29, .ref g30, .int 0]))]) [0] (by decide) rfl
  have hKc := hK.sub (tys' := []) [] rfl
  refine vp_callSi (va_Run.run (va_runV (As := [.int k0]) (rest := []) ⟨hx, hb, hml, hown, hT⟩ (m_isKind l dC dI m0 g0 g1 g2 g3 g4 g9 g17 g18 g20 g21 g22 g23 g24 g25 g26 g27 g28 g29 g30 H.size k0) (cwV 1 hT (gV w1288 w1290 ws74 w14 w1291) rfl rfl rfl (by decide +kernel) ⟨(Nat.le_of_ble_eq_true rfl), (Nat.le_of_ble_eq_true rfl)⟩) ⟨pcW.blind, va_recv hKc hPc (ci := 12) (q0 := 0) rfl rfl, pcW.pre hPc hKc hDc⟩ rfl rfl hl.1 rfl (lv_room (Nat.le_of_ble_eq_true rfl)) dX12_press_7 ⟨(Nat.le_of_ble_eq_true rfl), (Nat.le_of_ble_eq_true rfl)⟩)) (fun r_7 hr_7 => ?_)
  obtain rfl : r_7 = 0 := hr_7
  refine lv_if_ne (tgt := 16) hx hb dX12_press_10 (by decide) (fun h => absurd (by decide) h) (fun _ => ?_)
  refine lv_bipush (v := (-2)) hx hb dX12_press_13 (by decide) ?_
  refine W.widen (k := 0) (n := 0) (Nat.le_of_ble_eq_true rfl) (Nat.le_of_ble_eq_true rfl) ?_
  exact W.iret (v := (-2)) hx hb hr (fun t ht hW => ⟨⟨(-2), (), rfl, rfl, trivial⟩, hS.F ht⟩) hS.2.2 dX12_press_15

set_option maxHeartbeats 4000000 in
set_option maxRecDepth 100000 in
theorem m_total (l : Launch) (dC : Nat → ClassId) (dI : Nat → Nat → Nat) (m0 : Nat) (g0 : Nat) (g1 : Nat) (g2 : Nat) (g3 : Nat) (g4 : Nat) (g9 : Nat) (g17 : Nat) (g18 : Nat) (g20 : Nat) (g21 : Nat) (g22 : Nat) (g23 : Nat) (g24 : Nat) (g25 : Nat) (g26 : Nat) (g27 : Nat) (g28 : Nat) (g29 : Nat) (g30 : Nat) (sz : Nat) (k0 : Int32) (k1 : Int32) : Met l yX12_total (wT yX12_total cX12_total 5 (some .int)) ({ frames := 2, cells := 0, slots := 0, locals := 46 }) (pcW dC dI [.ref m0, .int k0, .int k1] sz [(m0, .inr (12, [.ref g0, .ref g1, .ref g2, .ref g3, .ref g4, .int 0, .int 0, .int 0, .int 0, .ref g9, .int 0, .int 0, .int 0, .int 0, .int (-1), .int 0, .int 0, .ref g17, .ref g18, .int 0, .ref g20, .ref g21, .ref g22, .ref g23, .ref g24, .ref g25, .ref g26, .ref g27, .ref g28, .ref g29, .ref g30, .int 0]))] []) (va_Qi (fun (r : Int32) (_ : Unit) => r = (-2)) (fun _ _ => True) (va_A [(m0, .inr (12, [.ref g0, .ref g1, .ref g2, .ref g3, .ref g4, .int 0, .int 0, .int 0, .int 0, .ref g9, .int 0, .int 0, .int 0, .int 0, .int (-1), .int 0, .int 0, .ref g17, .ref g18, .int 0, .ref g20, .ref g21, .ref g22, .ref g23, .ref g24, .ref g25, .ref g26, .ref g27, .ref g28, .ref g29, .ref g30, .int 0]))] sz)) 0 0 (va_A [(m0, .inr (12, [.ref g0, .ref g1, .ref g2, .ref g3, .ref g4, .int 0, .int 0, .int 0, .int 0, .ref g9, .int 0, .int 0, .int 0, .int 0, .int (-1), .int 0, .int 0, .ref g17, .ref g18, .int 0, .ref g20, .ref g21, .ref g22, .ref g23, .ref g24, .ref g25, .ref g26, .ref g27, .ref g28, .ref g29, .ref g30, .int 0]))] sz) := by
  refine Met.ofW (cc := cX12_total) (maxL := 5) (ret := (some .int)) (by decide) rfl ?_
  intro p e s m args below meth c s₁ B hml hv
  obtain ⟨rfl, hsz, hP, hK, hD0⟩ := hv
  have hx := B.exec
  have hb := B.bytes
  have hr := B.returns
  have hT : ∀ w ∈ TB, w.before [.ref m0, .int k0, .int k1].toArray s = true := fun w h => atoms_spec (ws := wT yX12_total cX12_total 5 (some .int)) B.pre w (List.mem_cons_of_mem _ h)
  have hown : s.vm.findClass RX12 = some m.cls := findClass_of_methodNamed B.named
  have hlocks := B.notSynchronized
  subst hsz
  have hD := hD0.self (sz := s.heap.size)
  generalize hAe : va_A [(m0, .inr (12, [.ref g0, .ref g1, .ref g2, .ref g3, .ref g4, .int 0, .int 0, .int 0, .int 0, .ref g9, .int 0, .int 0, .int 0, .int 0, .int (-1), .int 0, .int 0, .ref g17, .ref g18, .int 0, .ref g20, .ref g21, .ref g22, .ref g23, .ref g24, .ref g25, .ref g26, .ref g27, .ref g28, .ref g29, .ref g30, .int 0]))] s.heap.size = A at hD ⊢
  have hA : ∀ q : Nat, s.heap.size ≤ q → A q := fun q h => by rw [← hAe]; exact Or.inr h
  have hS : va_S A s.heap s.heap [] := va_S.rf
  have hP : va_P (dC, dI) vwCl [(m0, .inr (12, [.ref g0, .ref g1, .ref g2, .ref g3, .ref g4, .int 0, .int 0, .int 0, .int 0, .ref g9, .int 0, .int 0, .int 0, .int 0, .int (-1), .int 0, .int 0, .ref g17, .ref g18, .int 0, .ref g20, .ref g21, .ref g22, .ref g23, .ref g24, .ref g25, .ref g26, .ref g27, .ref g28, .ref g29, .ref g30, .int 0]))] s.heap := hP
  have hl := lv_entry ([.ref m0, .int k0, .int k1]) (n := 5) (Nat.le_of_ble_eq_true rfl)
  rw [lg_entry_eq]
  generalize (lg_sl ([.ref m0, .int k0, .int k1]) ++ List.replicate (5 - (lg_sl ([.ref m0, .int k0, .int k1])).length) Slot.unset).toArray = ls at hl ⊢
  have hl : lv_has ls 5 [(0, .ref m0), (1, .int k0), (2, .int k1)] := hl
  refine lv_aload_n hx hb dX12_total_0 rfl (lv_at hl 0 rfl) ?_
  refine lv_iconst (v := 0) hx hb dX12_total_1 (by decide) ?_
  refine va_put (D := (dC, dI)) (ci := 12) (v := .int 0) (ty := .int) (C := RX12) (T := TX12) (N := 32) hx hb hT iX12 tyX12 tyX12_ok nmX12 hown hK hP hD hS 0 rfl rfl 8 (by decide) (hT _ w1090) (fun _ h9 => h9) rfl (by decide +kernel) rfl rfl (Nat.le_of_ble_eq_true rfl) dX12_total_2 (fun H locs hP hD hS => ?_)
  have hP : va_P (dC, dI) vwCl [(m0, .inr (12, [.ref g0, .ref g1, .ref g2, .ref g3, .ref g4, .int 0, .int 0, .int 0, .int 0, .ref g9, .int 0, .int 0, .int 0, .int 0, .int (-1), .int 0, .int 0, .ref g17, .ref g18, .int 0, .ref g20, .ref g21, .ref g22, .ref g23, .ref g24, .ref g25, .ref g26, .ref g27, .ref g28, .ref g29, .ref g30, .int 0]))] H := hP
  have hD : va_D A [(m0, .inr (12, [.ref g0, .ref g1, .ref g2, .ref g3, .ref g4, .int 0, .int 0, .int 0, .int 0, .ref g9, .int 0, .int 0, .int 0, .int 0, .int (-1), .int 0, .int 0, .ref g17, .ref g18, .int 0, .ref g20, .ref g21, .ref g22, .ref g23, .ref g24, .ref g25, .ref g26, .ref g27, .ref g28, .ref g29, .ref g30, .int 0]))] := hD
  refine lv_aload_n hx hb dX12_total_5 rfl (lv_at hl 0 rfl) ?_
  refine lv_iload_n hx hb dX12_total_6 rfl (lv_at hl 1 rfl) ?_
  have hPc := hP.sub (ws' := [(m0, .inr (12, [.ref g0, .ref g1, .ref g2, .ref g3, .ref g4, .int 0, .int 0, .int 0, .int 0, .ref g9, .int 0, .int 0, .int 0, .int 0, .int (-1), .int 0, .int 0, .ref g17, .ref g18, .int 0, .ref g20, .ref g21, .ref g22, .ref g23, .ref g24, .ref g25, .ref g26, .ref g27, .ref g28, .ref g29, .ref g30, .int 0]))]) [0] rfl
  have hDc := hD.sub (ws' := [(m0, .inr (12, [.ref g0, .ref g1, .ref g2, .ref g3, .ref g4, .int 0, .int 0, .int 0, .int 0, .ref g9, .int 0, .int 0, .int 0, .int 0, .int (-1), .int 0, .int 0, .ref g17, .ref g18, .int 0, .ref g20, .ref g21, .ref g22, .ref g23, .ref g24, .ref g25, .ref g26, .ref g27, .ref g28, .ref g29, .ref g30, .int 0]))]) [0] (by decide) rfl
  have hKc := hK.sub (tys' := []) [] rfl
  refine vp_callSi (va_Run.run (va_runV (As := [.int k0]) (rest := []) ⟨hx, hb, hml, hown, hT⟩ (m_isKind l dC dI m0 g0 g1 g2 g3 g4 g9 g17 g18 g20 g21 g22 g23 g24 g25 g26 g27 g28 g29 g30 H.size k0) (cwV 1 hT (gV w1288 w1290 ws74 w14 w1291) rfl rfl rfl (by decide +kernel) ⟨(Nat.le_of_ble_eq_true rfl), (Nat.le_of_ble_eq_true rfl)⟩) ⟨pcW.blind, va_recv hKc hPc (ci := 12) (q0 := 0) rfl rfl, pcW.pre hPc hKc hDc⟩ rfl rfl hl.1 rfl (lv_room (Nat.le_of_ble_eq_true rfl)) dX12_total_7 ⟨(Nat.le_of_ble_eq_true rfl), (Nat.le_of_ble_eq_true rfl)⟩)) (fun r_7 hr_7 => ?_)
  obtain rfl : r_7 = 0 := hr_7
  refine lv_if_eq (tgt := 25) hx hb dX12_total_10 (by decide) (fun _ => ?_) (fun h => absurd (by decide) h)
  refine lv_bipush (v := (-2)) hx hb dX12_total_25 (by decide) ?_
  refine W.widen (k := 0) (n := 0) (Nat.le_of_ble_eq_true rfl) (Nat.le_of_ble_eq_true rfl) ?_
  exact W.iret (v := (-2)) hx hb hr (fun t ht hW => ⟨⟨(-2), (), rfl, rfl, trivial⟩, hS.F ht⟩) hS.2.2 dX12_total_27

set_option maxHeartbeats 4000000 in
set_option maxRecDepth 100000 in
theorem m_ring (l : Launch) (dC : Nat → ClassId) (dI : Nat → Nat → Nat) (m0 : Nat) (g0 : Nat) (g1 : Nat) (g2 : Nat) (g3 : Nat) (g4 : Nat) (g9 : Nat) (g17 : Nat) (g18 : Nat) (g20 : Nat) (g21 : Nat) (g22 : Nat) (g23 : Nat) (g24 : Nat) (g25 : Nat) (g26 : Nat) (g27 : Nat) (g28 : Nat) (g29 : Nat) (g30 : Nat) (sz : Nat) (k0 : Int32) (k1 : Int32) : Met l yX12_ring (wT yX12_ring cX12_ring 4 (some .int)) ({ frames := 2, cells := 0, slots := 0, locals := 46 }) (pcW dC dI [.ref m0, .int k0, .int k1] sz [(m0, .inr (12, [.ref g0, .ref g1, .ref g2, .ref g3, .ref g4, .int 0, .int 0, .int 0, .int 0, .ref g9, .int 0, .int 0, .int 0, .int 0, .int (-1), .int 0, .int 0, .ref g17, .ref g18, .int 0, .ref g20, .ref g21, .ref g22, .ref g23, .ref g24, .ref g25, .ref g26, .ref g27, .ref g28, .ref g29, .ref g30, .int 0]))] []) (va_Qi (fun (r : Int32) (_ : Unit) => r = (-2)) (fun _ _ => True) (va_A [(m0, .inr (12, [.ref g0, .ref g1, .ref g2, .ref g3, .ref g4, .int 0, .int 0, .int 0, .int 0, .ref g9, .int 0, .int 0, .int 0, .int 0, .int (-1), .int 0, .int 0, .ref g17, .ref g18, .int 0, .ref g20, .ref g21, .ref g22, .ref g23, .ref g24, .ref g25, .ref g26, .ref g27, .ref g28, .ref g29, .ref g30, .int 0]))] sz)) 0 0 (va_A [(m0, .inr (12, [.ref g0, .ref g1, .ref g2, .ref g3, .ref g4, .int 0, .int 0, .int 0, .int 0, .ref g9, .int 0, .int 0, .int 0, .int 0, .int (-1), .int 0, .int 0, .ref g17, .ref g18, .int 0, .ref g20, .ref g21, .ref g22, .ref g23, .ref g24, .ref g25, .ref g26, .ref g27, .ref g28, .ref g29, .ref g30, .int 0]))] sz) := by
  refine Met.ofW (cc := cX12_ring) (maxL := 4) (ret := (some .int)) (by decide) rfl ?_
  intro p e s m args below meth c s₁ B hml hv
  obtain ⟨rfl, hsz, hP, hK, hD0⟩ := hv
  have hx := B.exec
  have hb := B.bytes
  have hr := B.returns
  have hT : ∀ w ∈ TB, w.before [.ref m0, .int k0, .int k1].toArray s = true := fun w h => atoms_spec (ws := wT yX12_ring cX12_ring 4 (some .int)) B.pre w (List.mem_cons_of_mem _ h)
  have hown : s.vm.findClass RX12 = some m.cls := findClass_of_methodNamed B.named
  have hlocks := B.notSynchronized
  subst hsz
  have hD := hD0.self (sz := s.heap.size)
  generalize hAe : va_A [(m0, .inr (12, [.ref g0, .ref g1, .ref g2, .ref g3, .ref g4, .int 0, .int 0, .int 0, .int 0, .ref g9, .int 0, .int 0, .int 0, .int 0, .int (-1), .int 0, .int 0, .ref g17, .ref g18, .int 0, .ref g20, .ref g21, .ref g22, .ref g23, .ref g24, .ref g25, .ref g26, .ref g27, .ref g28, .ref g29, .ref g30, .int 0]))] s.heap.size = A at hD ⊢
  have hA : ∀ q : Nat, s.heap.size ≤ q → A q := fun q h => by rw [← hAe]; exact Or.inr h
  have hS : va_S A s.heap s.heap [] := va_S.rf
  have hP : va_P (dC, dI) vwCl [(m0, .inr (12, [.ref g0, .ref g1, .ref g2, .ref g3, .ref g4, .int 0, .int 0, .int 0, .int 0, .ref g9, .int 0, .int 0, .int 0, .int 0, .int (-1), .int 0, .int 0, .ref g17, .ref g18, .int 0, .ref g20, .ref g21, .ref g22, .ref g23, .ref g24, .ref g25, .ref g26, .ref g27, .ref g28, .ref g29, .ref g30, .int 0]))] s.heap := hP
  have hl := lv_entry ([.ref m0, .int k0, .int k1]) (n := 4) (Nat.le_of_ble_eq_true rfl)
  rw [lg_entry_eq]
  generalize (lg_sl ([.ref m0, .int k0, .int k1]) ++ List.replicate (4 - (lg_sl ([.ref m0, .int k0, .int k1])).length) Slot.unset).toArray = ls at hl ⊢
  have hl : lv_has ls 4 [(0, .ref m0), (1, .int k0), (2, .int k1)] := hl
  refine lv_aload_n hx hb dX12_ring_0 rfl (lv_at hl 0 rfl) ?_
  refine lv_iconst (v := 0) hx hb dX12_ring_1 (by decide) ?_
  refine va_put (D := (dC, dI)) (ci := 12) (v := .int 0) (ty := .int) (C := RX12) (T := TX12) (N := 32) hx hb hT iX12 tyX12 tyX12_ok nmX12 hown hK hP hD hS 0 rfl rfl 8 (by decide) (hT _ w1090) (fun _ h9 => h9) rfl (by decide +kernel) rfl rfl (Nat.le_of_ble_eq_true rfl) dX12_ring_2 (fun H locs hP hD hS => ?_)
  have hP : va_P (dC, dI) vwCl [(m0, .inr (12, [.ref g0, .ref g1, .ref g2, .ref g3, .ref g4, .int 0, .int 0, .int 0, .int 0, .ref g9, .int 0, .int 0, .int 0, .int 0, .int (-1), .int 0, .int 0, .ref g17, .ref g18, .int 0, .ref g20, .ref g21, .ref g22, .ref g23, .ref g24, .ref g25, .ref g26, .ref g27, .ref g28, .ref g29, .ref g30, .int 0]))] H := hP
  have hD : va_D A [(m0, .inr (12, [.ref g0, .ref g1, .ref g2, .ref g3, .ref g4, .int 0, .int 0, .int 0, .int 0, .ref g9, .int 0, .int 0, .int 0, .int 0, .int (-1), .int 0, .int 0, .ref g17, .ref g18, .int 0, .ref g20, .ref g21, .ref g22, .ref g23, .ref g24, .ref g25, .ref g26, .ref g27, .ref g28, .ref g29, .ref g30, .int 0]))] := hD
  refine lv_aload_n hx hb dX12_ring_5 rfl (lv_at hl 0 rfl) ?_
  refine lv_iload_n hx hb dX12_ring_6 rfl (lv_at hl 1 rfl) ?_
  have hPc := hP.sub (ws' := [(m0, .inr (12, [.ref g0, .ref g1, .ref g2, .ref g3, .ref g4, .int 0, .int 0, .int 0, .int 0, .ref g9, .int 0, .int 0, .int 0, .int 0, .int (-1), .int 0, .int 0, .ref g17, .ref g18, .int 0, .ref g20, .ref g21, .ref g22, .ref g23, .ref g24, .ref g25, .ref g26, .ref g27, .ref g28, .ref g29, .ref g30, .int 0]))]) [0] rfl
  have hDc := hD.sub (ws' := [(m0, .inr (12, [.ref g0, .ref g1, .ref g2, .ref g3, .ref g4, .int 0, .int 0, .int 0, .int 0, .ref g9, .int 0, .int 0, .int 0, .int 0, .int (-1), .int 0, .int 0, .ref g17, .ref g18, .int 0, .ref g20, .ref g21, .ref g22, .ref g23, .ref g24, .ref g25, .ref g26, .ref g27, .ref g28, .ref g29, .ref g30, .int 0]))]) [0] (by decide) rfl
  have hKc := hK.sub (tys' := []) [] rfl
  refine vp_callSi (va_Run.run (va_runV (As := [.int k0]) (rest := []) ⟨hx, hb, hml, hown, hT⟩ (m_isKind l dC dI m0 g0 g1 g2 g3 g4 g9 g17 g18 g20 g21 g22 g23 g24 g25 g26 g27 g28 g29 g30 H.size k0) (cwV 1 hT (gV w1288 w1290 ws74 w14 w1291) rfl rfl rfl (by decide +kernel) ⟨(Nat.le_of_ble_eq_true rfl), (Nat.le_of_ble_eq_true rfl)⟩) ⟨pcW.blind, va_recv hKc hPc (ci := 12) (q0 := 0) rfl rfl, pcW.pre hPc hKc hDc⟩ rfl rfl hl.1 rfl (lv_room (Nat.le_of_ble_eq_true rfl)) dX12_ring_7 ⟨(Nat.le_of_ble_eq_true rfl), (Nat.le_of_ble_eq_true rfl)⟩)) (fun r_7 hr_7 => ?_)
  obtain rfl : r_7 = 0 := hr_7
  refine lv_if_ne (tgt := 16) hx hb dX12_ring_10 (by decide) (fun h => absurd (by decide) h) (fun _ => ?_)
  refine lv_bipush (v := (-2)) hx hb dX12_ring_13 (by decide) ?_
  refine W.widen (k := 0) (n := 0) (Nat.le_of_ble_eq_true rfl) (Nat.le_of_ble_eq_true rfl) ?_
  exact W.iret (v := (-2)) hx hb hr (fun t ht hW => ⟨⟨(-2), (), rfl, rfl, trivial⟩, hS.F ht⟩) hS.2.2 dX12_ring_15

set_option maxHeartbeats 4000000 in
set_option maxRecDepth 100000 in
theorem m_load (l : Launch) (dC : Nat → ClassId) (dI : Nat → Nat → Nat) (m0 : Nat) (g0 : Nat) (g1 : Nat) (g2 : Nat) (g3 : Nat) (g4 : Nat) (g9 : Nat) (g17 : Nat) (g18 : Nat) (g20 : Nat) (g21 : Nat) (g22 : Nat) (g23 : Nat) (g24 : Nat) (g25 : Nat) (g26 : Nat) (g27 : Nat) (g28 : Nat) (g29 : Nat) (g30 : Nat) (sz : Nat) (k0 : Int32) : Met l yX12_load (wT yX12_load cX12_load 2 (some .int)) ({ frames := 2, cells := 0, slots := 0, locals := 46 }) (pcW dC dI [.ref m0, .int k0] sz [(m0, .inr (12, [.ref g0, .ref g1, .ref g2, .ref g3, .ref g4, .int 0, .int 0, .int 0, .int 0, .ref g9, .int 0, .int 0, .int 0, .int 0, .int (-1), .int 0, .int 0, .ref g17, .ref g18, .int 0, .ref g20, .ref g21, .ref g22, .ref g23, .ref g24, .ref g25, .ref g26, .ref g27, .ref g28, .ref g29, .ref g30, .int 0]))] []) (va_Qi (fun (r : Int32) (_ : Unit) => r = (-2)) (fun _ _ => True) (va_A [(m0, .inr (12, [.ref g0, .ref g1, .ref g2, .ref g3, .ref g4, .int 0, .int 0, .int 0, .int 0, .ref g9, .int 0, .int 0, .int 0, .int 0, .int (-1), .int 0, .int 0, .ref g17, .ref g18, .int 0, .ref g20, .ref g21, .ref g22, .ref g23, .ref g24, .ref g25, .ref g26, .ref g27, .ref g28, .ref g29, .ref g30, .int 0]))] sz)) 0 0 (va_A [(m0, .inr (12, [.ref g0, .ref g1, .ref g2, .ref g3, .ref g4, .int 0, .int 0, .int 0, .int 0, .ref g9, .int 0, .int 0, .int 0, .int 0, .int (-1), .int 0, .int 0, .ref g17, .ref g18, .int 0, .ref g20, .ref g21, .ref g22, .ref g23, .ref g24, .ref g25, .ref g26, .ref g27, .ref g28, .ref g29, .ref g30, .int 0]))] sz) := by
  refine Met.ofW (cc := cX12_load) (maxL := 2) (ret := (some .int)) (by decide) rfl ?_
  intro p e s m args below meth c s₁ B hml hv
  obtain ⟨rfl, hsz, hP, hK, hD0⟩ := hv
  have hx := B.exec
  have hb := B.bytes
  have hr := B.returns
  have hT : ∀ w ∈ TB, w.before [.ref m0, .int k0].toArray s = true := fun w h => atoms_spec (ws := wT yX12_load cX12_load 2 (some .int)) B.pre w (List.mem_cons_of_mem _ h)
  have hown : s.vm.findClass RX12 = some m.cls := findClass_of_methodNamed B.named
  have hlocks := B.notSynchronized
  subst hsz
  have hD := hD0.self (sz := s.heap.size)
  generalize hAe : va_A [(m0, .inr (12, [.ref g0, .ref g1, .ref g2, .ref g3, .ref g4, .int 0, .int 0, .int 0, .int 0, .ref g9, .int 0, .int 0, .int 0, .int 0, .int (-1), .int 0, .int 0, .ref g17, .ref g18, .int 0, .ref g20, .ref g21, .ref g22, .ref g23, .ref g24, .ref g25, .ref g26, .ref g27, .ref g28, .ref g29, .ref g30, .int 0]))] s.heap.size = A at hD ⊢
  have hA : ∀ q : Nat, s.heap.size ≤ q → A q := fun q h => by rw [← hAe]; exact Or.inr h
  have hS : va_S A s.heap s.heap [] := va_S.rf
  have hP : va_P (dC, dI) vwCl [(m0, .inr (12, [.ref g0, .ref g1, .ref g2, .ref g3, .ref g4, .int 0, .int 0, .int 0, .int 0, .ref g9, .int 0, .int 0, .int 0, .int 0, .int (-1), .int 0, .int 0, .ref g17, .ref g18, .int 0, .ref g20, .ref g21, .ref g22, .ref g23, .ref g24, .ref g25, .ref g26, .ref g27, .ref g28, .ref g29, .ref g30, .int 0]))] s.heap := hP
  have hl := lv_entry ([.ref m0, .int k0]) (n := 2) (Nat.le_of_ble_eq_true rfl)
  rw [lg_entry_eq]
  generalize (lg_sl ([.ref m0, .int k0]) ++ List.replicate (2 - (lg_sl ([.ref m0, .int k0])).length) Slot.unset).toArray = ls at hl ⊢
  have hl : lv_has ls 2 [(0, .ref m0), (1, .int k0)] := hl
  refine lv_aload_n hx hb dX12_load_0 rfl (lv_at hl 0 rfl) ?_
  refine lv_iconst (v := 0) hx hb dX12_load_1 (by decide) ?_
  refine va_put (D := (dC, dI)) (ci := 12) (v := .int 0) (ty := .int) (C := RX12) (T := TX12) (N := 32) hx hb hT iX12 tyX12 tyX12_ok nmX12 hown hK hP hD hS 0 rfl rfl 8 (by decide) (hT _ w1090) (fun _ h9 => h9) rfl (by decide +kernel) rfl rfl (Nat.le_of_ble_eq_true rfl) dX12_load_2 (fun H locs hP hD hS => ?_)
  have hP : va_P (dC, dI) vwCl [(m0, .inr (12, [.ref g0, .ref g1, .ref g2, .ref g3, .ref g4, .int 0, .int 0, .int 0, .int 0, .ref g9, .int 0, .int 0, .int 0, .int 0, .int (-1), .int 0, .int 0, .ref g17, .ref g18, .int 0, .ref g20, .ref g21, .ref g22, .ref g23, .ref g24, .ref g25, .ref g26, .ref g27, .ref g28, .ref g29, .ref g30, .int 0]))] H := hP
  have hD : va_D A [(m0, .inr (12, [.ref g0, .ref g1, .ref g2, .ref g3, .ref g4, .int 0, .int 0, .int 0, .int 0, .ref g9, .int 0, .int 0, .int 0, .int 0, .int (-1), .int 0, .int 0, .ref g17, .ref g18, .int 0, .ref g20, .ref g21, .ref g22, .ref g23, .ref g24, .ref g25, .ref g26, .ref g27, .ref g28, .ref g29, .ref g30, .int 0]))] := hD
  refine lv_aload_n hx hb dX12_load_5 rfl (lv_at hl 0 rfl) ?_
  refine lv_iload_n hx hb dX12_load_6 rfl (lv_at hl 1 rfl) ?_
  have hPc := hP.sub (ws' := [(m0, .inr (12, [.ref g0, .ref g1, .ref g2, .ref g3, .ref g4, .int 0, .int 0, .int 0, .int 0, .ref g9, .int 0, .int 0, .int 0, .int 0, .int (-1), .int 0, .int 0, .ref g17, .ref g18, .int 0, .ref g20, .ref g21, .ref g22, .ref g23, .ref g24, .ref g25, .ref g26, .ref g27, .ref g28, .ref g29, .ref g30, .int 0]))]) [0] rfl
  have hDc := hD.sub (ws' := [(m0, .inr (12, [.ref g0, .ref g1, .ref g2, .ref g3, .ref g4, .int 0, .int 0, .int 0, .int 0, .ref g9, .int 0, .int 0, .int 0, .int 0, .int (-1), .int 0, .int 0, .ref g17, .ref g18, .int 0, .ref g20, .ref g21, .ref g22, .ref g23, .ref g24, .ref g25, .ref g26, .ref g27, .ref g28, .ref g29, .ref g30, .int 0]))]) [0] (by decide) rfl
  have hKc := hK.sub (tys' := []) [] rfl
  refine vp_callSi (va_Run.run (va_runV (As := [.int k0]) (rest := []) ⟨hx, hb, hml, hown, hT⟩ (m_isKind l dC dI m0 g0 g1 g2 g3 g4 g9 g17 g18 g20 g21 g22 g23 g24 g25 g26 g27 g28 g29 g30 H.size k0) (cwV 1 hT (gV w1288 w1290 ws74 w14 w1291) rfl rfl rfl (by decide +kernel) ⟨(Nat.le_of_ble_eq_true rfl), (Nat.le_of_ble_eq_true rfl)⟩) ⟨pcW.blind, va_recv hKc hPc (ci := 12) (q0 := 0) rfl rfl, pcW.pre hPc hKc hDc⟩ rfl rfl hl.1 rfl (lv_room (Nat.le_of_ble_eq_true rfl)) dX12_load_7 ⟨(Nat.le_of_ble_eq_true rfl), (Nat.le_of_ble_eq_true rfl)⟩)) (fun r_7 hr_7 => ?_)
  obtain rfl : r_7 = 0 := hr_7
  refine lv_if_ne (tgt := 16) hx hb dX12_load_10 (by decide) (fun h => absurd (by decide) h) (fun _ => ?_)
  refine lv_bipush (v := (-2)) hx hb dX12_load_13 (by decide) ?_
  refine W.widen (k := 0) (n := 0) (Nat.le_of_ble_eq_true rfl) (Nat.le_of_ble_eq_true rfl) ?_
  exact W.iret (v := (-2)) hx hb hr (fun t ht hW => ⟨⟨(-2), (), rfl, rfl, trivial⟩, hS.F ht⟩) hS.2.2 dX12_load_15

set_option maxHeartbeats 4000000 in
set_option maxRecDepth 100000 in
theorem m_cleared (l : Launch) (dC : Nat → ClassId) (dI : Nat → Nat → Nat) (m0 : Nat) (g0 : Nat) (g1 : Nat) (g2 : Nat) (g3 : Nat) (g4 : Nat) (g9 : Nat) (g17 : Nat) (g18 : Nat) (g20 : Nat) (g21 : Nat) (g22 : Nat) (g23 : Nat) (g24 : Nat) (g25 : Nat) (g26 : Nat) (g27 : Nat) (g28 : Nat) (g29 : Nat) (g30 : Nat) (sz : Nat) (k0 : Int32) (k1 : Int32) : Met l yX12_cleared (wT yX12_cleared cX12_cleared 5 (some .int)) ({ frames := 2, cells := 0, slots := 0, locals := 46 }) (pcW dC dI [.ref m0, .int k0, .int k1] sz [(m0, .inr (12, [.ref g0, .ref g1, .ref g2, .ref g3, .ref g4, .int 0, .int 0, .int 0, .int 0, .ref g9, .int 0, .int 0, .int 0, .int 0, .int (-1), .int 0, .int 0, .ref g17, .ref g18, .int 0, .ref g20, .ref g21, .ref g22, .ref g23, .ref g24, .ref g25, .ref g26, .ref g27, .ref g28, .ref g29, .ref g30, .int 0]))] []) (va_Qi (fun (r : Int32) (_ : Unit) => r = (-2)) (fun _ _ => True) (va_A [(m0, .inr (12, [.ref g0, .ref g1, .ref g2, .ref g3, .ref g4, .int 0, .int 0, .int 0, .int 0, .ref g9, .int 0, .int 0, .int 0, .int 0, .int (-1), .int 0, .int 0, .ref g17, .ref g18, .int 0, .ref g20, .ref g21, .ref g22, .ref g23, .ref g24, .ref g25, .ref g26, .ref g27, .ref g28, .ref g29, .ref g30, .int 0]))] sz)) 0 0 (va_A [(m0, .inr (12, [.ref g0, .ref g1, .ref g2, .ref g3, .ref g4, .int 0, .int 0, .int 0, .int 0, .ref g9, .int 0, .int 0, .int 0, .int 0, .int (-1), .int 0, .int 0, .ref g17, .ref g18, .int 0, .ref g20, .ref g21, .ref g22, .ref g23, .ref g24, .ref g25, .ref g26, .ref g27, .ref g28, .ref g29, .ref g30, .int 0]))] sz) := by
  refine Met.ofW (cc := cX12_cleared) (maxL := 5) (ret := (some .int)) (by decide) rfl ?_
  intro p e s m args below meth c s₁ B hml hv
  obtain ⟨rfl, hsz, hP, hK, hD0⟩ := hv
  have hx := B.exec
  have hb := B.bytes
  have hr := B.returns
  have hT : ∀ w ∈ TB, w.before [.ref m0, .int k0, .int k1].toArray s = true := fun w h => atoms_spec (ws := wT yX12_cleared cX12_cleared 5 (some .int)) B.pre w (List.mem_cons_of_mem _ h)
  have hown : s.vm.findClass RX12 = some m.cls := findClass_of_methodNamed B.named
  have hlocks := B.notSynchronized
  subst hsz
  have hD := hD0.self (sz := s.heap.size)
  generalize hAe : va_A [(m0, .inr (12, [.ref g0, .ref g1, .ref g2, .ref g3, .ref g4, .int 0, .int 0, .int 0, .int 0, .ref g9, .int 0, .int 0, .int 0, .int 0, .int (-1), .int 0, .int 0, .ref g17, .ref g18, .int 0, .ref g20, .ref g21, .ref g22, .ref g23, .ref g24, .ref g25, .ref g26, .ref g27, .ref g28, .ref g29, .ref g30, .int 0]))] s.heap.size = A at hD ⊢
  have hA : ∀ q : Nat, s.heap.size ≤ q → A q := fun q h => by rw [← hAe]; exact Or.inr h
  have hS : va_S A s.heap s.heap [] := va_S.rf
  have hP : va_P (dC, dI) vwCl [(m0, .inr (12, [.ref g0, .ref g1, .ref g2, .ref g3, .ref g4, .int 0, .int 0, .int 0, .int 0, .ref g9, .int 0, .int 0, .int 0, .int 0, .int (-1), .int 0, .int 0, .ref g17, .ref g18, .int 0, .ref g20, .ref g21, .ref g22, .ref g23, .ref g24, .ref g25, .ref g26, .ref g27, .ref g28, .ref g29, .ref g30, .int 0]))] s.heap := hP
  have hl := lv_entry ([.ref m0, .int k0, .int k1]) (n := 5) (Nat.le_of_ble_eq_true rfl)
  rw [lg_entry_eq]
  generalize (lg_sl ([.ref m0, .int k0, .int k1]) ++ List.replicate (5 - (lg_sl ([.ref m0, .int k0, .int k1])).length) Slot.unset).toArray = ls at hl ⊢
  have hl : lv_has ls 5 [(0, .ref m0), (1, .int k0), (2, .int k1)] := hl
  refine lv_aload_n hx hb dX12_cleared_0 rfl (lv_at hl 0 rfl) ?_
  refine lv_iconst (v := 0) hx hb dX12_cleared_1 (by decide) ?_
  refine va_put (D := (dC, dI)) (ci := 12) (v := .int 0) (ty := .int) (C := RX12) (T := TX12) (N := 32) hx hb hT iX12 tyX12 tyX12_ok nmX12 hown hK hP hD hS 0 rfl rfl 8 (by decide) (hT _ w1090) (fun _ h9 => h9) rfl (by decide +kernel) rfl rfl (Nat.le_of_ble_eq_true rfl) dX12_cleared_2 (fun H locs hP hD hS => ?_)
  have hP : va_P (dC, dI) vwCl [(m0, .inr (12, [.ref g0, .ref g1, .ref g2, .ref g3, .ref g4, .int 0, .int 0, .int 0, .int 0, .ref g9, .int 0, .int 0, .int 0, .int 0, .int (-1), .int 0, .int 0, .ref g17, .ref g18, .int 0, .ref g20, .ref g21, .ref g22, .ref g23, .ref g24, .ref g25, .ref g26, .ref g27, .ref g28, .ref g29, .ref g30, .int 0]))] H := hP
  have hD : va_D A [(m0, .inr (12, [.ref g0, .ref g1, .ref g2, .ref g3, .ref g4, .int 0, .int 0, .int 0, .int 0, .ref g9, .int 0, .int 0, .int 0, .int 0, .int (-1), .int 0, .int 0, .ref g17, .ref g18, .int 0, .ref g20, .ref g21, .ref g22, .ref g23, .ref g24, .ref g25, .ref g26, .ref g27, .ref g28, .ref g29, .ref g30, .int 0]))] := hD
  refine lv_aload_n hx hb dX12_cleared_5 rfl (lv_at hl 0 rfl) ?_
  refine lv_iload_n hx hb dX12_cleared_6 rfl (lv_at hl 1 rfl) ?_
  have hPc := hP.sub (ws' := [(m0, .inr (12, [.ref g0, .ref g1, .ref g2, .ref g3, .ref g4, .int 0, .int 0, .int 0, .int 0, .ref g9, .int 0, .int 0, .int 0, .int 0, .int (-1), .int 0, .int 0, .ref g17, .ref g18, .int 0, .ref g20, .ref g21, .ref g22, .ref g23, .ref g24, .ref g25, .ref g26, .ref g27, .ref g28, .ref g29, .ref g30, .int 0]))]) [0] rfl
  have hDc := hD.sub (ws' := [(m0, .inr (12, [.ref g0, .ref g1, .ref g2, .ref g3, .ref g4, .int 0, .int 0, .int 0, .int 0, .ref g9, .int 0, .int 0, .int 0, .int 0, .int (-1), .int 0, .int 0, .ref g17, .ref g18, .int 0, .ref g20, .ref g21, .ref g22, .ref g23, .ref g24, .ref g25, .ref g26, .ref g27, .ref g28, .ref g29, .ref g30, .int 0]))]) [0] (by decide) rfl
  have hKc := hK.sub (tys' := []) [] rfl
  refine vp_callSi (va_Run.run (va_runV (As := [.int k0]) (rest := []) ⟨hx, hb, hml, hown, hT⟩ (m_isKind l dC dI m0 g0 g1 g2 g3 g4 g9 g17 g18 g20 g21 g22 g23 g24 g25 g26 g27 g28 g29 g30 H.size k0) (cwV 1 hT (gV w1288 w1290 ws74 w14 w1291) rfl rfl rfl (by decide +kernel) ⟨(Nat.le_of_ble_eq_true rfl), (Nat.le_of_ble_eq_true rfl)⟩) ⟨pcW.blind, va_recv hKc hPc (ci := 12) (q0 := 0) rfl rfl, pcW.pre hPc hKc hDc⟩ rfl rfl hl.1 rfl (lv_room (Nat.le_of_ble_eq_true rfl)) dX12_cleared_7 ⟨(Nat.le_of_ble_eq_true rfl), (Nat.le_of_ble_eq_true rfl)⟩)) (fun r_7 hr_7 => ?_)
  obtain rfl : r_7 = 0 := hr_7
  refine lv_if_eq (tgt := 25) hx hb dX12_cleared_10 (by decide) (fun _ => ?_) (fun h => absurd (by decide) h)
  refine lv_bipush (v := (-2)) hx hb dX12_cleared_25 (by decide) ?_
  refine W.widen (k := 0) (n := 0) (Nat.le_of_ble_eq_true rfl) (Nat.le_of_ble_eq_true rfl) ?_
  exact W.iret (v := (-2)) hx hb hr (fun t ht hW => ⟨⟨(-2), (), rfl, rfl, trivial⟩, hS.F ht⟩) hS.2.2 dX12_cleared_27

set_option maxHeartbeats 4000000 in
set_option maxRecDepth 100000 in
theorem m_rounds (l : Launch) (dC : Nat → ClassId) (dI : Nat → Nat → Nat) (m0 : Nat) (g0 : Nat) (g1 : Nat) (g2 : Nat) (g3 : Nat) (g4 : Nat) (g9 : Nat) (g17 : Nat) (g18 : Nat) (g20 : Nat) (g21 : Nat) (g22 : Nat) (g23 : Nat) (g24 : Nat) (g25 : Nat) (g26 : Nat) (g27 : Nat) (g28 : Nat) (g29 : Nat) (g30 : Nat) (sz : Nat) (k0 : Int32) (k1 : Int32) : Met l yX12_rounds (wT yX12_rounds cX12_rounds 4 (some .int)) ({ frames := 2, cells := 0, slots := 0, locals := 46 }) (pcW dC dI [.ref m0, .int k0, .int k1] sz [(m0, .inr (12, [.ref g0, .ref g1, .ref g2, .ref g3, .ref g4, .int 0, .int 0, .int 0, .int 0, .ref g9, .int 0, .int 0, .int 0, .int 0, .int (-1), .int 0, .int 0, .ref g17, .ref g18, .int 0, .ref g20, .ref g21, .ref g22, .ref g23, .ref g24, .ref g25, .ref g26, .ref g27, .ref g28, .ref g29, .ref g30, .int 0]))] []) (va_Qi (fun (r : Int32) (_ : Unit) => r = (-2)) (fun _ _ => True) (va_A [(m0, .inr (12, [.ref g0, .ref g1, .ref g2, .ref g3, .ref g4, .int 0, .int 0, .int 0, .int 0, .ref g9, .int 0, .int 0, .int 0, .int 0, .int (-1), .int 0, .int 0, .ref g17, .ref g18, .int 0, .ref g20, .ref g21, .ref g22, .ref g23, .ref g24, .ref g25, .ref g26, .ref g27, .ref g28, .ref g29, .ref g30, .int 0]))] sz)) 0 0 (va_A [(m0, .inr (12, [.ref g0, .ref g1, .ref g2, .ref g3, .ref g4, .int 0, .int 0, .int 0, .int 0, .ref g9, .int 0, .int 0, .int 0, .int 0, .int (-1), .int 0, .int 0, .ref g17, .ref g18, .int 0, .ref g20, .ref g21, .ref g22, .ref g23, .ref g24, .ref g25, .ref g26, .ref g27, .ref g28, .ref g29, .ref g30, .int 0]))] sz) := by
  refine Met.ofW (cc := cX12_rounds) (maxL := 4) (ret := (some .int)) (by decide) rfl ?_
  intro p e s m args below meth c s₁ B hml hv
  obtain ⟨rfl, hsz, hP, hK, hD0⟩ := hv
  have hx := B.exec
  have hb := B.bytes
  have hr := B.returns
  have hT : ∀ w ∈ TB, w.before [.ref m0, .int k0, .int k1].toArray s = true := fun w h => atoms_spec (ws := wT yX12_rounds cX12_rounds 4 (some .int)) B.pre w (List.mem_cons_of_mem _ h)
  have hown : s.vm.findClass RX12 = some m.cls := findClass_of_methodNamed B.named
  have hlocks := B.notSynchronized
  subst hsz
  have hD := hD0.self (sz := s.heap.size)
  generalize hAe : va_A [(m0, .inr (12, [.ref g0, .ref g1, .ref g2, .ref g3, .ref g4, .int 0, .int 0, .int 0, .int 0, .ref g9, .int 0, .int 0, .int 0, .int 0, .int (-1), .int 0, .int 0, .ref g17, .ref g18, .int 0, .ref g20, .ref g21, .ref g22, .ref g23, .ref g24, .ref g25, .ref g26, .ref g27, .ref g28, .ref g29, .ref g30, .int 0]))] s.heap.size = A at hD ⊢
  have hA : ∀ q : Nat, s.heap.size ≤ q → A q := fun q h => by rw [← hAe]; exact Or.inr h
  have hS : va_S A s.heap s.heap [] := va_S.rf
  have hP : va_P (dC, dI) vwCl [(m0, .inr (12, [.ref g0, .ref g1, .ref g2, .ref g3, .ref g4, .int 0, .int 0, .int 0, .int 0, .ref g9, .int 0, .int 0, .int 0, .int 0, .int (-1), .int 0, .int 0, .ref g17, .ref g18, .int 0, .ref g20, .ref g21, .ref g22, .ref g23, .ref g24, .ref g25, .ref g26, .ref g27, .ref g28, .ref g29, .ref g30, .int 0]))] s.heap := hP
  have hl := lv_entry ([.ref m0, .int k0, .int k1]) (n := 4) (Nat.le_of_ble_eq_true rfl)
  rw [lg_entry_eq]
  generalize (lg_sl ([.ref m0, .int k0, .int k1]) ++ List.replicate (4 - (lg_sl ([.ref m0, .int k0, .int k1])).length) Slot.unset).toArray = ls at hl ⊢
  have hl : lv_has ls 4 [(0, .ref m0), (1, .int k0), (2, .int k1)] := hl
  refine lv_aload_n hx hb dX12_rounds_0 rfl (lv_at hl 0 rfl) ?_
  refine lv_iconst (v := 0) hx hb dX12_rounds_1 (by decide) ?_
  refine va_put (D := (dC, dI)) (ci := 12) (v := .int 0) (ty := .int) (C := RX12) (T := TX12) (N := 32) hx hb hT iX12 tyX12 tyX12_ok nmX12 hown hK hP hD hS 0 rfl rfl 8 (by decide) (hT _ w1090) (fun _ h9 => h9) rfl (by decide +kernel) rfl rfl (Nat.le_of_ble_eq_true rfl) dX12_rounds_2 (fun H locs hP hD hS => ?_)
  have hP : va_P (dC, dI) vwCl [(m0, .inr (12, [.ref g0, .ref g1, .ref g2, .ref g3, .ref g4, .int 0, .int 0, .int 0, .int 0, .ref g9, .int 0, .int 0, .int 0, .int 0, .int (-1), .int 0, .int 0, .ref g17, .ref g18, .int 0, .ref g20, .ref g21, .ref g22, .ref g23, .ref g24, .ref g25, .ref g26, .ref g27, .ref g28, .ref g29, .ref g30, .int 0]))] H := hP
  have hD : va_D A [(m0, .inr (12, [.ref g0, .ref g1, .ref g2, .ref g3, .ref g4, .int 0, .int 0, .int 0, .int 0, .ref g9, .int 0, .int 0, .int 0, .int 0, .int (-1), .int 0, .int 0, .ref g17, .ref g18, .int 0, .ref g20, .ref g21, .ref g22, .ref g23, .ref g24, .ref g25, .ref g26, .ref g27, .ref g28, .ref g29, .ref g30, .int 0]))] := hD
  refine lv_aload_n hx hb dX12_rounds_5 rfl (lv_at hl 0 rfl) ?_
  refine lv_iload_n hx hb dX12_rounds_6 rfl (lv_at hl 1 rfl) ?_
  have hPc := hP.sub (ws' := [(m0, .inr (12, [.ref g0, .ref g1, .ref g2, .ref g3, .ref g4, .int 0, .int 0, .int 0, .int 0, .ref g9, .int 0, .int 0, .int 0, .int 0, .int (-1), .int 0, .int 0, .ref g17, .ref g18, .int 0, .ref g20, .ref g21, .ref g22, .ref g23, .ref g24, .ref g25, .ref g26, .ref g27, .ref g28, .ref g29, .ref g30, .int 0]))]) [0] rfl
  have hDc := hD.sub (ws' := [(m0, .inr (12, [.ref g0, .ref g1, .ref g2, .ref g3, .ref g4, .int 0, .int 0, .int 0, .int 0, .ref g9, .int 0, .int 0, .int 0, .int 0, .int (-1), .int 0, .int 0, .ref g17, .ref g18, .int 0, .ref g20, .ref g21, .ref g22, .ref g23, .ref g24, .ref g25, .ref g26, .ref g27, .ref g28, .ref g29, .ref g30, .int 0]))]) [0] (by decide) rfl
  have hKc := hK.sub (tys' := []) [] rfl
  refine vp_callSi (va_Run.run (va_runV (As := [.int k0]) (rest := []) ⟨hx, hb, hml, hown, hT⟩ (m_isKind l dC dI m0 g0 g1 g2 g3 g4 g9 g17 g18 g20 g21 g22 g23 g24 g25 g26 g27 g28 g29 g30 H.size k0) (cwV 1 hT (gV w1288 w1290 ws74 w14 w1291) rfl rfl rfl (by decide +kernel) ⟨(Nat.le_of_ble_eq_true rfl), (Nat.le_of_ble_eq_true rfl)⟩) ⟨pcW.blind, va_recv hKc hPc (ci := 12) (q0 := 0) rfl rfl, pcW.pre hPc hKc hDc⟩ rfl rfl hl.1 rfl (lv_room (Nat.le_of_ble_eq_true rfl)) dX12_rounds_7 ⟨(Nat.le_of_ble_eq_true rfl), (Nat.le_of_ble_eq_true rfl)⟩)) (fun r_7 hr_7 => ?_)
  obtain rfl : r_7 = 0 := hr_7
  refine lv_if_ne (tgt := 16) hx hb dX12_rounds_10 (by decide) (fun h => absurd (by decide) h) (fun _ => ?_)
  refine lv_bipush (v := (-2)) hx hb dX12_rounds_13 (by decide) ?_
  refine W.widen (k := 0) (n := 0) (Nat.le_of_ble_eq_true rfl) (Nat.le_of_ble_eq_true rfl) ?_
  exact W.iret (v := (-2)) hx hb hr (fun t ht hW => ⟨⟨(-2), (), rfl, rfl, trivial⟩, hS.F ht⟩) hS.2.2 dX12_rounds_15

set_option maxHeartbeats 4000000 in
set_option maxRecDepth 100000 in
theorem m_chain (l : Launch) (dC : Nat → ClassId) (dI : Nat → Nat → Nat) (m0 : Nat) (g0 : Nat) (g1 : Nat) (g2 : Nat) (g3 : Nat) (g4 : Nat) (g9 : Nat) (g17 : Nat) (g18 : Nat) (g20 : Nat) (g21 : Nat) (g22 : Nat) (g23 : Nat) (g24 : Nat) (g25 : Nat) (g26 : Nat) (g27 : Nat) (g28 : Nat) (g29 : Nat) (g30 : Nat) (sz : Nat) (k0 : Int32) (k1 : Int32) : Met l yX12_chain (wT yX12_chain cX12_chain 6 (some .int)) ({ frames := 2, cells := 0, slots := 0, locals := 46 }) (pcW dC dI [.ref m0, .int k0, .int k1] sz [(m0, .inr (12, [.ref g0, .ref g1, .ref g2, .ref g3, .ref g4, .int 0, .int 0, .int 0, .int 0, .ref g9, .int 0, .int 0, .int 0, .int 0, .int (-1), .int 0, .int 0, .ref g17, .ref g18, .int 0, .ref g20, .ref g21, .ref g22, .ref g23, .ref g24, .ref g25, .ref g26, .ref g27, .ref g28, .ref g29, .ref g30, .int 0]))] []) (va_Qi (fun (r : Int32) (_ : Unit) => r = (-2)) (fun _ _ => True) (va_A [(m0, .inr (12, [.ref g0, .ref g1, .ref g2, .ref g3, .ref g4, .int 0, .int 0, .int 0, .int 0, .ref g9, .int 0, .int 0, .int 0, .int 0, .int (-1), .int 0, .int 0, .ref g17, .ref g18, .int 0, .ref g20, .ref g21, .ref g22, .ref g23, .ref g24, .ref g25, .ref g26, .ref g27, .ref g28, .ref g29, .ref g30, .int 0]))] sz)) 0 0 (va_A [(m0, .inr (12, [.ref g0, .ref g1, .ref g2, .ref g3, .ref g4, .int 0, .int 0, .int 0, .int 0, .ref g9, .int 0, .int 0, .int 0, .int 0, .int (-1), .int 0, .int 0, .ref g17, .ref g18, .int 0, .ref g20, .ref g21, .ref g22, .ref g23, .ref g24, .ref g25, .ref g26, .ref g27, .ref g28, .ref g29, .ref g30, .int 0]))] sz) := by
  refine Met.ofW (cc := cX12_chain) (maxL := 6) (ret := (some .int)) (by decide) rfl ?_
  intro p e s m args below meth c s₁ B hml hv
  obtain ⟨rfl, hsz, hP, hK, hD0⟩ := hv
  have hx := B.exec
  have hb := B.bytes
  have hr := B.returns
  have hT : ∀ w ∈ TB, w.before [.ref m0, .int k0, .int k1].toArray s = true := fun w h => atoms_spec (ws := wT yX12_chain cX12_chain 6 (some .int)) B.pre w (List.mem_cons_of_mem _ h)
  have hown : s.vm.findClass RX12 = some m.cls := findClass_of_methodNamed B.named
  have hlocks := B.notSynchronized
  subst hsz
  have hD := hD0.self (sz := s.heap.size)
  generalize hAe : va_A [(m0, .inr (12, [.ref g0, .ref g1, .ref g2, .ref g3, .ref g4, .int 0, .int 0, .int 0, .int 0, .ref g9, .int 0, .int 0, .int 0, .int 0, .int (-1), .int 0, .int 0, .ref g17, .ref g18, .int 0, .ref g20, .ref g21, .ref g22, .ref g23, .ref g24, .ref g25, .ref g26, .ref g27, .ref g28, .ref g29, .ref g30, .int 0]))] s.heap.size = A at hD ⊢
  have hA : ∀ q : Nat, s.heap.size ≤ q → A q := fun q h => by rw [← hAe]; exact Or.inr h
  have hS : va_S A s.heap s.heap [] := va_S.rf
  have hP : va_P (dC, dI) vwCl [(m0, .inr (12, [.ref g0, .ref g1, .ref g2, .ref g3, .ref g4, .int 0, .int 0, .int 0, .int 0, .ref g9, .int 0, .int 0, .int 0, .int 0, .int (-1), .int 0, .int 0, .ref g17, .ref g18, .int 0, .ref g20, .ref g21, .ref g22, .ref g23, .ref g24, .ref g25, .ref g26, .ref g27, .ref g28, .ref g29, .ref g30, .int 0]))] s.heap := hP
  have hl := lv_entry ([.ref m0, .int k0, .int k1]) (n := 6) (Nat.le_of_ble_eq_true rfl)
  rw [lg_entry_eq]
  generalize (lg_sl ([.ref m0, .int k0, .int k1]) ++ List.replicate (6 - (lg_sl ([.ref m0, .int k0, .int k1])).length) Slot.unset).toArray = ls at hl ⊢
  have hl : lv_has ls 6 [(0, .ref m0), (1, .int k0), (2, .int k1)] := hl
  refine lv_aload_n hx hb dX12_chain_0 rfl (lv_at hl 0 rfl) ?_
  refine lv_iconst (v := 0) hx hb dX12_chain_1 (by decide) ?_
  refine va_put (D := (dC, dI)) (ci := 12) (v := .int 0) (ty := .int) (C := RX12) (T := TX12) (N := 32) hx hb hT iX12 tyX12 tyX12_ok nmX12 hown hK hP hD hS 0 rfl rfl 8 (by decide) (hT _ w1090) (fun _ h9 => h9) rfl (by decide +kernel) rfl rfl (Nat.le_of_ble_eq_true rfl) dX12_chain_2 (fun H locs hP hD hS => ?_)
  have hP : va_P (dC, dI) vwCl [(m0, .inr (12, [.ref g0, .ref g1, .ref g2, .ref g3, .ref g4, .int 0, .int 0, .int 0, .int 0, .ref g9, .int 0, .int 0, .int 0, .int 0, .int (-1), .int 0, .int 0, .ref g17, .ref g18, .int 0, .ref g20, .ref g21, .ref g22, .ref g23, .ref g24, .ref g25, .ref g26, .ref g27, .ref g28, .ref g29, .ref g30, .int 0]))] H := hP
  have hD : va_D A [(m0, .inr (12, [.ref g0, .ref g1, .ref g2, .ref g3, .ref g4, .int 0, .int 0, .int 0, .int 0, .ref g9, .int 0, .int 0, .int 0, .int 0, .int (-1), .int 0, .int 0, .ref g17, .ref g18, .int 0, .ref g20, .ref g21, .ref g22, .ref g23, .ref g24, .ref g25, .ref g26, .ref g27, .ref g28, .ref g29, .ref g30, .int 0]))] := hD
  refine lv_aload_n hx hb dX12_chain_5 rfl (lv_at hl 0 rfl) ?_
  refine lv_iload_n hx hb dX12_chain_6 rfl (lv_at hl 1 rfl) ?_
  have hPc := hP.sub (ws' := [(m0, .inr (12, [.ref g0, .ref g1, .ref g2, .ref g3, .ref g4, .int 0, .int 0, .int 0, .int 0, .ref g9, .int 0, .int 0, .int 0, .int 0, .int (-1), .int 0, .int 0, .ref g17, .ref g18, .int 0, .ref g20, .ref g21, .ref g22, .ref g23, .ref g24, .ref g25, .ref g26, .ref g27, .ref g28, .ref g29, .ref g30, .int 0]))]) [0] rfl
  have hDc := hD.sub (ws' := [(m0, .inr (12, [.ref g0, .ref g1, .ref g2, .ref g3, .ref g4, .int 0, .int 0, .int 0, .int 0, .ref g9, .int 0, .int 0, .int 0, .int 0, .int (-1), .int 0, .int 0, .ref g17, .ref g18, .int 0, .ref g20, .ref g21, .ref g22, .ref g23, .ref g24, .ref g25, .ref g26, .ref g27, .ref g28, .ref g29, .ref g30, .int 0]))]) [0] (by decide) rfl
  have hKc := hK.sub (tys' := []) [] rfl
  refine vp_callSi (va_Run.run (va_runV (As := [.int k0]) (rest := []) ⟨hx, hb, hml, hown, hT⟩ (m_isKind l dC dI m0 g0 g1 g2 g3 g4 g9 g17 g18 g20 g21 g22 g23 g24 g25 g26 g27 g28 g29 g30 H.size k0) (cwV 1 hT (gV w1288 w1290 ws74 w14 w1291) rfl rfl rfl (by decide +kernel) ⟨(Nat.le_of_ble_eq_true rfl), (Nat.le_of_ble_eq_true rfl)⟩) ⟨pcW.blind, va_recv hKc hPc (ci := 12) (q0 := 0) rfl rfl, pcW.pre hPc hKc hDc⟩ rfl rfl hl.1 rfl (lv_room (Nat.le_of_ble_eq_true rfl)) dX12_chain_7 ⟨(Nat.le_of_ble_eq_true rfl), (Nat.le_of_ble_eq_true rfl)⟩)) (fun r_7 hr_7 => ?_)
  obtain rfl : r_7 = 0 := hr_7
  refine lv_if_ne (tgt := 16) hx hb dX12_chain_10 (by decide) (fun h => absurd (by decide) h) (fun _ => ?_)
  refine lv_bipush (v := (-2)) hx hb dX12_chain_13 (by decide) ?_
  refine W.widen (k := 0) (n := 0) (Nat.le_of_ble_eq_true rfl) (Nat.le_of_ble_eq_true rfl) ?_
  exact W.iret (v := (-2)) hx hb hr (fun t ht hW => ⟨⟨(-2), (), rfl, rfl, trivial⟩, hS.F ht⟩) hS.2.2 dX12_chain_15

set_option maxHeartbeats 4000000 in
set_option maxRecDepth 100000 in
theorem m_least (l : Launch) (dC : Nat → ClassId) (dI : Nat → Nat → Nat) (m0 : Nat) (g0 : Nat) (g1 : Nat) (g2 : Nat) (g3 : Nat) (g4 : Nat) (g9 : Nat) (g17 : Nat) (g18 : Nat) (g20 : Nat) (g21 : Nat) (g22 : Nat) (g23 : Nat) (g24 : Nat) (g25 : Nat) (g26 : Nat) (g27 : Nat) (g28 : Nat) (g29 : Nat) (g30 : Nat) (sz : Nat) (k0 : Int32) : Met l yX12_least (wT yX12_least cX12_least 2 (some .int)) ({ frames := 2, cells := 0, slots := 0, locals := 46 }) (pcW dC dI [.ref m0, .int k0] sz [(m0, .inr (12, [.ref g0, .ref g1, .ref g2, .ref g3, .ref g4, .int 0, .int 0, .int 0, .int 0, .ref g9, .int 0, .int 0, .int 0, .int 0, .int (-1), .int 0, .int 0, .ref g17, .ref g18, .int 0, .ref g20, .ref g21, .ref g22, .ref g23, .ref g24, .ref g25, .ref g26, .ref g27, .ref g28, .ref g29, .ref g30, .int 0]))] []) (va_Qi (fun (r : Int32) (_ : Unit) => r = (-2)) (fun _ _ => True) (va_A [(m0, .inr (12, [.ref g0, .ref g1, .ref g2, .ref g3, .ref g4, .int 0, .int 0, .int 0, .int 0, .ref g9, .int 0, .int 0, .int 0, .int 0, .int (-1), .int 0, .int 0, .ref g17, .ref g18, .int 0, .ref g20, .ref g21, .ref g22, .ref g23, .ref g24, .ref g25, .ref g26, .ref g27, .ref g28, .ref g29, .ref g30, .int 0]))] sz)) 0 0 (va_A [(m0, .inr (12, [.ref g0, .ref g1, .ref g2, .ref g3, .ref g4, .int 0, .int 0, .int 0, .int 0, .ref g9, .int 0, .int 0, .int 0, .int 0, .int (-1), .int 0, .int 0, .ref g17, .ref g18, .int 0, .ref g20, .ref g21, .ref g22, .ref g23, .ref g24, .ref g25, .ref g26, .ref g27, .ref g28, .ref g29, .ref g30, .int 0]))] sz) := by
  refine Met.ofW (cc := cX12_least) (maxL := 2) (ret := (some .int)) (by decide) rfl ?_
  intro p e s m args below meth c s₁ B hml hv
  obtain ⟨rfl, hsz, hP, hK, hD0⟩ := hv
  have hx := B.exec
  have hb := B.bytes
  have hr := B.returns
  have hT : ∀ w ∈ TB, w.before [.ref m0, .int k0].toArray s = true := fun w h => atoms_spec (ws := wT yX12_least cX12_least 2 (some .int)) B.pre w (List.mem_cons_of_mem _ h)
  have hown : s.vm.findClass RX12 = some m.cls := findClass_of_methodNamed B.named
  have hlocks := B.notSynchronized
  subst hsz
  have hD := hD0.self (sz := s.heap.size)
  generalize hAe : va_A [(m0, .inr (12, [.ref g0, .ref g1, .ref g2, .ref g3, .ref g4, .int 0, .int 0, .int 0, .int 0, .ref g9, .int 0, .int 0, .int 0, .int 0, .int (-1), .int 0, .int 0, .ref g17, .ref g18, .int 0, .ref g20, .ref g21, .ref g22, .ref g23, .ref g24, .ref g25, .ref g26, .ref g27, .ref g28, .ref g29, .ref g30, .int 0]))] s.heap.size = A at hD ⊢
  have hA : ∀ q : Nat, s.heap.size ≤ q → A q := fun q h => by rw [← hAe]; exact Or.inr h
  have hS : va_S A s.heap s.heap [] := va_S.rf
  have hP : va_P (dC, dI) vwCl [(m0, .inr (12, [.ref g0, .ref g1, .ref g2, .ref g3, .ref g4, .int 0, .int 0, .int 0, .int 0, .ref g9, .int 0, .int 0, .int 0, .int 0, .int (-1), .int 0, .int 0, .ref g17, .ref g18, .int 0, .ref g20, .ref g21, .ref g22, .ref g23, .ref g24, .ref g25, .ref g26, .ref g27, .ref g28, .ref g29, .ref g30, .int 0]))] s.heap := hP
  have hl := lv_entry ([.ref m0, .int k0]) (n := 2) (Nat.le_of_ble_eq_true rfl)
  rw [lg_entry_eq]
  generalize (lg_sl ([.ref m0, .int k0]) ++ List.replicate (2 - (lg_sl ([.ref m0, .int k0])).length) Slot.unset).toArray = ls at hl ⊢
  have hl : lv_has ls 2 [(0, .ref m0), (1, .int k0)] := hl
  refine lv_aload_n hx hb dX12_least_0 rfl (lv_at hl 0 rfl) ?_
  refine lv_iconst (v := 0) hx hb dX12_least_1 (by decide) ?_
  refine va_put (D := (dC, dI)) (ci := 12) (v := .int 0) (ty := .int) (C := RX12) (T := TX12) (N := 32) hx hb hT iX12 tyX12 tyX12_ok nmX12 hown hK hP hD hS 0 rfl rfl 8 (by decide) (hT _ w1090) (fun _ h9 => h9) rfl (by decide +kernel) rfl rfl (Nat.le_of_ble_eq_true rfl) dX12_least_2 (fun H locs hP hD hS => ?_)
  have hP : va_P (dC, dI) vwCl [(m0, .inr (12, [.ref g0, .ref g1, .ref g2, .ref g3, .ref g4, .int 0, .int 0, .int 0, .int 0, .ref g9, .int 0, .int 0, .int 0, .int 0, .int (-1), .int 0, .int 0, .ref g17, .ref g18, .int 0, .ref g20, .ref g21, .ref g22, .ref g23, .ref g24, .ref g25, .ref g26, .ref g27, .ref g28, .ref g29, .ref g30, .int 0]))] H := hP
  have hD : va_D A [(m0, .inr (12, [.ref g0, .ref g1, .ref g2, .ref g3, .ref g4, .int 0, .int 0, .int 0, .int 0, .ref g9, .int 0, .int 0, .int 0, .int 0, .int (-1), .int 0, .int 0, .ref g17, .ref g18, .int 0, .ref g20, .ref g21, .ref g22, .ref g23, .ref g24, .ref g25, .ref g26, .ref g27, .ref g28, .ref g29, .ref g30, .int 0]))] := hD
  refine lv_aload_n hx hb dX12_least_5 rfl (lv_at hl 0 rfl) ?_
  refine lv_iload_n hx hb dX12_least_6 rfl (lv_at hl 1 rfl) ?_
  have hPc := hP.sub (ws' := [(m0, .inr (12, [.ref g0, .ref g1, .ref g2, .ref g3, .ref g4, .int 0, .int 0, .int 0, .int 0, .ref g9, .int 0, .int 0, .int 0, .int 0, .int (-1), .int 0, .int 0, .ref g17, .ref g18, .int 0, .ref g20, .ref g21, .ref g22, .ref g23, .ref g24, .ref g25, .ref g26, .ref g27, .ref g28, .ref g29, .ref g30, .int 0]))]) [0] rfl
  have hDc := hD.sub (ws' := [(m0, .inr (12, [.ref g0, .ref g1, .ref g2, .ref g3, .ref g4, .int 0, .int 0, .int 0, .int 0, .ref g9, .int 0, .int 0, .int 0, .int 0, .int (-1), .int 0, .int 0, .ref g17, .ref g18, .int 0, .ref g20, .ref g21, .ref g22, .ref g23, .ref g24, .ref g25, .ref g26, .ref g27, .ref g28, .ref g29, .ref g30, .int 0]))]) [0] (by decide) rfl
  have hKc := hK.sub (tys' := []) [] rfl
  refine vp_callSi (va_Run.run (va_runV (As := [.int k0]) (rest := []) ⟨hx, hb, hml, hown, hT⟩ (m_isKind l dC dI m0 g0 g1 g2 g3 g4 g9 g17 g18 g20 g21 g22 g23 g24 g25 g26 g27 g28 g29 g30 H.size k0) (cwV 1 hT (gV w1288 w1290 ws74 w14 w1291) rfl rfl rfl (by decide +kernel) ⟨(Nat.le_of_ble_eq_true rfl), (Nat.le_of_ble_eq_true rfl)⟩) ⟨pcW.blind, va_recv hKc hPc (ci := 12) (q0 := 0) rfl rfl, pcW.pre hPc hKc hDc⟩ rfl rfl hl.1 rfl (lv_room (Nat.le_of_ble_eq_true rfl)) dX12_least_7 ⟨(Nat.le_of_ble_eq_true rfl), (Nat.le_of_ble_eq_true rfl)⟩)) (fun r_7 hr_7 => ?_)
  obtain rfl : r_7 = 0 := hr_7
  refine lv_if_ne (tgt := 16) hx hb dX12_least_10 (by decide) (fun h => absurd (by decide) h) (fun _ => ?_)
  refine lv_bipush (v := (-2)) hx hb dX12_least_13 (by decide) ?_
  refine W.widen (k := 0) (n := 0) (Nat.le_of_ble_eq_true rfl) (Nat.le_of_ble_eq_true rfl) ?_
  exact W.iret (v := (-2)) hx hb hr (fun t ht hW => ⟨⟨(-2), (), rfl, rfl, trivial⟩, hS.F ht⟩) hS.2.2 dX12_least_15

set_option maxHeartbeats 4000000 in
set_option maxRecDepth 100000 in
theorem m_couples (l : Launch) (dC : Nat → ClassId) (dI : Nat → Nat → Nat) (m0 : Nat) (g0 : Nat) (g1 : Nat) (g2 : Nat) (g3 : Nat) (g4 : Nat) (g9 : Nat) (g17 : Nat) (g18 : Nat) (g20 : Nat) (g21 : Nat) (g22 : Nat) (g23 : Nat) (g24 : Nat) (g25 : Nat) (g26 : Nat) (g27 : Nat) (g28 : Nat) (g29 : Nat) (g30 : Nat) (sz : Nat) (k0 : Int32) : Met l yX12_couples (wT yX12_couples cX12_couples 2 (some .int)) ({ frames := 2, cells := 0, slots := 0, locals := 46 }) (pcW dC dI [.ref m0, .int k0] sz [(m0, .inr (12, [.ref g0, .ref g1, .ref g2, .ref g3, .ref g4, .int 0, .int 0, .int 0, .int 0, .ref g9, .int 0, .int 0, .int 0, .int 0, .int (-1), .int 0, .int 0, .ref g17, .ref g18, .int 0, .ref g20, .ref g21, .ref g22, .ref g23, .ref g24, .ref g25, .ref g26, .ref g27, .ref g28, .ref g29, .ref g30, .int 0]))] []) (va_Qi (fun (r : Int32) (_ : Unit) => r = (-2)) (fun _ _ => True) (va_A [(m0, .inr (12, [.ref g0, .ref g1, .ref g2, .ref g3, .ref g4, .int 0, .int 0, .int 0, .int 0, .ref g9, .int 0, .int 0, .int 0, .int 0, .int (-1), .int 0, .int 0, .ref g17, .ref g18, .int 0, .ref g20, .ref g21, .ref g22, .ref g23, .ref g24, .ref g25, .ref g26, .ref g27, .ref g28, .ref g29, .ref g30, .int 0]))] sz)) 0 0 (va_A [(m0, .inr (12, [.ref g0, .ref g1, .ref g2, .ref g3, .ref g4, .int 0, .int 0, .int 0, .int 0, .ref g9, .int 0, .int 0, .int 0, .int 0, .int (-1), .int 0, .int 0, .ref g17, .ref g18, .int 0, .ref g20, .ref g21, .ref g22, .ref g23, .ref g24, .ref g25, .ref g26, .ref g27, .ref g28, .ref g29, .ref g30, .int 0]))] sz) := by
  refine Met.ofW (cc := cX12_couples) (maxL := 2) (ret := (some .int)) (by decide) rfl ?_
  intro p e s m args below meth c s₁ B hml hv
  obtain ⟨rfl, hsz, hP, hK, hD0⟩ := hv
  have hx := B.exec
  have hb := B.bytes
  have hr := B.returns
  have hT : ∀ w ∈ TB, w.before [.ref m0, .int k0].toArray s = true := fun w h => atoms_spec (ws := wT yX12_couples cX12_couples 2 (some .int)) B.pre w (List.mem_cons_of_mem _ h)
  have hown : s.vm.findClass RX12 = some m.cls := findClass_of_methodNamed B.named
  have hlocks := B.notSynchronized
  subst hsz
  have hD := hD0.self (sz := s.heap.size)
  generalize hAe : va_A [(m0, .inr (12, [.ref g0, .ref g1, .ref g2, .ref g3, .ref g4, .int 0, .int 0, .int 0, .int 0, .ref g9, .int 0, .int 0, .int 0, .int 0, .int (-1), .int 0, .int 0, .ref g17, .ref g18, .int 0, .ref g20, .ref g21, .ref g22, .ref g23, .ref g24, .ref g25, .ref g26, .ref g27, .ref g28, .ref g29, .ref g30, .int 0]))] s.heap.size = A at hD ⊢
  have hA : ∀ q : Nat, s.heap.size ≤ q → A q := fun q h => by rw [← hAe]; exact Or.inr h
  have hS : va_S A s.heap s.heap [] := va_S.rf
  have hP : va_P (dC, dI) vwCl [(m0, .inr (12, [.ref g0, .ref g1, .ref g2, .ref g3, .ref g4, .int 0, .int 0, .int 0, .int 0, .ref g9, .int 0, .int 0, .int 0, .int 0, .int (-1), .int 0, .int 0, .ref g17, .ref g18, .int 0, .ref g20, .ref g21, .ref g22, .ref g23, .ref g24, .ref g25, .ref g26, .ref g27, .ref g28, .ref g29, .ref g30, .int 0]))] s.heap := hP
  have hl := lv_entry ([.ref m0, .int k0]) (n := 2) (Nat.le_of_ble_eq_true rfl)
  rw [lg_entry_eq]
  generalize (lg_sl ([.ref m0, .int k0]) ++ List.replicate (2 - (lg_sl ([.ref m0, .int k0])).length) Slot.unset).toArray = ls at hl ⊢
  have hl : lv_has ls 2 [(0, .ref m0), (1, .int k0)] := hl
  refine lv_aload_n hx hb dX12_couples_0 rfl (lv_at hl 0 rfl) ?_
  refine lv_iconst (v := 0) hx hb dX12_couples_1 (by decide) ?_
  refine va_put (D := (dC, dI)) (ci := 12) (v := .int 0) (ty := .int) (C := RX12) (T := TX12) (N := 32) hx hb hT iX12 tyX12 tyX12_ok nmX12 hown hK hP hD hS 0 rfl rfl 8 (by decide) (hT _ w1090) (fun _ h9 => h9) rfl (by decide +kernel) rfl rfl (Nat.le_of_ble_eq_true rfl) dX12_couples_2 (fun H locs hP hD hS => ?_)
  have hP : va_P (dC, dI) vwCl [(m0, .inr (12, [.ref g0, .ref g1, .ref g2, .ref g3, .ref g4, .int 0, .int 0, .int 0, .int 0, .ref g9, .int 0, .int 0, .int 0, .int 0, .int (-1), .int 0, .int 0, .ref g17, .ref g18, .int 0, .ref g20, .ref g21, .ref g22, .ref g23, .ref g24, .ref g25, .ref g26, .ref g27, .ref g28, .ref g29, .ref g30, .int 0]))] H := hP
  have hD : va_D A [(m0, .inr (12, [.ref g0, .ref g1, .ref g2, .ref g3, .ref g4, .int 0, .int 0, .int 0, .int 0, .ref g9, .int 0, .int 0, .int 0, .int 0, .int (-1), .int 0, .int 0, .ref g17, .ref g18, .int 0, .ref g20, .ref g21, .ref g22, .ref g23, .ref g24, .ref g25, .ref g26, .ref g27, .ref g28, .ref g29, .ref g30, .int 0]))] := hD
  refine lv_aload_n hx hb dX12_couples_5 rfl (lv_at hl 0 rfl) ?_
  refine lv_iload_n hx hb dX12_couples_6 rfl (lv_at hl 1 rfl) ?_
  have hPc := hP.sub (ws' := [(m0, .inr (12, [.ref g0, .ref g1, .ref g2, .ref g3, .ref g4, .int 0, .int 0, .int 0, .int 0, .ref g9, .int 0, .int 0, .int 0, .int 0, .int (-1), .int 0, .int 0, .ref g17, .ref g18, .int 0, .ref g20, .ref g21, .ref g22, .ref g23, .ref g24, .ref g25, .ref g26, .ref g27, .ref g28, .ref g29, .ref g30, .int 0]))]) [0] rfl
  have hDc := hD.sub (ws' := [(m0, .inr (12, [.ref g0, .ref g1, .ref g2, .ref g3, .ref g4, .int 0, .int 0, .int 0, .int 0, .ref g9, .int 0, .int 0, .int 0, .int 0, .int (-1), .int 0, .int 0, .ref g17, .ref g18, .int 0, .ref g20, .ref g21, .ref g22, .ref g23, .ref g24, .ref g25, .ref g26, .ref g27, .ref g28, .ref g29, .ref g30, .int 0]))]) [0] (by decide) rfl
  have hKc := hK.sub (tys' := []) [] rfl
  refine vp_callSi (va_Run.run (va_runV (As := [.int k0]) (rest := []) ⟨hx, hb, hml, hown, hT⟩ (m_isKind l dC dI m0 g0 g1 g2 g3 g4 g9 g17 g18 g20 g21 g22 g23 g24 g25 g26 g27 g28 g29 g30 H.size k0) (cwV 1 hT (gV w1288 w1290 ws74 w14 w1291) rfl rfl rfl (by decide +kernel) ⟨(Nat.le_of_ble_eq_true rfl), (Nat.le_of_ble_eq_true rfl)⟩) ⟨pcW.blind, va_recv hKc hPc (ci := 12) (q0 := 0) rfl rfl, pcW.pre hPc hKc hDc⟩ rfl rfl hl.1 rfl (lv_room (Nat.le_of_ble_eq_true rfl)) dX12_couples_7 ⟨(Nat.le_of_ble_eq_true rfl), (Nat.le_of_ble_eq_true rfl)⟩)) (fun r_7 hr_7 => ?_)
  obtain rfl : r_7 = 0 := hr_7
  refine lv_if_ne (tgt := 16) hx hb dX12_couples_10 (by decide) (fun h => absurd (by decide) h) (fun _ => ?_)
  refine lv_bipush (v := (-2)) hx hb dX12_couples_13 (by decide) ?_
  refine W.widen (k := 0) (n := 0) (Nat.le_of_ble_eq_true rfl) (Nat.le_of_ble_eq_true rfl) ?_
  exact W.iret (v := (-2)) hx hb hr (fun t ht hW => ⟨⟨(-2), (), rfl, rfl, trivial⟩, hS.F ht⟩) hS.2.2 dX12_couples_15

set_option maxHeartbeats 4000000 in
set_option maxRecDepth 100000 in
theorem m_relieved (l : Launch) (dC : Nat → ClassId) (dI : Nat → Nat → Nat) (m0 : Nat) (g0 : Nat) (g1 : Nat) (g2 : Nat) (g3 : Nat) (g4 : Nat) (g9 : Nat) (g17 : Nat) (g18 : Nat) (g20 : Nat) (g21 : Nat) (g22 : Nat) (g23 : Nat) (g24 : Nat) (g25 : Nat) (g26 : Nat) (g27 : Nat) (g28 : Nat) (g29 : Nat) (g30 : Nat) (sz : Nat) (k0 : Int32) : Met l yX12_relieved (wT yX12_relieved cX12_relieved 4 (some .int)) ({ frames := 2, cells := 0, slots := 0, locals := 46 }) (pcW dC dI [.ref m0, .int k0] sz [(m0, .inr (12, [.ref g0, .ref g1, .ref g2, .ref g3, .ref g4, .int 0, .int 0, .int 0, .int 0, .ref g9, .int 0, .int 0, .int 0, .int 0, .int (-1), .int 0, .int 0, .ref g17, .ref g18, .int 0, .ref g20, .ref g21, .ref g22, .ref g23, .ref g24, .ref g25, .ref g26, .ref g27, .ref g28, .ref g29, .ref g30, .int 0]))] []) (va_Qi (fun (r : Int32) (_ : Unit) => r = (-2)) (fun _ _ => True) (va_A [(m0, .inr (12, [.ref g0, .ref g1, .ref g2, .ref g3, .ref g4, .int 0, .int 0, .int 0, .int 0, .ref g9, .int 0, .int 0, .int 0, .int 0, .int (-1), .int 0, .int 0, .ref g17, .ref g18, .int 0, .ref g20, .ref g21, .ref g22, .ref g23, .ref g24, .ref g25, .ref g26, .ref g27, .ref g28, .ref g29, .ref g30, .int 0]))] sz)) 0 0 (va_A [(m0, .inr (12, [.ref g0, .ref g1, .ref g2, .ref g3, .ref g4, .int 0, .int 0, .int 0, .int 0, .ref g9, .int 0, .int 0, .int 0, .int 0, .int (-1), .int 0, .int 0, .ref g17, .ref g18, .int 0, .ref g20, .ref g21, .ref g22, .ref g23, .ref g24, .ref g25, .ref g26, .ref g27, .ref g28, .ref g29, .ref g30, .int 0]))] sz) := by
  refine Met.ofW (cc := cX12_relieved) (maxL := 4) (ret := (some .int)) (by decide) rfl ?_
  intro p e s m args below meth c s₁ B hml hv
  obtain ⟨rfl, hsz, hP, hK, hD0⟩ := hv
  have hx := B.exec
  have hb := B.bytes
  have hr := B.returns
  have hT : ∀ w ∈ TB, w.before [.ref m0, .int k0].toArray s = true := fun w h => atoms_spec (ws := wT yX12_relieved cX12_relieved 4 (some .int)) B.pre w (List.mem_cons_of_mem _ h)
  have hown : s.vm.findClass RX12 = some m.cls := findClass_of_methodNamed B.named
  have hlocks := B.notSynchronized
  subst hsz
  have hD := hD0.self (sz := s.heap.size)
  generalize hAe : va_A [(m0, .inr (12, [.ref g0, .ref g1, .ref g2, .ref g3, .ref g4, .int 0, .int 0, .int 0, .int 0, .ref g9, .int 0, .int 0, .int 0, .int 0, .int (-1), .int 0, .int 0, .ref g17, .ref g18, .int 0, .ref g20, .ref g21, .ref g22, .ref g23, .ref g24, .ref g25, .ref g26, .ref g27, .ref g28, .ref g29, .ref g30, .int 0]))] s.heap.size = A at hD ⊢
  have hA : ∀ q : Nat, s.heap.size ≤ q → A q := fun q h => by rw [← hAe]; exact Or.inr h
  have hS : va_S A s.heap s.heap [] := va_S.rf
  have hP : va_P (dC, dI) vwCl [(m0, .inr (12, [.ref g0, .ref g1, .ref g2, .ref g3, .ref g4, .int 0, .int 0, .int 0, .int 0, .ref g9, .int 0, .int 0, .int 0, .int 0, .int (-1), .int 0, .int 0, .ref g17, .ref g18, .int 0, .ref g20, .ref g21, .ref g22, .ref g23, .ref g24, .ref g25, .ref g26, .ref g27, .ref g28, .ref g29, .ref g30, .int 0]))] s.heap := hP
  have hl := lv_entry ([.ref m0, .int k0]) (n := 4) (Nat.le_of_ble_eq_true rfl)
  rw [lg_entry_eq]
  generalize (lg_sl ([.ref m0, .int k0]) ++ List.replicate (4 - (lg_sl ([.ref m0, .int k0])).length) Slot.unset).toArray = ls at hl ⊢
  have hl : lv_has ls 4 [(0, .ref m0), (1, .int k0)] := hl
  refine lv_aload_n hx hb dX12_relieved_0 rfl (lv_at hl 0 rfl) ?_
  refine lv_iconst (v := 0) hx hb dX12_relieved_1 (by decide) ?_
  refine va_put (D := (dC, dI)) (ci := 12) (v := .int 0) (ty := .int) (C := RX12) (T := TX12) (N := 32) hx hb hT iX12 tyX12 tyX12_ok nmX12 hown hK hP hD hS 0 rfl rfl 8 (by decide) (hT _ w1090) (fun _ h9 => h9) rfl (by decide +kernel) rfl rfl (Nat.le_of_ble_eq_true rfl) dX12_relieved_2 (fun H locs hP hD hS => ?_)
  have hP : va_P (dC, dI) vwCl [(m0, .inr (12, [.ref g0, .ref g1, .ref g2, .ref g3, .ref g4, .int 0, .int 0, .int 0, .int 0, .ref g9, .int 0, .int 0, .int 0, .int 0, .int (-1), .int 0, .int 0, .ref g17, .ref g18, .int 0, .ref g20, .ref g21, .ref g22, .ref g23, .ref g24, .ref g25, .ref g26, .ref g27, .ref g28, .ref g29, .ref g30, .int 0]))] H := hP
  have hD : va_D A [(m0, .inr (12, [.ref g0, .ref g1, .ref g2, .ref g3, .ref g4, .int 0, .int 0, .int 0, .int 0, .ref g9, .int 0, .int 0, .int 0, .int 0, .int (-1), .int 0, .int 0, .ref g17, .ref g18, .int 0, .ref g20, .ref g21, .ref g22, .ref g23, .ref g24, .ref g25, .ref g26, .ref g27, .ref g28, .ref g29, .ref g30, .int 0]))] := hD
  refine lv_aload_n hx hb dX12_relieved_5 rfl (lv_at hl 0 rfl) ?_
  refine lv_iload_n hx hb dX12_relieved_6 rfl (lv_at hl 1 rfl) ?_
  have hPc := hP.sub (ws' := [(m0, .inr (12, [.ref g0, .ref g1, .ref g2, .ref g3, .ref g4, .int 0, .int 0, .int 0, .int 0, .ref g9, .int 0, .int 0, .int 0, .int 0, .int (-1), .int 0, .int 0, .ref g17, .ref g18, .int 0, .ref g20, .ref g21, .ref g22, .ref g23, .ref g24, .ref g25, .ref g26, .ref g27, .ref g28, .ref g29, .ref g30, .int 0]))]) [0] rfl
  have hDc := hD.sub (ws' := [(m0, .inr (12, [.ref g0, .ref g1, .ref g2, .ref g3, .ref g4, .int 0, .int 0, .int 0, .int 0, .ref g9, .int 0, .int 0, .int 0, .int 0, .int (-1), .int 0, .int 0, .ref g17, .ref g18, .int 0, .ref g20, .ref g21, .ref g22, .ref g23, .ref g24, .ref g25, .ref g26, .ref g27, .ref g28, .ref g29, .ref g30, .int 0]))]) [0] (by decide) rfl
  have hKc := hK.sub (tys' := []) [] rfl
  refine vp_callSi (va_Run.run (va_runV (As := [.int k0]) (rest := []) ⟨hx, hb, hml, hown, hT⟩ (m_isKind l dC dI m0 g0 g1 g2 g3 g4 g9 g17 g18 g20 g21 g22 g23 g24 g25 g26 g27 g28 g29 g30 H.size k0) (cwV 1 hT (gV w1288 w1290 ws74 w14 w1291) rfl rfl rfl (by decide +kernel) ⟨(Nat.le_of_ble_eq_true rfl), (Nat.le_of_ble_eq_true rfl)⟩) ⟨pcW.blind, va_recv hKc hPc (ci := 12) (q0 := 0) rfl rfl, pcW.pre hPc hKc hDc⟩ rfl rfl hl.1 rfl (lv_room (Nat.le_of_ble_eq_true rfl)) dX12_relieved_7 ⟨(Nat.le_of_ble_eq_true rfl), (Nat.le_of_ble_eq_true rfl)⟩)) (fun r_7 hr_7 => ?_)
  obtain rfl : r_7 = 0 := hr_7
  refine lv_if_ne (tgt := 16) hx hb dX12_relieved_10 (by decide) (fun h => absurd (by decide) h) (fun _ => ?_)
  refine lv_bipush (v := (-2)) hx hb dX12_relieved_13 (by decide) ?_
  refine W.widen (k := 0) (n := 0) (Nat.le_of_ble_eq_true rfl) (Nat.le_of_ble_eq_true rfl) ?_
  exact W.iret (v := (-2)) hx hb hr (fun t ht hW => ⟨⟨(-2), (), rfl, rfl, trivial⟩, hS.F ht⟩) hS.2.2 dX12_relieved_15

set_option maxHeartbeats 4000000 in
set_option maxRecDepth 100000 in
theorem m_fewest (l : Launch) (dC : Nat → ClassId) (dI : Nat → Nat → Nat) (m0 : Nat) (g0 : Nat) (g1 : Nat) (g2 : Nat) (g3 : Nat) (g4 : Nat) (g9 : Nat) (g17 : Nat) (g18 : Nat) (g20 : Nat) (g21 : Nat) (g22 : Nat) (g23 : Nat) (g24 : Nat) (g25 : Nat) (g26 : Nat) (g27 : Nat) (g28 : Nat) (g29 : Nat) (g30 : Nat) (sz : Nat) (k0 : Int32) (k1 : Int32) : Met l yX12_fewest (wT yX12_fewest cX12_fewest 7 (some .int)) ({ frames := 2, cells := 0, slots := 0, locals := 46 }) (pcW dC dI [.ref m0, .int k0, .int k1] sz [(m0, .inr (12, [.ref g0, .ref g1, .ref g2, .ref g3, .ref g4, .int 0, .int 0, .int 0, .int 0, .ref g9, .int 0, .int 0, .int 0, .int 0, .int (-1), .int 0, .int 0, .ref g17, .ref g18, .int 0, .ref g20, .ref g21, .ref g22, .ref g23, .ref g24, .ref g25, .ref g26, .ref g27, .ref g28, .ref g29, .ref g30, .int 0]))] []) (va_Qi (fun (r : Int32) (_ : Unit) => r = (-2)) (fun _ _ => True) (va_A [(m0, .inr (12, [.ref g0, .ref g1, .ref g2, .ref g3, .ref g4, .int 0, .int 0, .int 0, .int 0, .ref g9, .int 0, .int 0, .int 0, .int 0, .int (-1), .int 0, .int 0, .ref g17, .ref g18, .int 0, .ref g20, .ref g21, .ref g22, .ref g23, .ref g24, .ref g25, .ref g26, .ref g27, .ref g28, .ref g29, .ref g30, .int 0]))] sz)) 0 0 (va_A [(m0, .inr (12, [.ref g0, .ref g1, .ref g2, .ref g3, .ref g4, .int 0, .int 0, .int 0, .int 0, .ref g9, .int 0, .int 0, .int 0, .int 0, .int (-1), .int 0, .int 0, .ref g17, .ref g18, .int 0, .ref g20, .ref g21, .ref g22, .ref g23, .ref g24, .ref g25, .ref g26, .ref g27, .ref g28, .ref g29, .ref g30, .int 0]))] sz) := by
  refine Met.ofW (cc := cX12_fewest) (maxL := 7) (ret := (some .int)) (by decide) rfl ?_
  intro p e s m args below meth c s₁ B hml hv
  obtain ⟨rfl, hsz, hP, hK, hD0⟩ := hv
  have hx := B.exec
  have hb := B.bytes
  have hr := B.returns
  have hT : ∀ w ∈ TB, w.before [.ref m0, .int k0, .int k1].toArray s = true := fun w h => atoms_spec (ws := wT yX12_fewest cX12_fewest 7 (some .int)) B.pre w (List.mem_cons_of_mem _ h)
  have hown : s.vm.findClass RX12 = some m.cls := findClass_of_methodNamed B.named
  have hlocks := B.notSynchronized
  subst hsz
  have hD := hD0.self (sz := s.heap.size)
  generalize hAe : va_A [(m0, .inr (12, [.ref g0, .ref g1, .ref g2, .ref g3, .ref g4, .int 0, .int 0, .int 0, .int 0, .ref g9, .int 0, .int 0, .int 0, .int 0, .int (-1), .int 0, .int 0, .ref g17, .ref g18, .int 0, .ref g20, .ref g21, .ref g22, .ref g23, .ref g24, .ref g25, .ref g26, .ref g27, .ref g28, .ref g29, .ref g30, .int 0]))] s.heap.size = A at hD ⊢
  have hA : ∀ q : Nat, s.heap.size ≤ q → A q := fun q h => by rw [← hAe]; exact Or.inr h
  have hS : va_S A s.heap s.heap [] := va_S.rf
  have hP : va_P (dC, dI) vwCl [(m0, .inr (12, [.ref g0, .ref g1, .ref g2, .ref g3, .ref g4, .int 0, .int 0, .int 0, .int 0, .ref g9, .int 0, .int 0, .int 0, .int 0, .int (-1), .int 0, .int 0, .ref g17, .ref g18, .int 0, .ref g20, .ref g21, .ref g22, .ref g23, .ref g24, .ref g25, .ref g26, .ref g27, .ref g28, .ref g29, .ref g30, .int 0]))] s.heap := hP
  have hl := lv_entry ([.ref m0, .int k0, .int k1]) (n := 7) (Nat.le_of_ble_eq_true rfl)
  rw [lg_entry_eq]
  generalize (lg_sl ([.ref m0, .int k0, .int k1]) ++ List.replicate (7 - (lg_sl ([.ref m0, .int k0, .int k1])).length) Slot.unset).toArray = ls at hl ⊢
  have hl : lv_has ls 7 [(0, .ref m0), (1, .int k0), (2, .int k1)] := hl
  refine lv_aload_n hx hb dX12_fewest_0 rfl (lv_at hl 0 rfl) ?_
  refine lv_iconst (v := 0) hx hb dX12_fewest_1 (by decide) ?_
  refine va_put (D := (dC, dI)) (ci := 12) (v := .int 0) (ty := .int) (C := RX12) (T := TX12) (N := 32) hx hb hT iX12 tyX12 tyX12_ok nmX12 hown hK hP hD hS 0 rfl rfl 8 (by decide) (hT _ w1090) (fun _ h9 => h9) rfl (by decide +kernel) rfl rfl (Nat.le_of_ble_eq_true rfl) dX12_fewest_2 (fun H locs hP hD hS => ?_)
  have hP : va_P (dC, dI) vwCl [(m0, .inr (12, [.ref g0, .ref g1, .ref g2, .ref g3, .ref g4, .int 0, .int 0, .int 0, .int 0, .ref g9, .int 0, .int 0, .int 0, .int 0, .int (-1), .int 0, .int 0, .ref g17, .ref g18, .int 0, .ref g20, .ref g21, .ref g22, .ref g23, .ref g24, .ref g25, .ref g26, .ref g27, .ref g28, .ref g29, .ref g30, .int 0]))] H := hP
  have hD : va_D A [(m0, .inr (12, [.ref g0, .ref g1, .ref g2, .ref g3, .ref g4, .int 0, .int 0, .int 0, .int 0, .ref g9, .int 0, .int 0, .int 0, .int 0, .int (-1), .int 0, .int 0, .ref g17, .ref g18, .int 0, .ref g20, .ref g21, .ref g22, .ref g23, .ref g24, .ref g25, .ref g26, .ref g27, .ref g28, .ref g29, .ref g30, .int 0]))] := hD
  refine lv_aload_n hx hb dX12_fewest_5 rfl (lv_at hl 0 rfl) ?_
  refine lv_iload_n hx hb dX12_fewest_6 rfl (lv_at hl 1 rfl) ?_
  have hPc := hP.sub (ws' := [(m0, .inr (12, [.ref g0, .ref g1, .ref g2, .ref g3, .ref g4, .int 0, .int 0, .int 0, .int 0, .ref g9, .int 0, .int 0, .int 0, .int 0, .int (-1), .int 0, .int 0, .ref g17, .ref g18, .int 0, .ref g20, .ref g21, .ref g22, .ref g23, .ref g24, .ref g25, .ref g26, .ref g27, .ref g28, .ref g29, .ref g30, .int 0]))]) [0] rfl
  have hDc := hD.sub (ws' := [(m0, .inr (12, [.ref g0, .ref g1, .ref g2, .ref g3, .ref g4, .int 0, .int 0, .int 0, .int 0, .ref g9, .int 0, .int 0, .int 0, .int 0, .int (-1), .int 0, .int 0, .ref g17, .ref g18, .int 0, .ref g20, .ref g21, .ref g22, .ref g23, .ref g24, .ref g25, .ref g26, .ref g27, .ref g28, .ref g29, .ref g30, .int 0]))]) [0] (by decide) rfl
  have hKc := hK.sub (tys' := []) [] rfl
  refine vp_callSi (va_Run.run (va_runV (As := [.int k0]) (rest := []) ⟨hx, hb, hml, hown, hT⟩ (m_isKind l dC dI m0 g0 g1 g2 g3 g4 g9 g17 g18 g20 g21 g22 g23 g24 g25 g26 g27 g28 g29 g30 H.size k0) (cwV 1 hT (gV w1288 w1290 ws74 w14 w1291) rfl rfl rfl (by decide +kernel) ⟨(Nat.le_of_ble_eq_true rfl), (Nat.le_of_ble_eq_true rfl)⟩) ⟨pcW.blind, va_recv hKc hPc (ci := 12) (q0 := 0) rfl rfl, pcW.pre hPc hKc hDc⟩ rfl rfl hl.1 rfl (lv_room (Nat.le_of_ble_eq_true rfl)) dX12_fewest_7 ⟨(Nat.le_of_ble_eq_true rfl), (Nat.le_of_ble_eq_true rfl)⟩)) (fun r_7 hr_7 => ?_)
  obtain rfl : r_7 = 0 := hr_7
  refine lv_if_eq (tgt := 23) hx hb dX12_fewest_10 (by decide) (fun _ => ?_) (fun h => absurd (by decide) h)
  refine lv_bipush (v := (-2)) hx hb dX12_fewest_23 (by decide) ?_
  refine W.widen (k := 0) (n := 0) (Nat.le_of_ble_eq_true rfl) (Nat.le_of_ble_eq_true rfl) ?_
  exact W.iret (v := (-2)) hx hb hr (fun t ht hW => ⟨⟨(-2), (), rfl, rfl, trivial⟩, hS.F ht⟩) hS.2.2 dX12_fewest_25

set_option maxHeartbeats 4000000 in
set_option maxRecDepth 100000 in
theorem m_even (l : Launch) (dC : Nat → ClassId) (dI : Nat → Nat → Nat) (m0 : Nat) (g0 : Nat) (g1 : Nat) (g2 : Nat) (g3 : Nat) (g4 : Nat) (g9 : Nat) (g17 : Nat) (g18 : Nat) (g20 : Nat) (g21 : Nat) (g22 : Nat) (g23 : Nat) (g24 : Nat) (g25 : Nat) (g26 : Nat) (g27 : Nat) (g28 : Nat) (g29 : Nat) (g30 : Nat) (sz : Nat) (k0 : Int32) (k1 : Int32) : Met l yX12_even (wT yX12_even cX12_even 3 (some .int)) ({ frames := 2, cells := 0, slots := 0, locals := 46 }) (pcW dC dI [.ref m0, .int k0, .int k1] sz [(m0, .inr (12, [.ref g0, .ref g1, .ref g2, .ref g3, .ref g4, .int 0, .int 0, .int 0, .int 0, .ref g9, .int 0, .int 0, .int 0, .int 0, .int (-1), .int 0, .int 0, .ref g17, .ref g18, .int 0, .ref g20, .ref g21, .ref g22, .ref g23, .ref g24, .ref g25, .ref g26, .ref g27, .ref g28, .ref g29, .ref g30, .int 0]))] []) (va_Qi (fun (r : Int32) (_ : Unit) => r = (-2)) (fun _ _ => True) (va_A [(m0, .inr (12, [.ref g0, .ref g1, .ref g2, .ref g3, .ref g4, .int 0, .int 0, .int 0, .int 0, .ref g9, .int 0, .int 0, .int 0, .int 0, .int (-1), .int 0, .int 0, .ref g17, .ref g18, .int 0, .ref g20, .ref g21, .ref g22, .ref g23, .ref g24, .ref g25, .ref g26, .ref g27, .ref g28, .ref g29, .ref g30, .int 0]))] sz)) 0 0 (va_A [(m0, .inr (12, [.ref g0, .ref g1, .ref g2, .ref g3, .ref g4, .int 0, .int 0, .int 0, .int 0, .ref g9, .int 0, .int 0, .int 0, .int 0, .int (-1), .int 0, .int 0, .ref g17, .ref g18, .int 0, .ref g20, .ref g21, .ref g22, .ref g23, .ref g24, .ref g25, .ref g26, .ref g27, .ref g28, .ref g29, .ref g30, .int 0]))] sz) := by
  refine Met.ofW (cc := cX12_even) (maxL := 3) (ret := (some .int)) (by decide) rfl ?_
  intro p e s m args below meth c s₁ B hml hv
  obtain ⟨rfl, hsz, hP, hK, hD0⟩ := hv
  have hx := B.exec
  have hb := B.bytes
  have hr := B.returns
  have hT : ∀ w ∈ TB, w.before [.ref m0, .int k0, .int k1].toArray s = true := fun w h => atoms_spec (ws := wT yX12_even cX12_even 3 (some .int)) B.pre w (List.mem_cons_of_mem _ h)
  have hown : s.vm.findClass RX12 = some m.cls := findClass_of_methodNamed B.named
  have hlocks := B.notSynchronized
  subst hsz
  have hD := hD0.self (sz := s.heap.size)
  generalize hAe : va_A [(m0, .inr (12, [.ref g0, .ref g1, .ref g2, .ref g3, .ref g4, .int 0, .int 0, .int 0, .int 0, .ref g9, .int 0, .int 0, .int 0, .int 0, .int (-1), .int 0, .int 0, .ref g17, .ref g18, .int 0, .ref g20, .ref g21, .ref g22, .ref g23, .ref g24, .ref g25, .ref g26, .ref g27, .ref g28, .ref g29, .ref g30, .int 0]))] s.heap.size = A at hD ⊢
  have hA : ∀ q : Nat, s.heap.size ≤ q → A q := fun q h => by rw [← hAe]; exact Or.inr h
  have hS : va_S A s.heap s.heap [] := va_S.rf
  have hP : va_P (dC, dI) vwCl [(m0, .inr (12, [.ref g0, .ref g1, .ref g2, .ref g3, .ref g4, .int 0, .int 0, .int 0, .int 0, .ref g9, .int 0, .int 0, .int 0, .int 0, .int (-1), .int 0, .int 0, .ref g17, .ref g18, .int 0, .ref g20, .ref g21, .ref g22, .ref g23, .ref g24, .ref g25, .ref g26, .ref g27, .ref g28, .ref g29, .ref g30, .int 0]))] s.heap := hP
  have hl := lv_entry ([.ref m0, .int k0, .int k1]) (n := 3) (Nat.le_of_ble_eq_true rfl)
  rw [lg_entry_eq]
  generalize (lg_sl ([.ref m0, .int k0, .int k1]) ++ List.replicate (3 - (lg_sl ([.ref m0, .int k0, .int k1])).length) Slot.unset).toArray = ls at hl ⊢
  have hl : lv_has ls 3 [(0, .ref m0), (1, .int k0), (2, .int k1)] := hl
  refine lv_aload_n hx hb dX12_even_0 rfl (lv_at hl 0 rfl) ?_
  refine lv_iconst (v := 0) hx hb dX12_even_1 (by decide) ?_
  refine va_put (D := (dC, dI)) (ci := 12) (v := .int 0) (ty := .int) (C := RX12) (T := TX12) (N := 32) hx hb hT iX12 tyX12 tyX12_ok nmX12 hown hK hP hD hS 0 rfl rfl 8 (by decide) (hT _ w1090) (fun _ h9 => h9) rfl (by decide +kernel) rfl rfl (Nat.le_of_ble_eq_true rfl) dX12_even_2 (fun H locs hP hD hS => ?_)
  have hP : va_P (dC, dI) vwCl [(m0, .inr (12, [.ref g0, .ref g1, .ref g2, .ref g3, .ref g4, .int 0, .int 0, .int 0, .int 0, .ref g9, .int 0, .int 0, .int 0, .int 0, .int (-1), .int 0, .int 0, .ref g17, .ref g18, .int 0, .ref g20, .ref g21, .ref g22, .ref g23, .ref g24, .ref g25, .ref g26, .ref g27, .ref g28, .ref g29, .ref g30, .int 0]))] H := hP
  have hD : va_D A [(m0, .inr (12, [.ref g0, .ref g1, .ref g2, .ref g3, .ref g4, .int 0, .int 0, .int 0, .int 0, .ref g9, .int 0, .int 0, .int 0, .int 0, .int (-1), .int 0, .int 0, .ref g17, .ref g18, .int 0, .ref g20, .ref g21, .ref g22, .ref g23, .ref g24, .ref g25, .ref g26, .ref g27, .ref g28, .ref g29, .ref g30, .int 0]))] := hD
  refine lv_aload_n hx hb dX12_even_5 rfl (lv_at hl 0 rfl) ?_
  refine lv_iload_n hx hb dX12_even_6 rfl (lv_at hl 2 rfl) ?_
  have hPc := hP.sub (ws' := [(m0, .inr (12, [.ref g0, .ref g1, .ref g2, .ref g3, .ref g4, .int 0, .int 0, .int 0, .int 0, .ref g9, .int 0, .int 0, .int 0, .int 0, .int (-1), .int 0, .int 0, .ref g17, .ref g18, .int 0, .ref g20, .ref g21, .ref g22, .ref g23, .ref g24, .ref g25, .ref g26, .ref g27, .ref g28, .ref g29, .ref g30, .int 0]))]) [0] rfl
  have hDc := hD.sub (ws' := [(m0, .inr (12, [.ref g0, .ref g1, .ref g2, .ref g3, .ref g4, .int 0, .int 0, .int 0, .int 0, .ref g9, .int 0, .int 0, .int 0, .int 0, .int (-1), .int 0, .int 0, .ref g17, .ref g18, .int 0, .ref g20, .ref g21, .ref g22, .ref g23, .ref g24, .ref g25, .ref g26, .ref g27, .ref g28, .ref g29, .ref g30, .int 0]))]) [0] (by decide) rfl
  have hKc := hK.sub (tys' := []) [] rfl
  refine vp_callSi (va_Run.run (va_runV (As := [.int k1]) (rest := []) ⟨hx, hb, hml, hown, hT⟩ (m_isKind l dC dI m0 g0 g1 g2 g3 g4 g9 g17 g18 g20 g21 g22 g23 g24 g25 g26 g27 g28 g29 g30 H.size k1) (cwV 1 hT (gV w1288 w1290 ws74 w14 w1291) rfl rfl rfl (by decide +kernel) ⟨(Nat.le_of_ble_eq_true rfl), (Nat.le_of_ble_eq_true rfl)⟩) ⟨pcW.blind, va_recv hKc hPc (ci := 12) (q0 := 0) rfl rfl, pcW.pre hPc hKc hDc⟩ rfl rfl hl.1 rfl (lv_room (Nat.le_of_ble_eq_true rfl)) dX12_even_7 ⟨(Nat.le_of_ble_eq_true rfl), (Nat.le_of_ble_eq_true rfl)⟩)) (fun r_7 hr_7 => ?_)
  obtain rfl : r_7 = 0 := hr_7
  refine lv_if_eq (tgt := 31) hx hb dX12_even_10 (by decide) (fun _ => ?_) (fun h => absurd (by decide) h)
  refine lv_bipush (v := (-2)) hx hb dX12_even_31 (by decide) ?_
  refine W.widen (k := 0) (n := 0) (Nat.le_of_ble_eq_true rfl) (Nat.le_of_ble_eq_true rfl) ?_
  exact W.iret (v := (-2)) hx hb hr (fun t ht hW => ⟨⟨(-2), (), rfl, rfl, trivial⟩, hS.F ht⟩) hS.2.2 dX12_even_33

set_option maxHeartbeats 4000000 in
set_option maxRecDepth 100000 in
theorem m_drop (l : Launch) (dC : Nat → ClassId) (dI : Nat → Nat → Nat) (m0 : Nat) (g0 : Nat) (g1 : Nat) (g2 : Nat) (g3 : Nat) (g4 : Nat) (g9 : Nat) (g17 : Nat) (g18 : Nat) (g20 : Nat) (g21 : Nat) (g22 : Nat) (g23 : Nat) (g24 : Nat) (g25 : Nat) (g26 : Nat) (g27 : Nat) (g28 : Nat) (g29 : Nat) (g30 : Nat) (cS : ClassId) (f : Nat → Int32) (sz : Nat) (k0 : Int32) (hf0 : f 0 = 0) : Met l yX12_drop (wT yX12_drop cX12_drop 2 (some .int)) ({ frames := 2, cells := 0, slots := 0, locals := 46 }) (pcW dC dI [.ref m0, .int k0] sz [(m0, .inr (12, [.ref g0, .ref g1, .ref g2, .ref g3, .ref g4, .int 0, .int 0, .int 0, .int 0, .ref g9, .int 0, .int 0, .int 0, .int 0, .int (-1), .int 0, .int 0, .ref g17, .ref g18, .int 0, .ref g20, .ref g21, .ref g22, .ref g23, .ref g24, .ref g25, .ref g26, .ref g27, .ref g28, .ref g29, .ref g30, .int 0])), (g0, .inl (cS, 266, .inl f))] [(cS, .int)]) (va_Qi (fun (r : Int32) (_ : Unit) => r = (-2)) (fun _ _ => True) (va_A [(m0, .inr (12, [.ref g0, .ref g1, .ref g2, .ref g3, .ref g4, .int 0, .int 0, .int 0, .int 0, .ref g9, .int 0, .int 0, .int 0, .int 0, .int (-1), .int 0, .int 0, .ref g17, .ref g18, .int 0, .ref g20, .ref g21, .ref g22, .ref g23, .ref g24, .ref g25, .ref g26, .ref g27, .ref g28, .ref g29, .ref g30, .int 0])), (g0, .inl (cS, 266, .inl f))] sz)) 0 0 (va_A [(m0, .inr (12, [.ref g0, .ref g1, .ref g2, .ref g3, .ref g4, .int 0, .int 0, .int 0, .int 0, .ref g9, .int 0, .int 0, .int 0, .int 0, .int (-1), .int 0, .int 0, .ref g17, .ref g18, .int 0, .ref g20, .ref g21, .ref g22, .ref g23, .ref g24, .ref g25, .ref g26, .ref g27, .ref g28, .ref g29, .ref g30, .int 0])), (g0, .inl (cS, 266, .inl f))] sz) := by
  refine Met.ofW (cc := cX12_drop) (maxL := 2) (ret := (some .int)) (by decide) rfl ?_
  intro p e s m args below meth c s₁ B hml hv
  obtain ⟨rfl, hsz, hP, hK, hD0⟩ := hv
  have hx := B.exec
  have hb := B.bytes
  have hr := B.returns
  have hT : ∀ w ∈ TB, w.before [.ref m0, .int k0].toArray s = true := fun w h => atoms_spec (ws := wT yX12_drop cX12_drop 2 (some .int)) B.pre w (List.mem_cons_of_mem _ h)
  have hown : s.vm.findClass RX12 = some m.cls := findClass_of_methodNamed B.named
  have hlocks := B.notSynchronized
  subst hsz
  have hD := hD0.self (sz := s.heap.size)
  generalize hAe : va_A [(m0, .inr (12, [.ref g0, .ref g1, .ref g2, .ref g3, .ref g4, .int 0, .int 0, .int 0, .int 0, .ref g9, .int 0, .int 0, .int 0, .int 0, .int (-1), .int 0, .int 0, .ref g17, .ref g18, .int 0, .ref g20, .ref g21, .ref g22, .ref g23, .ref g24, .ref g25, .ref g26, .ref g27, .ref g28, .ref g29, .ref g30, .int 0])), (g0, .inl (cS, 266, .inl f))] s.heap.size = A at hD ⊢
  have hA : ∀ q : Nat, s.heap.size ≤ q → A q := fun q h => by rw [← hAe]; exact Or.inr h
  have hS : va_S A s.heap s.heap [] := va_S.rf
  have hP : va_P (dC, dI) vwCl [(m0, .inr (12, [.ref g0, .ref g1, .ref g2, .ref g3, .ref g4, .int 0, .int 0, .int 0, .int 0, .ref g9, .int 0, .int 0, .int 0, .int 0, .int (-1), .int 0, .int 0, .ref g17, .ref g18, .int 0, .ref g20, .ref g21, .ref g22, .ref g23, .ref g24, .ref g25, .ref g26, .ref g27, .ref g28, .ref g29, .ref g30, .int 0])), (g0, .inl (cS, 266, .inl f))] s.heap := hP
  have hl := lv_entry ([.ref m0, .int k0]) (n := 2) (Nat.le_of_ble_eq_true rfl)
  rw [lg_entry_eq]
  generalize (lg_sl ([.ref m0, .int k0]) ++ List.replicate (2 - (lg_sl ([.ref m0, .int k0])).length) Slot.unset).toArray = ls at hl ⊢
  have hl : lv_has ls 2 [(0, .ref m0), (1, .int k0)] := hl
  refine lv_aload_n hx hb dX12_drop_0 rfl (lv_at hl 0 rfl) ?_
  refine lv_iconst (v := 0) hx hb dX12_drop_1 (by decide) ?_
  refine va_put (D := (dC, dI)) (ci := 12) (v := .int 0) (ty := .int) (C := RX12) (T := TX12) (N := 32) hx hb hT iX12 tyX12 tyX12_ok nmX12 hown hK hP hD hS 0 rfl rfl 8 (by decide) (hT _ w1090) (fun _ h9 => h9) rfl (by decide +kernel) rfl rfl (Nat.le_of_ble_eq_true rfl) dX12_drop_2 (fun H locs hP hD hS => ?_)
  have hP : va_P (dC, dI) vwCl [(m0, .inr (12, [.ref g0, .ref g1, .ref g2, .ref g3, .ref g4, .int 0, .int 0, .int 0, .int 0, .ref g9, .int 0, .int 0, .int 0, .int 0, .int (-1), .int 0, .int 0, .ref g17, .ref g18, .int 0, .ref g20, .ref g21, .ref g22, .ref g23, .ref g24, .ref g25, .ref g26, .ref g27, .ref g28, .ref g29, .ref g30, .int 0])), (g0, .inl (cS, 266, .inl f))] H := hP
  have hD : va_D A [(m0, .inr (12, [.ref g0, .ref g1, .ref g2, .ref g3, .ref g4, .int 0, .int 0, .int 0, .int 0, .ref g9, .int 0, .int 0, .int 0, .int 0, .int (-1), .int 0, .int 0, .ref g17, .ref g18, .int 0, .ref g20, .ref g21, .ref g22, .ref g23, .ref g24, .ref g25, .ref g26, .ref g27, .ref g28, .ref g29, .ref g30, .int 0])), (g0, .inl (cS, 266, .inl f))] := hD
  refine lv_aload_n hx hb dX12_drop_5 rfl (lv_at hl 0 rfl) ?_
  refine lv_iload_n hx hb dX12_drop_6 rfl (lv_at hl 1 rfl) ?_
  have hPc := hP.sub (ws' := [(m0, .inr (12, [.ref g0, .ref g1, .ref g2, .ref g3, .ref g4, .int 0, .int 0, .int 0, .int 0, .ref g9, .int 0, .int 0, .int 0, .int 0, .int (-1), .int 0, .int 0, .ref g17, .ref g18, .int 0, .ref g20, .ref g21, .ref g22, .ref g23, .ref g24, .ref g25, .ref g26, .ref g27, .ref g28, .ref g29, .ref g30, .int 0])), (g0, .inl (cS, 266, .inl f))]) [0, 1] rfl
  have hDc := hD.sub (ws' := [(m0, .inr (12, [.ref g0, .ref g1, .ref g2, .ref g3, .ref g4, .int 0, .int 0, .int 0, .int 0, .ref g9, .int 0, .int 0, .int 0, .int 0, .int (-1), .int 0, .int 0, .ref g17, .ref g18, .int 0, .ref g20, .ref g21, .ref g22, .ref g23, .ref g24, .ref g25, .ref g26, .ref g27, .ref g28, .ref g29, .ref g30, .int 0])), (g0, .inl (cS, 266, .inl f))]) [0, 1] (by decide) rfl
  have hKc := hK.sub (tys' := [(cS, .int)]) [0] rfl
  refine vp_callSi (va_Run.run (va_runV (As := [.int k0]) (rest := []) ⟨hx, hb, hml, hown, hT⟩ (m_isTrade l dC dI m0 g0 g1 g2 g3 g4 g9 g17 g18 g20 g21 g22 g23 g24 g25 g26 g27 g28 g29 g30 cS f H.size k0 hf0) (cwV 1 hT (gV w1301 w1303 ws76 w14 w1304) rfl rfl rfl (by decide +kernel) ⟨(Nat.le_of_ble_eq_true rfl), (Nat.le_of_ble_eq_true rfl)⟩) ⟨pcW.blind, va_recv hKc hPc (ci := 12) (q0 := 0) rfl rfl, pcW.pre hPc hKc hDc⟩ rfl rfl hl.1 rfl (lv_room (Nat.le_of_ble_eq_true rfl)) dX12_drop_7 ⟨(Nat.le_of_ble_eq_true rfl), (Nat.le_of_ble_eq_true rfl)⟩)) (fun r_7 hr_7 => ?_)
  obtain rfl : r_7 = 0 := hr_7
  refine lv_if_ne (tgt := 16) hx hb dX12_drop_10 (by decide) (fun h => absurd (by decide) h) (fun _ => ?_)
  refine lv_bipush (v := (-2)) hx hb dX12_drop_13 (by decide) ?_
  refine W.widen (k := 0) (n := 0) (Nat.le_of_ble_eq_true rfl) (Nat.le_of_ble_eq_true rfl) ?_
  exact W.iret (v := (-2)) hx hb hr (fun t ht hW => ⟨⟨(-2), (), rfl, rfl, trivial⟩, hS.F ht⟩) hS.2.2 dX12_drop_15

set_option maxHeartbeats 4000000 in
set_option maxRecDepth 100000 in
theorem m_keep (l : Launch) (dC : Nat → ClassId) (dI : Nat → Nat → Nat) (m0 : Nat) (g0 : Nat) (g1 : Nat) (g2 : Nat) (g3 : Nat) (g4 : Nat) (g9 : Nat) (g17 : Nat) (g18 : Nat) (g20 : Nat) (g21 : Nat) (g22 : Nat) (g23 : Nat) (g24 : Nat) (g25 : Nat) (g26 : Nat) (g27 : Nat) (g28 : Nat) (g29 : Nat) (g30 : Nat) (cS : ClassId) (f : Nat → Int32) (sz : Nat) (k0 : Int32) (hf0 : f 0 = 0) : Met l yX12_keep (wT yX12_keep cX12_keep 2 (some .int)) ({ frames := 2, cells := 0, slots := 0, locals := 46 }) (pcW dC dI [.ref m0, .int k0] sz [(m0, .inr (12, [.ref g0, .ref g1, .ref g2, .ref g3, .ref g4, .int 0, .int 0, .int 0, .int 0, .ref g9, .int 0, .int 0, .int 0, .int 0, .int (-1), .int 0, .int 0, .ref g17, .ref g18, .int 0, .ref g20, .ref g21, .ref g22, .ref g23, .ref g24, .ref g25, .ref g26, .ref g27, .ref g28, .ref g29, .ref g30, .int 0])), (g0, .inl (cS, 266, .inl f))] [(cS, .int)]) (va_Qi (fun (r : Int32) (_ : Unit) => r = (-2)) (fun _ _ => True) (va_A [(m0, .inr (12, [.ref g0, .ref g1, .ref g2, .ref g3, .ref g4, .int 0, .int 0, .int 0, .int 0, .ref g9, .int 0, .int 0, .int 0, .int 0, .int (-1), .int 0, .int 0, .ref g17, .ref g18, .int 0, .ref g20, .ref g21, .ref g22, .ref g23, .ref g24, .ref g25, .ref g26, .ref g27, .ref g28, .ref g29, .ref g30, .int 0])), (g0, .inl (cS, 266, .inl f))] sz)) 0 0 (va_A [(m0, .inr (12, [.ref g0, .ref g1, .ref g2, .ref g3, .ref g4, .int 0, .int 0, .int 0, .int 0, .ref g9, .int 0, .int 0, .int 0, .int 0, .int (-1), .int 0, .int 0, .ref g17, .ref g18, .int 0, .ref g20, .ref g21, .ref g22, .ref g23, .ref g24, .ref g25, .ref g26, .ref g27, .ref g28, .ref g29, .ref g30, .int 0])), (g0, .inl (cS, 266, .inl f))] sz) := by
  refine Met.ofW (cc := cX12_keep) (maxL := 2) (ret := (some .int)) (by decide) rfl ?_
  intro p e s m args below meth c s₁ B hml hv
  obtain ⟨rfl, hsz, hP, hK, hD0⟩ := hv
  have hx := B.exec
  have hb := B.bytes
  have hr := B.returns
  have hT : ∀ w ∈ TB, w.before [.ref m0, .int k0].toArray s = true := fun w h => atoms_spec (ws := wT yX12_keep cX12_keep 2 (some .int)) B.pre w (List.mem_cons_of_mem _ h)
  have hown : s.vm.findClass RX12 = some m.cls := findClass_of_methodNamed B.named
  have hlocks := B.notSynchronized
  subst hsz
  have hD := hD0.self (sz := s.heap.size)
  generalize hAe : va_A [(m0, .inr (12, [.ref g0, .ref g1, .ref g2, .ref g3, .ref g4, .int 0, .int 0, .int 0, .int 0, .ref g9, .int 0, .int 0, .int 0, .int 0, .int (-1), .int 0, .int 0, .ref g17, .ref g18, .int 0, .ref g20, .ref g21, .ref g22, .ref g23, .ref g24, .ref g25, .ref g26, .ref g27, .ref g28, .ref g29, .ref g30, .int 0])), (g0, .inl (cS, 266, .inl f))] s.heap.size = A at hD ⊢
  have hA : ∀ q : Nat, s.heap.size ≤ q → A q := fun q h => by rw [← hAe]; exact Or.inr h
  have hS : va_S A s.heap s.heap [] := va_S.rf
  have hP : va_P (dC, dI) vwCl [(m0, .inr (12, [.ref g0, .ref g1, .ref g2, .ref g3, .ref g4, .int 0, .int 0, .int 0, .int 0, .ref g9, .int 0, .int 0, .int 0, .int 0, .int (-1), .int 0, .int 0, .ref g17, .ref g18, .int 0, .ref g20, .ref g21, .ref g22, .ref g23, .ref g24, .ref g25, .ref g26, .ref g27, .ref g28, .ref g29, .ref g30, .int 0])), (g0, .inl (cS, 266, .inl f))] s.heap := hP
  have hl := lv_entry ([.ref m0, .int k0]) (n := 2) (Nat.le_of_ble_eq_true rfl)
  rw [lg_entry_eq]
  generalize (lg_sl ([.ref m0, .int k0]) ++ List.replicate (2 - (lg_sl ([.ref m0, .int k0])).length) Slot.unset).toArray = ls at hl ⊢
  have hl : lv_has ls 2 [(0, .ref m0), (1, .int k0)] := hl
  refine lv_aload_n hx hb dX12_keep_0 rfl (lv_at hl 0 rfl) ?_
  refine lv_iconst (v := 0) hx hb dX12_keep_1 (by decide) ?_
  refine va_put (D := (dC, dI)) (ci := 12) (v := .int 0) (ty := .int) (C := RX12) (T := TX12) (N := 32) hx hb hT iX12 tyX12 tyX12_ok nmX12 hown hK hP hD hS 0 rfl rfl 8 (by decide) (hT _ w1090) (fun _ h9 => h9) rfl (by decide +kernel) rfl rfl (Nat.le_of_ble_eq_true rfl) dX12_keep_2 (fun H locs hP hD hS => ?_)
  have hP : va_P (dC, dI) vwCl [(m0, .inr (12, [.ref g0, .ref g1, .ref g2, .ref g3, .ref g4, .int 0, .int 0, .int 0, .int 0, .ref g9, .int 0, .int 0, .int 0, .int 0, .int (-1), .int 0, .int 0, .ref g17, .ref g18, .int 0, .ref g20, .ref g21, .ref g22, .ref g23, .ref g24, .ref g25, .ref g26, .ref g27, .ref g28, .ref g29, .ref g30, .int 0])), (g0, .inl (cS, 266, .inl f))] H := hP
  have hD : va_D A [(m0, .inr (12, [.ref g0, .ref g1, .ref g2, .ref g3, .ref g4, .int 0, .int 0, .int 0, .int 0, .ref g9, .int 0, .int 0, .int 0, .int 0, .int (-1), .int 0, .int 0, .ref g17, .ref g18, .int 0, .ref g20, .ref g21, .ref g22, .ref g23, .ref g24, .ref g25, .ref g26, .ref g27, .ref g28, .ref g29, .ref g30, .int 0])), (g0, .inl (cS, 266, .inl f))] := hD
  refine lv_aload_n hx hb dX12_keep_5 rfl (lv_at hl 0 rfl) ?_
  refine lv_iload_n hx hb dX12_keep_6 rfl (lv_at hl 1 rfl) ?_
  have hPc := hP.sub (ws' := [(m0, .inr (12, [.ref g0, .ref g1, .ref g2, .ref g3, .ref g4, .int 0, .int 0, .int 0, .int 0, .ref g9, .int 0, .int 0, .int 0, .int 0, .int (-1), .int 0, .int 0, .ref g17, .ref g18, .int 0, .ref g20, .ref g21, .ref g22, .ref g23, .ref g24, .ref g25, .ref g26, .ref g27, .ref g28, .ref g29, .ref g30, .int 0])), (g0, .inl (cS, 266, .inl f))]) [0, 1] rfl
  have hDc := hD.sub (ws' := [(m0, .inr (12, [.ref g0, .ref g1, .ref g2, .ref g3, .ref g4, .int 0, .int 0, .int 0, .int 0, .ref g9, .int 0, .int 0, .int 0, .int 0, .int (-1), .int 0, .int 0, .ref g17, .ref g18, .int 0, .ref g20, .ref g21, .ref g22, .ref g23, .ref g24, .ref g25, .ref g26, .ref g27, .ref g28, .ref g29, .ref g30, .int 0])), (g0, .inl (cS, 266, .inl f))]) [0, 1] (by decide) rfl
  have hKc := hK.sub (tys' := [(cS, .int)]) [0] rfl
  refine vp_callSi (va_Run.run (va_runV (As := [.int k0]) (rest := []) ⟨hx, hb, hml, hown, hT⟩ (m_isTrade l dC dI m0 g0 g1 g2 g3 g4 g9 g17 g18 g20 g21 g22 g23 g24 g25 g26 g27 g28 g29 g30 cS f H.size k0 hf0) (cwV 1 hT (gV w1301 w1303 ws76 w14 w1304) rfl rfl rfl (by decide +kernel) ⟨(Nat.le_of_ble_eq_true rfl), (Nat.le_of_ble_eq_true rfl)⟩) ⟨pcW.blind, va_recv hKc hPc (ci := 12) (q0 := 0) rfl rfl, pcW.pre hPc hKc hDc⟩ rfl rfl hl.1 rfl (lv_room (Nat.le_of_ble_eq_true rfl)) dX12_keep_7 ⟨(Nat.le_of_ble_eq_true rfl), (Nat.le_of_ble_eq_true rfl)⟩)) (fun r_7 hr_7 => ?_)
  obtain rfl : r_7 = 0 := hr_7
  refine lv_if_ne (tgt := 16) hx hb dX12_keep_10 (by decide) (fun h => absurd (by decide) h) (fun _ => ?_)
  refine lv_bipush (v := (-2)) hx hb dX12_keep_13 (by decide) ?_
  refine W.widen (k := 0) (n := 0) (Nat.le_of_ble_eq_true rfl) (Nat.le_of_ble_eq_true rfl) ?_
  exact W.iret (v := (-2)) hx hb hr (fun t ht hW => ⟨⟨(-2), (), rfl, rfl, trivial⟩, hS.F ht⟩) hS.2.2 dX12_keep_15

set_option maxHeartbeats 4000000 in
set_option maxRecDepth 100000 in
theorem m_tradeOf (l : Launch) (dC : Nat → ClassId) (dI : Nat → Nat → Nat) (m0 : Nat) (g0 : Nat) (g1 : Nat) (g2 : Nat) (g3 : Nat) (g4 : Nat) (g9 : Nat) (g17 : Nat) (g18 : Nat) (g20 : Nat) (g21 : Nat) (g22 : Nat) (g23 : Nat) (g24 : Nat) (g25 : Nat) (g26 : Nat) (g27 : Nat) (g28 : Nat) (g29 : Nat) (g30 : Nat) (cS : ClassId) (f : Nat → Int32) (sz : Nat) (k0 : Int32) (k1 : Int32) (hf0 : f 0 = 0) : Met l yX12_tradeOf (wT yX12_tradeOf cX12_tradeOf 3 (some .int)) ({ frames := 2, cells := 0, slots := 0, locals := 46 }) (pcW dC dI [.ref m0, .int k0, .int k1] sz [(m0, .inr (12, [.ref g0, .ref g1, .ref g2, .ref g3, .ref g4, .int 0, .int 0, .int 0, .int 0, .ref g9, .int 0, .int 0, .int 0, .int 0, .int (-1), .int 0, .int 0, .ref g17, .ref g18, .int 0, .ref g20, .ref g21, .ref g22, .ref g23, .ref g24, .ref g25, .ref g26, .ref g27, .ref g28, .ref g29, .ref g30, .int 0])), (g0, .inl (cS, 266, .inl f))] [(cS, .int)]) (va_Qi (fun (r : Int32) (_ : Unit) => r = (-2)) (fun _ _ => True) (va_A [(m0, .inr (12, [.ref g0, .ref g1, .ref g2, .ref g3, .ref g4, .int 0, .int 0, .int 0, .int 0, .ref g9, .int 0, .int 0, .int 0, .int 0, .int (-1), .int 0, .int 0, .ref g17, .ref g18, .int 0, .ref g20, .ref g21, .ref g22, .ref g23, .ref g24, .ref g25, .ref g26, .ref g27, .ref g28, .ref g29, .ref g30, .int 0])), (g0, .inl (cS, 266, .inl f))] sz)) 0 0 (va_A [(m0, .inr (12, [.ref g0, .ref g1, .ref g2, .ref g3, .ref g4, .int 0, .int 0, .int 0, .int 0, .ref g9, .int 0, .int 0, .int 0, .int 0, .int (-1), .int 0, .int 0, .ref g17, .ref g18, .int 0, .ref g20, .ref g21, .ref g22, .ref g23, .ref g24, .ref g25, .ref g26, .ref g27, .ref g28, .ref g29, .ref g30, .int 0])), (g0, .inl (cS, 266, .inl f))] sz) := by
  refine Met.ofW (cc := cX12_tradeOf) (maxL := 3) (ret := (some .int)) (by decide) rfl ?_
  intro p e s m args below meth c s₁ B hml hv
  obtain ⟨rfl, hsz, hP, hK, hD0⟩ := hv
  have hx := B.exec
  have hb := B.bytes
  have hr := B.returns
  have hT : ∀ w ∈ TB, w.before [.ref m0, .int k0, .int k1].toArray s = true := fun w h => atoms_spec (ws := wT yX12_tradeOf cX12_tradeOf 3 (some .int)) B.pre w (List.mem_cons_of_mem _ h)
  have hown : s.vm.findClass RX12 = some m.cls := findClass_of_methodNamed B.named
  have hlocks := B.notSynchronized
  subst hsz
  have hD := hD0.self (sz := s.heap.size)
  generalize hAe : va_A [(m0, .inr (12, [.ref g0, .ref g1, .ref g2, .ref g3, .ref g4, .int 0, .int 0, .int 0, .int 0, .ref g9, .int 0, .int 0, .int 0, .int 0, .int (-1), .int 0, .int 0, .ref g17, .ref g18, .int 0, .ref g20, .ref g21, .ref g22, .ref g23, .ref g24, .ref g25, .ref g26, .ref g27, .ref g28, .ref g29, .ref g30, .int 0])), (g0, .inl (cS, 266, .inl f))] s.heap.size = A at hD ⊢
  have hA : ∀ q : Nat, s.heap.size ≤ q → A q := fun q h => by rw [← hAe]; exact Or.inr h
  have hS : va_S A s.heap s.heap [] := va_S.rf
  have hP : va_P (dC, dI) vwCl [(m0, .inr (12, [.ref g0, .ref g1, .ref g2, .ref g3, .ref g4, .int 0, .int 0, .int 0, .int 0, .ref g9, .int 0, .int 0, .int 0, .int 0, .int (-1), .int 0, .int 0, .ref g17, .ref g18, .int 0, .ref g20, .ref g21, .ref g22, .ref g23, .ref g24, .ref g25, .ref g26, .ref g27, .ref g28, .ref g29, .ref g30, .int 0])), (g0, .inl (cS, 266, .inl f))] s.heap := hP
  have hl := lv_entry ([.ref m0, .int k0, .int k1]) (n := 3) (Nat.le_of_ble_eq_true rfl)
  rw [lg_entry_eq]
  generalize (lg_sl ([.ref m0, .int k0, .int k1]) ++ List.replicate (3 - (lg_sl ([.ref m0, .int k0, .int k1])).length) Slot.unset).toArray = ls at hl ⊢
  have hl : lv_has ls 3 [(0, .ref m0), (1, .int k0), (2, .int k1)] := hl
  refine lv_aload_n hx hb dX12_tradeOf_0 rfl (lv_at hl 0 rfl) ?_
  refine lv_iconst (v := 0) hx hb dX12_tradeOf_1 (by decide) ?_
  refine va_put (D := (dC, dI)) (ci := 12) (v := .int 0) (ty := .int) (C := RX12) (T := TX12) (N := 32) hx hb hT iX12 tyX12 tyX12_ok nmX12 hown hK hP hD hS 0 rfl rfl 8 (by decide) (hT _ w1090) (fun _ h9 => h9) rfl (by decide +kernel) rfl rfl (Nat.le_of_ble_eq_true rfl) dX12_tradeOf_2 (fun H locs hP hD hS => ?_)
  have hP : va_P (dC, dI) vwCl [(m0, .inr (12, [.ref g0, .ref g1, .ref g2, .ref g3, .ref g4, .int 0, .int 0, .int 0, .int 0, .ref g9, .int 0, .int 0, .int 0, .int 0, .int (-1), .int 0, .int 0, .ref g17, .ref g18, .int 0, .ref g20, .ref g21, .ref g22, .ref g23, .ref g24, .ref g25, .ref g26, .ref g27, .ref g28, .ref g29, .ref g30, .int 0])), (g0, .inl (cS, 266, .inl f))] H := hP
  have hD : va_D A [(m0, .inr (12, [.ref g0, .ref g1, .ref g2, .ref g3, .ref g4, .int 0, .int 0, .int 0, .int 0, .ref g9, .int 0, .int 0, .int 0, .int 0, .int (-1), .int 0, .int 0, .ref g17, .ref g18, .int 0, .ref g20, .ref g21, .ref g22, .ref g23, .ref g24, .ref g25, .ref g26, .ref g27, .ref g28, .ref g29, .ref g30, .int 0])), (g0, .inl (cS, 266, .inl f))] := hD
  refine lv_aload_n hx hb dX12_tradeOf_5 rfl (lv_at hl 0 rfl) ?_
  refine lv_iload_n hx hb dX12_tradeOf_6 rfl (lv_at hl 1 rfl) ?_
  have hPc := hP.sub (ws' := [(m0, .inr (12, [.ref g0, .ref g1, .ref g2, .ref g3, .ref g4, .int 0, .int 0, .int 0, .int 0, .ref g9, .int 0, .int 0, .int 0, .int 0, .int (-1), .int 0, .int 0, .ref g17, .ref g18, .int 0, .ref g20, .ref g21, .ref g22, .ref g23, .ref g24, .ref g25, .ref g26, .ref g27, .ref g28, .ref g29, .ref g30, .int 0])), (g0, .inl (cS, 266, .inl f))]) [0, 1] rfl
  have hDc := hD.sub (ws' := [(m0, .inr (12, [.ref g0, .ref g1, .ref g2, .ref g3, .ref g4, .int 0, .int 0, .int 0, .int 0, .ref g9, .int 0, .int 0, .int 0, .int 0, .int (-1), .int 0, .int 0, .ref g17, .ref g18, .int 0, .ref g20, .ref g21, .ref g22, .ref g23, .ref g24, .ref g25, .ref g26, .ref g27, .ref g28, .ref g29, .ref g30, .int 0])), (g0, .inl (cS, 266, .inl f))]) [0, 1] (by decide) rfl
  have hKc := hK.sub (tys' := [(cS, .int)]) [0] rfl
  refine vp_callSi (va_Run.run (va_runV (As := [.int k0]) (rest := []) ⟨hx, hb, hml, hown, hT⟩ (m_isTrade l dC dI m0 g0 g1 g2 g3 g4 g9 g17 g18 g20 g21 g22 g23 g24 g25 g26 g27 g28 g29 g30 cS f H.size k0 hf0) (cwV 1 hT (gV w1301 w1303 ws76 w14 w1304) rfl rfl rfl (by decide +kernel) ⟨(Nat.le_of_ble_eq_true rfl), (Nat.le_of_ble_eq_true rfl)⟩) ⟨pcW.blind, va_recv hKc hPc (ci := 12) (q0 := 0) rfl rfl, pcW.pre hPc hKc hDc⟩ rfl rfl hl.1 rfl (lv_room (Nat.le_of_ble_eq_true rfl)) dX12_tradeOf_7 ⟨(Nat.le_of_ble_eq_true rfl), (Nat.le_of_ble_eq_true rfl)⟩)) (fun r_7 hr_7 => ?_)
  obtain rfl : r_7 = 0 := hr_7
  refine lv_if_eq (tgt := 34) hx hb dX12_tradeOf_10 (by decide) (fun _ => ?_) (fun h => absurd (by decide) h)
  refine lv_bipush (v := (-2)) hx hb dX12_tradeOf_34 (by decide) ?_
  refine W.widen (k := 0) (n := 0) (Nat.le_of_ble_eq_true rfl) (Nat.le_of_ble_eq_true rfl) ?_
  exact W.iret (v := (-2)) hx hb hr (fun t ht hW => ⟨⟨(-2), (), rfl, rfl, trivial⟩, hS.F ht⟩) hS.2.2 dX12_tradeOf_36

set_option maxHeartbeats 4000000 in
set_option maxRecDepth 100000 in
theorem m_line (l : Launch) (dC : Nat → ClassId) (dI : Nat → Nat → Nat) (m0 : Nat) (g0 : Nat) (g1 : Nat) (g2 : Nat) (g3 : Nat) (g4 : Nat) (g9 : Nat) (g17 : Nat) (g18 : Nat) (g20 : Nat) (g21 : Nat) (g22 : Nat) (g23 : Nat) (g24 : Nat) (g25 : Nat) (g26 : Nat) (g27 : Nat) (g28 : Nat) (g29 : Nat) (g30 : Nat) (cS : ClassId) (f : Nat → Int32) (sz : Nat) (k0 : Int32) (k1 : Int32) (hf0 : f 0 = 0) : Met l yX12_line (wT yX12_line cX12_line 3 (some .int)) ({ frames := 2, cells := 0, slots := 0, locals := 46 }) (pcW dC dI [.ref m0, .int k0, .int k1] sz [(m0, .inr (12, [.ref g0, .ref g1, .ref g2, .ref g3, .ref g4, .int 0, .int 0, .int 0, .int 0, .ref g9, .int 0, .int 0, .int 0, .int 0, .int (-1), .int 0, .int 0, .ref g17, .ref g18, .int 0, .ref g20, .ref g21, .ref g22, .ref g23, .ref g24, .ref g25, .ref g26, .ref g27, .ref g28, .ref g29, .ref g30, .int 0])), (g0, .inl (cS, 266, .inl f))] [(cS, .int)]) (va_Qi (fun (r : Int32) (_ : Unit) => r = (-2)) (fun _ _ => True) (va_A [(m0, .inr (12, [.ref g0, .ref g1, .ref g2, .ref g3, .ref g4, .int 0, .int 0, .int 0, .int 0, .ref g9, .int 0, .int 0, .int 0, .int 0, .int (-1), .int 0, .int 0, .ref g17, .ref g18, .int 0, .ref g20, .ref g21, .ref g22, .ref g23, .ref g24, .ref g25, .ref g26, .ref g27, .ref g28, .ref g29, .ref g30, .int 0])), (g0, .inl (cS, 266, .inl f))] sz)) 0 0 (va_A [(m0, .inr (12, [.ref g0, .ref g1, .ref g2, .ref g3, .ref g4, .int 0, .int 0, .int 0, .int 0, .ref g9, .int 0, .int 0, .int 0, .int 0, .int (-1), .int 0, .int 0, .ref g17, .ref g18, .int 0, .ref g20, .ref g21, .ref g22, .ref g23, .ref g24, .ref g25, .ref g26, .ref g27, .ref g28, .ref g29, .ref g30, .int 0])), (g0, .inl (cS, 266, .inl f))] sz) := by
  refine Met.ofW (cc := cX12_line) (maxL := 3) (ret := (some .int)) (by decide) rfl ?_
  intro p e s m args below meth c s₁ B hml hv
  obtain ⟨rfl, hsz, hP, hK, hD0⟩ := hv
  have hx := B.exec
  have hb := B.bytes
  have hr := B.returns
  have hT : ∀ w ∈ TB, w.before [.ref m0, .int k0, .int k1].toArray s = true := fun w h => atoms_spec (ws := wT yX12_line cX12_line 3 (some .int)) B.pre w (List.mem_cons_of_mem _ h)
  have hown : s.vm.findClass RX12 = some m.cls := findClass_of_methodNamed B.named
  have hlocks := B.notSynchronized
  subst hsz
  have hD := hD0.self (sz := s.heap.size)
  generalize hAe : va_A [(m0, .inr (12, [.ref g0, .ref g1, .ref g2, .ref g3, .ref g4, .int 0, .int 0, .int 0, .int 0, .ref g9, .int 0, .int 0, .int 0, .int 0, .int (-1), .int 0, .int 0, .ref g17, .ref g18, .int 0, .ref g20, .ref g21, .ref g22, .ref g23, .ref g24, .ref g25, .ref g26, .ref g27, .ref g28, .ref g29, .ref g30, .int 0])), (g0, .inl (cS, 266, .inl f))] s.heap.size = A at hD ⊢
  have hA : ∀ q : Nat, s.heap.size ≤ q → A q := fun q h => by rw [← hAe]; exact Or.inr h
  have hS : va_S A s.heap s.heap [] := va_S.rf
  have hP : va_P (dC, dI) vwCl [(m0, .inr (12, [.ref g0, .ref g1, .ref g2, .ref g3, .ref g4, .int 0, .int 0, .int 0, .int 0, .ref g9, .int 0, .int 0, .int 0, .int 0, .int (-1), .int 0, .int 0, .ref g17, .ref g18, .int 0, .ref g20, .ref g21, .ref g22, .ref g23, .ref g24, .ref g25, .ref g26, .ref g27, .ref g28, .ref g29, .ref g30, .int 0])), (g0, .inl (cS, 266, .inl f))] s.heap := hP
  have hl := lv_entry ([.ref m0, .int k0, .int k1]) (n := 3) (Nat.le_of_ble_eq_true rfl)
  rw [lg_entry_eq]
  generalize (lg_sl ([.ref m0, .int k0, .int k1]) ++ List.replicate (3 - (lg_sl ([.ref m0, .int k0, .int k1])).length) Slot.unset).toArray = ls at hl ⊢
  have hl : lv_has ls 3 [(0, .ref m0), (1, .int k0), (2, .int k1)] := hl
  refine lv_aload_n hx hb dX12_line_0 rfl (lv_at hl 0 rfl) ?_
  refine lv_iconst (v := 0) hx hb dX12_line_1 (by decide) ?_
  refine va_put (D := (dC, dI)) (ci := 12) (v := .int 0) (ty := .int) (C := RX12) (T := TX12) (N := 32) hx hb hT iX12 tyX12 tyX12_ok nmX12 hown hK hP hD hS 0 rfl rfl 8 (by decide) (hT _ w1090) (fun _ h9 => h9) rfl (by decide +kernel) rfl rfl (Nat.le_of_ble_eq_true rfl) dX12_line_2 (fun H locs hP hD hS => ?_)
  have hP : va_P (dC, dI) vwCl [(m0, .inr (12, [.ref g0, .ref g1, .ref g2, .ref g3, .ref g4, .int 0, .int 0, .int 0, .int 0, .ref g9, .int 0, .int 0, .int 0, .int 0, .int (-1), .int 0, .int 0, .ref g17, .ref g18, .int 0, .ref g20, .ref g21, .ref g22, .ref g23, .ref g24, .ref g25, .ref g26, .ref g27, .ref g28, .ref g29, .ref g30, .int 0])), (g0, .inl (cS, 266, .inl f))] H := hP
  have hD : va_D A [(m0, .inr (12, [.ref g0, .ref g1, .ref g2, .ref g3, .ref g4, .int 0, .int 0, .int 0, .int 0, .ref g9, .int 0, .int 0, .int 0, .int 0, .int (-1), .int 0, .int 0, .ref g17, .ref g18, .int 0, .ref g20, .ref g21, .ref g22, .ref g23, .ref g24, .ref g25, .ref g26, .ref g27, .ref g28, .ref g29, .ref g30, .int 0])), (g0, .inl (cS, 266, .inl f))] := hD
  refine lv_aload_n hx hb dX12_line_5 rfl (lv_at hl 0 rfl) ?_
  refine lv_iload_n hx hb dX12_line_6 rfl (lv_at hl 1 rfl) ?_
  have hPc := hP.sub (ws' := [(m0, .inr (12, [.ref g0, .ref g1, .ref g2, .ref g3, .ref g4, .int 0, .int 0, .int 0, .int 0, .ref g9, .int 0, .int 0, .int 0, .int 0, .int (-1), .int 0, .int 0, .ref g17, .ref g18, .int 0, .ref g20, .ref g21, .ref g22, .ref g23, .ref g24, .ref g25, .ref g26, .ref g27, .ref g28, .ref g29, .ref g30, .int 0])), (g0, .inl (cS, 266, .inl f))]) [0, 1] rfl
  have hDc := hD.sub (ws' := [(m0, .inr (12, [.ref g0, .ref g1, .ref g2, .ref g3, .ref g4, .int 0, .int 0, .int 0, .int 0, .ref g9, .int 0, .int 0, .int 0, .int 0, .int (-1), .int 0, .int 0, .ref g17, .ref g18, .int 0, .ref g20, .ref g21, .ref g22, .ref g23, .ref g24, .ref g25, .ref g26, .ref g27, .ref g28, .ref g29, .ref g30, .int 0])), (g0, .inl (cS, 266, .inl f))]) [0, 1] (by decide) rfl
  have hKc := hK.sub (tys' := [(cS, .int)]) [0] rfl
  refine vp_callSi (va_Run.run (va_runV (As := [.int k0]) (rest := []) ⟨hx, hb, hml, hown, hT⟩ (m_isTrade l dC dI m0 g0 g1 g2 g3 g4 g9 g17 g18 g20 g21 g22 g23 g24 g25 g26 g27 g28 g29 g30 cS f H.size k0 hf0) (cwV 1 hT (gV w1301 w1303 ws76 w14 w1304) rfl rfl rfl (by decide +kernel) ⟨(Nat.le_of_ble_eq_true rfl), (Nat.le_of_ble_eq_true rfl)⟩) ⟨pcW.blind, va_recv hKc hPc (ci := 12) (q0 := 0) rfl rfl, pcW.pre hPc hKc hDc⟩ rfl rfl hl.1 rfl (lv_room (Nat.le_of_ble_eq_true rfl)) dX12_line_7 ⟨(Nat.le_of_ble_eq_true rfl), (Nat.le_of_ble_eq_true rfl)⟩)) (fun r_7 hr_7 => ?_)
  obtain rfl : r_7 = 0 := hr_7
  refine lv_if_ne (tgt := 16) hx hb dX12_line_10 (by decide) (fun h => absurd (by decide) h) (fun _ => ?_)
  refine lv_bipush (v := (-2)) hx hb dX12_line_13 (by decide) ?_
  refine W.widen (k := 0) (n := 0) (Nat.le_of_ble_eq_true rfl) (Nat.le_of_ble_eq_true rfl) ?_
  exact W.iret (v := (-2)) hx hb hr (fun t ht hW => ⟨⟨(-2), (), rfl, rfl, trivial⟩, hS.F ht⟩) hS.2.2 dX12_line_15
end
section
set_option maxHeartbeats 4000000 in
set_option maxRecDepth 100000 in
theorem j_fill (l : Launch) (dC : Nat → ClassId) (dI : Nat → Nat → Nat) (q : Nat) (cA : ClassId) (f : Nat → Int32) (sz : Nat) (v : Int32) : Met l yJ7_fill_53178 (wT yJ7_fill_53178 cJ7_fill_53178 4 none) ({ frames := 0, cells := 0, slots := 0, locals := 0 }) (pcW dC dI [.ref q, .int v] sz [(q, .inl (cA, 64, .inl f))] [(cA, .int)]) (va_Qv (fun _ : Unit => True) (fun _ t => ∃ f2 : Nat → Int32, pB dC dI (va_A [(q, .inl (cA, 64, .inl f))] sz) [(q, .inl (cA, 64, .inl f2))] [(cA, .int)] t) (va_A [(q, .inl (cA, 64, .inl f))] sz)) 0 0 (va_A [(q, .inl (cA, 64, .inl f))] sz) := by
  refine Met.ofW (cc := cJ7_fill_53178) (maxL := 4) (ret := none) (by decide) rfl ?_
  intro p e s m args below meth c s₁ B hml hv
  obtain ⟨rfl, hsz, hP, hK, hD0⟩ := hv
  have hx := B.exec
  have hb := B.bytes
  have hr := B.returns
  have hT : ∀ w ∈ TB, w.before [.ref q, .int v].toArray s = true := fun w h => atoms_spec (ws := wT yJ7_fill_53178 cJ7_fill_53178 4 none) B.pre w (List.mem_cons_of_mem _ h)
  have hown : s.vm.findClass RJ7 = some m.cls := findClass_of_methodNamed B.named
  have hlocks := B.notSynchronized
  subst hsz
  have hD := hD0.self (sz := s.heap.size)
  generalize hAe : va_A [(q, .inl (cA, 64, .inl f))] s.heap.size = A at hD ⊢
  have hA : ∀ q : Nat, s.heap.size ≤ q → A q := fun q h => by rw [← hAe]; exact Or.inr h
  have hS : va_S A s.heap s.heap [] := va_S.rf
  have hP : va_P (dC, dI) vwCl [(q, .inl (cA, 64, .inl f))] s.heap := hP
  have hl := lv_entry ([.ref q, .int v]) (n := 4) (Nat.le_of_ble_eq_true rfl)
  rw [lg_entry_eq]
  generalize (lg_sl ([.ref q, .int v]) ++ List.replicate (4 - (lg_sl ([.ref q, .int v])).length) Slot.unset).toArray = ls at hl ⊢
  have hl : lv_has ls 4 [(0, .ref q), (1, .int v)] := hl
  refine lv_iconst (v := 0) hx hb dJ7_fill_53178_0 (by decide) ?_
  refine lv_istore_n (lv' := [(2, .int 0), (0, .ref q), (1, .int v)]) hx hb dJ7_fill_53178_1 rfl hl (by decide) rfl (fun ls hl => ?_)
  refine lv_aload_n hx hb dJ7_fill_53178_2 rfl (lv_at hl 1 rfl) ?_
  refine va_alen (v := 64) hx hb hK hP 0 0 rfl rfl (by decide) dJ7_fill_53178_3 ?_
  refine lv_istore_n (lv' := [(3, .int 64), (2, .int 0), (0, .ref q), (1, .int v)]) hx hb dJ7_fill_53178_4 rfl hl (by decide) rfl (fun ls hl => ?_)
  have loop : ∀ (n i : Nat), i + n = 64 → ∀ (f_q : Nat → Int32) (H : Heap) (locs : List Loc), va_P (dC, dI) vwCl [(q, .inl (cA, 64, .inl f_q))] H → va_D A [(q, .inl (cA, 64, .inl f_q))] → va_S A s.heap H locs → ∀ ls : Array Slot, lv_has ls 4 [(3, .int 64), (2, .int (nI i)), (0, .ref q), (1, .int v)] → W p l e (headSpec (wT yJ7_fill_53178 cJ7_fill_53178 4 none) { frames := 0, cells := 0, slots := 0, locals := 0 }).room s m [.ref q, .int v].toArray below meth c H locs 0 0 (MQ below (va_Qv (fun _ : Unit => True) (fun _ t => ∃ f2 : Nat → Int32, pB dC dI A [(q, .inl (cA, 64, .inl f2))] [(cA, .int)] t) A) [.ref q, .int v].toArray s 0 0 A) (F0 m 5 ls []) := by
    intro n
    induction n with
    | zero =>
      intro i hi f_q H locs hP hD hS ls hl
      obtain rfl : i = 64 := by omega
      refine lv_iload_n hx hb dJ7_fill_53178_5 rfl (lv_at hl 1 rfl) ?_
      refine lv_iload_n hx hb dJ7_fill_53178_6 rfl (lv_at hl 0 rfl) ?_
      refine lv_icmp_ge (tgt := 20) hx hb dJ7_fill_53178_7 (by decide) (fun _ => ?_) (fun h => absurd (by decide) h)
      refine W.widen (k := 0) (n := 0) (Nat.le_of_ble_eq_true rfl) (Nat.le_of_ble_eq_true rfl) ?_
      have hP9 := hP.sub (ws' := [(q, .inl (cA, 64, .inl f_q))]) [0] rfl
      have hD9 := hD.sub (ws' := [(q, .inl (cA, 64, .inl f_q))]) [0] (by decide) rfl
      have hK9 := hK.sub (tys' := [(cA, .int)]) [0] rfl
      exact W.vret hx hb hr (fun t ht hW => ⟨⟨(), rfl, trivial, f_q, by rw [ht]; exact hP9, va_K.moved hW.alike hK9, hD9⟩, hS.F ht⟩) hS.2.2 dJ7_fill_53178_20
    | succ n ih =>
      intro i hi f_q H locs hP hD hS ls hl
      have hlt : i < 64 := by omega
      refine lv_iload_n hx hb dJ7_fill_53178_5 rfl (lv_at hl 1 rfl) ?_
      refine lv_iload_n hx hb dJ7_fill_53178_6 rfl (lv_at hl 0 rfl) ?_
      refine lv_icmp_ge (tgt := 20) hx hb dJ7_fill_53178_7 (by decide) (fun h => absurd h (nI_ge (a := i) (b := 64) hlt (by decide))) (fun _ => ?_)
      refine lv_aload_n hx hb dJ7_fill_53178_10 rfl (lv_at hl 2 rfl) ?_
      refine lv_iload_n hx hb dJ7_fill_53178_11 rfl (lv_at hl 1 rfl) ?_
      refine lv_iload_n hx hb dJ7_fill_53178_12 rfl (lv_at hl 3 rfl) ?_
      refine va_iast hx hb hK hP hD hS 0 0 rfl rfl (vp_in_nI hlt (by decide)) dJ7_fill_53178_13 (fun H locs hP hD hS => ?_)
      obtain ⟨f_1, hf_1⟩ : ∃ f : Nat → Int32, f = upd f_q (nI i).toNatClampNeg v := ⟨_, rfl⟩
      rw [← hf_1] at hP hD
      have hP : va_P (dC, dI) vwCl [(q, .inl (cA, 64, .inl f_1))] H := hP
      have hD : va_D A [(q, .inl (cA, 64, .inl f_1))] := hD
      refine lv_iinc (v := nI (i + 1)) (lv' := [(2, .int (nI (i + 1))), (3, .int 64), (0, .ref q), (1, .int v)]) hx hb dJ7_fill_53178_14 hl (k := 1) rfl (nI_1 _) (by decide) rfl (fun ls hl => ?_)
      refine lv_goto (tgt := 5) hx hb dJ7_fill_53178_17 (by decide) ?_
      exact ih (i + 1) (by omega) f_1 _ _ (hP.sub [0] rfl) (hD.sub [0] (by decide) rfl) hS ls (lv_sub hl [1, 0, 2, 3] rfl)
  exact loop 64 0 (by omega) f _ _ hP hD hS ls hl

set_option maxHeartbeats 4000000 in
set_option maxRecDepth 100000 in
theorem k_Book (l : Launch) (dC : Nat → ClassId) (dI : Nat → Nat → Nat) (h0 : Nat) (sz : Nat) : Met l yX0_init (wT yX0_init cX0_init 1 none) ({ frames := 1, cells := 6, slots := 264, locals := 23 }) (pcW dC dI [.ref h0] sz [(h0, .inr (0, [.null, .null, .null, .null, .null, .null, .int 0, .int 0]))] []) (va_Qv (fun _ : Unit => True) (fun _ t => ∃ e0 : Nat, ∃ e1 : Nat, ∃ e2 : Nat, ∃ e3 : Nat, ∃ e4 : Nat, ∃ e5 : Nat, ∃ cA : ClassId, ∃ f : Nat → Int32, pB dC dI (va_A [(h0, .inr (0, [.null, .null, .null, .null, .null, .null, .int 0, .int 0]))] sz) [(h0, .inr (0, [.ref e0, .ref e1, .ref e2, .ref e3, .ref e4, .ref e5, .int 0, .int 0])), (e5, .inl (cA, 64, .inl f))] [(cA, .int)] t) (va_A [(h0, .inr (0, [.null, .null, .null, .null, .null, .null, .int 0, .int 0]))] sz)) 6 264 (va_A [(h0, .inr (0, [.null, .null, .null, .null, .null, .null, .int 0, .int 0]))] sz) := by
  refine Met.ofW (cc := cX0_init) (maxL := 1) (ret := none) (by decide) rfl ?_
  intro p e s m args below meth c s₁ B hml hv
  obtain ⟨rfl, hsz, hP, hK, hD0⟩ := hv
  have hx := B.exec
  have hb := B.bytes
  have hr := B.returns
  have hT : ∀ w ∈ TB, w.before [.ref h0].toArray s = true := fun w h => atoms_spec (ws := wT yX0_init cX0_init 1 none) B.pre w (List.mem_cons_of_mem _ h)
  have hown : s.vm.findClass RX0 = some m.cls := findClass_of_methodNamed B.named
  have hlocks := B.notSynchronized
  have hin : meth.name = "<init>" := (name_of_methodNamed B.named B.method).1
  subst hsz
  have hD := hD0.self (sz := s.heap.size)
  generalize hAe : va_A [(h0, .inr (0, [.null, .null, .null, .null, .null, .null, .int 0, .int 0]))] s.heap.size = A at hD ⊢
  have hA : ∀ q : Nat, s.heap.size ≤ q → A q := fun q h => by rw [← hAe]; exact Or.inr h
  have hS : va_S A s.heap s.heap [] := va_S.rf
  have hP : va_P (dC, dI) vwCl [(h0, .inr (0, [.null, .null, .null, .null, .null, .null, .int 0, .int 0]))] s.heap := hP
  have hl := lv_entry ([.ref h0]) (n := 1) (Nat.le_of_ble_eq_true rfl)
  rw [lg_entry_eq]
  generalize (lg_sl ([.ref h0]) ++ List.replicate (1 - (lg_sl ([.ref h0])).length) Slot.unset).toArray = ls at hl ⊢
  have hl : lv_has ls 1 [(0, .ref h0)] := hl
  refine lv_aload_n hx hb dX0_init_0 rfl (lv_at hl 0 rfl) ?_
  refine W.objInit hx hb hown (hT _ w83) (hT _ w28) (hT _ w29) rfl (by rw [hml]; exact hl.1) rfl dX0_init_1 (Nat.le_of_ble_eq_true rfl) (Nat.le_of_ble_eq_true rfl) ?_
  refine W.eq (g2 := F0 m 4 ls []) rfl ?_
  refine lv_aload_n hx hb dX0_init_4 rfl (lv_at hl 0 rfl) ?_
  refine lv_bipush (v := 40) hx hb dX0_init_5 (by decide) ?_
  refine va_newa (atype := .int) (ty := .int) (a0 := (40, .inl (fun _ => 0))) (n := 40) (N' := 40) hx hb (hT _ w77) rfl hK hP hD hS hA (fun _ => rfl) (by decide) (by decide) (Nat.le_of_ble_eq_true rfl) (Nat.le_of_ble_eq_true rfl) (Nat.le_of_ble_eq_true rfl) dX0_init_7 (fun q_1 cA_2 H hK hP hD hS => ?_)
  have hP : va_P (dC, dI) vwCl [(h0, .inr (0, [.null, .null, .null, .null, .null, .null, .int 0, .int 0])), (q_1, .inl (cA_2, 40, .inl (fun _ => 0)))] H := hP
  have hD : va_D A [(h0, .inr (0, [.null, .null, .null, .null, .null, .null, .int 0, .int 0])), (q_1, .inl (cA_2, 40, .inl (fun _ => 0)))] := hD
  have hK : va_K (dC, dI) vwCl [(cA_2, .int)] s := hK
  refine W.widen (k := 1) (n := 40) (Nat.le_of_ble_eq_true rfl) (Nat.le_of_ble_eq_true rfl) ?_
  refine va_putF (D := (dC, dI)) (ci := 0) (v := .ref q_1) (ty := .array .int) (C := RX0) (T := TX0) (N := 8) hx hb hT iX0 tyX0 tyX0_ok nmX0 hown hK hP hD hS 0 rfl rfl 0 (by decide) (hT _ w88) (fun _ h9 => h9) rfl hin rfl (by decide +kernel) rfl rfl (Nat.le_of_ble_eq_true rfl) dX0_init_9 (fun H locs hP hD hS => ?_)
  have hP : va_P (dC, dI) vwCl [(h0, .inr (0, [.ref q_1, .null, .null, .null, .null, .null, .int 0, .int 0])), (q_1, .inl (cA_2, 40, .inl (fun _ => 0)))] H := hP
  have hD : va_D A [(h0, .inr (0, [.ref q_1, .null, .null, .null, .null, .null, .int 0, .int 0])), (q_1, .inl (cA_2, 40, .inl (fun _ => 0)))] := hD
  refine lv_aload_n hx hb dX0_init_12 rfl (lv_at hl 0 rfl) ?_
  refine lv_bipush (v := 40) hx hb dX0_init_13 (by decide) ?_
  refine va_newa (atype := .int) (ty := .int) (a0 := (40, .inl (fun _ => 0))) (n := 40) (N' := 40) hx hb (hT _ w77) rfl hK hP hD hS hA (fun _ => rfl) (by decide) (by decide) (Nat.le_of_ble_eq_true rfl) (Nat.le_of_ble_eq_true rfl) (Nat.le_of_ble_eq_true rfl) dX0_init_15 (fun q_3 cA_4 H hK hP hD hS => ?_)
  have hP : va_P (dC, dI) vwCl [(h0, .inr (0, [.ref q_1, .null, .null, .null, .null, .null, .int 0, .int 0])), (q_1, .inl (cA_2, 40, .inl (fun _ => 0))), (q_3, .inl (cA_4, 40, .inl (fun _ => 0)))] H := hP
  have hD : va_D A [(h0, .inr (0, [.ref q_1, .null, .null, .null, .null, .null, .int 0, .int 0])), (q_1, .inl (cA_2, 40, .inl (fun _ => 0))), (q_3, .inl (cA_4, 40, .inl (fun _ => 0)))] := hD
  have hK : va_K (dC, dI) vwCl [(cA_2, .int), (cA_4, .int)] s := hK
  refine W.widen (k := 2) (n := 80) (Nat.le_of_ble_eq_true rfl) (Nat.le_of_ble_eq_true rfl) ?_
  refine va_putF (D := (dC, dI)) (ci := 0) (v := .ref q_3) (ty := .array .int) (C := RX0) (T := TX0) (N := 8) hx hb hT iX0 tyX0 tyX0_ok nmX0 hown hK hP hD hS 0 rfl rfl 1 (by decide) (hT _ w92) (fun _ h9 => h9) rfl hin rfl (by decide +kernel) rfl rfl (Nat.le_of_ble_eq_true rfl) dX0_init_17 (fun H locs hP hD hS => ?_)
  have hP : va_P (dC, dI) vwCl [(h0, .inr (0, [.ref q_1, .ref q_3, .null, .null, .null, .null, .int 0, .int 0])), (q_1, .inl (cA_2, 40, .inl (fun _ => 0))), (q_3, .inl (cA_4, 40, .inl (fun _ => 0)))] H := hP
  have hD : va_D A [(h0, .inr (0, [.ref q_1, .ref q_3, .null, .null, .null, .null, .int 0, .int 0])), (q_1, .inl (cA_2, 40, .inl (fun _ => 0))), (q_3, .inl (cA_4, 40, .inl (fun _ => 0)))] := hD
  refine lv_aload_n hx hb dX0_init_20 rfl (lv_at hl 0 rfl) ?_
  refine lv_bipush (v := 40) hx hb dX0_init_21 (by decide) ?_
  refine va_newa (atype := .int) (ty := .int) (a0 := (40, .inl (fun _ => 0))) (n := 40) (N' := 40) hx hb (hT _ w77) rfl hK hP hD hS hA (fun _ => rfl) (by decide) (by decide) (Nat.le_of_ble_eq_true rfl) (Nat.le_of_ble_eq_true rfl) (Nat.le_of_ble_eq_true rfl) dX0_init_23 (fun q_5 cA_6 H hK hP hD hS => ?_)
  have hP : va_P (dC, dI) vwCl [(h0, .inr (0, [.ref q_1, .ref q_3, .null, .null, .null, .null, .int 0, .int 0])), (q_1, .inl (cA_2, 40, .inl (fun _ => 0))), (q_3, .inl (cA_4, 40, .inl (fun _ => 0))), (q_5, .inl (cA_6, 40, .inl (fun _ => 0)))] H := hP
  have hD : va_D A [(h0, .inr (0, [.ref q_1, .ref q_3, .null, .null, .null, .null, .int 0, .int 0])), (q_1, .inl (cA_2, 40, .inl (fun _ => 0))), (q_3, .inl (cA_4, 40, .inl (fun _ => 0))), (q_5, .inl (cA_6, 40, .inl (fun _ => 0)))] := hD
  have hK : va_K (dC, dI) vwCl [(cA_2, .int), (cA_4, .int), (cA_6, .int)] s := hK
  refine W.widen (k := 3) (n := 120) (Nat.le_of_ble_eq_true rfl) (Nat.le_of_ble_eq_true rfl) ?_
  refine va_putF (D := (dC, dI)) (ci := 0) (v := .ref q_5) (ty := .array .int) (C := RX0) (T := TX0) (N := 8) hx hb hT iX0 tyX0 tyX0_ok nmX0 hown hK hP hD hS 0 rfl rfl 2 (by decide) (hT _ w96) (fun _ h9 => h9) rfl hin rfl (by decide +kernel) rfl rfl (Nat.le_of_ble_eq_true rfl) dX0_init_25 (fun H locs hP hD hS => ?_)
  have hP : va_P (dC, dI) vwCl [(h0, .inr (0, [.ref q_1, .ref q_3, .ref q_5, .null, .null, .null, .int 0, .int 0])), (q_1, .inl (cA_2, 40, .inl (fun _ => 0))), (q_3, .inl (cA_4, 40, .inl (fun _ => 0))), (q_5, .inl (cA_6, 40, .inl (fun _ => 0)))] H := hP
  have hD : va_D A [(h0, .inr (0, [.ref q_1, .ref q_3, .ref q_5, .null, .null, .null, .int 0, .int 0])), (q_1, .inl (cA_2, 40, .inl (fun _ => 0))), (q_3, .inl (cA_4, 40, .inl (fun _ => 0))), (q_5, .inl (cA_6, 40, .inl (fun _ => 0)))] := hD
  refine lv_aload_n hx hb dX0_init_28 rfl (lv_at hl 0 rfl) ?_
  refine lv_bipush (v := 40) hx hb dX0_init_29 (by decide) ?_
  refine va_newa (atype := .long) (ty := .long) (a0 := (40, .inr (.inl (fun _ => 0)))) (n := 40) (N' := 40) hx hb (hT _ w137) rfl hK hP hD hS hA (fun _ => rfl) (by decide) (by decide) (Nat.le_of_ble_eq_true rfl) (Nat.le_of_ble_eq_true rfl) (Nat.le_of_ble_eq_true rfl) dX0_init_31 (fun q_7 cA_8 H hK hP hD hS => ?_)
  have hP : va_P (dC, dI) vwCl [(h0, .inr (0, [.ref q_1, .ref q_3, .ref q_5, .null, .null, .null, .int 0, .int 0])), (q_1, .inl (cA_2, 40, .inl (fun _ => 0))), (q_3, .inl (cA_4, 40, .inl (fun _ => 0))), (q_5, .inl (cA_6, 40, .inl (fun _ => 0))), (q_7, .inl (cA_8, 40, .inr (.inl (fun _ => 0))))] H := hP
  have hD : va_D A [(h0, .inr (0, [.ref q_1, .ref q_3, .ref q_5, .null, .null, .null, .int 0, .int 0])), (q_1, .inl (cA_2, 40, .inl (fun _ => 0))), (q_3, .inl (cA_4, 40, .inl (fun _ => 0))), (q_5, .inl (cA_6, 40, .inl (fun _ => 0))), (q_7, .inl (cA_8, 40, .inr (.inl (fun _ => 0))))] := hD
  have hK : va_K (dC, dI) vwCl [(cA_2, .int), (cA_4, .int), (cA_6, .int), (cA_8, .long)] s := hK
  refine W.widen (k := 4) (n := 160) (Nat.le_of_ble_eq_true rfl) (Nat.le_of_ble_eq_true rfl) ?_
  refine va_putF (D := (dC, dI)) (ci := 0) (v := .ref q_7) (ty := .array .long) (C := RX0) (T := TX0) (N := 8) hx hb hT iX0 tyX0 tyX0_ok nmX0 hown hK hP hD hS 0 rfl rfl 3 (by decide) (hT _ w100) (fun _ h9 => h9) rfl hin rfl (by decide +kernel) rfl rfl (Nat.le_of_ble_eq_true rfl) dX0_init_33 (fun H locs hP hD hS => ?_)
  have hP : va_P (dC, dI) vwCl [(h0, .inr (0, [.ref q_1, .ref q_3, .ref q_5, .ref q_7, .null, .null, .int 0, .int 0])), (q_1, .inl (cA_2, 40, .inl (fun _ => 0))), (q_3, .inl (cA_4, 40, .inl (fun _ => 0))), (q_5, .inl (cA_6, 40, .inl (fun _ => 0))), (q_7, .inl (cA_8, 40, .inr (.inl (fun _ => 0))))] H := hP
  have hD : va_D A [(h0, .inr (0, [.ref q_1, .ref q_3, .ref q_5, .ref q_7, .null, .null, .int 0, .int 0])), (q_1, .inl (cA_2, 40, .inl (fun _ => 0))), (q_3, .inl (cA_4, 40, .inl (fun _ => 0))), (q_5, .inl (cA_6, 40, .inl (fun _ => 0))), (q_7, .inl (cA_8, 40, .inr (.inl (fun _ => 0))))] := hD
  refine lv_aload_n hx hb dX0_init_36 rfl (lv_at hl 0 rfl) ?_
  refine lv_bipush (v := 40) hx hb dX0_init_37 (by decide) ?_
  refine va_newa (atype := .boolean) (ty := .boolean) (a0 := (40, .inl (fun _ => 0))) (n := 40) (N' := 40) hx hb (hT _ w138) rfl hK hP hD hS hA (fun _ => rfl) (by decide) (by decide) (Nat.le_of_ble_eq_true rfl) (Nat.le_of_ble_eq_true rfl) (Nat.le_of_ble_eq_true rfl) dX0_init_39 (fun q_9 cA_10 H hK hP hD hS => ?_)
  have hP : va_P (dC, dI) vwCl [(h0, .inr (0, [.ref q_1, .ref q_3, .ref q_5, .ref q_7, .null, .null, .int 0, .int 0])), (q_1, .inl (cA_2, 40, .inl (fun _ => 0))), (q_3, .inl (cA_4, 40, .inl (fun _ => 0))), (q_5, .inl (cA_6, 40, .inl (fun _ => 0))), (q_7, .inl (cA_8, 40, .inr (.inl (fun _ => 0)))), (q_9, .inl (cA_10, 40, .inl (fun _ => 0)))] H := hP
  have hD : va_D A [(h0, .inr (0, [.ref q_1, .ref q_3, .ref q_5, .ref q_7, .null, .null, .int 0, .int 0])), (q_1, .inl (cA_2, 40, .inl (fun _ => 0))), (q_3, .inl (cA_4, 40, .inl (fun _ => 0))), (q_5, .inl (cA_6, 40, .inl (fun _ => 0))), (q_7, .inl (cA_8, 40, .inr (.inl (fun _ => 0)))), (q_9, .inl (cA_10, 40, .inl (fun _ => 0)))] := hD
  have hK : va_K (dC, dI) vwCl [(cA_2, .int), (cA_4, .int), (cA_6, .int), (cA_8, .long), (cA_10, .boolean)] s := hK
  refine W.widen (k := 5) (n := 200) (Nat.le_of_ble_eq_true rfl) (Nat.le_of_ble_eq_true rfl) ?_
  refine va_putF (D := (dC, dI)) (ci := 0) (v := .ref q_9) (ty := .array .boolean) (C := RX0) (T := TX0) (N := 8) hx hb hT iX0 tyX0 tyX0_ok nmX0 hown hK hP hD hS 0 rfl rfl 4 (by decide) (hT _ w104) (fun _ h9 => h9) rfl hin rfl (by decide +kernel) rfl rfl (Nat.le_of_ble_eq_true rfl) dX0_init_41 (fun H locs hP hD hS => ?_)
  have hP : va_P (dC, dI) vwCl [(h0, .inr (0, [.ref q_1, .ref q_3, .ref q_5, .ref q_7, .ref q_9, .null, .int 0, .int 0])), (q_1, .inl (cA_2, 40, .inl (fun _ => 0))), (q_3, .inl (cA_4, 40, .inl (fun _ => 0))), (q_5, .inl (cA_6, 40, .inl (fun _ => 0))), (q_7, .inl (cA_8, 40, .inr (.inl (fun _ => 0)))), (q_9, .inl (cA_10, 40, .inl (fun _ => 0)))] H := hP
  have hD : va_D A [(h0, .inr (0, [.ref q_1, .ref q_3, .ref q_5, .ref q_7, .ref q_9, .null, .int 0, .int 0])), (q_1, .inl (cA_2, 40, .inl (fun _ => 0))), (q_3, .inl (cA_4, 40, .inl (fun _ => 0))), (q_5, .inl (cA_6, 40, .inl (fun _ => 0))), (q_7, .inl (cA_8, 40, .inr (.inl (fun _ => 0)))), (q_9, .inl (cA_10, 40, .inl (fun _ => 0)))] := hD
  refine lv_aload_n hx hb dX0_init_44 rfl (lv_at hl 0 rfl) ?_
  refine lv_bipush (v := 64) hx hb dX0_init_45 (by decide) ?_
  refine va_newa (atype := .int) (ty := .int) (a0 := (64, .inl (fun _ => 0))) (n := 64) (N' := 64) hx hb (hT _ w77) rfl hK hP hD hS hA (fun _ => rfl) (by decide) (by decide) (Nat.le_of_ble_eq_true rfl) (Nat.le_of_ble_eq_true rfl) (Nat.le_of_ble_eq_true rfl) dX0_init_47 (fun q_11 cA_12 H hK hP hD hS => ?_)
  have hP : va_P (dC, dI) vwCl [(h0, .inr (0, [.ref q_1, .ref q_3, .ref q_5, .ref q_7, .ref q_9, .null, .int 0, .int 0])), (q_1, .inl (cA_2, 40, .inl (fun _ => 0))), (q_3, .inl (cA_4, 40, .inl (fun _ => 0))), (q_5, .inl (cA_6, 40, .inl (fun _ => 0))), (q_7, .inl (cA_8, 40, .inr (.inl (fun _ => 0)))), (q_9, .inl (cA_10, 40, .inl (fun _ => 0))), (q_11, .inl (cA_12, 64, .inl (fun _ => 0)))] H := hP
  have hD : va_D A [(h0, .inr (0, [.ref q_1, .ref q_3, .ref q_5, .ref q_7, .ref q_9, .null, .int 0, .int 0])), (q_1, .inl (cA_2, 40, .inl (fun _ => 0))), (q_3, .inl (cA_4, 40, .inl (fun _ => 0))), (q_5, .inl (cA_6, 40, .inl (fun _ => 0))), (q_7, .inl (cA_8, 40, .inr (.inl (fun _ => 0)))), (q_9, .inl (cA_10, 40, .inl (fun _ => 0))), (q_11, .inl (cA_12, 64, .inl (fun _ => 0)))] := hD
  have hK : va_K (dC, dI) vwCl [(cA_2, .int), (cA_4, .int), (cA_6, .int), (cA_8, .long), (cA_10, .boolean), (cA_12, .int)] s := hK
  refine W.widen (k := 6) (n := 264) (Nat.le_of_ble_eq_true rfl) (Nat.le_of_ble_eq_true rfl) ?_
  refine va_putF (D := (dC, dI)) (ci := 0) (v := .ref q_11) (ty := .array .int) (C := RX0) (T := TX0) (N := 8) hx hb hT iX0 tyX0 tyX0_ok nmX0 hown hK hP hD hS 0 rfl rfl 5 (by decide) (hT _ w109) (fun _ h9 => h9) rfl hin rfl (by decide +kernel) rfl rfl (Nat.le_of_ble_eq_true rfl) dX0_init_49 (fun H locs hP hD hS => ?_)
  have hP : va_P (dC, dI) vwCl [(h0, .inr (0, [.ref q_1, .ref q_3, .ref q_5, .ref q_7, .ref q_9, .ref q_11, .int 0, .int 0])), (q_1, .inl (cA_2, 40, .inl (fun _ => 0))), (q_3, .inl (cA_4, 40, .inl (fun _ => 0))), (q_5, .inl (cA_6, 40, .inl (fun _ => 0))), (q_7, .inl (cA_8, 40, .inr (.inl (fun _ => 0)))), (q_9, .inl (cA_10, 40, .inl (fun _ => 0))), (q_11, .inl (cA_12, 64, .inl (fun _ => 0)))] H := hP
  have hD : va_D A [(h0, .inr (0, [.ref q_1, .ref q_3, .ref q_5, .ref q_7, .ref q_9, .ref q_11, .int 0, .int 0])), (q_1, .inl (cA_2, 40, .inl (fun _ => 0))), (q_3, .inl (cA_4, 40, .inl (fun _ => 0))), (q_5, .inl (cA_6, 40, .inl (fun _ => 0))), (q_7, .inl (cA_8, 40, .inr (.inl (fun _ => 0)))), (q_9, .inl (cA_10, 40, .inl (fun _ => 0))), (q_11, .inl (cA_12, 64, .inl (fun _ => 0)))] := hD
  refine lv_aload_n hx hb dX0_init_52 rfl (lv_at hl 0 rfl) ?_
  refine va_get (D := (dC, dI)) (ci := 0) (v := .ref q_11) (C := RX0) (T := TX0) (N := 8) hx hb hT iX0 hown hK hP 0 rfl rfl 5 (by decide) (hT _ w109) (fun _ h9 => h9) rfl dX0_init_53 ?_
  refine lv_ldc (v := 99999999) hx hb hown (hT _ w84) dX0_init_56 ?_
  have hPc := hP.sub (ws' := [(q_11, .inl (cA_12, 64, .inl (fun _ => 0)))]) [6] rfl
  have hDc := hD.sub (ws' := [(q_11, .inl (cA_12, 64, .inl (fun _ => 0)))]) [6] (by decide) rfl
  have hKc := hK.sub (tys' := [(cA_12, .int)]) [5] rfl
  have hFc := va_free (wc := [(q_11, .inl (cA_12, 64, .inl (fun _ => 0)))]) hD hS hA [6] rfl
  refine va_callv (va_runS (As := [.ref q_11, .int 99999999]) (rest := []) ⟨hx, hb, hml, hown, hT⟩ (j_fill l dC dI q_11 cA_12 (fun _ => 0) H.size 99999999) (va_cwS 2 hT (gS w85 w86 w6 w87) rfl rfl rfl (by decide +kernel) ⟨(Nat.le_of_ble_eq_true rfl), (Nat.le_of_ble_eq_true rfl)⟩) ⟨pcW.blind, pcW.pre hPc hKc hDc⟩ rfl rfl hl.1 rfl (lv_room (Nat.le_of_ble_eq_true rfl)) dX0_init_58 ⟨(Nat.le_of_ble_eq_true rfl), (Nat.le_of_ble_eq_true rfl)⟩) hS (fun q _ h => hFc q h) hFc (fun u t H1 locs ht hvm hw hB hz1 hk1 hS => ?_)
  obtain ⟨f2_13, hP1, hK1, hD1⟩ := hB
  rw [ht] at hP1
  have hK1 := va_K.moved hvm.symm hK1
  obtain ⟨hP, hD⟩ := va_join (wr := [(h0, .inr (0, [.ref q_1, .ref q_3, .ref q_5, .ref q_7, .ref q_9, .ref q_11, .int 0, .int 0])), (q_1, .inl (cA_2, 40, .inl (fun _ => 0))), (q_3, .inl (cA_4, 40, .inl (fun _ => 0))), (q_5, .inl (cA_6, 40, .inl (fun _ => 0))), (q_7, .inl (cA_8, 40, .inr (.inl (fun _ => 0)))), (q_9, .inl (cA_10, 40, .inl (fun _ => 0)))]) (w1 := [(q_11, .inl (cA_12, 64, .inl f2_13))]) hP hD [6] [0, 1, 2, 3, 4, 5] rfl rfl (by decide) (by decide) hk1 hFc hP1 hD1
  have hK := hK.app hK1
  generalize H1 = H at hP hS ⊢
  have hP : va_P (dC, dI) vwCl [(h0, .inr (0, [.ref q_1, .ref q_3, .ref q_5, .ref q_7, .ref q_9, .ref q_11, .int 0, .int 0])), (q_1, .inl (cA_2, 40, .inl (fun _ => 0))), (q_3, .inl (cA_4, 40, .inl (fun _ => 0))), (q_5, .inl (cA_6, 40, .inl (fun _ => 0))), (q_7, .inl (cA_8, 40, .inr (.inl (fun _ => 0)))), (q_9, .inl (cA_10, 40, .inl (fun _ => 0))), (q_11, .inl (cA_12, 64, .inl f2_13))] H := hP
  have hD : va_D A [(h0, .inr (0, [.ref q_1, .ref q_3, .ref q_5, .ref q_7, .ref q_9, .ref q_11, .int 0, .int 0])), (q_1, .inl (cA_2, 40, .inl (fun _ => 0))), (q_3, .inl (cA_4, 40, .inl (fun _ => 0))), (q_5, .inl (cA_6, 40, .inl (fun _ => 0))), (q_7, .inl (cA_8, 40, .inr (.inl (fun _ => 0)))), (q_9, .inl (cA_10, 40, .inl (fun _ => 0))), (q_11, .inl (cA_12, 64, .inl f2_13))] := hD
  have hK : va_K (dC, dI) vwCl [(cA_2, .int), (cA_4, .int), (cA_6, .int), (cA_8, .long), (cA_10, .boolean), (cA_12, .int), (cA_12, .int)] s := hK
  refine W.widen (k := 6) (n := 264) (Nat.le_of_ble_eq_true rfl) (Nat.le_of_ble_eq_true rfl) ?_
  refine W.widen (k := 6) (n := 264) (Nat.le_of_ble_eq_true rfl) (Nat.le_of_ble_eq_true rfl) ?_
  have hP9 := hP.sub (ws' := [(h0, .inr (0, [.ref q_1, .ref q_3, .ref q_5, .ref q_7, .ref q_9, .ref q_11, .int 0, .int 0])), (q_11, .inl (cA_12, 64, .inl f2_13))]) [0, 6] rfl
  have hD9 := hD.sub (ws' := [(h0, .inr (0, [.ref q_1, .ref q_3, .ref q_5, .ref q_7, .ref q_9, .ref q_11, .int 0, .int 0])), (q_11, .inl (cA_12, 64, .inl f2_13))]) [0, 6] (by decide) rfl
  have hK9 := hK.sub (tys' := [(cA_12, .int)]) [5] rfl
  exact W.vret hx hb hr (fun t ht hW => ⟨⟨(), rfl, trivial, q_1, q_3, q_5, q_7, q_9, q_11, cA_12, f2_13, by rw [ht]; exact hP9, va_K.moved hW.alike hK9, hD9⟩, hS.F ht⟩) hS.2.2 dX0_init_61

set_option maxHeartbeats 4000000 in
set_option maxRecDepth 100000 in
theorem k_Names (l : Launch) (dC : Nat → ClassId) (dI : Nat → Nat → Nat) (h0 : Nat) (sz : Nat) : Met l yX3_init (wT yX3_init cX3_init 1 none) ({ frames := 1, cells := 2, slots := 108, locals := 12 }) (pcW dC dI [.ref h0] sz [(h0, .inr (3, [.null, .null, .int 0, .int 0]))] []) (va_Qv (fun _ : Unit => True) (fun _ t => ∃ l0 : Nat, ∃ l1 : Nat, pB dC dI (va_A [(h0, .inr (3, [.null, .null, .int 0, .int 0]))] sz) [(h0, .inr (3, [.ref l0, .ref l1, .int 0, .int 0]))] [] t) (va_A [(h0, .inr (3, [.null, .null, .int 0, .int 0]))] sz)) 2 108 (va_A [(h0, .inr (3, [.null, .null, .int 0, .int 0]))] sz) := by
  refine Met.ofW (cc := cX3_init) (maxL := 1) (ret := none) (by decide) rfl ?_
  intro p e s m args below meth c s₁ B hml hv
  obtain ⟨rfl, hsz, hP, hK, hD0⟩ := hv
  have hx := B.exec
  have hb := B.bytes
  have hr := B.returns
  have hT : ∀ w ∈ TB, w.before [.ref h0].toArray s = true := fun w h => atoms_spec (ws := wT yX3_init cX3_init 1 none) B.pre w (List.mem_cons_of_mem _ h)
  have hown : s.vm.findClass RX3 = some m.cls := findClass_of_methodNamed B.named
  have hlocks := B.notSynchronized
  have hin : meth.name = "<init>" := (name_of_methodNamed B.named B.method).1
  subst hsz
  have hD := hD0.self (sz := s.heap.size)
  generalize hAe : va_A [(h0, .inr (3, [.null, .null, .int 0, .int 0]))] s.heap.size = A at hD ⊢
  have hA : ∀ q : Nat, s.heap.size ≤ q → A q := fun q h => by rw [← hAe]; exact Or.inr h
  have hS : va_S A s.heap s.heap [] := va_S.rf
  have hP : va_P (dC, dI) vwCl [(h0, .inr (3, [.null, .null, .int 0, .int 0]))] s.heap := hP
  have hl := lv_entry ([.ref h0]) (n := 1) (Nat.le_of_ble_eq_true rfl)
  rw [lg_entry_eq]
  generalize (lg_sl ([.ref h0]) ++ List.replicate (1 - (lg_sl ([.ref h0])).length) Slot.unset).toArray = ls at hl ⊢
  have hl : lv_has ls 1 [(0, .ref h0)] := hl
  refine lv_aload_n hx hb dX3_init_0 rfl (lv_at hl 0 rfl) ?_
  refine W.objInit hx hb hown (hT _ w57) (hT _ w28) (hT _ w29) rfl (by rw [hml]; exact hl.1) rfl dX3_init_1 (Nat.le_of_ble_eq_true rfl) (Nat.le_of_ble_eq_true rfl) ?_
  refine W.eq (g2 := F0 m 4 ls []) rfl ?_
  refine lv_aload_n hx hb dX3_init_4 rfl (lv_at hl 0 rfl) ?_
  refine lv_bipush (v := 96) hx hb dX3_init_5 (by decide) ?_
  refine va_newa (atype := .byte) (ty := .byte) (a0 := (96, .inl (fun _ => 0))) (n := 96) (N' := 96) hx hb (hT _ w45) rfl hK hP hD hS hA (fun _ => rfl) (by decide) (by decide) (Nat.le_of_ble_eq_true rfl) (Nat.le_of_ble_eq_true rfl) (Nat.le_of_ble_eq_true rfl) dX3_init_7 (fun q_1 cA_2 H hK hP hD hS => ?_)
  have hP : va_P (dC, dI) vwCl [(h0, .inr (3, [.null, .null, .int 0, .int 0])), (q_1, .inl (cA_2, 96, .inl (fun _ => 0)))] H := hP
  have hD : va_D A [(h0, .inr (3, [.null, .null, .int 0, .int 0])), (q_1, .inl (cA_2, 96, .inl (fun _ => 0)))] := hD
  have hK : va_K (dC, dI) vwCl [(cA_2, .byte)] s := hK
  refine W.widen (k := 1) (n := 96) (Nat.le_of_ble_eq_true rfl) (Nat.le_of_ble_eq_true rfl) ?_
  refine va_putF (D := (dC, dI)) (ci := 3) (v := .ref q_1) (ty := .array .byte) (C := RX3) (T := TX3) (N := 4) hx hb hT iX3 tyX3 tyX3_ok nmX3 hown hK hP hD hS 0 rfl rfl 0 (by decide) (hT _ w58) (fun _ h9 => h9) rfl hin rfl (by decide +kernel) rfl rfl (Nat.le_of_ble_eq_true rfl) dX3_init_9 (fun H locs hP hD hS => ?_)
  have hP : va_P (dC, dI) vwCl [(h0, .inr (3, [.ref q_1, .null, .int 0, .int 0])), (q_1, .inl (cA_2, 96, .inl (fun _ => 0)))] H := hP
  have hD : va_D A [(h0, .inr (3, [.ref q_1, .null, .int 0, .int 0])), (q_1, .inl (cA_2, 96, .inl (fun _ => 0)))] := hD
  refine lv_aload_n hx hb dX3_init_12 rfl (lv_at hl 0 rfl) ?_
  refine lv_bipush (v := 12) hx hb dX3_init_13 (by decide) ?_
  refine va_newa (atype := .int) (ty := .int) (a0 := (12, .inl (fun _ => 0))) (n := 12) (N' := 12) hx hb (hT _ w77) rfl hK hP hD hS hA (fun _ => rfl) (by decide) (by decide) (Nat.le_of_ble_eq_true rfl) (Nat.le_of_ble_eq_true rfl) (Nat.le_of_ble_eq_true rfl) dX3_init_15 (fun q_3 cA_4 H hK hP hD hS => ?_)
  have hP : va_P (dC, dI) vwCl [(h0, .inr (3, [.ref q_1, .null, .int 0, .int 0])), (q_1, .inl (cA_2, 96, .inl (fun _ => 0))), (q_3, .inl (cA_4, 12, .inl (fun _ => 0)))] H := hP
  have hD : va_D A [(h0, .inr (3, [.ref q_1, .null, .int 0, .int 0])), (q_1, .inl (cA_2, 96, .inl (fun _ => 0))), (q_3, .inl (cA_4, 12, .inl (fun _ => 0)))] := hD
  have hK : va_K (dC, dI) vwCl [(cA_2, .byte), (cA_4, .int)] s := hK
  refine W.widen (k := 2) (n := 108) (Nat.le_of_ble_eq_true rfl) (Nat.le_of_ble_eq_true rfl) ?_
  refine va_putF (D := (dC, dI)) (ci := 3) (v := .ref q_3) (ty := .array .int) (C := RX3) (T := TX3) (N := 4) hx hb hT iX3 tyX3 tyX3_ok nmX3 hown hK hP hD hS 0 rfl rfl 1 (by decide) (hT _ w60) (fun _ h9 => h9) rfl hin rfl (by decide +kernel) rfl rfl (Nat.le_of_ble_eq_true rfl) dX3_init_17 (fun H locs hP hD hS => ?_)
  have hP : va_P (dC, dI) vwCl [(h0, .inr (3, [.ref q_1, .ref q_3, .int 0, .int 0])), (q_1, .inl (cA_2, 96, .inl (fun _ => 0))), (q_3, .inl (cA_4, 12, .inl (fun _ => 0)))] H := hP
  have hD : va_D A [(h0, .inr (3, [.ref q_1, .ref q_3, .int 0, .int 0])), (q_1, .inl (cA_2, 96, .inl (fun _ => 0))), (q_3, .inl (cA_4, 12, .inl (fun _ => 0)))] := hD
  refine W.widen (k := 2) (n := 108) (Nat.le_of_ble_eq_true rfl) (Nat.le_of_ble_eq_true rfl) ?_
  have hP9 := hP.sub (ws' := [(h0, .inr (3, [.ref q_1, .ref q_3, .int 0, .int 0]))]) [0] rfl
  have hD9 := hD.sub (ws' := [(h0, .inr (3, [.ref q_1, .ref q_3, .int 0, .int 0]))]) [0] (by decide) rfl
  have hK9 := hK.sub (tys' := []) [] rfl
  exact W.vret hx hb hr (fun t ht hW => ⟨⟨(), rfl, trivial, q_1, q_3, by rw [ht]; exact hP9, va_K.moved hW.alike hK9, hD9⟩, hS.F ht⟩) hS.2.2 dX3_init_20

set_option maxHeartbeats 4000000 in
set_option maxRecDepth 100000 in
theorem k_Tape (l : Launch) (dC : Nat → ClassId) (dI : Nat → Nat → Nat) (h0 : Nat) (sz : Nat) : Met l yX10_init (wT yX10_init cX10_init 1 none) ({ frames := 1, cells := 1, slots := 900, locals := 12 }) (pcW dC dI [.ref h0] sz [(h0, .inr (10, [.null, .int 0]))] []) (va_Qv (fun _ : Unit => True) (fun _ t => ∃ tb : Nat, ∃ cB : ClassId, ∃ fb : Nat → Int32, pB dC dI (va_A [(h0, .inr (10, [.null, .int 0]))] sz) [(h0, .inr (10, [.ref tb, .int 0])), (tb, .inl (cB, 900, .inl fb))] [(cB, .byte)] t) (va_A [(h0, .inr (10, [.null, .int 0]))] sz)) 1 900 (va_A [(h0, .inr (10, [.null, .int 0]))] sz) := by
  refine Met.ofW (cc := cX10_init) (maxL := 1) (ret := none) (by decide) rfl ?_
  intro p e s m args below meth c s₁ B hml hv
  obtain ⟨rfl, hsz, hP, hK, hD0⟩ := hv
  have hx := B.exec
  have hb := B.bytes
  have hr := B.returns
  have hT : ∀ w ∈ TB, w.before [.ref h0].toArray s = true := fun w h => atoms_spec (ws := wT yX10_init cX10_init 1 none) B.pre w (List.mem_cons_of_mem _ h)
  have hown : s.vm.findClass RX10 = some m.cls := findClass_of_methodNamed B.named
  have hlocks := B.notSynchronized
  have hin : meth.name = "<init>" := (name_of_methodNamed B.named B.method).1
  subst hsz
  have hD := hD0.self (sz := s.heap.size)
  generalize hAe : va_A [(h0, .inr (10, [.null, .int 0]))] s.heap.size = A at hD ⊢
  have hA : ∀ q : Nat, s.heap.size ≤ q → A q := fun q h => by rw [← hAe]; exact Or.inr h
  have hS : va_S A s.heap s.heap [] := va_S.rf
  have hP : va_P (dC, dI) vwCl [(h0, .inr (10, [.null, .int 0]))] s.heap := hP
  have hl := lv_entry ([.ref h0]) (n := 1) (Nat.le_of_ble_eq_true rfl)
  rw [lg_entry_eq]
  generalize (lg_sl ([.ref h0]) ++ List.replicate (1 - (lg_sl ([.ref h0])).length) Slot.unset).toArray = ls at hl ⊢
  have hl : lv_has ls 1 [(0, .ref h0)] := hl
  refine lv_aload_n hx hb dX10_init_0 rfl (lv_at hl 0 rfl) ?_
  refine W.objInit hx hb hown (hT _ w35) (hT _ w28) (hT _ w29) rfl (by rw [hml]; exact hl.1) rfl dX10_init_1 (Nat.le_of_ble_eq_true rfl) (Nat.le_of_ble_eq_true rfl) ?_
  refine W.eq (g2 := F0 m 4 ls []) rfl ?_
  refine lv_aload_n hx hb dX10_init_4 rfl (lv_at hl 0 rfl) ?_
  refine lv_sipush (v := 900) hx hb dX10_init_5 (by decide) ?_
  refine va_newa (atype := .byte) (ty := .byte) (a0 := (900, .inl (fun _ => 0))) (n := 900) (N' := 900) hx hb (hT _ w45) rfl hK hP hD hS hA (fun _ => rfl) (by decide) (by decide) (Nat.le_of_ble_eq_true rfl) (Nat.le_of_ble_eq_true rfl) (Nat.le_of_ble_eq_true rfl) dX10_init_8 (fun q_1 cA_2 H hK hP hD hS => ?_)
  have hP : va_P (dC, dI) vwCl [(h0, .inr (10, [.null, .int 0])), (q_1, .inl (cA_2, 900, .inl (fun _ => 0)))] H := hP
  have hD : va_D A [(h0, .inr (10, [.null, .int 0])), (q_1, .inl (cA_2, 900, .inl (fun _ => 0)))] := hD
  have hK : va_K (dC, dI) vwCl [(cA_2, .byte)] s := hK
  refine W.widen (k := 1) (n := 900) (Nat.le_of_ble_eq_true rfl) (Nat.le_of_ble_eq_true rfl) ?_
  refine va_putF (D := (dC, dI)) (ci := 10) (v := .ref q_1) (ty := .array .byte) (C := RX10) (T := TX10) (N := 2) hx hb hT iX10 tyX10 tyX10_ok nmX10 hown hK hP hD hS 0 rfl rfl 0 (by decide) (hT _ w36) (fun _ h9 => h9) rfl hin rfl (by decide +kernel) rfl rfl (Nat.le_of_ble_eq_true rfl) dX10_init_10 (fun H locs hP hD hS => ?_)
  have hP : va_P (dC, dI) vwCl [(h0, .inr (10, [.ref q_1, .int 0])), (q_1, .inl (cA_2, 900, .inl (fun _ => 0)))] H := hP
  have hD : va_D A [(h0, .inr (10, [.ref q_1, .int 0])), (q_1, .inl (cA_2, 900, .inl (fun _ => 0)))] := hD
  refine W.widen (k := 1) (n := 900) (Nat.le_of_ble_eq_true rfl) (Nat.le_of_ble_eq_true rfl) ?_
  have hP9 := hP.sub (ws' := [(h0, .inr (10, [.ref q_1, .int 0])), (q_1, .inl (cA_2, 900, .inl (fun _ => 0)))]) [0, 1] rfl
  have hD9 := hD.sub (ws' := [(h0, .inr (10, [.ref q_1, .int 0])), (q_1, .inl (cA_2, 900, .inl (fun _ => 0)))]) [0, 1] (by decide) rfl
  have hK9 := hK.sub (tys' := [(cA_2, .byte)]) [0] rfl
  exact W.vret hx hb hr (fun t ht hW => ⟨⟨(), rfl, trivial, q_1, cA_2, fun _ => 0, by rw [ht]; exact hP9, va_K.moved hW.alike hK9, hD9⟩, hS.F ht⟩) hS.2.2 dX10_init_13

set_option maxHeartbeats 4000000 in
set_option maxRecDepth 100000 in
theorem k_Flows (l : Launch) (dC : Nat → ClassId) (dI : Nat → Nat → Nat) (h0 : Nat) (sz : Nat) : Met l yX1_init (wT yX1_init cX1_init 1 none) ({ frames := 1, cells := 1, slots := 64, locals := 12 }) (pcW dC dI [.ref h0] sz [(h0, .inr (1, [.null, .int 0]))] []) (va_Qv (fun _ : Unit => True) (fun _ _ => True) (va_A [(h0, .inr (1, [.null, .int 0]))] sz)) 1 64 (va_A [(h0, .inr (1, [.null, .int 0]))] sz) := by
  refine Met.ofW (cc := cX1_init) (maxL := 1) (ret := none) (by decide) rfl ?_
  intro p e s m args below meth c s₁ B hml hv
  obtain ⟨rfl, hsz, hP, hK, hD0⟩ := hv
  have hx := B.exec
  have hb := B.bytes
  have hr := B.returns
  have hT : ∀ w ∈ TB, w.before [.ref h0].toArray s = true := fun w h => atoms_spec (ws := wT yX1_init cX1_init 1 none) B.pre w (List.mem_cons_of_mem _ h)
  have hown : s.vm.findClass RX1 = some m.cls := findClass_of_methodNamed B.named
  have hlocks := B.notSynchronized
  have hin : meth.name = "<init>" := (name_of_methodNamed B.named B.method).1
  subst hsz
  have hD := hD0.self (sz := s.heap.size)
  generalize hAe : va_A [(h0, .inr (1, [.null, .int 0]))] s.heap.size = A at hD ⊢
  have hA : ∀ q : Nat, s.heap.size ≤ q → A q := fun q h => by rw [← hAe]; exact Or.inr h
  have hS : va_S A s.heap s.heap [] := va_S.rf
  have hP : va_P (dC, dI) vwCl [(h0, .inr (1, [.null, .int 0]))] s.heap := hP
  have hl := lv_entry ([.ref h0]) (n := 1) (Nat.le_of_ble_eq_true rfl)
  rw [lg_entry_eq]
  generalize (lg_sl ([.ref h0]) ++ List.replicate (1 - (lg_sl ([.ref h0])).length) Slot.unset).toArray = ls at hl ⊢
  have hl : lv_has ls 1 [(0, .ref h0)] := hl
  refine lv_aload_n hx hb dX1_init_0 rfl (lv_at hl 0 rfl) ?_
  refine W.objInit hx hb hown (hT _ w196) (hT _ w28) (hT _ w29) rfl (by rw [hml]; exact hl.1) rfl dX1_init_1 (Nat.le_of_ble_eq_true rfl) (Nat.le_of_ble_eq_true rfl) ?_
  refine W.eq (g2 := F0 m 4 ls []) rfl ?_
  refine lv_aload_n hx hb dX1_init_4 rfl (lv_at hl 0 rfl) ?_
  refine lv_bipush (v := 64) hx hb dX1_init_5 (by decide) ?_
  refine va_newa (atype := .long) (ty := .long) (a0 := (64, .inr (.inl (fun _ => 0)))) (n := 64) (N' := 64) hx hb (hT _ w137) rfl hK hP hD hS hA (fun _ => rfl) (by decide) (by decide) (Nat.le_of_ble_eq_true rfl) (Nat.le_of_ble_eq_true rfl) (Nat.le_of_ble_eq_true rfl) dX1_init_7 (fun q_1 cA_2 H hK hP hD hS => ?_)
  have hP : va_P (dC, dI) vwCl [(h0, .inr (1, [.null, .int 0])), (q_1, .inl (cA_2, 64, .inr (.inl (fun _ => 0))))] H := hP
  have hD : va_D A [(h0, .inr (1, [.null, .int 0])), (q_1, .inl (cA_2, 64, .inr (.inl (fun _ => 0))))] := hD
  have hK : va_K (dC, dI) vwCl [(cA_2, .long)] s := hK
  refine W.widen (k := 1) (n := 64) (Nat.le_of_ble_eq_true rfl) (Nat.le_of_ble_eq_true rfl) ?_
  refine va_putF (D := (dC, dI)) (ci := 1) (v := .ref q_1) (ty := .array .long) (C := RX1) (T := TX1) (N := 2) hx hb hT iX1 tyX1 tyX1_ok nmX1 hown hK hP hD hS 0 rfl rfl 0 (by decide) (hT _ w197) (fun _ h9 => h9) rfl hin rfl (by decide +kernel) rfl rfl (Nat.le_of_ble_eq_true rfl) dX1_init_9 (fun H locs hP hD hS => ?_)
  have hP : va_P (dC, dI) vwCl [(h0, .inr (1, [.ref q_1, .int 0])), (q_1, .inl (cA_2, 64, .inr (.inl (fun _ => 0))))] H := hP
  have hD : va_D A [(h0, .inr (1, [.ref q_1, .int 0])), (q_1, .inl (cA_2, 64, .inr (.inl (fun _ => 0))))] := hD
  refine W.widen (k := 1) (n := 64) (Nat.le_of_ble_eq_true rfl) (Nat.le_of_ble_eq_true rfl) ?_
  exact W.vret hx hb hr (fun t ht hW => ⟨⟨(), rfl, trivial, trivial⟩, hS.F ht⟩) hS.2.2 dX1_init_12

set_option maxHeartbeats 4000000 in
set_option maxRecDepth 100000 in
theorem k_Rings (l : Launch) (dC : Nat → ClassId) (dI : Nat → Nat → Nat) (h0 : Nat) (sz : Nat) : Met l yX7_init (wT yX7_init cX7_init 1 none) ({ frames := 1, cells := 3, slots := 24, locals := 12 }) (pcW dC dI [.ref h0] sz [(h0, .inr (7, [.null, .int 0, .long 0, .int 0, .null, .null]))] []) (va_Qv (fun _ : Unit => True) (fun _ _ => True) (va_A [(h0, .inr (7, [.null, .int 0, .long 0, .int 0, .null, .null]))] sz)) 3 24 (va_A [(h0, .inr (7, [.null, .int 0, .long 0, .int 0, .null, .null]))] sz) := by
  refine Met.ofW (cc := cX7_init) (maxL := 1) (ret := none) (by decide) rfl ?_
  intro p e s m args below meth c s₁ B hml hv
  obtain ⟨rfl, hsz, hP, hK, hD0⟩ := hv
  have hx := B.exec
  have hb := B.bytes
  have hr := B.returns
  have hT : ∀ w ∈ TB, w.before [.ref h0].toArray s = true := fun w h => atoms_spec (ws := wT yX7_init cX7_init 1 none) B.pre w (List.mem_cons_of_mem _ h)
  have hown : s.vm.findClass RX7 = some m.cls := findClass_of_methodNamed B.named
  have hlocks := B.notSynchronized
  have hin : meth.name = "<init>" := (name_of_methodNamed B.named B.method).1
  subst hsz
  have hD := hD0.self (sz := s.heap.size)
  generalize hAe : va_A [(h0, .inr (7, [.null, .int 0, .long 0, .int 0, .null, .null]))] s.heap.size = A at hD ⊢
  have hA : ∀ q : Nat, s.heap.size ≤ q → A q := fun q h => by rw [← hAe]; exact Or.inr h
  have hS : va_S A s.heap s.heap [] := va_S.rf
  have hP : va_P (dC, dI) vwCl [(h0, .inr (7, [.null, .int 0, .long 0, .int 0, .null, .null]))] s.heap := hP
  have hl := lv_entry ([.ref h0]) (n := 1) (Nat.le_of_ble_eq_true rfl)
  rw [lg_entry_eq]
  generalize (lg_sl ([.ref h0]) ++ List.replicate (1 - (lg_sl ([.ref h0])).length) Slot.unset).toArray = ls at hl ⊢
  have hl : lv_has ls 1 [(0, .ref h0)] := hl
  refine lv_aload_n hx hb dX7_init_0 rfl (lv_at hl 0 rfl) ?_
  refine W.objInit hx hb hown (hT _ w215) (hT _ w28) (hT _ w29) rfl (by rw [hml]; exact hl.1) rfl dX7_init_1 (Nat.le_of_ble_eq_true rfl) (Nat.le_of_ble_eq_true rfl) ?_
  refine W.eq (g2 := F0 m 4 ls []) rfl ?_
  refine lv_aload_n hx hb dX7_init_4 rfl (lv_at hl 0 rfl) ?_
  refine lv_bipush (v := 8) hx hb dX7_init_5 (by decide) ?_
  refine va_newa (atype := .int) (ty := .int) (a0 := (8, .inl (fun _ => 0))) (n := 8) (N' := 8) hx hb (hT _ w77) rfl hK hP hD hS hA (fun _ => rfl) (by decide) (by decide) (Nat.le_of_ble_eq_true rfl) (Nat.le_of_ble_eq_true rfl) (Nat.le_of_ble_eq_true rfl) dX7_init_7 (fun q_1 cA_2 H hK hP hD hS => ?_)
  have hP : va_P (dC, dI) vwCl [(h0, .inr (7, [.null, .int 0, .long 0, .int 0, .null, .null])), (q_1, .inl (cA_2, 8, .inl (fun _ => 0)))] H := hP
  have hD : va_D A [(h0, .inr (7, [.null, .int 0, .long 0, .int 0, .null, .null])), (q_1, .inl (cA_2, 8, .inl (fun _ => 0)))] := hD
  have hK : va_K (dC, dI) vwCl [(cA_2, .int)] s := hK
  refine W.widen (k := 1) (n := 8) (Nat.le_of_ble_eq_true rfl) (Nat.le_of_ble_eq_true rfl) ?_
  refine va_putF (D := (dC, dI)) (ci := 7) (v := .ref q_1) (ty := .array .int) (C := RX7) (T := TX7) (N := 6) hx hb hT iX7 tyX7 tyX7_ok nmX7 hown hK hP hD hS 0 rfl rfl 0 (by decide) (hT _ w216) (fun _ h9 => h9) rfl hin rfl (by decide +kernel) rfl rfl (Nat.le_of_ble_eq_true rfl) dX7_init_9 (fun H locs hP hD hS => ?_)
  have hP : va_P (dC, dI) vwCl [(h0, .inr (7, [.ref q_1, .int 0, .long 0, .int 0, .null, .null])), (q_1, .inl (cA_2, 8, .inl (fun _ => 0)))] H := hP
  have hD : va_D A [(h0, .inr (7, [.ref q_1, .int 0, .long 0, .int 0, .null, .null])), (q_1, .inl (cA_2, 8, .inl (fun _ => 0)))] := hD
  refine lv_aload_n hx hb dX7_init_12 rfl (lv_at hl 0 rfl) ?_
  refine lv_bipush (v := 8) hx hb dX7_init_13 (by decide) ?_
  refine va_newa (atype := .int) (ty := .int) (a0 := (8, .inl (fun _ => 0))) (n := 8) (N' := 8) hx hb (hT _ w77) rfl hK hP hD hS hA (fun _ => rfl) (by decide) (by decide) (Nat.le_of_ble_eq_true rfl) (Nat.le_of_ble_eq_true rfl) (Nat.le_of_ble_eq_true rfl) dX7_init_15 (fun q_3 cA_4 H hK hP hD hS => ?_)
  have hP : va_P (dC, dI) vwCl [(h0, .inr (7, [.ref q_1, .int 0, .long 0, .int 0, .null, .null])), (q_1, .inl (cA_2, 8, .inl (fun _ => 0))), (q_3, .inl (cA_4, 8, .inl (fun _ => 0)))] H := hP
  have hD : va_D A [(h0, .inr (7, [.ref q_1, .int 0, .long 0, .int 0, .null, .null])), (q_1, .inl (cA_2, 8, .inl (fun _ => 0))), (q_3, .inl (cA_4, 8, .inl (fun _ => 0)))] := hD
  have hK : va_K (dC, dI) vwCl [(cA_2, .int), (cA_4, .int)] s := hK
  refine W.widen (k := 2) (n := 16) (Nat.le_of_ble_eq_true rfl) (Nat.le_of_ble_eq_true rfl) ?_
  refine va_putF (D := (dC, dI)) (ci := 7) (v := .ref q_3) (ty := .array .int) (C := RX7) (T := TX7) (N := 6) hx hb hT iX7 tyX7 tyX7_ok nmX7 hown hK hP hD hS 0 rfl rfl 4 (by decide) (hT _ w224) (fun _ h9 => h9) rfl hin rfl (by decide +kernel) rfl rfl (Nat.le_of_ble_eq_true rfl) dX7_init_17 (fun H locs hP hD hS => ?_)
  have hP : va_P (dC, dI) vwCl [(h0, .inr (7, [.ref q_1, .int 0, .long 0, .int 0, .ref q_3, .null])), (q_1, .inl (cA_2, 8, .inl (fun _ => 0))), (q_3, .inl (cA_4, 8, .inl (fun _ => 0)))] H := hP
  have hD : va_D A [(h0, .inr (7, [.ref q_1, .int 0, .long 0, .int 0, .ref q_3, .null])), (q_1, .inl (cA_2, 8, .inl (fun _ => 0))), (q_3, .inl (cA_4, 8, .inl (fun _ => 0)))] := hD
  refine lv_aload_n hx hb dX7_init_20 rfl (lv_at hl 0 rfl) ?_
  refine lv_bipush (v := 8) hx hb dX7_init_21 (by decide) ?_
  refine va_newa (atype := .int) (ty := .int) (a0 := (8, .inl (fun _ => 0))) (n := 8) (N' := 8) hx hb (hT _ w77) rfl hK hP hD hS hA (fun _ => rfl) (by decide) (by decide) (Nat.le_of_ble_eq_true rfl) (Nat.le_of_ble_eq_true rfl) (Nat.le_of_ble_eq_true rfl) dX7_init_23 (fun q_5 cA_6 H hK hP hD hS => ?_)
  have hP : va_P (dC, dI) vwCl [(h0, .inr (7, [.ref q_1, .int 0, .long 0, .int 0, .ref q_3, .null])), (q_1, .inl (cA_2, 8, .inl (fun _ => 0))), (q_3, .inl (cA_4, 8, .inl (fun _ => 0))), (q_5, .inl (cA_6, 8, .inl (fun _ => 0)))] H := hP
  have hD : va_D A [(h0, .inr (7, [.ref q_1, .int 0, .long 0, .int 0, .ref q_3, .null])), (q_1, .inl (cA_2, 8, .inl (fun _ => 0))), (q_3, .inl (cA_4, 8, .inl (fun _ => 0))), (q_5, .inl (cA_6, 8, .inl (fun _ => 0)))] := hD
  have hK : va_K (dC, dI) vwCl [(cA_2, .int), (cA_4, .int), (cA_6, .int)] s := hK
  refine W.widen (k := 3) (n := 24) (Nat.le_of_ble_eq_true rfl) (Nat.le_of_ble_eq_true rfl) ?_
  refine va_putF (D := (dC, dI)) (ci := 7) (v := .ref q_5) (ty := .array .int) (C := RX7) (T := TX7) (N := 6) hx hb hT iX7 tyX7 tyX7_ok nmX7 hown hK hP hD hS 0 rfl rfl 5 (by decide) (hT _ w225) (fun _ h9 => h9) rfl hin rfl (by decide +kernel) rfl rfl (Nat.le_of_ble_eq_true rfl) dX7_init_25 (fun H locs hP hD hS => ?_)
  have hP : va_P (dC, dI) vwCl [(h0, .inr (7, [.ref q_1, .int 0, .long 0, .int 0, .ref q_3, .ref q_5])), (q_1, .inl (cA_2, 8, .inl (fun _ => 0))), (q_3, .inl (cA_4, 8, .inl (fun _ => 0))), (q_5, .inl (cA_6, 8, .inl (fun _ => 0)))] H := hP
  have hD : va_D A [(h0, .inr (7, [.ref q_1, .int 0, .long 0, .int 0, .ref q_3, .ref q_5])), (q_1, .inl (cA_2, 8, .inl (fun _ => 0))), (q_3, .inl (cA_4, 8, .inl (fun _ => 0))), (q_5, .inl (cA_6, 8, .inl (fun _ => 0)))] := hD
  refine W.widen (k := 3) (n := 24) (Nat.le_of_ble_eq_true rfl) (Nat.le_of_ble_eq_true rfl) ?_
  exact W.vret hx hb hr (fun t ht hW => ⟨⟨(), rfl, trivial, trivial⟩, hS.F ht⟩) hS.2.2 dX7_init_28

set_option maxHeartbeats 4000000 in
set_option maxRecDepth 100000 in
theorem k_Row (l : Launch) (dC : Nat → ClassId) (dI : Nat → Nat → Nat) (h0 : Nat) (sz : Nat) : Met l yX8_init (wT yX8_init cX8_init 1 none) ({ frames := 1, cells := 2, slots := 16, locals := 12 }) (pcW dC dI [.ref h0] sz [(h0, .inr (8, [.null, .int 0, .null]))] []) (va_Qv (fun _ : Unit => True) (fun _ _ => True) (va_A [(h0, .inr (8, [.null, .int 0, .null]))] sz)) 2 16 (va_A [(h0, .inr (8, [.null, .int 0, .null]))] sz) := by
  refine Met.ofW (cc := cX8_init) (maxL := 1) (ret := none) (by decide) rfl ?_
  intro p e s m args below meth c s₁ B hml hv
  obtain ⟨rfl, hsz, hP, hK, hD0⟩ := hv
  have hx := B.exec
  have hb := B.bytes
  have hr := B.returns
  have hT : ∀ w ∈ TB, w.before [.ref h0].toArray s = true := fun w h => atoms_spec (ws := wT yX8_init cX8_init 1 none) B.pre w (List.mem_cons_of_mem _ h)
  have hown : s.vm.findClass RX8 = some m.cls := findClass_of_methodNamed B.named
  have hlocks := B.notSynchronized
  have hin : meth.name = "<init>" := (name_of_methodNamed B.named B.method).1
  subst hsz
  have hD := hD0.self (sz := s.heap.size)
  generalize hAe : va_A [(h0, .inr (8, [.null, .int 0, .null]))] s.heap.size = A at hD ⊢
  have hA : ∀ q : Nat, s.heap.size ≤ q → A q := fun q h => by rw [← hAe]; exact Or.inr h
  have hS : va_S A s.heap s.heap [] := va_S.rf
  have hP : va_P (dC, dI) vwCl [(h0, .inr (8, [.null, .int 0, .null]))] s.heap := hP
  have hl := lv_entry ([.ref h0]) (n := 1) (Nat.le_of_ble_eq_true rfl)
  rw [lg_entry_eq]
  generalize (lg_sl ([.ref h0]) ++ List.replicate (1 - (lg_sl ([.ref h0])).length) Slot.unset).toArray = ls at hl ⊢
  have hl : lv_has ls 1 [(0, .ref h0)] := hl
  refine lv_aload_n hx hb dX8_init_0 rfl (lv_at hl 0 rfl) ?_
  refine W.objInit hx hb hown (hT _ w244) (hT _ w28) (hT _ w29) rfl (by rw [hml]; exact hl.1) rfl dX8_init_1 (Nat.le_of_ble_eq_true rfl) (Nat.le_of_ble_eq_true rfl) ?_
  refine W.eq (g2 := F0 m 4 ls []) rfl ?_
  refine lv_aload_n hx hb dX8_init_4 rfl (lv_at hl 0 rfl) ?_
  refine lv_bipush (v := 8) hx hb dX8_init_5 (by decide) ?_
  refine va_newa (atype := .int) (ty := .int) (a0 := (8, .inl (fun _ => 0))) (n := 8) (N' := 8) hx hb (hT _ w77) rfl hK hP hD hS hA (fun _ => rfl) (by decide) (by decide) (Nat.le_of_ble_eq_true rfl) (Nat.le_of_ble_eq_true rfl) (Nat.le_of_ble_eq_true rfl) dX8_init_7 (fun q_1 cA_2 H hK hP hD hS => ?_)
  have hP : va_P (dC, dI) vwCl [(h0, .inr (8, [.null, .int 0, .null])), (q_1, .inl (cA_2, 8, .inl (fun _ => 0)))] H := hP
  have hD : va_D A [(h0, .inr (8, [.null, .int 0, .null])), (q_1, .inl (cA_2, 8, .inl (fun _ => 0)))] := hD
  have hK : va_K (dC, dI) vwCl [(cA_2, .int)] s := hK
  refine W.widen (k := 1) (n := 8) (Nat.le_of_ble_eq_true rfl) (Nat.le_of_ble_eq_true rfl) ?_
  refine va_putF (D := (dC, dI)) (ci := 8) (v := .ref q_1) (ty := .array .int) (C := RX8) (T := TX8) (N := 3) hx hb hT iX8 tyX8 tyX8_ok nmX8 hown hK hP hD hS 0 rfl rfl 0 (by decide) (hT _ w245) (fun _ h9 => h9) rfl hin rfl (by decide +kernel) rfl rfl (Nat.le_of_ble_eq_true rfl) dX8_init_9 (fun H locs hP hD hS => ?_)
  have hP : va_P (dC, dI) vwCl [(h0, .inr (8, [.ref q_1, .int 0, .null])), (q_1, .inl (cA_2, 8, .inl (fun _ => 0)))] H := hP
  have hD : va_D A [(h0, .inr (8, [.ref q_1, .int 0, .null])), (q_1, .inl (cA_2, 8, .inl (fun _ => 0)))] := hD
  refine lv_aload_n hx hb dX8_init_12 rfl (lv_at hl 0 rfl) ?_
  refine lv_bipush (v := 8) hx hb dX8_init_13 (by decide) ?_
  refine va_newa (atype := .int) (ty := .int) (a0 := (8, .inl (fun _ => 0))) (n := 8) (N' := 8) hx hb (hT _ w77) rfl hK hP hD hS hA (fun _ => rfl) (by decide) (by decide) (Nat.le_of_ble_eq_true rfl) (Nat.le_of_ble_eq_true rfl) (Nat.le_of_ble_eq_true rfl) dX8_init_15 (fun q_3 cA_4 H hK hP hD hS => ?_)
  have hP : va_P (dC, dI) vwCl [(h0, .inr (8, [.ref q_1, .int 0, .null])), (q_1, .inl (cA_2, 8, .inl (fun _ => 0))), (q_3, .inl (cA_4, 8, .inl (fun _ => 0)))] H := hP
  have hD : va_D A [(h0, .inr (8, [.ref q_1, .int 0, .null])), (q_1, .inl (cA_2, 8, .inl (fun _ => 0))), (q_3, .inl (cA_4, 8, .inl (fun _ => 0)))] := hD
  have hK : va_K (dC, dI) vwCl [(cA_2, .int), (cA_4, .int)] s := hK
  refine W.widen (k := 2) (n := 16) (Nat.le_of_ble_eq_true rfl) (Nat.le_of_ble_eq_true rfl) ?_
  refine va_putF (D := (dC, dI)) (ci := 8) (v := .ref q_3) (ty := .array .int) (C := RX8) (T := TX8) (N := 3) hx hb hT iX8 tyX8 tyX8_ok nmX8 hown hK hP hD hS 0 rfl rfl 2 (by decide) (hT _ w249) (fun _ h9 => h9) rfl hin rfl (by decide +kernel) rfl rfl (Nat.le_of_ble_eq_true rfl) dX8_init_17 (fun H locs hP hD hS => ?_)
  have hP : va_P (dC, dI) vwCl [(h0, .inr (8, [.ref q_1, .int 0, .ref q_3])), (q_1, .inl (cA_2, 8, .inl (fun _ => 0))), (q_3, .inl (cA_4, 8, .inl (fun _ => 0)))] H := hP
  have hD : va_D A [(h0, .inr (8, [.ref q_1, .int 0, .ref q_3])), (q_1, .inl (cA_2, 8, .inl (fun _ => 0))), (q_3, .inl (cA_4, 8, .inl (fun _ => 0)))] := hD
  refine W.widen (k := 2) (n := 16) (Nat.le_of_ble_eq_true rfl) (Nat.le_of_ble_eq_true rfl) ?_
  exact W.vret hx hb hr (fun t ht hW => ⟨⟨(), rfl, trivial, trivial⟩, hS.F ht⟩) hS.2.2 dX8_init_20

set_option maxHeartbeats 4000000 in
set_option maxRecDepth 100000 in
theorem k_Solver (l : Launch) (dC : Nat → ClassId) (dI : Nat → Nat → Nat) (h0 : Nat) (sz : Nat) : Met l yX9_init (wT yX9_init cX9_init 1 none) ({ frames := 1, cells := 9, slots := 464, locals := 12 }) (pcW dC dI [.ref h0] sz [(h0, .inr (9, [.null, .null, .int 0, .long 0, .null, .null, .null, .null, .null, .null, .null, .int 0, .int 0]))] []) (va_Qv (fun _ : Unit => True) (fun _ _ => True) (va_A [(h0, .inr (9, [.null, .null, .int 0, .long 0, .null, .null, .null, .null, .null, .null, .null, .int 0, .int 0]))] sz)) 9 464 (va_A [(h0, .inr (9, [.null, .null, .int 0, .long 0, .null, .null, .null, .null, .null, .null, .null, .int 0, .int 0]))] sz) := by
  refine Met.ofW (cc := cX9_init) (maxL := 1) (ret := none) (by decide) rfl ?_
  intro p e s m args below meth c s₁ B hml hv
  obtain ⟨rfl, hsz, hP, hK, hD0⟩ := hv
  have hx := B.exec
  have hb := B.bytes
  have hr := B.returns
  have hT : ∀ w ∈ TB, w.before [.ref h0].toArray s = true := fun w h => atoms_spec (ws := wT yX9_init cX9_init 1 none) B.pre w (List.mem_cons_of_mem _ h)
  have hown : s.vm.findClass RX9 = some m.cls := findClass_of_methodNamed B.named
  have hlocks := B.notSynchronized
  have hin : meth.name = "<init>" := (name_of_methodNamed B.named B.method).1
  subst hsz
  have hD := hD0.self (sz := s.heap.size)
  generalize hAe : va_A [(h0, .inr (9, [.null, .null, .int 0, .long 0, .null, .null, .null, .null, .null, .null, .null, .int 0, .int 0]))] s.heap.size = A at hD ⊢
  have hA : ∀ q : Nat, s.heap.size ≤ q → A q := fun q h => by rw [← hAe]; exact Or.inr h
  have hS : va_S A s.heap s.heap [] := va_S.rf
  have hP : va_P (dC, dI) vwCl [(h0, .inr (9, [.null, .null, .int 0, .long 0, .null, .null, .null, .null, .null, .null, .null, .int 0, .int 0]))] s.heap := hP
  have hl := lv_entry ([.ref h0]) (n := 1) (Nat.le_of_ble_eq_true rfl)
  rw [lg_entry_eq]
  generalize (lg_sl ([.ref h0]) ++ List.replicate (1 - (lg_sl ([.ref h0])).length) Slot.unset).toArray = ls at hl ⊢
  have hl : lv_has ls 1 [(0, .ref h0)] := hl
  refine lv_aload_n hx hb dX9_init_0 rfl (lv_at hl 0 rfl) ?_
  refine W.objInit hx hb hown (hT _ w262) (hT _ w28) (hT _ w29) rfl (by rw [hml]; exact hl.1) rfl dX9_init_1 (Nat.le_of_ble_eq_true rfl) (Nat.le_of_ble_eq_true rfl) ?_
  refine W.eq (g2 := F0 m 4 ls []) rfl ?_
  refine lv_aload_n hx hb dX9_init_4 rfl (lv_at hl 0 rfl) ?_
  refine lv_bipush (v := 64) hx hb dX9_init_5 (by decide) ?_
  refine va_newa (atype := .long) (ty := .long) (a0 := (64, .inr (.inl (fun _ => 0)))) (n := 64) (N' := 64) hx hb (hT _ w137) rfl hK hP hD hS hA (fun _ => rfl) (by decide) (by decide) (Nat.le_of_ble_eq_true rfl) (Nat.le_of_ble_eq_true rfl) (Nat.le_of_ble_eq_true rfl) dX9_init_7 (fun q_1 cA_2 H hK hP hD hS => ?_)
  have hP : va_P (dC, dI) vwCl [(h0, .inr (9, [.null, .null, .int 0, .long 0, .null, .null, .null, .null, .null, .null, .null, .int 0, .int 0])), (q_1, .inl (cA_2, 64, .inr (.inl (fun _ => 0))))] H := hP
  have hD : va_D A [(h0, .inr (9, [.null, .null, .int 0, .long 0, .null, .null, .null, .null, .null, .null, .null, .int 0, .int 0])), (q_1, .inl (cA_2, 64, .inr (.inl (fun _ => 0))))] := hD
  have hK : va_K (dC, dI) vwCl [(cA_2, .long)] s := hK
  refine W.widen (k := 1) (n := 64) (Nat.le_of_ble_eq_true rfl) (Nat.le_of_ble_eq_true rfl) ?_
  refine va_putF (D := (dC, dI)) (ci := 9) (v := .ref q_1) (ty := .array .long) (C := RX9) (T := TX9) (N := 13) hx hb hT iX9 tyX9 tyX9_ok nmX9 hown hK hP hD hS 0 rfl rfl 0 (by decide) (hT _ w263) (fun _ h9 => h9) rfl hin rfl (by decide +kernel) rfl rfl (Nat.le_of_ble_eq_true rfl) dX9_init_9 (fun H locs hP hD hS => ?_)
  have hP : va_P (dC, dI) vwCl [(h0, .inr (9, [.ref q_1, .null, .int 0, .long 0, .null, .null, .null, .null, .null, .null, .null, .int 0, .int 0])), (q_1, .inl (cA_2, 64, .inr (.inl (fun _ => 0))))] H := hP
  have hD : va_D A [(h0, .inr (9, [.ref q_1, .null, .int 0, .long 0, .null, .null, .null, .null, .null, .null, .null, .int 0, .int 0])), (q_1, .inl (cA_2, 64, .inr (.inl (fun _ => 0))))] := hD
  refine lv_aload_n hx hb dX9_init_12 rfl (lv_at hl 0 rfl) ?_
  refine lv_bipush (v := 64) hx hb dX9_init_13 (by decide) ?_
  refine va_newa (atype := .long) (ty := .long) (a0 := (64, .inr (.inl (fun _ => 0)))) (n := 64) (N' := 64) hx hb (hT _ w137) rfl hK hP hD hS hA (fun _ => rfl) (by decide) (by decide) (Nat.le_of_ble_eq_true rfl) (Nat.le_of_ble_eq_true rfl) (Nat.le_of_ble_eq_true rfl) dX9_init_15 (fun q_3 cA_4 H hK hP hD hS => ?_)
  have hP : va_P (dC, dI) vwCl [(h0, .inr (9, [.ref q_1, .null, .int 0, .long 0, .null, .null, .null, .null, .null, .null, .null, .int 0, .int 0])), (q_1, .inl (cA_2, 64, .inr (.inl (fun _ => 0)))), (q_3, .inl (cA_4, 64, .inr (.inl (fun _ => 0))))] H := hP
  have hD : va_D A [(h0, .inr (9, [.ref q_1, .null, .int 0, .long 0, .null, .null, .null, .null, .null, .null, .null, .int 0, .int 0])), (q_1, .inl (cA_2, 64, .inr (.inl (fun _ => 0)))), (q_3, .inl (cA_4, 64, .inr (.inl (fun _ => 0))))] := hD
  have hK : va_K (dC, dI) vwCl [(cA_2, .long), (cA_4, .long)] s := hK
  refine W.widen (k := 2) (n := 128) (Nat.le_of_ble_eq_true rfl) (Nat.le_of_ble_eq_true rfl) ?_
  refine va_putF (D := (dC, dI)) (ci := 9) (v := .ref q_3) (ty := .array .long) (C := RX9) (T := TX9) (N := 13) hx hb hT iX9 tyX9 tyX9_ok nmX9 hown hK hP hD hS 0 rfl rfl 1 (by decide) (hT _ w265) (fun _ h9 => h9) rfl hin rfl (by decide +kernel) rfl rfl (Nat.le_of_ble_eq_true rfl) dX9_init_17 (fun H locs hP hD hS => ?_)
  have hP : va_P (dC, dI) vwCl [(h0, .inr (9, [.ref q_1, .ref q_3, .int 0, .long 0, .null, .null, .null, .null, .null, .null, .null, .int 0, .int 0])), (q_1, .inl (cA_2, 64, .inr (.inl (fun _ => 0)))), (q_3, .inl (cA_4, 64, .inr (.inl (fun _ => 0))))] H := hP
  have hD : va_D A [(h0, .inr (9, [.ref q_1, .ref q_3, .int 0, .long 0, .null, .null, .null, .null, .null, .null, .null, .int 0, .int 0])), (q_1, .inl (cA_2, 64, .inr (.inl (fun _ => 0)))), (q_3, .inl (cA_4, 64, .inr (.inl (fun _ => 0))))] := hD
  refine lv_aload_n hx hb dX9_init_20 rfl (lv_at hl 0 rfl) ?_
  refine lv_bipush (v := 8) hx hb dX9_init_21 (by decide) ?_
  refine va_newa (atype := .long) (ty := .long) (a0 := (8, .inr (.inl (fun _ => 0)))) (n := 8) (N' := 8) hx hb (hT _ w137) rfl hK hP hD hS hA (fun _ => rfl) (by decide) (by decide) (Nat.le_of_ble_eq_true rfl) (Nat.le_of_ble_eq_true rfl) (Nat.le_of_ble_eq_true rfl) dX9_init_23 (fun q_5 cA_6 H hK hP hD hS => ?_)
  have hP : va_P (dC, dI) vwCl [(h0, .inr (9, [.ref q_1, .ref q_3, .int 0, .long 0, .null, .null, .null, .null, .null, .null, .null, .int 0, .int 0])), (q_1, .inl (cA_2, 64, .inr (.inl (fun _ => 0)))), (q_3, .inl (cA_4, 64, .inr (.inl (fun _ => 0)))), (q_5, .inl (cA_6, 8, .inr (.inl (fun _ => 0))))] H := hP
  have hD : va_D A [(h0, .inr (9, [.ref q_1, .ref q_3, .int 0, .long 0, .null, .null, .null, .null, .null, .null, .null, .int 0, .int 0])), (q_1, .inl (cA_2, 64, .inr (.inl (fun _ => 0)))), (q_3, .inl (cA_4, 64, .inr (.inl (fun _ => 0)))), (q_5, .inl (cA_6, 8, .inr (.inl (fun _ => 0))))] := hD
  have hK : va_K (dC, dI) vwCl [(cA_2, .long), (cA_4, .long), (cA_6, .long)] s := hK
  refine W.widen (k := 3) (n := 136) (Nat.le_of_ble_eq_true rfl) (Nat.le_of_ble_eq_true rfl) ?_
  refine va_putF (D := (dC, dI)) (ci := 9) (v := .ref q_5) (ty := .array .long) (C := RX9) (T := TX9) (N := 13) hx hb hT iX9 tyX9 tyX9_ok nmX9 hown hK hP hD hS 0 rfl rfl 4 (by decide) (hT _ w271) (fun _ h9 => h9) rfl hin rfl (by decide +kernel) rfl rfl (Nat.le_of_ble_eq_true rfl) dX9_init_25 (fun H locs hP hD hS => ?_)
  have hP : va_P (dC, dI) vwCl [(h0, .inr (9, [.ref q_1, .ref q_3, .int 0, .long 0, .ref q_5, .null, .null, .null, .null, .null, .null, .int 0, .int 0])), (q_1, .inl (cA_2, 64, .inr (.inl (fun _ => 0)))), (q_3, .inl (cA_4, 64, .inr (.inl (fun _ => 0)))), (q_5, .inl (cA_6, 8, .inr (.inl (fun _ => 0))))] H := hP
  have hD : va_D A [(h0, .inr (9, [.ref q_1, .ref q_3, .int 0, .long 0, .ref q_5, .null, .null, .null, .null, .null, .null, .int 0, .int 0])), (q_1, .inl (cA_2, 64, .inr (.inl (fun _ => 0)))), (q_3, .inl (cA_4, 64, .inr (.inl (fun _ => 0)))), (q_5, .inl (cA_6, 8, .inr (.inl (fun _ => 0))))] := hD
  refine lv_aload_n hx hb dX9_init_28 rfl (lv_at hl 0 rfl) ?_
  refine lv_bipush (v := 8) hx hb dX9_init_29 (by decide) ?_
  refine va_newa (atype := .long) (ty := .long) (a0 := (8, .inr (.inl (fun _ => 0)))) (n := 8) (N' := 8) hx hb (hT _ w137) rfl hK hP hD hS hA (fun _ => rfl) (by decide) (by decide) (Nat.le_of_ble_eq_true rfl) (Nat.le_of_ble_eq_true rfl) (Nat.le_of_ble_eq_true rfl) dX9_init_31 (fun q_7 cA_8 H hK hP hD hS => ?_)
  have hP : va_P (dC, dI) vwCl [(h0, .inr (9, [.ref q_1, .ref q_3, .int 0, .long 0, .ref q_5, .null, .null, .null, .null, .null, .null, .int 0, .int 0])), (q_1, .inl (cA_2, 64, .inr (.inl (fun _ => 0)))), (q_3, .inl (cA_4, 64, .inr (.inl (fun _ => 0)))), (q_5, .inl (cA_6, 8, .inr (.inl (fun _ => 0)))), (q_7, .inl (cA_8, 8, .inr (.inl (fun _ => 0))))] H := hP
  have hD : va_D A [(h0, .inr (9, [.ref q_1, .ref q_3, .int 0, .long 0, .ref q_5, .null, .null, .null, .null, .null, .null, .int 0, .int 0])), (q_1, .inl (cA_2, 64, .inr (.inl (fun _ => 0)))), (q_3, .inl (cA_4, 64, .inr (.inl (fun _ => 0)))), (q_5, .inl (cA_6, 8, .inr (.inl (fun _ => 0)))), (q_7, .inl (cA_8, 8, .inr (.inl (fun _ => 0))))] := hD
  have hK : va_K (dC, dI) vwCl [(cA_2, .long), (cA_4, .long), (cA_6, .long), (cA_8, .long)] s := hK
  refine W.widen (k := 4) (n := 144) (Nat.le_of_ble_eq_true rfl) (Nat.le_of_ble_eq_true rfl) ?_
  refine va_putF (D := (dC, dI)) (ci := 9) (v := .ref q_7) (ty := .array .long) (C := RX9) (T := TX9) (N := 13) hx hb hT iX9 tyX9 tyX9_ok nmX9 hown hK hP hD hS 0 rfl rfl 5 (by decide) (hT _ w272) (fun _ h9 => h9) rfl hin rfl (by decide +kernel) rfl rfl (Nat.le_of_ble_eq_true rfl) dX9_init_33 (fun H locs hP hD hS => ?_)
  have hP : va_P (dC, dI) vwCl [(h0, .inr (9, [.ref q_1, .ref q_3, .int 0, .long 0, .ref q_5, .ref q_7, .null, .null, .null, .null, .null, .int 0, .int 0])), (q_1, .inl (cA_2, 64, .inr (.inl (fun _ => 0)))), (q_3, .inl (cA_4, 64, .inr (.inl (fun _ => 0)))), (q_5, .inl (cA_6, 8, .inr (.inl (fun _ => 0)))), (q_7, .inl (cA_8, 8, .inr (.inl (fun _ => 0))))] H := hP
  have hD : va_D A [(h0, .inr (9, [.ref q_1, .ref q_3, .int 0, .long 0, .ref q_5, .ref q_7, .null, .null, .null, .null, .null, .int 0, .int 0])), (q_1, .inl (cA_2, 64, .inr (.inl (fun _ => 0)))), (q_3, .inl (cA_4, 64, .inr (.inl (fun _ => 0)))), (q_5, .inl (cA_6, 8, .inr (.inl (fun _ => 0)))), (q_7, .inl (cA_8, 8, .inr (.inl (fun _ => 0))))] := hD
  refine lv_aload_n hx hb dX9_init_36 rfl (lv_at hl 0 rfl) ?_
  refine lv_sipush (v := 256) hx hb dX9_init_37 (by decide) ?_
  refine va_newa (atype := .long) (ty := .long) (a0 := (256, .inr (.inl (fun _ => 0)))) (n := 256) (N' := 256) hx hb (hT _ w137) rfl hK hP hD hS hA (fun _ => rfl) (by decide) (by decide) (Nat.le_of_ble_eq_true rfl) (Nat.le_of_ble_eq_true rfl) (Nat.le_of_ble_eq_true rfl) dX9_init_40 (fun q_9 cA_10 H hK hP hD hS => ?_)
  have hP : va_P (dC, dI) vwCl [(h0, .inr (9, [.ref q_1, .ref q_3, .int 0, .long 0, .ref q_5, .ref q_7, .null, .null, .null, .null, .null, .int 0, .int 0])), (q_1, .inl (cA_2, 64, .inr (.inl (fun _ => 0)))), (q_3, .inl (cA_4, 64, .inr (.inl (fun _ => 0)))), (q_5, .inl (cA_6, 8, .inr (.inl (fun _ => 0)))), (q_7, .inl (cA_8, 8, .inr (.inl (fun _ => 0)))), (q_9, .inl (cA_10, 256, .inr (.inl (fun _ => 0))))] H := hP
  have hD : va_D A [(h0, .inr (9, [.ref q_1, .ref q_3, .int 0, .long 0, .ref q_5, .ref q_7, .null, .null, .null, .null, .null, .int 0, .int 0])), (q_1, .inl (cA_2, 64, .inr (.inl (fun _ => 0)))), (q_3, .inl (cA_4, 64, .inr (.inl (fun _ => 0)))), (q_5, .inl (cA_6, 8, .inr (.inl (fun _ => 0)))), (q_7, .inl (cA_8, 8, .inr (.inl (fun _ => 0)))), (q_9, .inl (cA_10, 256, .inr (.inl (fun _ => 0))))] := hD
  have hK : va_K (dC, dI) vwCl [(cA_2, .long), (cA_4, .long), (cA_6, .long), (cA_8, .long), (cA_10, .long)] s := hK
  refine W.widen (k := 5) (n := 400) (Nat.le_of_ble_eq_true rfl) (Nat.le_of_ble_eq_true rfl) ?_
  refine va_putF (D := (dC, dI)) (ci := 9) (v := .ref q_9) (ty := .array .long) (C := RX9) (T := TX9) (N := 13) hx hb hT iX9 tyX9 tyX9_ok nmX9 hown hK hP hD hS 0 rfl rfl 6 (by decide) (hT _ w273) (fun _ h9 => h9) rfl hin rfl (by decide +kernel) rfl rfl (Nat.le_of_ble_eq_true rfl) dX9_init_42 (fun H locs hP hD hS => ?_)
  have hP : va_P (dC, dI) vwCl [(h0, .inr (9, [.ref q_1, .ref q_3, .int 0, .long 0, .ref q_5, .ref q_7, .ref q_9, .null, .null, .null, .null, .int 0, .int 0])), (q_1, .inl (cA_2, 64, .inr (.inl (fun _ => 0)))), (q_3, .inl (cA_4, 64, .inr (.inl (fun _ => 0)))), (q_5, .inl (cA_6, 8, .inr (.inl (fun _ => 0)))), (q_7, .inl (cA_8, 8, .inr (.inl (fun _ => 0)))), (q_9, .inl (cA_10, 256, .inr (.inl (fun _ => 0))))] H := hP
  have hD : va_D A [(h0, .inr (9, [.ref q_1, .ref q_3, .int 0, .long 0, .ref q_5, .ref q_7, .ref q_9, .null, .null, .null, .null, .int 0, .int 0])), (q_1, .inl (cA_2, 64, .inr (.inl (fun _ => 0)))), (q_3, .inl (cA_4, 64, .inr (.inl (fun _ => 0)))), (q_5, .inl (cA_6, 8, .inr (.inl (fun _ => 0)))), (q_7, .inl (cA_8, 8, .inr (.inl (fun _ => 0)))), (q_9, .inl (cA_10, 256, .inr (.inl (fun _ => 0))))] := hD
  refine lv_aload_n hx hb dX9_init_45 rfl (lv_at hl 0 rfl) ?_
  refine lv_bipush (v := 16) hx hb dX9_init_46 (by decide) ?_
  refine va_newa (atype := .int) (ty := .int) (a0 := (16, .inl (fun _ => 0))) (n := 16) (N' := 16) hx hb (hT _ w77) rfl hK hP hD hS hA (fun _ => rfl) (by decide) (by decide) (Nat.le_of_ble_eq_true rfl) (Nat.le_of_ble_eq_true rfl) (Nat.le_of_ble_eq_true rfl) dX9_init_48 (fun q_11 cA_12 H hK hP hD hS => ?_)
  have hP : va_P (dC, dI) vwCl [(h0, .inr (9, [.ref q_1, .ref q_3, .int 0, .long 0, .ref q_5, .ref q_7, .ref q_9, .null, .null, .null, .null, .int 0, .int 0])), (q_1, .inl (cA_2, 64, .inr (.inl (fun _ => 0)))), (q_3, .inl (cA_4, 64, .inr (.inl (fun _ => 0)))), (q_5, .inl (cA_6, 8, .inr (.inl (fun _ => 0)))), (q_7, .inl (cA_8, 8, .inr (.inl (fun _ => 0)))), (q_9, .inl (cA_10, 256, .inr (.inl (fun _ => 0)))), (q_11, .inl (cA_12, 16, .inl (fun _ => 0)))] H := hP
  have hD : va_D A [(h0, .inr (9, [.ref q_1, .ref q_3, .int 0, .long 0, .ref q_5, .ref q_7, .ref q_9, .null, .null, .null, .null, .int 0, .int 0])), (q_1, .inl (cA_2, 64, .inr (.inl (fun _ => 0)))), (q_3, .inl (cA_4, 64, .inr (.inl (fun _ => 0)))), (q_5, .inl (cA_6, 8, .inr (.inl (fun _ => 0)))), (q_7, .inl (cA_8, 8, .inr (.inl (fun _ => 0)))), (q_9, .inl (cA_10, 256, .inr (.inl (fun _ => 0)))), (q_11, .inl (cA_12, 16, .inl (fun _ => 0)))] := hD
  have hK : va_K (dC, dI) vwCl [(cA_2, .long), (cA_4, .long), (cA_6, .long), (cA_8, .long), (cA_10, .long), (cA_12, .int)] s := hK
  refine W.widen (k := 6) (n := 416) (Nat.le_of_ble_eq_true rfl) (Nat.le_of_ble_eq_true rfl) ?_
  refine va_putF (D := (dC, dI)) (ci := 9) (v := .ref q_11) (ty := .array .int) (C := RX9) (T := TX9) (N := 13) hx hb hT iX9 tyX9 tyX9_ok nmX9 hown hK hP hD hS 0 rfl rfl 7 (by decide) (hT _ w274) (fun _ h9 => h9) rfl hin rfl (by decide +kernel) rfl rfl (Nat.le_of_ble_eq_true rfl) dX9_init_50 (fun H locs hP hD hS => ?_)
  have hP : va_P (dC, dI) vwCl [(h0, .inr (9, [.ref q_1, .ref q_3, .int 0, .long 0, .ref q_5, .ref q_7, .ref q_9, .ref q_11, .null, .null, .null, .int 0, .int 0])), (q_1, .inl (cA_2, 64, .inr (.inl (fun _ => 0)))), (q_3, .inl (cA_4, 64, .inr (.inl (fun _ => 0)))), (q_5, .inl (cA_6, 8, .inr (.inl (fun _ => 0)))), (q_7, .inl (cA_8, 8, .inr (.inl (fun _ => 0)))), (q_9, .inl (cA_10, 256, .inr (.inl (fun _ => 0)))), (q_11, .inl (cA_12, 16, .inl (fun _ => 0)))] H := hP
  have hD : va_D A [(h0, .inr (9, [.ref q_1, .ref q_3, .int 0, .long 0, .ref q_5, .ref q_7, .ref q_9, .ref q_11, .null, .null, .null, .int 0, .int 0])), (q_1, .inl (cA_2, 64, .inr (.inl (fun _ => 0)))), (q_3, .inl (cA_4, 64, .inr (.inl (fun _ => 0)))), (q_5, .inl (cA_6, 8, .inr (.inl (fun _ => 0)))), (q_7, .inl (cA_8, 8, .inr (.inl (fun _ => 0)))), (q_9, .inl (cA_10, 256, .inr (.inl (fun _ => 0)))), (q_11, .inl (cA_12, 16, .inl (fun _ => 0)))] := hD
  refine lv_aload_n hx hb dX9_init_53 rfl (lv_at hl 0 rfl) ?_
  refine lv_bipush (v := 16) hx hb dX9_init_54 (by decide) ?_
  refine va_newa (atype := .long) (ty := .long) (a0 := (16, .inr (.inl (fun _ => 0)))) (n := 16) (N' := 16) hx hb (hT _ w137) rfl hK hP hD hS hA (fun _ => rfl) (by decide) (by decide) (Nat.le_of_ble_eq_true rfl) (Nat.le_of_ble_eq_true rfl) (Nat.le_of_ble_eq_true rfl) dX9_init_56 (fun q_13 cA_14 H hK hP hD hS => ?_)
  have hP : va_P (dC, dI) vwCl [(h0, .inr (9, [.ref q_1, .ref q_3, .int 0, .long 0, .ref q_5, .ref q_7, .ref q_9, .ref q_11, .null, .null, .null, .int 0, .int 0])), (q_1, .inl (cA_2, 64, .inr (.inl (fun _ => 0)))), (q_3, .inl (cA_4, 64, .inr (.inl (fun _ => 0)))), (q_5, .inl (cA_6, 8, .inr (.inl (fun _ => 0)))), (q_7, .inl (cA_8, 8, .inr (.inl (fun _ => 0)))), (q_9, .inl (cA_10, 256, .inr (.inl (fun _ => 0)))), (q_11, .inl (cA_12, 16, .inl (fun _ => 0))), (q_13, .inl (cA_14, 16, .inr (.inl (fun _ => 0))))] H := hP
  have hD : va_D A [(h0, .inr (9, [.ref q_1, .ref q_3, .int 0, .long 0, .ref q_5, .ref q_7, .ref q_9, .ref q_11, .null, .null, .null, .int 0, .int 0])), (q_1, .inl (cA_2, 64, .inr (.inl (fun _ => 0)))), (q_3, .inl (cA_4, 64, .inr (.inl (fun _ => 0)))), (q_5, .inl (cA_6, 8, .inr (.inl (fun _ => 0)))), (q_7, .inl (cA_8, 8, .inr (.inl (fun _ => 0)))), (q_9, .inl (cA_10, 256, .inr (.inl (fun _ => 0)))), (q_11, .inl (cA_12, 16, .inl (fun _ => 0))), (q_13, .inl (cA_14, 16, .inr (.inl (fun _ => 0))))] := hD
  have hK : va_K (dC, dI) vwCl [(cA_2, .long), (cA_4, .long), (cA_6, .long), (cA_8, .long), (cA_10, .long), (cA_12, .int), (cA_14, .long)] s := hK
  refine W.widen (k := 7) (n := 432) (Nat.le_of_ble_eq_true rfl) (Nat.le_of_ble_eq_true rfl) ?_
  refine va_putF (D := (dC, dI)) (ci := 9) (v := .ref q_13) (ty := .array .long) (C := RX9) (T := TX9) (N := 13) hx hb hT iX9 tyX9 tyX9_ok nmX9 hown hK hP hD hS 0 rfl rfl 8 (by decide) (hT _ w275) (fun _ h9 => h9) rfl hin rfl (by decide +kernel) rfl rfl (Nat.le_of_ble_eq_true rfl) dX9_init_58 (fun H locs hP hD hS => ?_)
  have hP : va_P (dC, dI) vwCl [(h0, .inr (9, [.ref q_1, .ref q_3, .int 0, .long 0, .ref q_5, .ref q_7, .ref q_9, .ref q_11, .ref q_13, .null, .null, .int 0, .int 0])), (q_1, .inl (cA_2, 64, .inr (.inl (fun _ => 0)))), (q_3, .inl (cA_4, 64, .inr (.inl (fun _ => 0)))), (q_5, .inl (cA_6, 8, .inr (.inl (fun _ => 0)))), (q_7, .inl (cA_8, 8, .inr (.inl (fun _ => 0)))), (q_9, .inl (cA_10, 256, .inr (.inl (fun _ => 0)))), (q_11, .inl (cA_12, 16, .inl (fun _ => 0))), (q_13, .inl (cA_14, 16, .inr (.inl (fun _ => 0))))] H := hP
  have hD : va_D A [(h0, .inr (9, [.ref q_1, .ref q_3, .int 0, .long 0, .ref q_5, .ref q_7, .ref q_9, .ref q_11, .ref q_13, .null, .null, .int 0, .int 0])), (q_1, .inl (cA_2, 64, .inr (.inl (fun _ => 0)))), (q_3, .inl (cA_4, 64, .inr (.inl (fun _ => 0)))), (q_5, .inl (cA_6, 8, .inr (.inl (fun _ => 0)))), (q_7, .inl (cA_8, 8, .inr (.inl (fun _ => 0)))), (q_9, .inl (cA_10, 256, .inr (.inl (fun _ => 0)))), (q_11, .inl (cA_12, 16, .inl (fun _ => 0))), (q_13, .inl (cA_14, 16, .inr (.inl (fun _ => 0))))] := hD
  refine lv_aload_n hx hb dX9_init_61 rfl (lv_at hl 0 rfl) ?_
  refine lv_bipush (v := 16) hx hb dX9_init_62 (by decide) ?_
  refine va_newa (atype := .int) (ty := .int) (a0 := (16, .inl (fun _ => 0))) (n := 16) (N' := 16) hx hb (hT _ w77) rfl hK hP hD hS hA (fun _ => rfl) (by decide) (by decide) (Nat.le_of_ble_eq_true rfl) (Nat.le_of_ble_eq_true rfl) (Nat.le_of_ble_eq_true rfl) dX9_init_64 (fun q_15 cA_16 H hK hP hD hS => ?_)
  have hP : va_P (dC, dI) vwCl [(h0, .inr (9, [.ref q_1, .ref q_3, .int 0, .long 0, .ref q_5, .ref q_7, .ref q_9, .ref q_11, .ref q_13, .null, .null, .int 0, .int 0])), (q_1, .inl (cA_2, 64, .inr (.inl (fun _ => 0)))), (q_3, .inl (cA_4, 64, .inr (.inl (fun _ => 0)))), (q_5, .inl (cA_6, 8, .inr (.inl (fun _ => 0)))), (q_7, .inl (cA_8, 8, .inr (.inl (fun _ => 0)))), (q_9, .inl (cA_10, 256, .inr (.inl (fun _ => 0)))), (q_11, .inl (cA_12, 16, .inl (fun _ => 0))), (q_13, .inl (cA_14, 16, .inr (.inl (fun _ => 0)))), (q_15, .inl (cA_16, 16, .inl (fun _ => 0)))] H := hP
  have hD : va_D A [(h0, .inr (9, [.ref q_1, .ref q_3, .int 0, .long 0, .ref q_5, .ref q_7, .ref q_9, .ref q_11, .ref q_13, .null, .null, .int 0, .int 0])), (q_1, .inl (cA_2, 64, .inr (.inl (fun _ => 0)))), (q_3, .inl (cA_4, 64, .inr (.inl (fun _ => 0)))), (q_5, .inl (cA_6, 8, .inr (.inl (fun _ => 0)))), (q_7, .inl (cA_8, 8, .inr (.inl (fun _ => 0)))), (q_9, .inl (cA_10, 256, .inr (.inl (fun _ => 0)))), (q_11, .inl (cA_12, 16, .inl (fun _ => 0))), (q_13, .inl (cA_14, 16, .inr (.inl (fun _ => 0)))), (q_15, .inl (cA_16, 16, .inl (fun _ => 0)))] := hD
  have hK : va_K (dC, dI) vwCl [(cA_2, .long), (cA_4, .long), (cA_6, .long), (cA_8, .long), (cA_10, .long), (cA_12, .int), (cA_14, .long), (cA_16, .int)] s := hK
  refine W.widen (k := 8) (n := 448) (Nat.le_of_ble_eq_true rfl) (Nat.le_of_ble_eq_true rfl) ?_
  refine va_putF (D := (dC, dI)) (ci := 9) (v := .ref q_15) (ty := .array .int) (C := RX9) (T := TX9) (N := 13) hx hb hT iX9 tyX9 tyX9_ok nmX9 hown hK hP hD hS 0 rfl rfl 9 (by decide) (hT _ w276) (fun _ h9 => h9) rfl hin rfl (by decide +kernel) rfl rfl (Nat.le_of_ble_eq_true rfl) dX9_init_66 (fun H locs hP hD hS => ?_)
  have hP : va_P (dC, dI) vwCl [(h0, .inr (9, [.ref q_1, .ref q_3, .int 0, .long 0, .ref q_5, .ref q_7, .ref q_9, .ref q_11, .ref q_13, .ref q_15, .null, .int 0, .int 0])), (q_1, .inl (cA_2, 64, .inr (.inl (fun _ => 0)))), (q_3, .inl (cA_4, 64, .inr (.inl (fun _ => 0)))), (q_5, .inl (cA_6, 8, .inr (.inl (fun _ => 0)))), (q_7, .inl (cA_8, 8, .inr (.inl (fun _ => 0)))), (q_9, .inl (cA_10, 256, .inr (.inl (fun _ => 0)))), (q_11, .inl (cA_12, 16, .inl (fun _ => 0))), (q_13, .inl (cA_14, 16, .inr (.inl (fun _ => 0)))), (q_15, .inl (cA_16, 16, .inl (fun _ => 0)))] H := hP
  have hD : va_D A [(h0, .inr (9, [.ref q_1, .ref q_3, .int 0, .long 0, .ref q_5, .ref q_7, .ref q_9, .ref q_11, .ref q_13, .ref q_15, .null, .int 0, .int 0])), (q_1, .inl (cA_2, 64, .inr (.inl (fun _ => 0)))), (q_3, .inl (cA_4, 64, .inr (.inl (fun _ => 0)))), (q_5, .inl (cA_6, 8, .inr (.inl (fun _ => 0)))), (q_7, .inl (cA_8, 8, .inr (.inl (fun _ => 0)))), (q_9, .inl (cA_10, 256, .inr (.inl (fun _ => 0)))), (q_11, .inl (cA_12, 16, .inl (fun _ => 0))), (q_13, .inl (cA_14, 16, .inr (.inl (fun _ => 0)))), (q_15, .inl (cA_16, 16, .inl (fun _ => 0)))] := hD
  refine lv_aload_n hx hb dX9_init_69 rfl (lv_at hl 0 rfl) ?_
  refine lv_bipush (v := 16) hx hb dX9_init_70 (by decide) ?_
  refine va_newa (atype := .int) (ty := .int) (a0 := (16, .inl (fun _ => 0))) (n := 16) (N' := 16) hx hb (hT _ w77) rfl hK hP hD hS hA (fun _ => rfl) (by decide) (by decide) (Nat.le_of_ble_eq_true rfl) (Nat.le_of_ble_eq_true rfl) (Nat.le_of_ble_eq_true rfl) dX9_init_72 (fun q_17 cA_18 H hK hP hD hS => ?_)
  have hP : va_P (dC, dI) vwCl [(h0, .inr (9, [.ref q_1, .ref q_3, .int 0, .long 0, .ref q_5, .ref q_7, .ref q_9, .ref q_11, .ref q_13, .ref q_15, .null, .int 0, .int 0])), (q_1, .inl (cA_2, 64, .inr (.inl (fun _ => 0)))), (q_3, .inl (cA_4, 64, .inr (.inl (fun _ => 0)))), (q_5, .inl (cA_6, 8, .inr (.inl (fun _ => 0)))), (q_7, .inl (cA_8, 8, .inr (.inl (fun _ => 0)))), (q_9, .inl (cA_10, 256, .inr (.inl (fun _ => 0)))), (q_11, .inl (cA_12, 16, .inl (fun _ => 0))), (q_13, .inl (cA_14, 16, .inr (.inl (fun _ => 0)))), (q_15, .inl (cA_16, 16, .inl (fun _ => 0))), (q_17, .inl (cA_18, 16, .inl (fun _ => 0)))] H := hP
  have hD : va_D A [(h0, .inr (9, [.ref q_1, .ref q_3, .int 0, .long 0, .ref q_5, .ref q_7, .ref q_9, .ref q_11, .ref q_13, .ref q_15, .null, .int 0, .int 0])), (q_1, .inl (cA_2, 64, .inr (.inl (fun _ => 0)))), (q_3, .inl (cA_4, 64, .inr (.inl (fun _ => 0)))), (q_5, .inl (cA_6, 8, .inr (.inl (fun _ => 0)))), (q_7, .inl (cA_8, 8, .inr (.inl (fun _ => 0)))), (q_9, .inl (cA_10, 256, .inr (.inl (fun _ => 0)))), (q_11, .inl (cA_12, 16, .inl (fun _ => 0))), (q_13, .inl (cA_14, 16, .inr (.inl (fun _ => 0)))), (q_15, .inl (cA_16, 16, .inl (fun _ => 0))), (q_17, .inl (cA_18, 16, .inl (fun _ => 0)))] := hD
  have hK : va_K (dC, dI) vwCl [(cA_2, .long), (cA_4, .long), (cA_6, .long), (cA_8, .long), (cA_10, .long), (cA_12, .int), (cA_14, .long), (cA_16, .int), (cA_18, .int)] s := hK
  refine W.widen (k := 9) (n := 464) (Nat.le_of_ble_eq_true rfl) (Nat.le_of_ble_eq_true rfl) ?_
  refine va_putF (D := (dC, dI)) (ci := 9) (v := .ref q_17) (ty := .array .int) (C := RX9) (T := TX9) (N := 13) hx hb hT iX9 tyX9 tyX9_ok nmX9 hown hK hP hD hS 0 rfl rfl 10 (by decide) (hT _ w277) (fun _ h9 => h9) rfl hin rfl (by decide +kernel) rfl rfl (Nat.le_of_ble_eq_true rfl) dX9_init_74 (fun H locs hP hD hS => ?_)
  have hP : va_P (dC, dI) vwCl [(h0, .inr (9, [.ref q_1, .ref q_3, .int 0, .long 0, .ref q_5, .ref q_7, .ref q_9, .ref q_11, .ref q_13, .ref q_15, .ref q_17, .int 0, .int 0])), (q_1, .inl (cA_2, 64, .inr (.inl (fun _ => 0)))), (q_3, .inl (cA_4, 64, .inr (.inl (fun _ => 0)))), (q_5, .inl (cA_6, 8, .inr (.inl (fun _ => 0)))), (q_7, .inl (cA_8, 8, .inr (.inl (fun _ => 0)))), (q_9, .inl (cA_10, 256, .inr (.inl (fun _ => 0)))), (q_11, .inl (cA_12, 16, .inl (fun _ => 0))), (q_13, .inl (cA_14, 16, .inr (.inl (fun _ => 0)))), (q_15, .inl (cA_16, 16, .inl (fun _ => 0))), (q_17, .inl (cA_18, 16, .inl (fun _ => 0)))] H := hP
  have hD : va_D A [(h0, .inr (9, [.ref q_1, .ref q_3, .int 0, .long 0, .ref q_5, .ref q_7, .ref q_9, .ref q_11, .ref q_13, .ref q_15, .ref q_17, .int 0, .int 0])), (q_1, .inl (cA_2, 64, .inr (.inl (fun _ => 0)))), (q_3, .inl (cA_4, 64, .inr (.inl (fun _ => 0)))), (q_5, .inl (cA_6, 8, .inr (.inl (fun _ => 0)))), (q_7, .inl (cA_8, 8, .inr (.inl (fun _ => 0)))), (q_9, .inl (cA_10, 256, .inr (.inl (fun _ => 0)))), (q_11, .inl (cA_12, 16, .inl (fun _ => 0))), (q_13, .inl (cA_14, 16, .inr (.inl (fun _ => 0)))), (q_15, .inl (cA_16, 16, .inl (fun _ => 0))), (q_17, .inl (cA_18, 16, .inl (fun _ => 0)))] := hD
  refine W.widen (k := 9) (n := 464) (Nat.le_of_ble_eq_true rfl) (Nat.le_of_ble_eq_true rfl) ?_
  exact W.vret hx hb hr (fun t ht hW => ⟨⟨(), rfl, trivial, trivial⟩, hS.F ht⟩) hS.2.2 dX9_init_77

set_option maxHeartbeats 4000000 in
set_option maxRecDepth 100000 in
theorem k_Groups (l : Launch) (dC : Nat → ClassId) (dI : Nat → Nat → Nat) (h0 : Nat) (sz : Nat) : Met l yX2_init (wT yX2_init cX2_init 1 none) ({ frames := 1, cells := 3, slots := 520, locals := 12 }) (pcW dC dI [.ref h0] sz [(h0, .inr (2, [.int 0, .int 0, .null, .null, .null]))] []) (va_Qv (fun _ : Unit => True) (fun _ _ => True) (va_A [(h0, .inr (2, [.int 0, .int 0, .null, .null, .null]))] sz)) 3 520 (va_A [(h0, .inr (2, [.int 0, .int 0, .null, .null, .null]))] sz) := by
  refine Met.ofW (cc := cX2_init) (maxL := 1) (ret := none) (by decide) rfl ?_
  intro p e s m args below meth c s₁ B hml hv
  obtain ⟨rfl, hsz, hP, hK, hD0⟩ := hv
  have hx := B.exec
  have hb := B.bytes
  have hr := B.returns
  have hT : ∀ w ∈ TB, w.before [.ref h0].toArray s = true := fun w h => atoms_spec (ws := wT yX2_init cX2_init 1 none) B.pre w (List.mem_cons_of_mem _ h)
  have hown : s.vm.findClass RX2 = some m.cls := findClass_of_methodNamed B.named
  have hlocks := B.notSynchronized
  have hin : meth.name = "<init>" := (name_of_methodNamed B.named B.method).1
  subst hsz
  have hD := hD0.self (sz := s.heap.size)
  generalize hAe : va_A [(h0, .inr (2, [.int 0, .int 0, .null, .null, .null]))] s.heap.size = A at hD ⊢
  have hA : ∀ q : Nat, s.heap.size ≤ q → A q := fun q h => by rw [← hAe]; exact Or.inr h
  have hS : va_S A s.heap s.heap [] := va_S.rf
  have hP : va_P (dC, dI) vwCl [(h0, .inr (2, [.int 0, .int 0, .null, .null, .null]))] s.heap := hP
  have hl := lv_entry ([.ref h0]) (n := 1) (Nat.le_of_ble_eq_true rfl)
  rw [lg_entry_eq]
  generalize (lg_sl ([.ref h0]) ++ List.replicate (1 - (lg_sl ([.ref h0])).length) Slot.unset).toArray = ls at hl ⊢
  have hl : lv_has ls 1 [(0, .ref h0)] := hl
  refine lv_aload_n hx hb dX2_init_0 rfl (lv_at hl 0 rfl) ?_
  refine W.objInit hx hb hown (hT _ w312) (hT _ w28) (hT _ w29) rfl (by rw [hml]; exact hl.1) rfl dX2_init_1 (Nat.le_of_ble_eq_true rfl) (Nat.le_of_ble_eq_true rfl) ?_
  refine W.eq (g2 := F0 m 4 ls []) rfl ?_
  refine lv_aload_n hx hb dX2_init_4 rfl (lv_at hl 0 rfl) ?_
  refine lv_bipush (v := 8) hx hb dX2_init_5 (by decide) ?_
  refine va_newa (atype := .long) (ty := .long) (a0 := (8, .inr (.inl (fun _ => 0)))) (n := 8) (N' := 8) hx hb (hT _ w137) rfl hK hP hD hS hA (fun _ => rfl) (by decide) (by decide) (Nat.le_of_ble_eq_true rfl) (Nat.le_of_ble_eq_true rfl) (Nat.le_of_ble_eq_true rfl) dX2_init_7 (fun q_1 cA_2 H hK hP hD hS => ?_)
  have hP : va_P (dC, dI) vwCl [(h0, .inr (2, [.int 0, .int 0, .null, .null, .null])), (q_1, .inl (cA_2, 8, .inr (.inl (fun _ => 0))))] H := hP
  have hD : va_D A [(h0, .inr (2, [.int 0, .int 0, .null, .null, .null])), (q_1, .inl (cA_2, 8, .inr (.inl (fun _ => 0))))] := hD
  have hK : va_K (dC, dI) vwCl [(cA_2, .long)] s := hK
  refine W.widen (k := 1) (n := 8) (Nat.le_of_ble_eq_true rfl) (Nat.le_of_ble_eq_true rfl) ?_
  refine va_putF (D := (dC, dI)) (ci := 2) (v := .ref q_1) (ty := .array .long) (C := RX2) (T := TX2) (N := 5) hx hb hT iX2 tyX2 tyX2_ok nmX2 hown hK hP hD hS 0 rfl rfl 2 (by decide) (hT _ w317) (fun _ h9 => h9) rfl hin rfl (by decide +kernel) rfl rfl (Nat.le_of_ble_eq_true rfl) dX2_init_9 (fun H locs hP hD hS => ?_)
  have hP : va_P (dC, dI) vwCl [(h0, .inr (2, [.int 0, .int 0, .ref q_1, .null, .null])), (q_1, .inl (cA_2, 8, .inr (.inl (fun _ => 0))))] H := hP
  have hD : va_D A [(h0, .inr (2, [.int 0, .int 0, .ref q_1, .null, .null])), (q_1, .inl (cA_2, 8, .inr (.inl (fun _ => 0))))] := hD
  refine lv_aload_n hx hb dX2_init_12 rfl (lv_at hl 0 rfl) ?_
  refine lv_sipush (v := 256) hx hb dX2_init_13 (by decide) ?_
  refine va_newa (atype := .long) (ty := .long) (a0 := (256, .inr (.inl (fun _ => 0)))) (n := 256) (N' := 256) hx hb (hT _ w137) rfl hK hP hD hS hA (fun _ => rfl) (by decide) (by decide) (Nat.le_of_ble_eq_true rfl) (Nat.le_of_ble_eq_true rfl) (Nat.le_of_ble_eq_true rfl) dX2_init_16 (fun q_3 cA_4 H hK hP hD hS => ?_)
  have hP : va_P (dC, dI) vwCl [(h0, .inr (2, [.int 0, .int 0, .ref q_1, .null, .null])), (q_1, .inl (cA_2, 8, .inr (.inl (fun _ => 0)))), (q_3, .inl (cA_4, 256, .inr (.inl (fun _ => 0))))] H := hP
  have hD : va_D A [(h0, .inr (2, [.int 0, .int 0, .ref q_1, .null, .null])), (q_1, .inl (cA_2, 8, .inr (.inl (fun _ => 0)))), (q_3, .inl (cA_4, 256, .inr (.inl (fun _ => 0))))] := hD
  have hK : va_K (dC, dI) vwCl [(cA_2, .long), (cA_4, .long)] s := hK
  refine W.widen (k := 2) (n := 264) (Nat.le_of_ble_eq_true rfl) (Nat.le_of_ble_eq_true rfl) ?_
  refine va_putF (D := (dC, dI)) (ci := 2) (v := .ref q_3) (ty := .array .long) (C := RX2) (T := TX2) (N := 5) hx hb hT iX2 tyX2 tyX2_ok nmX2 hown hK hP hD hS 0 rfl rfl 3 (by decide) (hT _ w318) (fun _ h9 => h9) rfl hin rfl (by decide +kernel) rfl rfl (Nat.le_of_ble_eq_true rfl) dX2_init_18 (fun H locs hP hD hS => ?_)
  have hP : va_P (dC, dI) vwCl [(h0, .inr (2, [.int 0, .int 0, .ref q_1, .ref q_3, .null])), (q_1, .inl (cA_2, 8, .inr (.inl (fun _ => 0)))), (q_3, .inl (cA_4, 256, .inr (.inl (fun _ => 0))))] H := hP
  have hD : va_D A [(h0, .inr (2, [.int 0, .int 0, .ref q_1, .ref q_3, .null])), (q_1, .inl (cA_2, 8, .inr (.inl (fun _ => 0)))), (q_3, .inl (cA_4, 256, .inr (.inl (fun _ => 0))))] := hD
  refine lv_aload_n hx hb dX2_init_21 rfl (lv_at hl 0 rfl) ?_
  refine lv_sipush (v := 256) hx hb dX2_init_22 (by decide) ?_
  refine va_newa (atype := .int) (ty := .int) (a0 := (256, .inl (fun _ => 0))) (n := 256) (N' := 256) hx hb (hT _ w77) rfl hK hP hD hS hA (fun _ => rfl) (by decide) (by decide) (Nat.le_of_ble_eq_true rfl) (Nat.le_of_ble_eq_true rfl) (Nat.le_of_ble_eq_true rfl) dX2_init_25 (fun q_5 cA_6 H hK hP hD hS => ?_)
  have hP : va_P (dC, dI) vwCl [(h0, .inr (2, [.int 0, .int 0, .ref q_1, .ref q_3, .null])), (q_1, .inl (cA_2, 8, .inr (.inl (fun _ => 0)))), (q_3, .inl (cA_4, 256, .inr (.inl (fun _ => 0)))), (q_5, .inl (cA_6, 256, .inl (fun _ => 0)))] H := hP
  have hD : va_D A [(h0, .inr (2, [.int 0, .int 0, .ref q_1, .ref q_3, .null])), (q_1, .inl (cA_2, 8, .inr (.inl (fun _ => 0)))), (q_3, .inl (cA_4, 256, .inr (.inl (fun _ => 0)))), (q_5, .inl (cA_6, 256, .inl (fun _ => 0)))] := hD
  have hK : va_K (dC, dI) vwCl [(cA_2, .long), (cA_4, .long), (cA_6, .int)] s := hK
  refine W.widen (k := 3) (n := 520) (Nat.le_of_ble_eq_true rfl) (Nat.le_of_ble_eq_true rfl) ?_
  refine va_putF (D := (dC, dI)) (ci := 2) (v := .ref q_5) (ty := .array .int) (C := RX2) (T := TX2) (N := 5) hx hb hT iX2 tyX2 tyX2_ok nmX2 hown hK hP hD hS 0 rfl rfl 4 (by decide) (hT _ w319) (fun _ h9 => h9) rfl hin rfl (by decide +kernel) rfl rfl (Nat.le_of_ble_eq_true rfl) dX2_init_27 (fun H locs hP hD hS => ?_)
  have hP : va_P (dC, dI) vwCl [(h0, .inr (2, [.int 0, .int 0, .ref q_1, .ref q_3, .ref q_5])), (q_1, .inl (cA_2, 8, .inr (.inl (fun _ => 0)))), (q_3, .inl (cA_4, 256, .inr (.inl (fun _ => 0)))), (q_5, .inl (cA_6, 256, .inl (fun _ => 0)))] H := hP
  have hD : va_D A [(h0, .inr (2, [.int 0, .int 0, .ref q_1, .ref q_3, .ref q_5])), (q_1, .inl (cA_2, 8, .inr (.inl (fun _ => 0)))), (q_3, .inl (cA_4, 256, .inr (.inl (fun _ => 0)))), (q_5, .inl (cA_6, 256, .inl (fun _ => 0)))] := hD
  refine W.widen (k := 3) (n := 520) (Nat.le_of_ble_eq_true rfl) (Nat.le_of_ble_eq_true rfl) ?_
  exact W.vret hx hb hr (fun t ht hW => ⟨⟨(), rfl, trivial, trivial⟩, hS.F ht⟩) hS.2.2 dX2_init_30

set_option maxHeartbeats 4000000 in
set_option maxRecDepth 100000 in
theorem k_Page (l : Launch) (dC : Nat → ClassId) (dI : Nat → Nat → Nat) (h0 : Nat) (sz : Nat) : Met l yX4_init (wT yX4_init cX4_init 1 none) ({ frames := 1, cells := 2, slots := 83, locals := 12 }) (pcW dC dI [.ref h0] sz [(h0, .inr (4, [.null, .int 0, .null]))] []) (va_Qv (fun _ : Unit => True) (fun _ _ => True) (va_A [(h0, .inr (4, [.null, .int 0, .null]))] sz)) 2 83 (va_A [(h0, .inr (4, [.null, .int 0, .null]))] sz) := by
  refine Met.ofW (cc := cX4_init) (maxL := 1) (ret := none) (by decide) rfl ?_
  intro p e s m args below meth c s₁ B hml hv
  obtain ⟨rfl, hsz, hP, hK, hD0⟩ := hv
  have hx := B.exec
  have hb := B.bytes
  have hr := B.returns
  have hT : ∀ w ∈ TB, w.before [.ref h0].toArray s = true := fun w h => atoms_spec (ws := wT yX4_init cX4_init 1 none) B.pre w (List.mem_cons_of_mem _ h)
  have hown : s.vm.findClass RX4 = some m.cls := findClass_of_methodNamed B.named
  have hlocks := B.notSynchronized
  have hin : meth.name = "<init>" := (name_of_methodNamed B.named B.method).1
  subst hsz
  have hD := hD0.self (sz := s.heap.size)
  generalize hAe : va_A [(h0, .inr (4, [.null, .int 0, .null]))] s.heap.size = A at hD ⊢
  have hA : ∀ q : Nat, s.heap.size ≤ q → A q := fun q h => by rw [← hAe]; exact Or.inr h
  have hS : va_S A s.heap s.heap [] := va_S.rf
  have hP : va_P (dC, dI) vwCl [(h0, .inr (4, [.null, .int 0, .null]))] s.heap := hP
  have hl := lv_entry ([.ref h0]) (n := 1) (Nat.le_of_ble_eq_true rfl)
  rw [lg_entry_eq]
  generalize (lg_sl ([.ref h0]) ++ List.replicate (1 - (lg_sl ([.ref h0])).length) Slot.unset).toArray = ls at hl ⊢
  have hl : lv_has ls 1 [(0, .ref h0)] := hl
  refine lv_aload_n hx hb dX4_init_0 rfl (lv_at hl 0 rfl) ?_
  refine W.objInit hx hb hown (hT _ w336) (hT _ w28) (hT _ w29) rfl (by rw [hml]; exact hl.1) rfl dX4_init_1 (Nat.le_of_ble_eq_true rfl) (Nat.le_of_ble_eq_true rfl) ?_
  refine W.eq (g2 := F0 m 4 ls []) rfl ?_
  refine lv_aload_n hx hb dX4_init_4 rfl (lv_at hl 0 rfl) ?_
  refine lv_bipush (v := 64) hx hb dX4_init_5 (by decide) ?_
  refine va_newa (atype := .byte) (ty := .byte) (a0 := (64, .inl (fun _ => 0))) (n := 64) (N' := 64) hx hb (hT _ w45) rfl hK hP hD hS hA (fun _ => rfl) (by decide) (by decide) (Nat.le_of_ble_eq_true rfl) (Nat.le_of_ble_eq_true rfl) (Nat.le_of_ble_eq_true rfl) dX4_init_7 (fun q_1 cA_2 H hK hP hD hS => ?_)
  have hP : va_P (dC, dI) vwCl [(h0, .inr (4, [.null, .int 0, .null])), (q_1, .inl (cA_2, 64, .inl (fun _ => 0)))] H := hP
  have hD : va_D A [(h0, .inr (4, [.null, .int 0, .null])), (q_1, .inl (cA_2, 64, .inl (fun _ => 0)))] := hD
  have hK : va_K (dC, dI) vwCl [(cA_2, .byte)] s := hK
  refine W.widen (k := 1) (n := 64) (Nat.le_of_ble_eq_true rfl) (Nat.le_of_ble_eq_true rfl) ?_
  refine va_putF (D := (dC, dI)) (ci := 4) (v := .ref q_1) (ty := .array .byte) (C := RX4) (T := TX4) (N := 3) hx hb hT iX4 tyX4 tyX4_ok nmX4 hown hK hP hD hS 0 rfl rfl 0 (by decide) (hT _ w337) (fun _ h9 => h9) rfl hin rfl (by decide +kernel) rfl rfl (Nat.le_of_ble_eq_true rfl) dX4_init_9 (fun H locs hP hD hS => ?_)
  have hP : va_P (dC, dI) vwCl [(h0, .inr (4, [.ref q_1, .int 0, .null])), (q_1, .inl (cA_2, 64, .inl (fun _ => 0)))] H := hP
  have hD : va_D A [(h0, .inr (4, [.ref q_1, .int 0, .null])), (q_1, .inl (cA_2, 64, .inl (fun _ => 0)))] := hD
  refine lv_aload_n hx hb dX4_init_12 rfl (lv_at hl 0 rfl) ?_
  refine lv_bipush (v := 19) hx hb dX4_init_13 (by decide) ?_
  refine va_newa (atype := .byte) (ty := .byte) (a0 := (19, .inl (fun _ => 0))) (n := 19) (N' := 19) hx hb (hT _ w45) rfl hK hP hD hS hA (fun _ => rfl) (by decide) (by decide) (Nat.le_of_ble_eq_true rfl) (Nat.le_of_ble_eq_true rfl) (Nat.le_of_ble_eq_true rfl) dX4_init_15 (fun q_3 cA_4 H hK hP hD hS => ?_)
  have hP : va_P (dC, dI) vwCl [(h0, .inr (4, [.ref q_1, .int 0, .null])), (q_1, .inl (cA_2, 64, .inl (fun _ => 0))), (q_3, .inl (cA_4, 19, .inl (fun _ => 0)))] H := hP
  have hD : va_D A [(h0, .inr (4, [.ref q_1, .int 0, .null])), (q_1, .inl (cA_2, 64, .inl (fun _ => 0))), (q_3, .inl (cA_4, 19, .inl (fun _ => 0)))] := hD
  have hK : va_K (dC, dI) vwCl [(cA_2, .byte), (cA_4, .byte)] s := hK
  refine W.widen (k := 2) (n := 83) (Nat.le_of_ble_eq_true rfl) (Nat.le_of_ble_eq_true rfl) ?_
  refine va_putF (D := (dC, dI)) (ci := 4) (v := .ref q_3) (ty := .array .byte) (C := RX4) (T := TX4) (N := 3) hx hb hT iX4 tyX4 tyX4_ok nmX4 hown hK hP hD hS 0 rfl rfl 2 (by decide) (hT _ w341) (fun _ h9 => h9) rfl hin rfl (by decide +kernel) rfl rfl (Nat.le_of_ble_eq_true rfl) dX4_init_17 (fun H locs hP hD hS => ?_)
  have hP : va_P (dC, dI) vwCl [(h0, .inr (4, [.ref q_1, .int 0, .ref q_3])), (q_1, .inl (cA_2, 64, .inl (fun _ => 0))), (q_3, .inl (cA_4, 19, .inl (fun _ => 0)))] H := hP
  have hD : va_D A [(h0, .inr (4, [.ref q_1, .int 0, .ref q_3])), (q_1, .inl (cA_2, 64, .inl (fun _ => 0))), (q_3, .inl (cA_4, 19, .inl (fun _ => 0)))] := hD
  refine W.widen (k := 2) (n := 83) (Nat.le_of_ble_eq_true rfl) (Nat.le_of_ble_eq_true rfl) ?_
  exact W.vret hx hb hr (fun t ht hW => ⟨⟨(), rfl, trivial, trivial⟩, hS.F ht⟩) hS.2.2 dX4_init_20
end
